set_option maxHeartbeats 1000000 in
set_option maxRecDepth 100000 in
theorem c_X7_of (l : Launch) (D : va_G) (q : xQ) (x0 : Nat) (xt : Nat) (xa : Nat) (xh : Nat) (xs : Nat) (xf : Nat) (xp : Nat) (xd : Nat) (xr : Nat) (w1 : Nat) (y0 : Nat) (h0 : Nat) (h1 : Nat) (h2 : Nat) (h3 : Nat) (h4 : Nat) (h5 : Nat) (r0 : Nat → Int32) (f1 : Nat → Int32) (f2 : Nat → Int32) (f3 : Nat → Int32) (f4 : Nat → Int32) (f5 : Nat → Int32) (fc : Int32) (n : Nat) (T : Nat → Int32) (pr : Nat → Nat) (st : Int32) (wh : Int32) (hok : x_ok T n pr) (hsr : xSR T n f1 f2 f3 f4 f5) (hqr : ∀ i, i < 4 → r0 i = T i) (hfc : fc = T 4) : xMi l yX7_of wsX7_of { frames := 3, cells := 0, slots := 0, locals := 65 } D q [.ref x0, .int st, .int wh] [xoW q x0 xt xa xh xs xf xp xd xr, twW q xt w1 h0 y0 r0 fc, sW q h0 h1 h2 h3 h4 h5 f1 f2 f3 f4 f5 (nI n)] (fun r gw => gw = [xoW q x0 xt xa xh xs xf xp xd xr, twW q xt w1 h0 y0 r0 fc, sW q h0 h1 h2 h3 h4 h5 f1 f2 f3 f4 f5 (nI n)] ∧ r = x_st n st (x_ofk T n pr wh)) := by
  refine xMi_of (cc := cX7_of) (maxL := 4) (rt := .int) (by decide) rfl (Nat.le_of_ble_eq_true rfl) (fun _ _ _ => rfl) ?_
  intro p9 e9 s9 m9 a9 below meth c9 A9 Z9 ls H locs F X hl hret
  have hx := F.1.1
  have hb := F.1.2.1
  have in_X7 : ∀ w ∈ wsX70, w ∈ wsX7_of := by decide +kernel
  have in_X6 : ∀ w ∈ wsX60, w ∈ wsX7_of := by decide +kernel
  have in_X5 : ∀ w ∈ wsX50, w ∈ wsX7_of := by decide +kernel
  have mw_0 : Cond.fieldLink RX7 10 "HatWinds" "town" "LHatWinds$Town;" ∈ wsX7_of := by decide +kernel
  have mw_1 : Cond.fieldLink RX7 84 "HatWinds$Town" "streets" "LHatWinds$Streets;" ∈ wsX7_of := by decide +kernel
  have mw_2 : Cond.initialized RX5 ∈ wsX7_of := by decide +kernel
  have mw_3 : Cond.fieldLink RX7 165 "HatWinds$Streets" "from" "[I" ∈ wsX7_of := by decide +kernel
  have mw_4 : Cond.fieldLink RX7 168 "HatWinds$Streets" "width" "[I" ∈ wsX7_of := by decide +kernel
  have mw_5 : Cond.fieldLink RX7 171 "HatWinds$Streets" "cloth" "[I" ∈ wsX7_of := by decide +kernel
  have mw_6 : Cond.fieldLink RX7 174 "HatWinds$Streets" "smoke" "[I" ∈ wsX7_of := by decide +kernel
  have mw_7 : Cond.fieldLink RX7 177 "HatWinds$Streets" "people" "[I" ∈ wsX7_of := by decide +kernel
  have hl : lv_has ls 4 [(0, .ref x0), (1, .int st), (2, .int wh)] := hl
  have hok0 := hok
  obtain ⟨hn, hn1, hs5, hs33, hpt, hwd, hcl, hsm, hpe, hst, hle, hhr, hcn⟩ := hok0
  have hpr := hsr.prs hok
  have h60 := hsr.1
  refine lv_aload_n hx hb dX7_of_0 rfl (lv_at hl 0 rfl) ?_
  refine x_get F X (v := .ref xt) (C := RX7) (T := TX7) (N := 8) (ci := 7) in_X7 0 rfl rfl 0 (by decide) mw_0 rfl dX7_of_1 ?_
  refine x_get F X (v := .ref h0) (C := RX6) (T := TX6) (N := 4) (ci := 6) in_X6 1 rfl rfl 1 (by decide) mw_1 rfl dX7_of_4 ?_
  refine lv_astore_n (lv' := [(3, .ref h0), (0, .ref x0), (1, .int st), (2, .int wh)]) hx hb dX7_of_7 rfl hl (by decide) rfl (fun ls hl => ?_)
  refine lv_aload_n hx hb dX7_of_8 rfl (lv_at hl 0 rfl) ?_
  refine lv_iload_n hx hb dX7_of_9 rfl (lv_at hl 2 rfl) ?_
  refine x_cVi F X (gc := [sW q h0 h1 h2 h3 h4 h5 f1 f2 f3 f4 f5 (nI n)]) (gr := [xoW q x0 xt xa xh xs xf xp xd xr, twW q xt w1 h0 y0 r0 fc]) (xp_idx (n := 3) [2, 0, 1] (by decide +kernel) rfl rfl) (c_X5_has l D q h0 h1 h2 h3 h4 h5 n f1 f2 f3 f4 f5 st (by first | assumption | omega)) (cwV 1 F.1.2.2.2.2 gX7_of_X5_has rfl rfl rfl (by decide +kernel) ⟨Nat.le_of_ble_eq_true rfl, Nat.le_of_ble_eq_true rfl⟩) rfl rfl (r0 := 0) (ci := 5) (T := TX5) (N := 6) rfl rfl hl.1 ⟨Nat.le_of_ble_eq_true rfl, Nat.le_of_ble_eq_true rfl⟩ (Nat.le_of_ble_eq_true rfl) dX7_of_10 (fun r_10 g1 H locs hp X => ?_)
  obtain ⟨rfl, hz⟩ := hp
  have X := X.perm (gs' := [xoW q x0 xt xa xh xs xf xp xd xr, twW q xt w1 h0 y0 r0 fc, sW q h0 h1 h2 h3 h4 h5 f1 f2 f3 f4 f5 (nI n)]) (xp_idx (n := 3) [1, 2, 0] (by decide +kernel) rfl rfl)
  rcases hz with ⟨rfl, b_10⟩ | ⟨rfl, b_10⟩
  · refine lv_if_ne (tgt := 18) hx hb dX7_of_13 (by decide) (fun _ => ?_) (fun h => absurd h (by decide))
    obtain ⟨k, hk, ek⟩ := b_10
    refine lv_iload_n hx hb dX7_of_18 rfl (lv_at hl 3 rfl) ?_
    rcases x_sw wh 0 7 (by decide) with c_19 | c_19
    · refine lv_tableOut (tgt := 117) hx hb dX7_of_19 c_19 (by decide) ?_
      refine lv_bipush (v := (-2)) hx hb dX7_of_117 (by decide) ?_
      exact hret _ _ _ _ _ _ (by exact ⟨rfl, by rw [ek, x_st_in (by omega) hk, x_ofk_d c_19]⟩) X dX7_of_119
    · obtain ⟨j_1, hj1, hj2, e_19⟩ := c_19
      subst e_19
      rcases (show j_1 = 0 ∨ j_1 = 1 ∨ j_1 = 2 ∨ j_1 = 3 ∨ j_1 = 4 ∨ j_1 = 5 ∨ j_1 = 6 ∨ j_1 = 7 by omega) with rfl | rfl | rfl | rfl | rfl | rfl | rfl | rfl
      · refine lv_tableIn (off := 45) (tgt := 64) hx hb dX7_of_19 (by decide) (by decide) (by decide) (by decide) ?_
        refine lv_aload_n hx hb dX7_of_64 rfl (lv_at hl 0 rfl) ?_
        refine x_get F X (v := .ref h1) (C := RX5) (T := TX5) (N := 6) (ci := 5) in_X5 3 rfl rfl 0 (by decide) mw_3 rfl dX7_of_65 ?_
        refine lv_iload_n hx hb dX7_of_68 rfl (lv_at hl 2 rfl) ?_
        refine x_i (y := (nI k)) (ek) ?_
        refine x_iald F X (v := (f1 k)) (n := 20) (f := f1) 4 rfl (vp_in_nI (by omega) (by omega)) (x_cl (by omega)) dX7_of_69 ?_
        exact hret _ _ _ _ _ _ (by exact ⟨rfl, by rw [ek, x_st_in (by omega) hk]; exact hsr.np hok hk⟩) X dX7_of_70
      · refine lv_tableIn (off := 52) (tgt := 71) hx hb dX7_of_19 (by decide) (by decide) (by decide) (by decide) ?_
        refine lv_aload_n hx hb dX7_of_71 rfl (lv_at hl 0 rfl) ?_
        refine x_get F X (v := .ref h2) (C := RX5) (T := TX5) (N := 6) (ci := 5) in_X5 3 rfl rfl 1 (by decide) mw_4 rfl dX7_of_72 ?_
        refine lv_iload_n hx hb dX7_of_75 rfl (lv_at hl 2 rfl) ?_
        refine x_i (y := (nI k)) (ek) ?_
        refine x_iald F X (v := (f2 k)) (n := 20) (f := f2) 5 rfl (vp_in_nI (by omega) (by omega)) (x_cl (by omega)) dX7_of_76 ?_
        exact hret _ _ _ _ _ _ (by exact ⟨rfl, by rw [ek, x_st_in (by omega) hk]; exact (hsr.2.2 k hk).1⟩) X dX7_of_77
      · refine lv_tableIn (off := 59) (tgt := 78) hx hb dX7_of_19 (by decide) (by decide) (by decide) (by decide) ?_
        refine lv_aload_n hx hb dX7_of_78 rfl (lv_at hl 0 rfl) ?_
        refine x_get F X (v := .ref h3) (C := RX5) (T := TX5) (N := 6) (ci := 5) in_X5 3 rfl rfl 2 (by decide) mw_5 rfl dX7_of_79 ?_
        refine lv_iload_n hx hb dX7_of_82 rfl (lv_at hl 2 rfl) ?_
        refine x_i (y := (nI k)) (ek) ?_
        refine x_iald F X (v := (f3 k)) (n := 20) (f := f3) 6 rfl (vp_in_nI (by omega) (by omega)) (x_cl (by omega)) dX7_of_83 ?_
        exact hret _ _ _ _ _ _ (by exact ⟨rfl, by rw [ek, x_st_in (by omega) hk]; exact (hsr.2.2 k hk).2.1⟩) X dX7_of_84
      · refine lv_tableIn (off := 66) (tgt := 85) hx hb dX7_of_19 (by decide) (by decide) (by decide) (by decide) ?_
        refine lv_aload_n hx hb dX7_of_85 rfl (lv_at hl 0 rfl) ?_
        refine x_get F X (v := .ref h4) (C := RX5) (T := TX5) (N := 6) (ci := 5) in_X5 3 rfl rfl 3 (by decide) mw_6 rfl dX7_of_86 ?_
        refine lv_iload_n hx hb dX7_of_89 rfl (lv_at hl 2 rfl) ?_
        refine x_i (y := (nI k)) (ek) ?_
        refine x_iald F X (v := (f4 k)) (n := 20) (f := f4) 7 rfl (vp_in_nI (by omega) (by omega)) (x_cl (by omega)) dX7_of_90 ?_
        exact hret _ _ _ _ _ _ (by exact ⟨rfl, by rw [ek, x_st_in (by omega) hk]; exact (hsr.2.2 k hk).2.2.1⟩) X dX7_of_91
      · refine lv_tableIn (off := 73) (tgt := 92) hx hb dX7_of_19 (by decide) (by decide) (by decide) (by decide) ?_
        refine lv_aload_n hx hb dX7_of_92 rfl (lv_at hl 0 rfl) ?_
        refine x_get F X (v := .ref h5) (C := RX5) (T := TX5) (N := 6) (ci := 5) in_X5 3 rfl rfl 4 (by decide) mw_7 rfl dX7_of_93 ?_
        refine lv_iload_n hx hb dX7_of_96 rfl (lv_at hl 2 rfl) ?_
        refine x_i (y := (nI k)) (ek) ?_
        refine x_iald F X (v := (f5 k)) (n := 20) (f := f5) 8 rfl (vp_in_nI (by omega) (by omega)) (x_cl (by omega)) dX7_of_97 ?_
        exact hret _ _ _ _ _ _ (by exact ⟨rfl, by rw [ek, x_st_in (by omega) hk]; exact (hsr.2.2 k hk).2.2.2⟩) X dX7_of_98
      · refine lv_tableIn (off := 80) (tgt := 99) hx hb dX7_of_19 (by decide) (by decide) (by decide) (by decide) ?_
        refine lv_aload_n hx hb dX7_of_99 rfl (lv_at hl 0 rfl) ?_
        refine lv_iload_n hx hb dX7_of_100 rfl (lv_at hl 2 rfl) ?_
        refine x_i (y := (nI k)) (ek) ?_
        refine x_cVi F X (gc := [sW q h0 h1 h2 h3 h4 h5 f1 f2 f3 f4 f5 (nI n)]) (gr := [xoW q x0 xt xa xh xs xf xp xd xr, twW q xt w1 h0 y0 r0 fc]) (xp_idx (n := 3) [2, 0, 1] (by decide +kernel) rfl rfl) (c_X5_branchesOff l D q h0 h1 h2 h3 h4 h5 n f1 f2 f3 f4 f5 (nI k) (by first | assumption | omega)) (cwV 1 F.1.2.2.2.2 gX7_of_X5_branchesOff rfl rfl rfl (by decide +kernel) ⟨Nat.le_of_ble_eq_true rfl, Nat.le_of_ble_eq_true rfl⟩) rfl rfl (r0 := 0) (ci := 5) (T := TX5) (N := 6) rfl rfl hl.1 ⟨Nat.le_of_ble_eq_true rfl, Nat.le_of_ble_eq_true rfl⟩ (Nat.le_of_ble_eq_true rfl) dX7_of_101 (fun r_101 g1 H locs hp X => ?_)
        obtain ⟨rfl, rfl⟩ := hp
        have X := X.perm (gs' := [xoW q x0 xt xa xh xs xf xp xd xr, twW q xt w1 h0 y0 r0 fc, sW q h0 h1 h2 h3 h4 h5 f1 f2 f3 f4 f5 (nI n)]) (xp_idx (n := 3) [1, 2, 0] (by decide +kernel) rfl rfl)
        exact hret _ _ _ _ _ _ (by exact ⟨rfl, by rw [ek, x_st_in (by omega) hk]; exact hsr.bs hok hk⟩) X dX7_of_104
      · refine lv_tableIn (off := 86) (tgt := 105) hx hb dX7_of_19 (by decide) (by decide) (by decide) (by decide) ?_
        refine lv_aload_n hx hb dX7_of_105 rfl (lv_at hl 0 rfl) ?_
        refine lv_iload_n hx hb dX7_of_106 rfl (lv_at hl 2 rfl) ?_
        refine x_i (y := (nI k)) (ek) ?_
        refine x_cVi F X (gc := [sW q h0 h1 h2 h3 h4 h5 f1 f2 f3 f4 f5 (nI n)]) (gr := [xoW q x0 xt xa xh xs xf xp xd xr, twW q xt w1 h0 y0 r0 fc]) (xp_idx (n := 3) [2, 0, 1] (by decide +kernel) rfl rfl) (c_X5_howManyBehind l D q h0 h1 h2 h3 h4 h5 n f1 f2 f3 f4 f5 k pr (by first | assumption | omega) (by first | assumption | omega) (by first | assumption | omega)) (cwV 1 F.1.2.2.2.2 gX7_of_X5_howManyBehind rfl rfl rfl (by decide +kernel) ⟨Nat.le_of_ble_eq_true rfl, Nat.le_of_ble_eq_true rfl⟩) rfl rfl (r0 := 0) (ci := 5) (T := TX5) (N := 6) rfl rfl hl.1 ⟨Nat.le_of_ble_eq_true rfl, Nat.le_of_ble_eq_true rfl⟩ (Nat.le_of_ble_eq_true rfl) dX7_of_107 (fun r_107 g1 H locs hp X => ?_)
        obtain ⟨rfl, rfl⟩ := hp
        have X := X.perm (gs' := [xoW q x0 xt xa xh xs xf xp xd xr, twW q xt w1 h0 y0 r0 fc, sW q h0 h1 h2 h3 h4 h5 f1 f2 f3 f4 f5 (nI n)]) (xp_idx (n := 3) [1, 2, 0] (by decide +kernel) rfl rfl)
        exact hret _ _ _ _ _ _ (by exact ⟨rfl, by rw [ek, x_st_in (by omega) hk]; exact x_bc_bh pr k _ (by omega)⟩) X dX7_of_110
      · refine lv_tableIn (off := 92) (tgt := 111) hx hb dX7_of_19 (by decide) (by decide) (by decide) (by decide) ?_
        refine lv_aload_n hx hb dX7_of_111 rfl (lv_at hl 0 rfl) ?_
        refine lv_iload_n hx hb dX7_of_112 rfl (lv_at hl 2 rfl) ?_
        refine x_i (y := (nI k)) (ek) ?_
        refine x_cVi F X (gc := [sW q h0 h1 h2 h3 h4 h5 f1 f2 f3 f4 f5 (nI n)]) (gr := [xoW q x0 xt xa xh xs xf xp xd xr, twW q xt w1 h0 y0 r0 fc]) (xp_idx (n := 3) [2, 0, 1] (by decide +kernel) rfl rfl) (c_X5_howFarOff l D q h0 h1 h2 h3 h4 h5 n f1 f2 f3 f4 f5 k pr (by first | assumption | omega) (by first | assumption | omega) (by first | assumption | omega) (by first | assumption | omega)) (cwV 1 F.1.2.2.2.2 gX7_of_X5_howFarOff rfl rfl rfl (by decide +kernel) ⟨Nat.le_of_ble_eq_true rfl, Nat.le_of_ble_eq_true rfl⟩) rfl rfl (r0 := 0) (ci := 5) (T := TX5) (N := 6) rfl rfl hl.1 ⟨Nat.le_of_ble_eq_true rfl, Nat.le_of_ble_eq_true rfl⟩ (Nat.le_of_ble_eq_true rfl) dX7_of_113 (fun r_113 g1 H locs hp X => ?_)
        obtain ⟨rfl, rfl⟩ := hp
        have X := X.perm (gs' := [xoW q x0 xt xa xh xs xf xp xd xr, twW q xt w1 h0 y0 r0 fc, sW q h0 h1 h2 h3 h4 h5 f1 f2 f3 f4 f5 (nI n)]) (xp_idx (n := 3) [1, 2, 0] (by decide +kernel) rfl rfl)
        exact hret _ _ _ _ _ _ (by exact ⟨rfl, by rw [ek, x_st_in (by omega) hk]; rfl⟩) X dX7_of_116
  · refine lv_if_ne (tgt := 18) hx hb dX7_of_13 (by decide) (fun h => absurd (by decide) h) (fun _ => ?_)
    refine lv_iconst (v := (-1)) hx hb dX7_of_16 (by decide) ?_
    exact hret _ _ _ _ _ _ (by exact ⟨rfl, (x_st_out (by omega) b_10 _).symm⟩) X dX7_of_17

set_option maxHeartbeats 1000000 in
set_option maxRecDepth 100000 in
theorem c_X7_now (l : Launch) (D : va_G) (q : xQ) (x0 : Nat) (xt : Nat) (xa : Nat) (xh : Nat) (xs : Nat) (xf : Nat) (xp : Nat) (xd : Nat) (xr : Nat) (w1 : Nat) (y0 : Nat) (h0 : Nat) (h1 : Nat) (h2 : Nat) (h3 : Nat) (h4 : Nat) (h5 : Nat) (r0 : Nat → Int32) (f1 : Nat → Int32) (f2 : Nat → Int32) (f3 : Nat → Int32) (f4 : Nat → Int32) (f5 : Nat → Int32) (fc : Int32) (n : Nat) (T : Nat → Int32) (pr : Nat → Nat) (a1 : Nat) (a2 : Nat) (a3 : Nat) (t1 : Nat → Int32) (t2 : Nat → Int32) (t3 : Nat → Int32) (st : Int32) (wh : Int32) (hok : x_ok T n pr) (hsr : xSR T n f1 f2 f3 f4 f5) (hqr : ∀ i, i < 4 → r0 i = T i) (hfc : fc = T 4) : xMi l yX7_now wsX7_now { frames := 4, cells := 0, slots := 0, locals := 90 } D q [.ref x0, .int st, .int wh] [xoW q x0 xt xa xh xs xf xp xd xr, twW q xt w1 h0 y0 r0 fc, sW q h0 h1 h2 h3 h4 h5 f1 f2 f3 f4 f5 (nI n), aW q xa a1 a2 a3 t1 t2 t3] (fun r gw => ∃ (u1 : Nat → Int32), ∃ (u2 : Nat → Int32), ∃ (u3 : Nat → Int32), gw = [xoW q x0 xt xa xh xs xf xp xd xr, twW q xt w1 h0 y0 r0 fc, sW q h0 h1 h2 h3 h4 h5 f1 f2 f3 f4 f5 (nI n), aW q xa a1 a2 a3 u1 u2 u3] ∧ r = x_st n st (x_nowk T (x_FT T pr n (-6) (T 4)) wh)) := by
  refine xMi_of (cc := cX7_now) (maxL := 3) (rt := .int) (by decide) rfl (Nat.le_of_ble_eq_true rfl) (fun _ _ _ => rfl) ?_
  intro p9 e9 s9 m9 a9 below meth c9 A9 Z9 ls H locs F X hl hret
  have hx := F.1.1
  have hb := F.1.2.1
  have in_X7 : ∀ w ∈ wsX70, w ∈ wsX7_now := by decide +kernel
  have in_X6 : ∀ w ∈ wsX60, w ∈ wsX7_now := by decide +kernel
  have in_X0 : ∀ w ∈ wsX00, w ∈ wsX7_now := by decide +kernel
  have mw_0 : Cond.fieldLink RX7 10 "HatWinds" "town" "LHatWinds$Town;" ∈ wsX7_now := by decide +kernel
  have mw_1 : Cond.fieldLink RX7 84 "HatWinds$Town" "streets" "LHatWinds$Streets;" ∈ wsX7_now := by decide +kernel
  have mw_2 : Cond.initialized RX5 ∈ wsX7_now := by decide +kernel
  have mw_3 : Cond.fieldLink RX7 19 "HatWinds" "air" "LHatWinds$Air;" ∈ wsX7_now := by decide +kernel
  have mw_4 : Cond.initialized RX0 ∈ wsX7_now := by decide +kernel
  have mw_5 : Cond.fieldLink RX7 190 "HatWinds$Air" "force" "[I" ∈ wsX7_now := by decide +kernel
  have hl : lv_has ls 3 [(0, .ref x0), (1, .int st), (2, .int wh)] := hl
  have hok0 := hok
  obtain ⟨hn, hn1, hs5, hs33, hpt, hwd, hcl, hsm, hpe, hst, hle, hhr, hcn⟩ := hok0
  have hpr := hsr.prs hok
  have h60 := hsr.1
  refine lv_aload_n hx hb dX7_now_0 rfl (lv_at hl 0 rfl) ?_
  refine x_get F X (v := .ref xt) (C := RX7) (T := TX7) (N := 8) (ci := 7) in_X7 0 rfl rfl 0 (by decide) mw_0 rfl dX7_now_1 ?_
  refine x_get F X (v := .ref h0) (C := RX6) (T := TX6) (N := 4) (ci := 6) in_X6 1 rfl rfl 1 (by decide) mw_1 rfl dX7_now_4 ?_
  refine lv_iload_n hx hb dX7_now_7 rfl (lv_at hl 1 rfl) ?_
  refine x_cVi F X (gc := [sW q h0 h1 h2 h3 h4 h5 f1 f2 f3 f4 f5 (nI n)]) (gr := [xoW q x0 xt xa xh xs xf xp xd xr, twW q xt w1 h0 y0 r0 fc, aW q xa a1 a2 a3 t1 t2 t3]) (xp_idx (n := 4) [2, 0, 1, 3] (by decide +kernel) rfl rfl) (c_X5_has l D q h0 h1 h2 h3 h4 h5 n f1 f2 f3 f4 f5 st (by first | assumption | omega)) (cwV 1 F.1.2.2.2.2 gX7_now_X5_has rfl rfl rfl (by decide +kernel) ⟨Nat.le_of_ble_eq_true rfl, Nat.le_of_ble_eq_true rfl⟩) rfl rfl (r0 := 0) (ci := 5) (T := TX5) (N := 6) rfl rfl hl.1 ⟨Nat.le_of_ble_eq_true rfl, Nat.le_of_ble_eq_true rfl⟩ (Nat.le_of_ble_eq_true rfl) dX7_now_8 (fun r_8 g1 H locs hp X => ?_)
  obtain ⟨rfl, hz⟩ := hp
  have X := X.perm (gs' := [xoW q x0 xt xa xh xs xf xp xd xr, twW q xt w1 h0 y0 r0 fc, sW q h0 h1 h2 h3 h4 h5 f1 f2 f3 f4 f5 (nI n), aW q xa a1 a2 a3 t1 t2 t3]) (xp_idx (n := 4) [1, 2, 0, 3] (by decide +kernel) rfl rfl)
  rcases hz with ⟨rfl, b_8⟩ | ⟨rfl, b_8⟩
  · refine lv_if_ne (tgt := 16) hx hb dX7_now_11 (by decide) (fun _ => ?_) (fun h => absurd h (by decide))
    obtain ⟨k, hk, ek⟩ := b_8
    refine lv_aload_n hx hb dX7_now_16 rfl (lv_at hl 0 rfl) ?_
    refine x_get F X (v := .ref xa) (C := RX7) (T := TX7) (N := 8) (ci := 7) in_X7 0 rfl rfl 1 (by decide) mw_3 rfl dX7_now_17 ?_
    refine lv_aload_n hx hb dX7_now_20 rfl (lv_at hl 0 rfl) ?_
    refine x_get F X (v := .ref xt) (C := RX7) (T := TX7) (N := 8) (ci := 7) in_X7 0 rfl rfl 0 (by decide) mw_0 rfl dX7_now_21 ?_
    refine x_cVv F X (gc := [aW q xa a1 a2 a3 t1 t2 t3, twW q xt w1 h0 y0 r0 fc, sW q h0 h1 h2 h3 h4 h5 f1 f2 f3 f4 f5 (nI n)]) (gr := [xoW q x0 xt xa xh xs xf xp xd xr]) (xp_idx (n := 4) [3, 1, 2, 0] (by decide +kernel) rfl rfl) (c_X0_blowIn l D q xa a1 a2 a3 t1 t2 t3 xt w1 y0 r0 fc h0 h1 h2 h3 h4 h5 n f1 f2 f3 f4 f5 pr (by first | assumption | omega) (by first | assumption | omega) (by first | assumption | omega)) (cwV 1 F.1.2.2.2.2 gX7_now_X0_blowIn rfl rfl rfl (by decide +kernel) ⟨Nat.le_of_ble_eq_true rfl, Nat.le_of_ble_eq_true rfl⟩) rfl rfl (r0 := 0) (ci := 0) (T := TX0) (N := 3) rfl rfl hl.1 ⟨Nat.le_of_ble_eq_true rfl, Nat.le_of_ble_eq_true rfl⟩ (Nat.le_of_ble_eq_true rfl) dX7_now_24 (fun g1 H locs hp X => ?_)
    obtain ⟨w1_9, w2_9, w3_9, rfl, hw9⟩ := hp
    have X := X.perm (gs' := [xoW q x0 xt xa xh xs xf xp xd xr, twW q xt w1 h0 y0 r0 fc, sW q h0 h1 h2 h3 h4 h5 f1 f2 f3 f4 f5 (nI n), aW q xa a1 a2 a3 w1_9 w2_9 w3_9]) (xp_idx (n := 4) [3, 1, 2, 0] (by decide +kernel) rfl rfl)
    have hF : ∀ k, k < n → w3_9 k = x_FT T pr n (-6) (T 4) k := fun k hk => (hw9 k hk).trans (hsr.F hok hfc hk)
    refine lv_iload_n hx hb dX7_now_27 rfl (lv_at hl 2 rfl) ?_
    rcases x_sw wh 0 4 (by decide) with c_28 | c_28
    · refine lv_tableOut (tgt := 126) hx hb dX7_now_28 c_28 (by decide) ?_
      refine lv_bipush (v := (-2)) hx hb dX7_now_126 (by decide) ?_
      exact hret _ _ _ _ _ _ (by exact ⟨_, _, _, rfl, by rw [ek, x_st_in (by omega) hk, x_nowk_d c_28]⟩) X dX7_now_128
    · obtain ⟨j_1, hj1, hj2, e_28⟩ := c_28
      subst e_28
      rcases (show j_1 = 0 ∨ j_1 = 1 ∨ j_1 = 2 ∨ j_1 = 3 ∨ j_1 = 4 by omega) with rfl | rfl | rfl | rfl | rfl
      · refine lv_tableIn (off := 36) (tgt := 64) hx hb dX7_now_28 (by decide) (by decide) (by decide) (by decide) ?_
        refine lv_aload_n hx hb dX7_now_64 rfl (lv_at hl 0 rfl) ?_
        refine x_get F X (v := .ref xa) (C := RX7) (T := TX7) (N := 8) (ci := 7) in_X7 0 rfl rfl 1 (by decide) mw_3 rfl dX7_now_65 ?_
        refine x_get F X (v := .ref a3) (C := RX0) (T := TX0) (N := 3) (ci := 0) in_X0 9 rfl rfl 2 (by decide) mw_5 rfl dX7_now_68 ?_
        refine lv_iload_n hx hb dX7_now_71 rfl (lv_at hl 1 rfl) ?_
        refine x_i (y := (nI k)) (ek) ?_
        refine x_iald F X (v := (w3_9 k)) (n := 20) (f := w3_9) 12 rfl (vp_in_nI (by omega) (by omega)) (x_cl (by omega)) dX7_now_72 ?_
        exact hret _ _ _ _ _ _ (by exact ⟨_, _, _, rfl, by rw [ek, x_st_in (by omega) hk]; exact hF k hk⟩) X dX7_now_73
      · refine lv_tableIn (off := 46) (tgt := 74) hx hb dX7_now_28 (by decide) (by decide) (by decide) (by decide) ?_
        refine lv_aload_n hx hb dX7_now_74 rfl (lv_at hl 0 rfl) ?_
        refine x_get F X (v := .ref xa) (C := RX7) (T := TX7) (N := 8) (ci := 7) in_X7 0 rfl rfl 1 (by decide) mw_3 rfl dX7_now_75 ?_
        refine lv_aload_n hx hb dX7_now_78 rfl (lv_at hl 0 rfl) ?_
        refine x_get F X (v := .ref xt) (C := RX7) (T := TX7) (N := 8) (ci := 7) in_X7 0 rfl rfl 0 (by decide) mw_0 rfl dX7_now_79 ?_
        refine lv_iload_n hx hb dX7_now_82 rfl (lv_at hl 1 rfl) ?_
        refine x_i (y := (nI k)) (ek) ?_
        refine x_cVi F X (gc := [aW q xa a1 a2 a3 w1_9 w2_9 w3_9, twW q xt w1 h0 y0 r0 fc]) (gr := [xoW q x0 xt xa xh xs xf xp xd xr, sW q h0 h1 h2 h3 h4 h5 f1 f2 f3 f4 f5 (nI n)]) (xp_idx (n := 4) [3, 1, 0, 2] (by decide +kernel) rfl rfl) (c_X0_gustIn l D q xa a1 a2 a3 w1_9 w2_9 w3_9 xt w1 y0 r0 fc h0 k (by first | assumption | omega)) (cwV 2 F.1.2.2.2.2 gX7_now_X0_gustIn rfl rfl rfl (by decide +kernel) ⟨Nat.le_of_ble_eq_true rfl, Nat.le_of_ble_eq_true rfl⟩) rfl rfl (r0 := 0) (ci := 0) (T := TX0) (N := 3) rfl rfl hl.1 ⟨Nat.le_of_ble_eq_true rfl, Nat.le_of_ble_eq_true rfl⟩ (Nat.le_of_ble_eq_true rfl) dX7_now_83 (fun r_83 g1 H locs hp X => ?_)
        obtain ⟨rfl, rfl⟩ := hp
        have X := X.perm (gs' := [xoW q x0 xt xa xh xs xf xp xd xr, twW q xt w1 h0 y0 r0 fc, sW q h0 h1 h2 h3 h4 h5 f1 f2 f3 f4 f5 (nI n), aW q xa a1 a2 a3 w1_9 w2_9 w3_9]) (xp_idx (n := 4) [2, 1, 3, 0] (by decide +kernel) rfl rfl)
        exact hret _ _ _ _ _ _ (by exact ⟨_, _, _, rfl, by rw [ek, x_st_in (by omega) hk]; rw [x_gu_T hqr, hF k hk]; rfl⟩) X dX7_now_86
      · refine lv_tableIn (off := 59) (tgt := 87) hx hb dX7_now_28 (by decide) (by decide) (by decide) (by decide) ?_
        refine lv_aload_n hx hb dX7_now_87 rfl (lv_at hl 0 rfl) ?_
        refine x_get F X (v := .ref xa) (C := RX7) (T := TX7) (N := 8) (ci := 7) in_X7 0 rfl rfl 1 (by decide) mw_3 rfl dX7_now_88 ?_
        refine lv_aload_n hx hb dX7_now_91 rfl (lv_at hl 0 rfl) ?_
        refine x_get F X (v := .ref xt) (C := RX7) (T := TX7) (N := 8) (ci := 7) in_X7 0 rfl rfl 0 (by decide) mw_0 rfl dX7_now_92 ?_
        refine lv_iload_n hx hb dX7_now_95 rfl (lv_at hl 1 rfl) ?_
        refine x_i (y := (nI k)) (ek) ?_
        refine x_cVi F X (gc := [aW q xa a1 a2 a3 w1_9 w2_9 w3_9, twW q xt w1 h0 y0 r0 fc, sW q h0 h1 h2 h3 h4 h5 f1 f2 f3 f4 f5 (nI n)]) (gr := [xoW q x0 xt xa xh xs xf xp xd xr]) (xp_idx (n := 4) [3, 1, 2, 0] (by decide +kernel) rfl rfl) (c_X0_flagSteps l D q xa a1 a2 a3 w1_9 w2_9 w3_9 xt w1 y0 r0 fc h0 h1 h2 h3 h4 h5 n f1 f2 f3 f4 f5 k (by first | assumption | omega)) (cwV 2 F.1.2.2.2.2 gX7_now_X0_flagSteps rfl rfl rfl (by decide +kernel) ⟨Nat.le_of_ble_eq_true rfl, Nat.le_of_ble_eq_true rfl⟩) rfl rfl (r0 := 0) (ci := 0) (T := TX0) (N := 3) rfl rfl hl.1 ⟨Nat.le_of_ble_eq_true rfl, Nat.le_of_ble_eq_true rfl⟩ (Nat.le_of_ble_eq_true rfl) dX7_now_96 (fun r_96 g1 H locs hp X => ?_)
        obtain ⟨rfl, rfl⟩ := hp
        have X := X.perm (gs' := [xoW q x0 xt xa xh xs xf xp xd xr, twW q xt w1 h0 y0 r0 fc, sW q h0 h1 h2 h3 h4 h5 f1 f2 f3 f4 f5 (nI n), aW q xa a1 a2 a3 w1_9 w2_9 w3_9]) (xp_idx (n := 4) [3, 1, 2, 0] (by decide +kernel) rfl rfl)
        exact hret _ _ _ _ _ _ (by exact ⟨_, _, _, rfl, by rw [ek, x_st_in (by omega) hk]; exact hsr.fs hqr hk (hF k hk)⟩) X dX7_now_99
      · refine lv_tableIn (off := 72) (tgt := 100) hx hb dX7_now_28 (by decide) (by decide) (by decide) (by decide) ?_
        refine lv_aload_n hx hb dX7_now_100 rfl (lv_at hl 0 rfl) ?_
        refine x_get F X (v := .ref xa) (C := RX7) (T := TX7) (N := 8) (ci := 7) in_X7 0 rfl rfl 1 (by decide) mw_3 rfl dX7_now_101 ?_
        refine lv_aload_n hx hb dX7_now_104 rfl (lv_at hl 0 rfl) ?_
        refine x_get F X (v := .ref xt) (C := RX7) (T := TX7) (N := 8) (ci := 7) in_X7 0 rfl rfl 0 (by decide) mw_0 rfl dX7_now_105 ?_
        refine lv_iload_n hx hb dX7_now_108 rfl (lv_at hl 1 rfl) ?_
        refine x_i (y := (nI k)) (ek) ?_
        refine x_cVi F X (gc := [aW q xa a1 a2 a3 w1_9 w2_9 w3_9, twW q xt w1 h0 y0 r0 fc, sW q h0 h1 h2 h3 h4 h5 f1 f2 f3 f4 f5 (nI n)]) (gr := [xoW q x0 xt xa xh xs xf xp xd xr]) (xp_idx (n := 4) [3, 1, 2, 0] (by decide +kernel) rfl rfl) (c_X0_smokeSteps l D q xa a1 a2 a3 w1_9 w2_9 w3_9 xt w1 y0 r0 fc h0 h1 h2 h3 h4 h5 n f1 f2 f3 f4 f5 k (by first | assumption | omega)) (cwV 2 F.1.2.2.2.2 gX7_now_X0_smokeSteps rfl rfl rfl (by decide +kernel) ⟨Nat.le_of_ble_eq_true rfl, Nat.le_of_ble_eq_true rfl⟩) rfl rfl (r0 := 0) (ci := 0) (T := TX0) (N := 3) rfl rfl hl.1 ⟨Nat.le_of_ble_eq_true rfl, Nat.le_of_ble_eq_true rfl⟩ (Nat.le_of_ble_eq_true rfl) dX7_now_109 (fun r_109 g1 H locs hp X => ?_)
        obtain ⟨rfl, rfl⟩ := hp
        have X := X.perm (gs' := [xoW q x0 xt xa xh xs xf xp xd xr, twW q xt w1 h0 y0 r0 fc, sW q h0 h1 h2 h3 h4 h5 f1 f2 f3 f4 f5 (nI n), aW q xa a1 a2 a3 w1_9 w2_9 w3_9]) (xp_idx (n := 4) [3, 1, 2, 0] (by decide +kernel) rfl rfl)
        exact hret _ _ _ _ _ _ (by exact ⟨_, _, _, rfl, by rw [ek, x_st_in (by omega) hk]; exact hsr.sm hqr hk (hF k hk)⟩) X dX7_now_112
      · refine lv_tableIn (off := 85) (tgt := 113) hx hb dX7_now_28 (by decide) (by decide) (by decide) (by decide) ?_
        refine lv_aload_n hx hb dX7_now_113 rfl (lv_at hl 0 rfl) ?_
        refine x_get F X (v := .ref xa) (C := RX7) (T := TX7) (N := 8) (ci := 7) in_X7 0 rfl rfl 1 (by decide) mw_3 rfl dX7_now_114 ?_
        refine lv_aload_n hx hb dX7_now_117 rfl (lv_at hl 0 rfl) ?_
        refine x_get F X (v := .ref xt) (C := RX7) (T := TX7) (N := 8) (ci := 7) in_X7 0 rfl rfl 0 (by decide) mw_0 rfl dX7_now_118 ?_
        refine lv_iload_n hx hb dX7_now_121 rfl (lv_at hl 1 rfl) ?_
        refine x_i (y := (nI k)) (ek) ?_
        refine x_cVi F X (gc := [aW q xa a1 a2 a3 w1_9 w2_9 w3_9, twW q xt w1 h0 y0 r0 fc, sW q h0 h1 h2 h3 h4 h5 f1 f2 f3 f4 f5 (nI n)]) (gr := [xoW q x0 xt xa xh xs xf xp xd xr]) (xp_idx (n := 4) [3, 1, 2, 0] (by decide +kernel) rfl rfl) (c_X0_hatsLostIn l D q xa a1 a2 a3 w1_9 w2_9 w3_9 xt w1 y0 r0 fc h0 h1 h2 h3 h4 h5 n f1 f2 f3 f4 f5 k (by first | assumption | omega)) (cwV 2 F.1.2.2.2.2 gX7_now_X0_hatsLostIn rfl rfl rfl (by decide +kernel) ⟨Nat.le_of_ble_eq_true rfl, Nat.le_of_ble_eq_true rfl⟩) rfl rfl (r0 := 0) (ci := 0) (T := TX0) (N := 3) rfl rfl hl.1 ⟨Nat.le_of_ble_eq_true rfl, Nat.le_of_ble_eq_true rfl⟩ (Nat.le_of_ble_eq_true rfl) dX7_now_122 (fun r_122 g1 H locs hp X => ?_)
        obtain ⟨rfl, rfl⟩ := hp
        have X := X.perm (gs' := [xoW q x0 xt xa xh xs xf xp xd xr, twW q xt w1 h0 y0 r0 fc, sW q h0 h1 h2 h3 h4 h5 f1 f2 f3 f4 f5 (nI n), aW q xa a1 a2 a3 w1_9 w2_9 w3_9]) (xp_idx (n := 4) [3, 1, 2, 0] (by decide +kernel) rfl rfl)
        exact hret _ _ _ _ _ _ (by exact ⟨_, _, _, rfl, by rw [ek, x_st_in (by omega) hk]; exact hsr.hk hqr hk (hF k hk)⟩) X dX7_now_125
  · refine lv_if_ne (tgt := 16) hx hb dX7_now_11 (by decide) (fun h => absurd (by decide) h) (fun _ => ?_)
    refine lv_iconst (v := (-1)) hx hb dX7_now_14 (by decide) ?_
    exact hret _ _ _ _ _ _ (by exact ⟨_, _, _, rfl, (x_st_out (by omega) b_8 _).symm⟩) X dX7_now_15
