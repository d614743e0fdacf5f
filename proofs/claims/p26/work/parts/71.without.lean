set_option maxHeartbeats 1000000 in
set_option maxRecDepth 100000 in
theorem c_X7_without (l : Launch) (D : va_G) (q : xQ) (x0 : Nat) (xt : Nat) (xa : Nat) (xh : Nat) (xs : Nat) (xf : Nat) (xp : Nat) (xd : Nat) (xr : Nat) (w1 : Nat) (y0 : Nat) (h0 : Nat) (h1 : Nat) (h2 : Nat) (h3 : Nat) (h4 : Nat) (h5 : Nat) (r0 : Nat → Int32) (f1 : Nat → Int32) (f2 : Nat → Int32) (f3 : Nat → Int32) (f4 : Nat → Int32) (f5 : Nat → Int32) (fc : Int32) (n : Nat) (T : Nat → Int32) (pr : Nat → Nat) (a1 : Nat) (a2 : Nat) (a3 : Nat) (t1 : Nat → Int32) (t2 : Nat → Int32) (t3 : Nat → Int32) (st : Int32) (ot : Int32) (hok : x_ok T n pr) (hsr : xSR T n f1 f2 f3 f4 f5) (hqr : ∀ i, i < 4 → r0 i = T i) (hfc : fc = T 4) : xMi l yX7_without wsX7_without { frames := 4, cells := 0, slots := 0, locals := 90 } D q [.ref x0, .int st, .int ot] [xoW q x0 xt xa xh xs xf xp xd xr, twW q xt w1 h0 y0 r0 fc, sW q h0 h1 h2 h3 h4 h5 f1 f2 f3 f4 f5 (nI n), aW q xa a1 a2 a3 t1 t2 t3] (fun r gw => ∃ (u1 : Nat → Int32), ∃ (u2 : Nat → Int32), ∃ (u3 : Nat → Int32), gw = [xoW q x0 xt xa xh xs xf xp xd xr, twW q xt w1 h0 y0 r0 fc, sW q h0 h1 h2 h3 h4 h5 f1 f2 f3 f4 f5 (nI n), aW q xa a1 a2 a3 u1 u2 u3] ∧ r = x_wo2 T pr n st ot) := by
  refine xMi_of (cc := cX7_without) (maxL := 5) (rt := .int) (by decide) rfl (Nat.le_of_ble_eq_true rfl) (fun _ _ _ => rfl) ?_
  intro p9 e9 s9 m9 a9 below meth c9 A9 Z9 ls H locs F X hl hret
  have hx := F.1.1
  have hb := F.1.2.1
  have in_X7 : ∀ w ∈ wsX70, w ∈ wsX7_without := by decide +kernel
  have in_X6 : ∀ w ∈ wsX60, w ∈ wsX7_without := by decide +kernel
  have in_X5 : ∀ w ∈ wsX50, w ∈ wsX7_without := by decide +kernel
  have in_X0 : ∀ w ∈ wsX00, w ∈ wsX7_without := by decide +kernel
  have mw_0 : Cond.fieldLink RX7 10 "HatWinds" "town" "LHatWinds$Town;" ∈ wsX7_without := by decide +kernel
  have mw_1 : Cond.fieldLink RX7 84 "HatWinds$Town" "streets" "LHatWinds$Streets;" ∈ wsX7_without := by decide +kernel
  have mw_2 : Cond.initialized RX5 ∈ wsX7_without := by decide +kernel
  have mw_3 : Cond.fieldLink RX7 165 "HatWinds$Streets" "from" "[I" ∈ wsX7_without := by decide +kernel
  have mw_4 : Cond.fieldLink RX7 19 "HatWinds" "air" "LHatWinds$Air;" ∈ wsX7_without := by decide +kernel
  have mw_5 : Cond.initialized RX0 ∈ wsX7_without := by decide +kernel
  have mw_6 : Cond.fieldLink RX7 190 "HatWinds$Air" "force" "[I" ∈ wsX7_without := by decide +kernel
  have mw_7 : Cond.fieldLink RX7 126 "HatWinds$Town" "force" "I" ∈ wsX7_without := by decide +kernel
  have hl : lv_has ls 5 [(0, .ref x0), (1, .int st), (2, .int ot)] := hl
  have hok0 := hok
  obtain ⟨hn, hn1, hs5, hs33, hpt, hwd, hcl, hsm, hpe, hst, hle, hhr, hcn⟩ := hok0
  have hpr := hsr.prs hok
  have h60 := hsr.1
  refine lv_aload_n hx hb dX7_without_0 rfl (lv_at hl 0 rfl) ?_
  refine x_get F X (v := .ref xt) (C := RX7) (T := TX7) (N := 8) (ci := 7) in_X7 0 rfl rfl 0 (by decide) mw_0 rfl dX7_without_1 ?_
  refine x_get F X (v := .ref h0) (C := RX6) (T := TX6) (N := 4) (ci := 6) in_X6 1 rfl rfl 1 (by decide) mw_1 rfl dX7_without_4 ?_
  refine lv_astore_n (lv' := [(3, .ref h0), (0, .ref x0), (1, .int st), (2, .int ot)]) hx hb dX7_without_7 rfl hl (by decide) rfl (fun ls hl => ?_)
  refine lv_aload_n hx hb dX7_without_8 rfl (lv_at hl 0 rfl) ?_
  refine lv_iload_n hx hb dX7_without_9 rfl (lv_at hl 2 rfl) ?_
  refine x_cVi F X (gc := [sW q h0 h1 h2 h3 h4 h5 f1 f2 f3 f4 f5 (nI n)]) (gr := [xoW q x0 xt xa xh xs xf xp xd xr, twW q xt w1 h0 y0 r0 fc, aW q xa a1 a2 a3 t1 t2 t3]) (xp_idx (n := 4) [2, 0, 1, 3] (by decide +kernel) rfl rfl) (c_X5_has l D q h0 h1 h2 h3 h4 h5 n f1 f2 f3 f4 f5 st (by first | assumption | omega)) (cwV 1 F.1.2.2.2.2 gX7_without_X5_has rfl rfl rfl (by decide +kernel) ⟨Nat.le_of_ble_eq_true rfl, Nat.le_of_ble_eq_true rfl⟩) rfl rfl (r0 := 0) (ci := 5) (T := TX5) (N := 6) rfl rfl hl.1 ⟨Nat.le_of_ble_eq_true rfl, Nat.le_of_ble_eq_true rfl⟩ (Nat.le_of_ble_eq_true rfl) dX7_without_10 (fun r_10 g1 H locs hp X => ?_)
  obtain ⟨rfl, hz⟩ := hp
  have X := X.perm (gs' := [xoW q x0 xt xa xh xs xf xp xd xr, twW q xt w1 h0 y0 r0 fc, sW q h0 h1 h2 h3 h4 h5 f1 f2 f3 f4 f5 (nI n), aW q xa a1 a2 a3 t1 t2 t3]) (xp_idx (n := 4) [1, 2, 0, 3] (by decide +kernel) rfl rfl)
  rcases hz with ⟨rfl, b_10⟩ | ⟨rfl, b_10⟩
  · refine lv_if_eq (tgt := 24) hx hb dX7_without_13 (by decide) (fun h => absurd h (by decide)) (fun _ => ?_)
    obtain ⟨k, hk, ek⟩ := b_10
    refine lv_aload_n hx hb dX7_without_16 rfl (lv_at hl 0 rfl) ?_
    refine lv_iload_n hx hb dX7_without_17 rfl (lv_at hl 3 rfl) ?_
    refine x_cVi F X (gc := [sW q h0 h1 h2 h3 h4 h5 f1 f2 f3 f4 f5 (nI n)]) (gr := [xoW q x0 xt xa xh xs xf xp xd xr, twW q xt w1 h0 y0 r0 fc, aW q xa a1 a2 a3 t1 t2 t3]) (xp_idx (n := 4) [2, 0, 1, 3] (by decide +kernel) rfl rfl) (c_X5_has l D q h0 h1 h2 h3 h4 h5 n f1 f2 f3 f4 f5 ot (by first | assumption | omega)) (cwV 1 F.1.2.2.2.2 gX7_without_X5_has rfl rfl rfl (by decide +kernel) ⟨Nat.le_of_ble_eq_true rfl, Nat.le_of_ble_eq_true rfl⟩) rfl rfl (r0 := 0) (ci := 5) (T := TX5) (N := 6) rfl rfl hl.1 ⟨Nat.le_of_ble_eq_true rfl, Nat.le_of_ble_eq_true rfl⟩ (Nat.le_of_ble_eq_true rfl) dX7_without_18 (fun r_18 g1 H locs hp X => ?_)
    obtain ⟨rfl, hz⟩ := hp
    have X := X.perm (gs' := [xoW q x0 xt xa xh xs xf xp xd xr, twW q xt w1 h0 y0 r0 fc, sW q h0 h1 h2 h3 h4 h5 f1 f2 f3 f4 f5 (nI n), aW q xa a1 a2 a3 t1 t2 t3]) (xp_idx (n := 4) [1, 2, 0, 3] (by decide +kernel) rfl rfl)
    rcases hz with ⟨rfl, b_18⟩ | ⟨rfl, b_18⟩
    · refine lv_if_ne (tgt := 26) hx hb dX7_without_21 (by decide) (fun _ => ?_) (fun h => absurd h (by decide))
      obtain ⟨o, ho, eo⟩ := b_18
      refine lv_iload_n hx hb dX7_without_26 rfl (lv_at hl 2 rfl) ?_
      refine x_i (y := (nI k)) (ek) ?_
      refine lv_iload_n hx hb dX7_without_27 rfl (lv_at hl 3 rfl) ?_
      refine x_i (y := (nI o)) (eo) ?_
      refine lv_icmp_eq (tgt := 46) hx hb dX7_without_28 (by decide) (fun c_28 => ?_) (fun c_28 => ?_)
      · have c_28 : k = o := (nI_eq (a := k) (b := o) (by omega) (by omega)).mp c_28
        refine lv_bipush (v := (-5)) hx hb dX7_without_46 (by decide) ?_
        exact hret _ _ _ _ _ _ (by exact ⟨_, _, _, rfl, by unfold x_wo2; rw [ek, x_st_in (by omega) hk, eo, x_st_in (by omega) ho]; unfold x_wok; rw [if_pos (Or.inl c_28)]⟩) X dX7_without_48
      · have c_28 : ¬ (k = o) := fun h => c_28 ((nI_eq (a := k) (b := o) (by omega) (by omega)).mpr h)
        refine lv_aload_n hx hb dX7_without_31 rfl (lv_at hl 0 rfl) ?_
        refine x_get F X (v := .ref h1) (C := RX5) (T := TX5) (N := 6) (ci := 5) in_X5 3 rfl rfl 0 (by decide) mw_3 rfl dX7_without_32 ?_
        refine lv_iload_n hx hb dX7_without_35 rfl (lv_at hl 2 rfl) ?_
        refine x_i (y := (nI k)) (ek) ?_
        refine x_iald F X (v := (f1 k)) (n := 20) (f := f1) 4 rfl (vp_in_nI (by omega) (by omega)) (x_cl (by omega)) dX7_without_36 ?_
        refine lv_aload_n hx hb dX7_without_37 rfl (lv_at hl 0 rfl) ?_
        refine x_get F X (v := .ref h1) (C := RX5) (T := TX5) (N := 6) (ci := 5) in_X5 3 rfl rfl 0 (by decide) mw_3 rfl dX7_without_38 ?_
        refine lv_iload_n hx hb dX7_without_41 rfl (lv_at hl 3 rfl) ?_
        refine x_i (y := (nI o)) (eo) ?_
        refine x_iald F X (v := (f1 o)) (n := 20) (f := f1) 4 rfl (vp_in_nI (by omega) (by omega)) (x_cl (by omega)) dX7_without_42 ?_
        refine lv_icmp_eq (tgt := 49) hx hb dX7_without_43 (by decide) (fun c_43 => ?_) (fun c_43 => ?_)
        · refine lv_aload_n hx hb dX7_without_49 rfl (lv_at hl 1 rfl) ?_
          refine x_get F X (v := .ref xa) (C := RX7) (T := TX7) (N := 8) (ci := 7) in_X7 0 rfl rfl 1 (by decide) mw_4 rfl dX7_without_50 ?_
          refine lv_aload_n hx hb dX7_without_53 rfl (lv_at hl 1 rfl) ?_
          refine x_get F X (v := .ref xt) (C := RX7) (T := TX7) (N := 8) (ci := 7) in_X7 0 rfl rfl 0 (by decide) mw_0 rfl dX7_without_54 ?_
          refine x_cVv F X (gc := [aW q xa a1 a2 a3 t1 t2 t3, twW q xt w1 h0 y0 r0 fc, sW q h0 h1 h2 h3 h4 h5 f1 f2 f3 f4 f5 (nI n)]) (gr := [xoW q x0 xt xa xh xs xf xp xd xr]) (xp_idx (n := 4) [3, 1, 2, 0] (by decide +kernel) rfl rfl) (c_X0_blowIn l D q xa a1 a2 a3 t1 t2 t3 xt w1 y0 r0 fc h0 h1 h2 h3 h4 h5 n f1 f2 f3 f4 f5 pr (by first | assumption | omega) (by first | assumption | omega) (by first | assumption | omega)) (cwV 1 F.1.2.2.2.2 gX7_without_X0_blowIn rfl rfl rfl (by decide +kernel) ⟨Nat.le_of_ble_eq_true rfl, Nat.le_of_ble_eq_true rfl⟩) rfl rfl (r0 := 0) (ci := 0) (T := TX0) (N := 3) rfl rfl hl.1 ⟨Nat.le_of_ble_eq_true rfl, Nat.le_of_ble_eq_true rfl⟩ (Nat.le_of_ble_eq_true rfl) dX7_without_57 (fun g1 H locs hp X => ?_)
          obtain ⟨w1_9, w2_9, w3_9, rfl, hw9⟩ := hp
          have X := X.perm (gs' := [xoW q x0 xt xa xh xs xf xp xd xr, twW q xt w1 h0 y0 r0 fc, sW q h0 h1 h2 h3 h4 h5 f1 f2 f3 f4 f5 (nI n), aW q xa a1 a2 a3 w1_9 w2_9 w3_9]) (xp_idx (n := 4) [3, 1, 2, 0] (by decide +kernel) rfl rfl)
          have hF : ∀ k, k < n → w3_9 k = x_FT T pr n (-6) (T 4) k := fun k hk => (hw9 k hk).trans (hsr.F hok hfc hk)
          refine lv_aload_n hx hb dX7_without_60 rfl (lv_at hl 1 rfl) ?_
          refine x_get F X (v := .ref xa) (C := RX7) (T := TX7) (N := 8) (ci := 7) in_X7 0 rfl rfl 1 (by decide) mw_4 rfl dX7_without_61 ?_
          refine x_get F X (v := .ref a3) (C := RX0) (T := TX0) (N := 3) (ci := 0) in_X0 9 rfl rfl 2 (by decide) mw_6 rfl dX7_without_64 ?_
          refine lv_iload_n hx hb dX7_without_67 rfl (lv_at hl 2 rfl) ?_
          refine x_i (y := (nI k)) (ek) ?_
          refine x_iald F X (v := (w3_9 k)) (n := 20) (f := w3_9) 12 rfl (vp_in_nI (by omega) (by omega)) (x_cl (by omega)) dX7_without_68 ?_
          refine lv_istore (lv' := [(4, .int (w3_9 k)), (3, .ref h0), (0, .ref x0), (1, .int st), (2, .int ot)]) hx hb dX7_without_69 hl (by decide) rfl (fun ls hl => ?_)
          refine lv_aload_n hx hb dX7_without_71 rfl (lv_at hl 2 rfl) ?_
          refine x_get F X (v := .ref xa) (C := RX7) (T := TX7) (N := 8) (ci := 7) in_X7 0 rfl rfl 1 (by decide) mw_4 rfl dX7_without_72 ?_
          refine lv_aload_n hx hb dX7_without_75 rfl (lv_at hl 1 rfl) ?_
          refine lv_iload_n hx hb dX7_without_76 rfl (lv_at hl 4 rfl) ?_
          refine x_i (y := (nI o)) (eo) ?_
          refine x_cVv F X (gc := [aW q xa a1 a2 a3 w1_9 w2_9 w3_9, sW q h0 h1 h2 h3 h4 h5 f1 f2 f3 f4 f5 (nI n)]) (gr := [xoW q x0 xt xa xh xs xf xp xd xr, twW q xt w1 h0 y0 r0 fc]) (xp_idx (n := 4) [3, 2, 0, 1] (by decide +kernel) rfl rfl) (c_X0_part l D q xa a1 a2 a3 w1_9 w2_9 w3_9 h0 h1 h2 h3 h4 h5 n f1 f2 f3 f4 f5 (nI o) (by first | assumption | omega)) (cwV 2 F.1.2.2.2.2 gX7_without_X0_part rfl rfl rfl (by decide +kernel) ⟨Nat.le_of_ble_eq_true rfl, Nat.le_of_ble_eq_true rfl⟩) rfl rfl (r0 := 0) (ci := 0) (T := TX0) (N := 3) rfl rfl hl.1 ⟨Nat.le_of_ble_eq_true rfl, Nat.le_of_ble_eq_true rfl⟩ (Nat.le_of_ble_eq_true rfl) dX7_without_77 (fun g1 H locs hp X => ?_)
          obtain ⟨w1_77, w2_77, rfl, hw1_77, hw2_77⟩ := hp
          have X := X.perm (gs' := [xoW q x0 xt xa xh xs xf xp xd xr, twW q xt w1 h0 y0 r0 fc, sW q h0 h1 h2 h3 h4 h5 f1 f2 f3 f4 f5 (nI n), aW q xa a1 a2 a3 w1_77 w2_77 w3_9]) (xp_idx (n := 4) [2, 3, 1, 0] (by decide +kernel) rfl rfl)
          refine lv_aload_n hx hb dX7_without_80 rfl (lv_at hl 2 rfl) ?_
          refine x_get F X (v := .ref xa) (C := RX7) (T := TX7) (N := 8) (ci := 7) in_X7 0 rfl rfl 1 (by decide) mw_4 rfl dX7_without_81 ?_
          refine lv_aload_n hx hb dX7_without_84 rfl (lv_at hl 1 rfl) ?_
          refine lv_aload_n hx hb dX7_without_85 rfl (lv_at hl 2 rfl) ?_
          refine x_get F X (v := .ref xt) (C := RX7) (T := TX7) (N := 8) (ci := 7) in_X7 0 rfl rfl 0 (by decide) mw_0 rfl dX7_without_86 ?_
          refine x_get F X (v := .int fc) (C := RX6) (T := TX6) (N := 4) (ci := 6) in_X6 1 rfl rfl 3 (by decide) mw_7 rfl dX7_without_89 ?_
          refine x_cVv F X (gc := [aW q xa a1 a2 a3 w1_77 w2_77 w3_9, sW q h0 h1 h2 h3 h4 h5 f1 f2 f3 f4 f5 (nI n)]) (gr := [xoW q x0 xt xa xh xs xf xp xd xr, twW q xt w1 h0 y0 r0 fc]) (xp_idx (n := 4) [3, 2, 0, 1] (by decide +kernel) rfl rfl) (c_X0_blow l D q xa a1 a2 a3 w1_77 w2_77 w3_9 h0 h1 h2 h3 h4 h5 n f1 f2 f3 f4 f5 fc pr (by first | assumption | omega) (by first | assumption | omega) (by first | assumption | omega)) (cwV 2 F.1.2.2.2.2 gX7_without_X0_blow rfl rfl rfl (by decide +kernel) ⟨Nat.le_of_ble_eq_true rfl, Nat.le_of_ble_eq_true rfl⟩) rfl rfl (r0 := 0) (ci := 0) (T := TX0) (N := 3) rfl rfl hl.1 ⟨Nat.le_of_ble_eq_true rfl, Nat.le_of_ble_eq_true rfl⟩ (Nat.le_of_ble_eq_true rfl) dX7_without_92 (fun g1 H locs hp X => ?_)
          obtain ⟨w3_92, rfl, hw3_92⟩ := hp
          have X := X.perm (gs' := [xoW q x0 xt xa xh xs xf xp xd xr, twW q xt w1 h0 y0 r0 fc, sW q h0 h1 h2 h3 h4 h5 f1 f2 f3 f4 f5 (nI n), aW q xa a1 a2 a3 w1_77 w2_77 w3_92]) (xp_idx (n := 4) [2, 3, 1, 0] (by decide +kernel) rfl rfl)
          have hF2 : ∀ k, k < n → w3_92 k = x_FT T pr n (nI o) (T 4) k := fun k hk => (hw3_92 k hk).trans (by rw [← hfc]; exact hsr.P hok hw1_77 hw2_77 hk)
          refine lv_aload_n hx hb dX7_without_95 rfl (lv_at hl 2 rfl) ?_
          refine x_get F X (v := .ref xa) (C := RX7) (T := TX7) (N := 8) (ci := 7) in_X7 0 rfl rfl 1 (by decide) mw_4 rfl dX7_without_96 ?_
          refine x_get F X (v := .ref a3) (C := RX0) (T := TX0) (N := 3) (ci := 0) in_X0 9 rfl rfl 2 (by decide) mw_6 rfl dX7_without_99 ?_
          refine lv_iload_n hx hb dX7_without_102 rfl (lv_at hl 3 rfl) ?_
          refine x_i (y := (nI k)) (ek) ?_
          refine x_iald F X (v := (w3_92 k)) (n := 20) (f := w3_92) 12 rfl (vp_in_nI (by omega) (by omega)) (x_cl (by omega)) dX7_without_103 ?_
          refine lv_iload hx hb dX7_without_104 (lv_at hl 0 rfl) ?_
          refine lv_isub hx hb dX7_without_106 ?_
          refine lv_sipush (v := 500) hx hb dX7_without_107 (by decide) ?_
          refine lv_iadd hx hb dX7_without_110 ?_
          refine hret _ _ _ _ _ _ ?_ X dX7_without_111
          have hk0 : ¬ k = 0 := fun z => by
            subst z
            have q := (hsr.eqo hok hk ho).mp c_43
            have e0 : x_tF T 0 = -1 := hs33
            rw [e0, show x_tF T o = nI (pr o) from (hpt o (by omega) ho).1] at q
            exact x_m1 _ (by have := (hpt o (by omega) ho).2; omega) q
          have ho0 : ¬ o = 0 := fun z => by
            subst z
            have q := (hsr.eqo hok hk ho).mp c_43
            have e0 : x_tF T 0 = -1 := hs33
            rw [e0, show x_tF T k = nI (pr k) from (hpt k (by omega) hk).1] at q
            exact x_m1 _ (by have := (hpt k (by omega) hk).2; omega) q.symm
          exact ⟨_, _, _, rfl, by unfold x_wo2; rw [ek, x_st_in (by omega) hk, eo, x_st_in (by omega) ho]; unfold x_wok; rw [if_neg (fun z => z.elim c_28 (fun z => z.elim hk0 (fun z => z.elim ho0 (fun z => z ((hsr.eqo hok hk ho).mp c_43))))), hF2 k hk, hF k hk]⟩
        · refine lv_bipush (v := (-5)) hx hb dX7_without_46 (by decide) ?_
          exact hret _ _ _ _ _ _ (by exact ⟨_, _, _, rfl, by unfold x_wo2; rw [ek, x_st_in (by omega) hk, eo, x_st_in (by omega) ho]; unfold x_wok; rw [if_pos (Or.inr (Or.inr (Or.inr (fun z => c_43 ((hsr.eqo hok hk ho).mpr z)))))]⟩) X dX7_without_48
    · refine lv_if_ne (tgt := 26) hx hb dX7_without_21 (by decide) (fun h => absurd (by decide) h) (fun _ => ?_)
      refine lv_iconst (v := (-1)) hx hb dX7_without_24 (by decide) ?_
      exact hret _ _ _ _ _ _ (by exact ⟨_, _, _, rfl, by unfold x_wo2; rw [ek, x_st_in (by omega) hk]; exact (x_st_out (by omega) b_18 _).symm⟩) X dX7_without_25
  · refine lv_if_eq (tgt := 24) hx hb dX7_without_13 (by decide) (fun _ => ?_) (fun h => absurd (by decide) h)
    refine lv_iconst (v := (-1)) hx hb dX7_without_24 (by decide) ?_
    exact hret _ _ _ _ _ _ (by exact ⟨_, _, _, rfl, (x_st_out (by omega) b_10 _).symm⟩) X dX7_without_25

set_option maxHeartbeats 1000000 in
set_option maxRecDepth 100000 in
theorem c_X7_windiest (l : Launch) (D : va_G) (q : xQ) (x0 : Nat) (xt : Nat) (xa : Nat) (xh : Nat) (xs : Nat) (xf : Nat) (xp : Nat) (xd : Nat) (xr : Nat) (w1 : Nat) (y0 : Nat) (h0 : Nat) (h1 : Nat) (h2 : Nat) (h3 : Nat) (h4 : Nat) (h5 : Nat) (r0 : Nat → Int32) (f1 : Nat → Int32) (f2 : Nat → Int32) (f3 : Nat → Int32) (f4 : Nat → Int32) (f5 : Nat → Int32) (fc : Int32) (n : Nat) (T : Nat → Int32) (pr : Nat → Nat) (a1 : Nat) (a2 : Nat) (a3 : Nat) (t1 : Nat → Int32) (t2 : Nat → Int32) (t3 : Nat → Int32) (hok : x_ok T n pr) (hsr : xSR T n f1 f2 f3 f4 f5) (hqr : ∀ i, i < 4 → r0 i = T i) (hfc : fc = T 4) : xMi l yX7_windiest wsX7_windiest { frames := 4, cells := 0, slots := 0, locals := 90 } D q [.ref x0] [xoW q x0 xt xa xh xs xf xp xd xr, twW q xt w1 h0 y0 r0 fc, sW q h0 h1 h2 h3 h4 h5 f1 f2 f3 f4 f5 (nI n), aW q xa a1 a2 a3 t1 t2 t3] (fun r gw => ∃ (u1 : Nat → Int32), ∃ (u2 : Nat → Int32), ∃ (u3 : Nat → Int32), gw = [xoW q x0 xt xa xh xs xf xp xd xr, twW q xt w1 h0 y0 r0 fc, sW q h0 h1 h2 h3 h4 h5 f1 f2 f3 f4 f5 (nI n), aW q xa a1 a2 a3 u1 u2 u3] ∧ r = x_wd (x_bs T n) (x_FT T pr n (-6) (T 4)) n) := by
  refine xMi_of (cc := cX7_windiest) (maxL := 4) (rt := .int) (by decide) rfl (Nat.le_of_ble_eq_true rfl) (fun _ _ _ => rfl) ?_
  intro p9 e9 s9 m9 a9 below meth c9 A9 Z9 ls H locs F X hl hret
  have hx := F.1.1
  have hb := F.1.2.1
  have in_X7 : ∀ w ∈ wsX70, w ∈ wsX7_windiest := by decide +kernel
  have in_X6 : ∀ w ∈ wsX60, w ∈ wsX7_windiest := by decide +kernel
  have in_X5 : ∀ w ∈ wsX50, w ∈ wsX7_windiest := by decide +kernel
  have in_X0 : ∀ w ∈ wsX00, w ∈ wsX7_windiest := by decide +kernel
  have mw_0 : Cond.fieldLink RX7 19 "HatWinds" "air" "LHatWinds$Air;" ∈ wsX7_windiest := by decide +kernel
  have mw_1 : Cond.fieldLink RX7 10 "HatWinds" "town" "LHatWinds$Town;" ∈ wsX7_windiest := by decide +kernel
  have mw_2 : Cond.initialized RX0 ∈ wsX7_windiest := by decide +kernel
  have mw_3 : Cond.fieldLink RX7 84 "HatWinds$Town" "streets" "LHatWinds$Streets;" ∈ wsX7_windiest := by decide +kernel
  have mw_4 : Cond.fieldLink RX7 98 "HatWinds$Streets" "number" "I" ∈ wsX7_windiest := by decide +kernel
  have mw_5 : Cond.initialized RX5 ∈ wsX7_windiest := by decide +kernel
  have mw_6 : Cond.fieldLink RX7 190 "HatWinds$Air" "force" "[I" ∈ wsX7_windiest := by decide +kernel
  have hl : lv_has ls 4 [(0, .ref x0)] := hl
  have hok0 := hok
  obtain ⟨hn, hn1, hs5, hs33, hpt, hwd, hcl, hsm, hpe, hst, hle, hhr, hcn⟩ := hok0
  have hpr := hsr.prs hok
  have h60 := hsr.1
  refine lv_aload_n hx hb dX7_windiest_0 rfl (lv_at hl 0 rfl) ?_
  refine x_get F X (v := .ref xa) (C := RX7) (T := TX7) (N := 8) (ci := 7) in_X7 0 rfl rfl 1 (by decide) mw_0 rfl dX7_windiest_1 ?_
  refine lv_aload_n hx hb dX7_windiest_4 rfl (lv_at hl 0 rfl) ?_
  refine x_get F X (v := .ref xt) (C := RX7) (T := TX7) (N := 8) (ci := 7) in_X7 0 rfl rfl 0 (by decide) mw_1 rfl dX7_windiest_5 ?_
  refine x_cVv F X (gc := [aW q xa a1 a2 a3 t1 t2 t3, twW q xt w1 h0 y0 r0 fc, sW q h0 h1 h2 h3 h4 h5 f1 f2 f3 f4 f5 (nI n)]) (gr := [xoW q x0 xt xa xh xs xf xp xd xr]) (xp_idx (n := 4) [3, 1, 2, 0] (by decide +kernel) rfl rfl) (c_X0_blowIn l D q xa a1 a2 a3 t1 t2 t3 xt w1 y0 r0 fc h0 h1 h2 h3 h4 h5 n f1 f2 f3 f4 f5 pr (by first | assumption | omega) (by first | assumption | omega) (by first | assumption | omega)) (cwV 1 F.1.2.2.2.2 gX7_windiest_X0_blowIn rfl rfl rfl (by decide +kernel) ⟨Nat.le_of_ble_eq_true rfl, Nat.le_of_ble_eq_true rfl⟩) rfl rfl (r0 := 0) (ci := 0) (T := TX0) (N := 3) rfl rfl hl.1 ⟨Nat.le_of_ble_eq_true rfl, Nat.le_of_ble_eq_true rfl⟩ (Nat.le_of_ble_eq_true rfl) dX7_windiest_8 (fun g1 H locs hp X => ?_)
  obtain ⟨w1_9, w2_9, w3_9, rfl, hw9⟩ := hp
  have X := X.perm (gs' := [xoW q x0 xt xa xh xs xf xp xd xr, twW q xt w1 h0 y0 r0 fc, sW q h0 h1 h2 h3 h4 h5 f1 f2 f3 f4 f5 (nI n), aW q xa a1 a2 a3 w1_9 w2_9 w3_9]) (xp_idx (n := 4) [3, 1, 2, 0] (by decide +kernel) rfl rfl)
  have hF : ∀ k, k < n → w3_9 k = x_FT T pr n (-6) (T 4) k := fun k hk => (hw9 k hk).trans (hsr.F hok hfc hk)
  refine lv_bipush (v := (-6)) hx hb dX7_windiest_11 (by decide) ?_
  refine lv_istore_n (lv' := [(1, .int (-6)), (0, .ref x0)]) hx hb dX7_windiest_13 rfl hl (by decide) rfl (fun ls hl => ?_)
  refine lv_iconst (v := 0) hx hb dX7_windiest_14 (by decide) ?_
  refine lv_istore_n (lv' := [(2, .int 0), (1, .int (-6)), (0, .ref x0)]) hx hb dX7_windiest_15 rfl hl (by decide) rfl (fun ls hl => ?_)
  have L_16 : ∀ (nn : Nat) (j : Nat) (fd : Int32) (H : Heap) (locs : List Loc) (ls : Array Slot), xS D A9 s9 [xoW q x0 xt xa xh xs xf xp xd xr, twW q xt w1 h0 y0 r0 fc, sW q h0 h1 h2 h3 h4 h5 f1 f2 f3 f4 f5 (nI n), aW q xa a1 a2 a3 w1_9 w2_9 w3_9] H locs → lv_has ls 4 [(2, .int (nI j)), (1, .int fd), (0, .ref x0)] → (n < j + nn) → (j ≤ n) → (fd = x_wd (x_bs T n) w3_9 j) → W p9 l e9 { frames := 4, cells := 0, slots := 0, locals := 90 } s9 m9 a9 below meth c9 H locs 0 0 Z9 (F0 m9 16 ls []) := by
    intro nn
    induction nn with
    | zero => intro j fd H locs ls X hl hfuel hj hfd; exact absurd hfuel (by omega)
    | succ nn ih_16 =>
      intro j fd H locs ls X hl hfuel hj hfd
      refine lv_iload_n hx hb dX7_windiest_16 rfl (lv_at hl 0 rfl) ?_
      refine lv_aload_n hx hb dX7_windiest_17 rfl (lv_at hl 2 rfl) ?_
      refine x_get F X (v := .ref xt) (C := RX7) (T := TX7) (N := 8) (ci := 7) in_X7 0 rfl rfl 0 (by decide) mw_1 rfl dX7_windiest_18 ?_
      refine x_get F X (v := .ref h0) (C := RX6) (T := TX6) (N := 4) (ci := 6) in_X6 1 rfl rfl 1 (by decide) mw_3 rfl dX7_windiest_21 ?_
      refine x_get F X (v := .int (nI n)) (C := RX5) (T := TX5) (N := 6) (ci := 5) in_X5 3 rfl rfl 5 (by decide) mw_4 rfl dX7_windiest_24 ?_
      refine lv_icmp_ge (tgt := 89) hx hb dX7_windiest_27 (by decide) (fun c_27 => ?_) (fun c_27 => ?_)
      · have c_27 : n ≤ j := (nI_leI (a := n) (b := j) (by omega) (by omega)).mp c_27
        refine lv_iload_n hx hb dX7_windiest_89 rfl (lv_at hl 1 rfl) ?_
        refine hret _ _ _ _ _ _ ?_ X dX7_windiest_90
        obtain rfl : j = n := by omega
        exact ⟨_, _, _, rfl, hfd.trans (x_wd_cong (by omega) hF j (Nat.le_refl j))⟩
      · have c_27 : j < n := Nat.not_le.mp (fun h => c_27 ((nI_leI (a := n) (b := j) (by omega) (by omega)).mpr h))
        refine lv_aload_n hx hb dX7_windiest_30 rfl (lv_at hl 2 rfl) ?_
        refine x_get F X (v := .ref xt) (C := RX7) (T := TX7) (N := 8) (ci := 7) in_X7 0 rfl rfl 0 (by decide) mw_1 rfl dX7_windiest_31 ?_
        refine x_get F X (v := .ref h0) (C := RX6) (T := TX6) (N := 4) (ci := 6) in_X6 1 rfl rfl 1 (by decide) mw_3 rfl dX7_windiest_34 ?_
        refine lv_iload_n hx hb dX7_windiest_37 rfl (lv_at hl 0 rfl) ?_
        refine x_cVi F X (gc := [sW q h0 h1 h2 h3 h4 h5 f1 f2 f3 f4 f5 (nI n)]) (gr := [xoW q x0 xt xa xh xs xf xp xd xr, twW q xt w1 h0 y0 r0 fc, aW q xa a1 a2 a3 w1_9 w2_9 w3_9]) (xp_idx (n := 4) [2, 0, 1, 3] (by decide +kernel) rfl rfl) (c_X5_branchesOff l D q h0 h1 h2 h3 h4 h5 n f1 f2 f3 f4 f5 (nI j) (by first | assumption | omega)) (cwV 1 F.1.2.2.2.2 gX7_windiest_X5_branchesOff rfl rfl rfl (by decide +kernel) ⟨Nat.le_of_ble_eq_true rfl, Nat.le_of_ble_eq_true rfl⟩) rfl rfl (r0 := 0) (ci := 5) (T := TX5) (N := 6) rfl rfl hl.1 ⟨Nat.le_of_ble_eq_true rfl, Nat.le_of_ble_eq_true rfl⟩ (Nat.le_of_ble_eq_true rfl) dX7_windiest_38 (fun r_38 g1 H locs hp X => ?_)
        obtain ⟨rfl, rfl⟩ := hp
        have X := X.perm (gs' := [xoW q x0 xt xa xh xs xf xp xd xr, twW q xt w1 h0 y0 r0 fc, sW q h0 h1 h2 h3 h4 h5 f1 f2 f3 f4 f5 (nI n), aW q xa a1 a2 a3 w1_9 w2_9 w3_9]) (xp_idx (n := 4) [1, 2, 0, 3] (by decide +kernel) rfl rfl)
        have hbe : x_orf (x_bo f1 (nI j)) n = x_bs T n j := hsr.bs hok (by omega)
        refine lv_if_ne (tgt := 48) hx hb dX7_windiest_41 (by decide) (fun c_41 => ?_) (fun c_41 => ?_)
        · refine lv_iconst (v := 0) hx hb dX7_windiest_48 (by decide) ?_
          refine lv_istore_n (lv' := [(3, .int 0), (2, .int (nI j)), (1, .int fd), (0, .ref x0)]) hx hb dX7_windiest_49 rfl hl (by decide) rfl (fun ls hl => ?_)
          refine lv_iload_n hx hb dX7_windiest_50 rfl (lv_at hl 0 rfl) ?_
          refine lv_if_eq (tgt := 83) hx hb dX7_windiest_51 (by decide) (fun _ => ?_) (fun h => absurd (by decide) h)
          refine lv_iinc (v := (nI (j + 1))) (lv' := [(2, .int (nI (j + 1))), (3, .int 0), (1, .int fd), (0, .ref x0)]) hx hb dX7_windiest_83 hl (k := 1) rfl (nI_add j 1) (by decide) rfl (fun ls hl => ?_)
          refine lv_goto (tgt := 16) hx hb dX7_windiest_86 (by decide) ?_
          exact ih_16 (j + 1) _ _ _ _ X (lv_sub hl [0, 2, 3] rfl) (by omega) (by omega) (by rw [x_wd, if_neg (fun z => c_41 (hbe.trans z.1))]; exact hfd)
        · refine lv_iconst (v := 1) hx hb dX7_windiest_44 (by decide) ?_
          refine lv_goto (tgt := 49) hx hb dX7_windiest_45 (by decide) ?_
          refine lv_istore_n (lv' := [(3, .int 1), (2, .int (nI j)), (1, .int fd), (0, .ref x0)]) hx hb dX7_windiest_49 rfl hl (by decide) rfl (fun ls hl => ?_)
          refine lv_iload_n hx hb dX7_windiest_50 rfl (lv_at hl 0 rfl) ?_
          refine lv_if_eq (tgt := 83) hx hb dX7_windiest_51 (by decide) (fun h => absurd h (by decide)) (fun _ => ?_)
          refine lv_iload_n hx hb dX7_windiest_54 rfl (lv_at hl 2 rfl) ?_
          refine lv_bipush (v := (-6)) hx hb dX7_windiest_55 (by decide) ?_
          refine lv_icmp_eq (tgt := 81) hx hb dX7_windiest_57 (by decide) (fun c_57 => ?_) (fun c_57 => ?_)
          · refine lv_iload_n hx hb dX7_windiest_81 rfl (lv_at hl 1 rfl) ?_
            refine lv_istore_n (lv' := [(1, .int (nI j)), (3, .int 1), (2, .int (nI j)), (0, .ref x0)]) hx hb dX7_windiest_82 rfl hl (by decide) rfl (fun ls hl => ?_)
            refine lv_iinc (v := (nI (j + 1))) (lv' := [(2, .int (nI (j + 1))), (1, .int (nI j)), (3, .int 1), (0, .ref x0)]) hx hb dX7_windiest_83 hl (k := 2) rfl (nI_add j 1) (by decide) rfl (fun ls hl => ?_)
            refine lv_goto (tgt := 16) hx hb dX7_windiest_86 (by decide) ?_
            exact ih_16 (j + 1) _ _ _ _ X (lv_sub hl [0, 1, 3] rfl) (by omega) (by omega) (by rw [x_wd, if_pos ⟨hbe.symm.trans c_41, Or.inl (hfd.symm.trans c_57)⟩])
          · obtain ⟨t, ht, et⟩ := (x_wd_in (x_bs T n) w3_9 j).resolve_left (fun z => c_57 (hfd.trans z))
            have et2 : fd = nI t := hfd.trans et
            refine lv_aload_n hx hb dX7_windiest_60 rfl (lv_at hl 3 rfl) ?_
            refine x_get F X (v := .ref xa) (C := RX7) (T := TX7) (N := 8) (ci := 7) in_X7 0 rfl rfl 1 (by decide) mw_0 rfl dX7_windiest_61 ?_
            refine x_get F X (v := .ref a3) (C := RX0) (T := TX0) (N := 3) (ci := 0) in_X0 9 rfl rfl 2 (by decide) mw_6 rfl dX7_windiest_64 ?_
            refine lv_iload_n hx hb dX7_windiest_67 rfl (lv_at hl 1 rfl) ?_
            refine x_iald F X (v := (w3_9 j)) (n := 20) (f := w3_9) 12 rfl (vp_in_nI (by omega) (by omega)) (x_cl (by omega)) dX7_windiest_68 ?_
            refine lv_aload_n hx hb dX7_windiest_69 rfl (lv_at hl 3 rfl) ?_
            refine x_get F X (v := .ref xa) (C := RX7) (T := TX7) (N := 8) (ci := 7) in_X7 0 rfl rfl 1 (by decide) mw_0 rfl dX7_windiest_70 ?_
            refine x_get F X (v := .ref a3) (C := RX0) (T := TX0) (N := 3) (ci := 0) in_X0 9 rfl rfl 2 (by decide) mw_6 rfl dX7_windiest_73 ?_
            refine lv_iload_n hx hb dX7_windiest_76 rfl (lv_at hl 2 rfl) ?_
            refine x_iald F X (v := (w3_9 t)) (n := 20) (f := w3_9) 12 rfl (by rw [et2]; exact vp_in_nI (by omega) (by omega)) (by rw [et2]; exact x_cl (by omega)) dX7_windiest_77 ?_
            refine lv_icmp_le (tgt := 83) hx hb dX7_windiest_78 (by decide) (fun c_78 => ?_) (fun c_78 => ?_)
            · refine lv_iinc (v := (nI (j + 1))) (lv' := [(2, .int (nI (j + 1))), (3, .int 1), (1, .int fd), (0, .ref x0)]) hx hb dX7_windiest_83 hl (k := 1) rfl (nI_add j 1) (by decide) rfl (fun ls hl => ?_)
              refine lv_goto (tgt := 16) hx hb dX7_windiest_86 (by decide) ?_
              exact ih_16 (j + 1) _ _ _ _ X (lv_sub hl [0, 2, 3] rfl) (by omega) (by omega) (by rw [x_wd, if_neg (fun z => z.2.elim (fun q => c_57 (hfd.trans q)) (fun q => by rw [et, nI_clamp (by omega)] at q; exact absurd c_78 (Int32.not_le.mpr q)))]; exact hfd)
            · refine lv_iload_n hx hb dX7_windiest_81 rfl (lv_at hl 1 rfl) ?_
              refine lv_istore_n (lv' := [(1, .int (nI j)), (3, .int 1), (2, .int (nI j)), (0, .ref x0)]) hx hb dX7_windiest_82 rfl hl (by decide) rfl (fun ls hl => ?_)
              refine lv_iinc (v := (nI (j + 1))) (lv' := [(2, .int (nI (j + 1))), (1, .int (nI j)), (3, .int 1), (0, .ref x0)]) hx hb dX7_windiest_83 hl (k := 2) rfl (nI_add j 1) (by decide) rfl (fun ls hl => ?_)
              refine lv_goto (tgt := 16) hx hb dX7_windiest_86 (by decide) ?_
              exact ih_16 (j + 1) _ _ _ _ X (lv_sub hl [0, 1, 3] rfl) (by omega) (by omega) (by rw [x_wd, if_pos ⟨hbe.symm.trans c_41, Or.inr (by rw [et, nI_clamp (by omega)]; exact Int32.not_le.mp c_78)⟩])
  exact L_16 (n + 1) 0 _ _ _ _ X (lv_sub hl [0, 1, 2] rfl) (by omega) (by omega) (by rfl)
