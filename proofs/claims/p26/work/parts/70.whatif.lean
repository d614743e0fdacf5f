set_option maxHeartbeats 1000000 in
set_option maxRecDepth 100000 in
theorem c_X7_ifWind (l : Launch) (D : va_G) (q : xQ) (x0 : Nat) (xt : Nat) (xa : Nat) (xh : Nat) (xs : Nat) (xf : Nat) (xp : Nat) (xd : Nat) (xr : Nat) (w1 : Nat) (y0 : Nat) (h0 : Nat) (h1 : Nat) (h2 : Nat) (h3 : Nat) (h4 : Nat) (h5 : Nat) (r0 : Nat → Int32) (f1 : Nat → Int32) (f2 : Nat → Int32) (f3 : Nat → Int32) (f4 : Nat → Int32) (f5 : Nat → Int32) (fc : Int32) (n : Nat) (T : Nat → Int32) (pr : Nat → Nat) (a1 : Nat) (a2 : Nat) (a3 : Nat) (t1 : Nat → Int32) (t2 : Nat → Int32) (t3 : Nat → Int32) (f : Int32) (hok : x_ok T n pr) (hsr : xSR T n f1 f2 f3 f4 f5) (hqr : ∀ i, i < 4 → r0 i = T i) (hfc : fc = T 4) : xMi l yX7_ifWind wsX7_ifWind { frames := 4, cells := 0, slots := 0, locals := 90 } D q [.ref x0, .int f] [xoW q x0 xt xa xh xs xf xp xd xr, twW q xt w1 h0 y0 r0 fc, sW q h0 h1 h2 h3 h4 h5 f1 f2 f3 f4 f5 (nI n), aW q xa a1 a2 a3 t1 t2 t3] (fun r gw => ∃ (u1 : Nat → Int32), ∃ (u2 : Nat → Int32), ∃ (u3 : Nat → Int32), gw = [xoW q x0 xt xa xh xs xf xp xd xr, twW q xt w1 h0 y0 r0 fc, sW q h0 h1 h2 h3 h4 h5 f1 f2 f3 f4 f5 (nI n), aW q xa a1 a2 a3 u1 u2 u3] ∧ r = x_ifw T pr n f) := by
  refine xMi_of (cc := cX7_ifWind) (maxL := 2) (rt := .int) (by decide) rfl (Nat.le_of_ble_eq_true rfl) (fun _ _ _ => rfl) ?_
  intro p9 e9 s9 m9 a9 below meth c9 A9 Z9 ls H locs F X hl hret
  have hx := F.1.1
  have hb := F.1.2.1
  have mw_0 : Cond.initialized RX7 ∈ wsX7_ifWind := by decide +kernel
  have hl : lv_has ls 2 [(0, .ref x0), (1, .int f)] := hl
  refine lv_iload_n hx hb dX7_ifWind_0 rfl (lv_at hl 1 rfl) ?_
  refine x_cSi F X (gc := []) (gr := [xoW q x0 xt xa xh xs xf xp xd xr, twW q xt w1 h0 y0 r0 fc, sW q h0 h1 h2 h3 h4 h5 f1 f2 f3 f4 f5 (nI n), aW q xa a1 a2 a3 t1 t2 t3]) (xp_idx (n := 4) [0, 1, 2, 3] (by decide +kernel) rfl rfl) (c_X7_isForce l D q f ) (va_cwS 1 F.1.2.2.2.2 gX7_ifWind_X7_isForce rfl rfl rfl (by decide +kernel) ⟨Nat.le_of_ble_eq_true rfl, Nat.le_of_ble_eq_true rfl⟩) rfl rfl hl.1 ⟨Nat.le_of_ble_eq_true rfl, Nat.le_of_ble_eq_true rfl⟩ (Nat.le_of_ble_eq_true rfl) dX7_ifWind_1 (fun r_1 g1 H locs hp X => ?_)
  obtain ⟨rfl, hz⟩ := hp
  have X : xS D A9 s9 [xoW q x0 xt xa xh xs xf xp xd xr, twW q xt w1 h0 y0 r0 fc, sW q h0 h1 h2 h3 h4 h5 f1 f2 f3 f4 f5 (nI n), aW q xa a1 a2 a3 t1 t2 t3] H locs := X
  rcases hz with ⟨rfl, b_1⟩ | ⟨rfl, b_1⟩
  · refine lv_if_eq (tgt := 15) hx hb dX7_ifWind_4 (by decide) (fun h => absurd h (by decide)) (fun _ => ?_)
    refine lv_aload_n hx hb dX7_ifWind_7 rfl (lv_at hl 0 rfl) ?_
    refine lv_iload_n hx hb dX7_ifWind_8 rfl (lv_at hl 1 rfl) ?_
    refine x_cVi F X (gc := [xoW q x0 xt xa xh xs xf xp xd xr, twW q xt w1 h0 y0 r0 fc, sW q h0 h1 h2 h3 h4 h5 f1 f2 f3 f4 f5 (nI n), aW q xa a1 a2 a3 t1 t2 t3]) (gr := []) (xp_idx (n := 4) [0, 1, 2, 3] (by decide +kernel) rfl rfl) (c_X7_hatsBy l D q x0 xt xa xh xs xf xp xd xr w1 y0 h0 h1 h2 h3 h4 h5 r0 f1 f2 f3 f4 f5 fc n T pr a1 a2 a3 t1 t2 t3 f (by first | assumption | omega) (by first | assumption | omega) (by first | assumption | omega) (by first | assumption | omega)) (cwV 1 F.1.2.2.2.2 gX7_ifWind_X7_hatsBy rfl rfl rfl (by decide +kernel) ⟨Nat.le_of_ble_eq_true rfl, Nat.le_of_ble_eq_true rfl⟩) rfl rfl (r0 := 0) (ci := 7) (T := TX7) (N := 8) rfl rfl hl.1 ⟨Nat.le_of_ble_eq_true rfl, Nat.le_of_ble_eq_true rfl⟩ (Nat.le_of_ble_eq_true rfl) dX7_ifWind_9 (fun r_9 g1 H locs hp X => ?_)
    obtain ⟨u1_9, u2_9, u3_9, rfl, rfl⟩ := hp
    have X : xS D A9 s9 [xoW q x0 xt xa xh xs xf xp xd xr, twW q xt w1 h0 y0 r0 fc, sW q h0 h1 h2 h3 h4 h5 f1 f2 f3 f4 f5 (nI n), aW q xa a1 a2 a3 u1_9 u2_9 u3_9] H locs := X
    refine lv_goto (tgt := 17) hx hb dX7_ifWind_12 (by decide) ?_
    exact hret _ _ _ _ _ _ (by exact ⟨_, _, _, rfl, (if_pos ((x_rng (a := 0) (b := 200) (by omega) (by omega)).mpr (b_1.imp fun k z => ⟨Nat.zero_le k, z⟩))).symm⟩) X dX7_ifWind_17
  · refine lv_if_eq (tgt := 15) hx hb dX7_ifWind_4 (by decide) (fun _ => ?_) (fun h => absurd (by decide) h)
    refine lv_bipush (v := (-2)) hx hb dX7_ifWind_15 (by decide) ?_
    exact hret _ _ _ _ _ _ (by exact ⟨_, _, _, rfl, (if_neg (fun h => b_1 (((x_rng (a := 0) (b := 200) (by omega) (by omega)).mp h).imp fun k z => ⟨z.2.1, z.2.2⟩))).symm⟩) X dX7_ifWind_17

set_option maxHeartbeats 1000000 in
set_option maxRecDepth 100000 in
theorem c_X7_windFor (l : Launch) (D : va_G) (q : xQ) (x0 : Nat) (xt : Nat) (xa : Nat) (xh : Nat) (xs : Nat) (xf : Nat) (xp : Nat) (xd : Nat) (xr : Nat) (w1 : Nat) (y0 : Nat) (h0 : Nat) (h1 : Nat) (h2 : Nat) (h3 : Nat) (h4 : Nat) (h5 : Nat) (r0 : Nat → Int32) (f1 : Nat → Int32) (f2 : Nat → Int32) (f3 : Nat → Int32) (f4 : Nat → Int32) (f5 : Nat → Int32) (fc : Int32) (n : Nat) (T : Nat → Int32) (pr : Nat → Nat) (a1 : Nat) (a2 : Nat) (a3 : Nat) (t1 : Nat → Int32) (t2 : Nat → Int32) (t3 : Nat → Int32) (h : Int32) (hok : x_ok T n pr) (hsr : xSR T n f1 f2 f3 f4 f5) (hqr : ∀ i, i < 4 → r0 i = T i) (hfc : fc = T 4) : xMi l yX7_windFor wsX7_windFor { frames := 3, cells := 0, slots := 0, locals := 69 } D q [.ref x0, .int h] [xoW q x0 xt xa xh xs xf xp xd xr, twW q xt w1 h0 y0 r0 fc, sW q h0 h1 h2 h3 h4 h5 f1 f2 f3 f4 f5 (nI n), aW q xa a1 a2 a3 t1 t2 t3] (fun r gw => ∃ (u1 : Nat → Int32), ∃ (u2 : Nat → Int32), ∃ (u3 : Nat → Int32), gw = [xoW q x0 xt xa xh xs xf xp xd xr, twW q xt w1 h0 y0 r0 fc, sW q h0 h1 h2 h3 h4 h5 f1 f2 f3 f4 f5 (nI n), aW q xa a1 a2 a3 u1 u2 u3] ∧ r = x_wf T pr n h) := by
  refine xMi_of (cc := cX7_windFor) (maxL := 3) (rt := .int) (by decide) rfl (Nat.le_of_ble_eq_true rfl) (fun _ _ _ => rfl) ?_
  intro p9 e9 s9 m9 a9 below meth c9 A9 Z9 ls H locs F X hl hret
  have hx := F.1.1
  have hb := F.1.2.1
  have in_X7 : ∀ w ∈ wsX70, w ∈ wsX7_windFor := by decide +kernel
  have in_X6 : ∀ w ∈ wsX60, w ∈ wsX7_windFor := by decide +kernel
  have mw_0 : Cond.initialized RX7 ∈ wsX7_windFor := by decide +kernel
  have mw_1 : Cond.fieldLink RX7 19 "HatWinds" "air" "LHatWinds$Air;" ∈ wsX7_windFor := by decide +kernel
  have mw_2 : Cond.fieldLink RX7 10 "HatWinds" "town" "LHatWinds$Town;" ∈ wsX7_windFor := by decide +kernel
  have mw_3 : Cond.fieldLink RX7 84 "HatWinds$Town" "streets" "LHatWinds$Streets;" ∈ wsX7_windFor := by decide +kernel
  have mw_4 : Cond.initialized RX0 ∈ wsX7_windFor := by decide +kernel
  have hl : lv_has ls 3 [(0, .ref x0), (1, .int h)] := hl
  have hok0 := hok
  obtain ⟨hn, hn1, hs5, hs33, hpt, hwd, hcl, hsm, hpe, hst, hle, hhr, hcn⟩ := hok0
  have hpr := hsr.prs hok
  have h60 := hsr.1
  refine lv_iload_n hx hb dX7_windFor_0 rfl (lv_at hl 1 rfl) ?_
  refine lv_iconst (v := 1) hx hb dX7_windFor_1 (by decide) ?_
  refine lv_sipush (v := 999) hx hb dX7_windFor_2 (by decide) ?_
  refine x_cSi F X (gc := []) (gr := [xoW q x0 xt xa xh xs xf xp xd xr, twW q xt w1 h0 y0 r0 fc, sW q h0 h1 h2 h3 h4 h5 f1 f2 f3 f4 f5 (nI n), aW q xa a1 a2 a3 t1 t2 t3]) (xp_idx (n := 4) [0, 1, 2, 3] (by decide +kernel) rfl rfl) (c_X7_isWithin l D q h 1 999 ) (va_cwS 3 F.1.2.2.2.2 gX7_windFor_X7_isWithin rfl rfl rfl (by decide +kernel) ⟨Nat.le_of_ble_eq_true rfl, Nat.le_of_ble_eq_true rfl⟩) rfl rfl hl.1 ⟨Nat.le_of_ble_eq_true rfl, Nat.le_of_ble_eq_true rfl⟩ (Nat.le_of_ble_eq_true rfl) dX7_windFor_5 (fun r_5 g1 H locs hp X => ?_)
  obtain ⟨rfl, hz⟩ := hp
  have X : xS D A9 s9 [xoW q x0 xt xa xh xs xf xp xd xr, twW q xt w1 h0 y0 r0 fc, sW q h0 h1 h2 h3 h4 h5 f1 f2 f3 f4 f5 (nI n), aW q xa a1 a2 a3 t1 t2 t3] H locs := X
  rcases hz with ⟨rfl, b_5⟩ | ⟨rfl, b_5⟩
  · refine lv_if_ne (tgt := 14) hx hb dX7_windFor_8 (by decide) (fun _ => ?_) (fun h => absurd h (by decide))
    refine lv_aload_n hx hb dX7_windFor_14 rfl (lv_at hl 0 rfl) ?_
    refine x_get F X (v := .ref xa) (C := RX7) (T := TX7) (N := 8) (ci := 7) in_X7 0 rfl rfl 1 (by decide) mw_1 rfl dX7_windFor_15 ?_
    refine lv_aload_n hx hb dX7_windFor_18 rfl (lv_at hl 0 rfl) ?_
    refine x_get F X (v := .ref xt) (C := RX7) (T := TX7) (N := 8) (ci := 7) in_X7 0 rfl rfl 0 (by decide) mw_2 rfl dX7_windFor_19 ?_
    refine x_get F X (v := .ref h0) (C := RX6) (T := TX6) (N := 4) (ci := 6) in_X6 1 rfl rfl 1 (by decide) mw_3 rfl dX7_windFor_22 ?_
    refine lv_bipush (v := (-6)) hx hb dX7_windFor_25 (by decide) ?_
    refine x_cVv F X (gc := [aW q xa a1 a2 a3 t1 t2 t3, sW q h0 h1 h2 h3 h4 h5 f1 f2 f3 f4 f5 (nI n)]) (gr := [xoW q x0 xt xa xh xs xf xp xd xr, twW q xt w1 h0 y0 r0 fc]) (xp_idx (n := 4) [3, 2, 0, 1] (by decide +kernel) rfl rfl) (c_X0_part l D q xa a1 a2 a3 t1 t2 t3 h0 h1 h2 h3 h4 h5 n f1 f2 f3 f4 f5 (-6) (by first | assumption | omega)) (cwV 2 F.1.2.2.2.2 gX7_windFor_X0_part rfl rfl rfl (by decide +kernel) ⟨Nat.le_of_ble_eq_true rfl, Nat.le_of_ble_eq_true rfl⟩) rfl rfl (r0 := 0) (ci := 0) (T := TX0) (N := 3) rfl rfl hl.1 ⟨Nat.le_of_ble_eq_true rfl, Nat.le_of_ble_eq_true rfl⟩ (Nat.le_of_ble_eq_true rfl) dX7_windFor_27 (fun g1 H locs hp X => ?_)
    obtain ⟨w1_27, w2_27, rfl, hw1_27, hw2_27⟩ := hp
    have X := X.perm (gs' := [xoW q x0 xt xa xh xs xf xp xd xr, twW q xt w1 h0 y0 r0 fc, sW q h0 h1 h2 h3 h4 h5 f1 f2 f3 f4 f5 (nI n), aW q xa a1 a2 a3 w1_27 w2_27 t3]) (xp_idx (n := 4) [2, 3, 1, 0] (by decide +kernel) rfl rfl)
    refine lv_iconst (v := 0) hx hb dX7_windFor_30 (by decide) ?_
    refine lv_istore_n (lv' := [(2, .int 0), (0, .ref x0), (1, .int h)]) hx hb dX7_windFor_31 rfl hl (by decide) rfl (fun ls hl => ?_)
    have L_32 : ∀ (nn : Nat) (i : Nat) (w : Nat → Int32) (H : Heap) (locs : List Loc) (ls : Array Slot), xS D A9 s9 [xoW q x0 xt xa xh xs xf xp xd xr, twW q xt w1 h0 y0 r0 fc, sW q h0 h1 h2 h3 h4 h5 f1 f2 f3 f4 f5 (nI n), aW q xa a1 a2 a3 w1_27 w2_27 w] H locs → lv_has ls 3 [(2, .int (nI i)), (0, .ref x0), (1, .int h)] → (201 < i + nn) → (i ≤ 201) → (x_fnd (x_hb T pr n) h 0 201 = x_fnd (x_hb T pr n) h i (201 - i)) → W p9 l e9 { frames := 3, cells := 0, slots := 0, locals := 69 } s9 m9 a9 below meth c9 H locs 0 0 Z9 (F0 m9 32 ls []) := by
      intro nn
      induction nn with
      | zero => intro i w H locs ls X hl hfuel hi hw; exact absurd hfuel (by omega)
      | succ nn ih_32 =>
        intro i w H locs ls X hl hfuel hi hw
        refine lv_iload_n hx hb dX7_windFor_32 rfl (lv_at hl 0 rfl) ?_
        refine lv_sipush (v := 200) hx hb dX7_windFor_33 (by decide) ?_
        refine lv_icmp_gt (tgt := 77) hx hb dX7_windFor_36 (by decide) (fun c_36 => ?_) (fun c_36 => ?_)
        · have c_36 : 200 < i := (nI_ltI (a := 200) (b := i) (by omega) (by omega)).mp c_36
          refine lv_bipush (v := (-6)) hx hb dX7_windFor_77 (by decide) ?_
          exact hret _ _ _ _ _ _ (by exact ⟨_, _, _, rfl, by unfold x_wf; rw [if_pos b_5, hw, show 201 - i = 0 by omega]; rfl⟩) X dX7_windFor_79
        · have c_36 : i ≤ 200 := Nat.not_lt.mp (fun h => c_36 ((nI_ltI (a := 200) (b := i) (by omega) (by omega)).mpr h))
          refine lv_aload_n hx hb dX7_windFor_39 rfl (lv_at hl 1 rfl) ?_
          refine x_get F X (v := .ref xa) (C := RX7) (T := TX7) (N := 8) (ci := 7) in_X7 0 rfl rfl 1 (by decide) mw_1 rfl dX7_windFor_40 ?_
          refine lv_aload_n hx hb dX7_windFor_43 rfl (lv_at hl 1 rfl) ?_
          refine x_get F X (v := .ref xt) (C := RX7) (T := TX7) (N := 8) (ci := 7) in_X7 0 rfl rfl 0 (by decide) mw_2 rfl dX7_windFor_44 ?_
          refine x_get F X (v := .ref h0) (C := RX6) (T := TX6) (N := 4) (ci := 6) in_X6 1 rfl rfl 1 (by decide) mw_3 rfl dX7_windFor_47 ?_
          refine lv_iload_n hx hb dX7_windFor_50 rfl (lv_at hl 0 rfl) ?_
          refine x_cVv F X (gc := [aW q xa a1 a2 a3 w1_27 w2_27 w, sW q h0 h1 h2 h3 h4 h5 f1 f2 f3 f4 f5 (nI n)]) (gr := [xoW q x0 xt xa xh xs xf xp xd xr, twW q xt w1 h0 y0 r0 fc]) (xp_idx (n := 4) [3, 2, 0, 1] (by decide +kernel) rfl rfl) (c_X0_blow l D q xa a1 a2 a3 w1_27 w2_27 w h0 h1 h2 h3 h4 h5 n f1 f2 f3 f4 f5 (nI i) pr (by first | assumption | omega) (by first | assumption | omega) (by first | assumption | omega)) (cwV 2 F.1.2.2.2.2 gX7_windFor_X0_blow rfl rfl rfl (by decide +kernel) ⟨Nat.le_of_ble_eq_true rfl, Nat.le_of_ble_eq_true rfl⟩) rfl rfl (r0 := 0) (ci := 0) (T := TX0) (N := 3) rfl rfl hl.1 ⟨Nat.le_of_ble_eq_true rfl, Nat.le_of_ble_eq_true rfl⟩ (Nat.le_of_ble_eq_true rfl) dX7_windFor_51 (fun g1 H locs hp X => ?_)
          obtain ⟨w9, rfl, hw9⟩ := hp
          have X := X.perm (gs' := [xoW q x0 xt xa xh xs xf xp xd xr, twW q xt w1 h0 y0 r0 fc, sW q h0 h1 h2 h3 h4 h5 f1 f2 f3 f4 f5 (nI n), aW q xa a1 a2 a3 w1_27 w2_27 w9]) (xp_idx (n := 4) [2, 3, 1, 0] (by decide +kernel) rfl rfl)
          have hF : ∀ k, k < n → w9 k = x_FT T pr n (-6) (nI i) k := fun k hk => (hw9 k hk).trans (hsr.P hok hw1_27 hw2_27 hk)
          refine lv_aload_n hx hb dX7_windFor_54 rfl (lv_at hl 1 rfl) ?_
          refine x_get F X (v := .ref xa) (C := RX7) (T := TX7) (N := 8) (ci := 7) in_X7 0 rfl rfl 1 (by decide) mw_1 rfl dX7_windFor_55 ?_
          refine lv_aload_n hx hb dX7_windFor_58 rfl (lv_at hl 1 rfl) ?_
          refine x_get F X (v := .ref xt) (C := RX7) (T := TX7) (N := 8) (ci := 7) in_X7 0 rfl rfl 0 (by decide) mw_2 rfl dX7_windFor_59 ?_
          refine x_cVi F X (gc := [aW q xa a1 a2 a3 w1_27 w2_27 w9, twW q xt w1 h0 y0 r0 fc, sW q h0 h1 h2 h3 h4 h5 f1 f2 f3 f4 f5 (nI n)]) (gr := [xoW q x0 xt xa xh xs xf xp xd xr]) (xp_idx (n := 4) [3, 1, 2, 0] (by decide +kernel) rfl rfl) (c_X0_hatsLost l D q xa a1 a2 a3 w1_27 w2_27 w9 xt w1 y0 r0 fc h0 h1 h2 h3 h4 h5 n f1 f2 f3 f4 f5 (by first | assumption | omega)) (cwV 1 F.1.2.2.2.2 gX7_windFor_X0_hatsLost rfl rfl rfl (by decide +kernel) ⟨Nat.le_of_ble_eq_true rfl, Nat.le_of_ble_eq_true rfl⟩) rfl rfl (r0 := 0) (ci := 0) (T := TX0) (N := 3) rfl rfl hl.1 ⟨Nat.le_of_ble_eq_true rfl, Nat.le_of_ble_eq_true rfl⟩ (Nat.le_of_ble_eq_true rfl) dX7_windFor_62 (fun r_62 g1 H locs hp X => ?_)
          obtain ⟨rfl, rfl⟩ := hp
          have X := X.perm (gs' := [xoW q x0 xt xa xh xs xf xp xd xr, twW q xt w1 h0 y0 r0 fc, sW q h0 h1 h2 h3 h4 h5 f1 f2 f3 f4 f5 (nI n), aW q xa a1 a2 a3 w1_27 w2_27 w9]) (xp_idx (n := 4) [3, 1, 2, 0] (by decide +kernel) rfl rfl)
          have hh := hsr.hb hqr hF
          refine lv_iload_n hx hb dX7_windFor_65 rfl (lv_at hl 2 rfl) ?_
          refine lv_icmp_lt (tgt := 71) hx hb dX7_windFor_66 (by decide) (fun c_66 => ?_) (fun c_66 => ?_)
          · refine lv_iinc (v := (nI (i + 1))) (lv' := [(2, .int (nI (i + 1))), (0, .ref x0), (1, .int h)]) hx hb dX7_windFor_71 hl (k := 0) rfl (nI_add i 1) (by decide) rfl (fun ls hl => ?_)
            refine lv_goto (tgt := 32) hx hb dX7_windFor_74 (by decide) ?_
            exact ih_32 (i + 1) _ _ _ _ X (lv_sub hl [0, 1, 2] rfl) (by omega) (by omega) (by rw [hw, show 201 - i = 201 - (i + 1) + 1 by omega, x_fnd_no (by rw [← hh]; exact Int32.not_le.mpr c_66)])
          · refine lv_iload_n hx hb dX7_windFor_69 rfl (lv_at hl 0 rfl) ?_
            exact hret _ _ _ _ _ _ (by exact ⟨_, _, _, rfl, by unfold x_wf; rw [if_pos b_5, hw, show 201 - i = 201 - (i + 1) + 1 by omega, x_fnd_yes (by rw [← hh]; exact Int32.not_lt.mp c_66)]⟩) X dX7_windFor_70
    exact L_32 (202) 0 _ _ _ _ X (lv_sub hl [0, 1, 2] rfl) (by omega) (by omega) (by rfl)
  · refine lv_if_ne (tgt := 14) hx hb dX7_windFor_8 (by decide) (fun h => absurd (by decide) h) (fun _ => ?_)
    refine lv_bipush (v := (-2)) hx hb dX7_windFor_11 (by decide) ?_
    exact hret _ _ _ _ _ _ (by exact ⟨_, _, _, rfl, (if_neg b_5).symm⟩) X dX7_windFor_13

set_option maxHeartbeats 1000000 in
set_option maxRecDepth 100000 in
theorem c_X7_windOfFlag (l : Launch) (D : va_G) (q : xQ) (x0 : Nat) (xt : Nat) (xa : Nat) (xh : Nat) (xs : Nat) (xf : Nat) (xp : Nat) (xd : Nat) (xr : Nat) (w1 : Nat) (y0 : Nat) (h0 : Nat) (h1 : Nat) (h2 : Nat) (h3 : Nat) (h4 : Nat) (h5 : Nat) (r0 : Nat → Int32) (f1 : Nat → Int32) (f2 : Nat → Int32) (f3 : Nat → Int32) (f4 : Nat → Int32) (f5 : Nat → Int32) (fc : Int32) (n : Nat) (T : Nat → Int32) (pr : Nat → Nat) (a1 : Nat) (a2 : Nat) (a3 : Nat) (t1 : Nat → Int32) (t2 : Nat → Int32) (t3 : Nat → Int32) (st : Int32) (h : Int32) (hok : x_ok T n pr) (hsr : xSR T n f1 f2 f3 f4 f5) (hqr : ∀ i, i < 4 → r0 i = T i) (hfc : fc = T 4) : xMi l yX7_windOfFlag wsX7_windOfFlag { frames := 3, cells := 0, slots := 0, locals := 69 } D q [.ref x0, .int st, .int h] [xoW q x0 xt xa xh xs xf xp xd xr, twW q xt w1 h0 y0 r0 fc, sW q h0 h1 h2 h3 h4 h5 f1 f2 f3 f4 f5 (nI n), aW q xa a1 a2 a3 t1 t2 t3] (fun r gw => ∃ (u1 : Nat → Int32), ∃ (u2 : Nat → Int32), ∃ (u3 : Nat → Int32), gw = [xoW q x0 xt xa xh xs xf xp xd xr, twW q xt w1 h0 y0 r0 fc, sW q h0 h1 h2 h3 h4 h5 f1 f2 f3 f4 f5 (nI n), aW q xa a1 a2 a3 u1 u2 u3] ∧ r = x_st n st (x_wofk T pr n h)) := by
  refine xMi_of (cc := cX7_windOfFlag) (maxL := 4) (rt := .int) (by decide) rfl (Nat.le_of_ble_eq_true rfl) (fun _ _ _ => rfl) ?_
  intro p9 e9 s9 m9 a9 below meth c9 A9 Z9 ls H locs F X hl hret
  have hx := F.1.1
  have hb := F.1.2.1
  have in_X7 : ∀ w ∈ wsX70, w ∈ wsX7_windOfFlag := by decide +kernel
  have in_X6 : ∀ w ∈ wsX60, w ∈ wsX7_windOfFlag := by decide +kernel
  have in_X5 : ∀ w ∈ wsX50, w ∈ wsX7_windOfFlag := by decide +kernel
  have mw_0 : Cond.fieldLink RX7 10 "HatWinds" "town" "LHatWinds$Town;" ∈ wsX7_windOfFlag := by decide +kernel
  have mw_1 : Cond.fieldLink RX7 84 "HatWinds$Town" "streets" "LHatWinds$Streets;" ∈ wsX7_windOfFlag := by decide +kernel
  have mw_2 : Cond.initialized RX5 ∈ wsX7_windOfFlag := by decide +kernel
  have mw_3 : Cond.initialized RX7 ∈ wsX7_windOfFlag := by decide +kernel
  have mw_4 : Cond.fieldLink RX7 171 "HatWinds$Streets" "cloth" "[I" ∈ wsX7_windOfFlag := by decide +kernel
  have mw_5 : Cond.fieldLink RX7 19 "HatWinds" "air" "LHatWinds$Air;" ∈ wsX7_windOfFlag := by decide +kernel
  have mw_6 : Cond.initialized RX0 ∈ wsX7_windOfFlag := by decide +kernel
  have hl : lv_has ls 4 [(0, .ref x0), (1, .int st), (2, .int h)] := hl
  have hok0 := hok
  obtain ⟨hn, hn1, hs5, hs33, hpt, hwd, hcl, hsm, hpe, hst, hle, hhr, hcn⟩ := hok0
  have hpr := hsr.prs hok
  have h60 := hsr.1
  refine lv_aload_n hx hb dX7_windOfFlag_0 rfl (lv_at hl 0 rfl) ?_
  refine x_get F X (v := .ref xt) (C := RX7) (T := TX7) (N := 8) (ci := 7) in_X7 0 rfl rfl 0 (by decide) mw_0 rfl dX7_windOfFlag_1 ?_
  refine x_get F X (v := .ref h0) (C := RX6) (T := TX6) (N := 4) (ci := 6) in_X6 1 rfl rfl 1 (by decide) mw_1 rfl dX7_windOfFlag_4 ?_
  refine lv_iload_n hx hb dX7_windOfFlag_7 rfl (lv_at hl 1 rfl) ?_
  refine x_cVi F X (gc := [sW q h0 h1 h2 h3 h4 h5 f1 f2 f3 f4 f5 (nI n)]) (gr := [xoW q x0 xt xa xh xs xf xp xd xr, twW q xt w1 h0 y0 r0 fc, aW q xa a1 a2 a3 t1 t2 t3]) (xp_idx (n := 4) [2, 0, 1, 3] (by decide +kernel) rfl rfl) (c_X5_has l D q h0 h1 h2 h3 h4 h5 n f1 f2 f3 f4 f5 st (by first | assumption | omega)) (cwV 1 F.1.2.2.2.2 gX7_windOfFlag_X5_has rfl rfl rfl (by decide +kernel) ⟨Nat.le_of_ble_eq_true rfl, Nat.le_of_ble_eq_true rfl⟩) rfl rfl (r0 := 0) (ci := 5) (T := TX5) (N := 6) rfl rfl hl.1 ⟨Nat.le_of_ble_eq_true rfl, Nat.le_of_ble_eq_true rfl⟩ (Nat.le_of_ble_eq_true rfl) dX7_windOfFlag_8 (fun r_8 g1 H locs hp X => ?_)
  obtain ⟨rfl, hz⟩ := hp
  have X := X.perm (gs' := [xoW q x0 xt xa xh xs xf xp xd xr, twW q xt w1 h0 y0 r0 fc, sW q h0 h1 h2 h3 h4 h5 f1 f2 f3 f4 f5 (nI n), aW q xa a1 a2 a3 t1 t2 t3]) (xp_idx (n := 4) [1, 2, 0, 3] (by decide +kernel) rfl rfl)
  rcases hz with ⟨rfl, b_8⟩ | ⟨rfl, b_8⟩
  · refine lv_if_ne (tgt := 16) hx hb dX7_windOfFlag_11 (by decide) (fun _ => ?_) (fun h => absurd h (by decide))
    obtain ⟨k, hk, ek⟩ := b_8
    refine lv_iload_n hx hb dX7_windOfFlag_16 rfl (lv_at hl 2 rfl) ?_
    refine lv_iconst (v := 1) hx hb dX7_windOfFlag_17 (by decide) ?_
    refine lv_bipush (v := 12) hx hb dX7_windOfFlag_18 (by decide) ?_
    refine x_cSi F X (gc := []) (gr := [xoW q x0 xt xa xh xs xf xp xd xr, twW q xt w1 h0 y0 r0 fc, sW q h0 h1 h2 h3 h4 h5 f1 f2 f3 f4 f5 (nI n), aW q xa a1 a2 a3 t1 t2 t3]) (xp_idx (n := 4) [0, 1, 2, 3] (by decide +kernel) rfl rfl) (c_X7_isWithin l D q h 1 12 ) (va_cwS 3 F.1.2.2.2.2 gX7_windOfFlag_X7_isWithin rfl rfl rfl (by decide +kernel) ⟨Nat.le_of_ble_eq_true rfl, Nat.le_of_ble_eq_true rfl⟩) rfl rfl hl.1 ⟨Nat.le_of_ble_eq_true rfl, Nat.le_of_ble_eq_true rfl⟩ (Nat.le_of_ble_eq_true rfl) dX7_windOfFlag_20 (fun r_20 g1 H locs hp X => ?_)
    obtain ⟨rfl, hz⟩ := hp
    have X : xS D A9 s9 [xoW q x0 xt xa xh xs xf xp xd xr, twW q xt w1 h0 y0 r0 fc, sW q h0 h1 h2 h3 h4 h5 f1 f2 f3 f4 f5 (nI n), aW q xa a1 a2 a3 t1 t2 t3] H locs := X
    rcases hz with ⟨rfl, b_20⟩ | ⟨rfl, b_20⟩
    · refine lv_if_ne (tgt := 29) hx hb dX7_windOfFlag_23 (by decide) (fun _ => ?_) (fun h => absurd h (by decide))
      refine lv_aload_n hx hb dX7_windOfFlag_29 rfl (lv_at hl 0 rfl) ?_
      refine x_get F X (v := .ref xt) (C := RX7) (T := TX7) (N := 8) (ci := 7) in_X7 0 rfl rfl 0 (by decide) mw_0 rfl dX7_windOfFlag_30 ?_
      refine x_get F X (v := .ref h0) (C := RX6) (T := TX6) (N := 4) (ci := 6) in_X6 1 rfl rfl 1 (by decide) mw_1 rfl dX7_windOfFlag_33 ?_
      refine x_get F X (v := .ref h3) (C := RX5) (T := TX5) (N := 6) (ci := 5) in_X5 3 rfl rfl 2 (by decide) mw_4 rfl dX7_windOfFlag_36 ?_
      refine lv_iload_n hx hb dX7_windOfFlag_39 rfl (lv_at hl 1 rfl) ?_
      refine x_i (y := (nI k)) (ek) ?_
      refine x_iald F X (v := (f3 k)) (n := 20) (f := f3) 6 rfl (vp_in_nI (by omega) (by omega)) (x_cl (by omega)) dX7_windOfFlag_40 ?_
      refine lv_if_ne (tgt := 47) hx hb dX7_windOfFlag_41 (by decide) (fun c_41 => ?_) (fun c_41 => ?_)
      · refine lv_aload_n hx hb dX7_windOfFlag_47 rfl (lv_at hl 0 rfl) ?_
        refine x_get F X (v := .ref xa) (C := RX7) (T := TX7) (N := 8) (ci := 7) in_X7 0 rfl rfl 1 (by decide) mw_5 rfl dX7_windOfFlag_48 ?_
        refine lv_aload_n hx hb dX7_windOfFlag_51 rfl (lv_at hl 0 rfl) ?_
        refine x_get F X (v := .ref xt) (C := RX7) (T := TX7) (N := 8) (ci := 7) in_X7 0 rfl rfl 0 (by decide) mw_0 rfl dX7_windOfFlag_52 ?_
        refine x_get F X (v := .ref h0) (C := RX6) (T := TX6) (N := 4) (ci := 6) in_X6 1 rfl rfl 1 (by decide) mw_1 rfl dX7_windOfFlag_55 ?_
        refine lv_bipush (v := (-6)) hx hb dX7_windOfFlag_58 (by decide) ?_
        refine x_cVv F X (gc := [aW q xa a1 a2 a3 t1 t2 t3, sW q h0 h1 h2 h3 h4 h5 f1 f2 f3 f4 f5 (nI n)]) (gr := [xoW q x0 xt xa xh xs xf xp xd xr, twW q xt w1 h0 y0 r0 fc]) (xp_idx (n := 4) [3, 2, 0, 1] (by decide +kernel) rfl rfl) (c_X0_part l D q xa a1 a2 a3 t1 t2 t3 h0 h1 h2 h3 h4 h5 n f1 f2 f3 f4 f5 (-6) (by first | assumption | omega)) (cwV 2 F.1.2.2.2.2 gX7_windOfFlag_X0_part rfl rfl rfl (by decide +kernel) ⟨Nat.le_of_ble_eq_true rfl, Nat.le_of_ble_eq_true rfl⟩) rfl rfl (r0 := 0) (ci := 0) (T := TX0) (N := 3) rfl rfl hl.1 ⟨Nat.le_of_ble_eq_true rfl, Nat.le_of_ble_eq_true rfl⟩ (Nat.le_of_ble_eq_true rfl) dX7_windOfFlag_60 (fun g1 H locs hp X => ?_)
        obtain ⟨w1_60, w2_60, rfl, hw1_60, hw2_60⟩ := hp
        have X := X.perm (gs' := [xoW q x0 xt xa xh xs xf xp xd xr, twW q xt w1 h0 y0 r0 fc, sW q h0 h1 h2 h3 h4 h5 f1 f2 f3 f4 f5 (nI n), aW q xa a1 a2 a3 w1_60 w2_60 t3]) (xp_idx (n := 4) [2, 3, 1, 0] (by decide +kernel) rfl rfl)
        refine lv_iconst (v := 0) hx hb dX7_windOfFlag_63 (by decide) ?_
        refine lv_istore_n (lv' := [(3, .int 0), (0, .ref x0), (1, .int st), (2, .int h)]) hx hb dX7_windOfFlag_64 rfl hl (by decide) rfl (fun ls hl => ?_)
        have L_65 : ∀ (nn : Nat) (i : Nat) (w : Nat → Int32) (H : Heap) (locs : List Loc) (ls : Array Slot), xS D A9 s9 [xoW q x0 xt xa xh xs xf xp xd xr, twW q xt w1 h0 y0 r0 fc, sW q h0 h1 h2 h3 h4 h5 f1 f2 f3 f4 f5 (nI n), aW q xa a1 a2 a3 w1_60 w2_60 w] H locs → lv_has ls 4 [(3, .int (nI i)), (0, .ref x0), (1, .int st), (2, .int h)] → (201 < i + nn) → (i ≤ 201) → (x_fnd (fun f => x_fst T (x_FT T pr n (-6) f) k) h 0 201 = x_fnd (fun f => x_fst T (x_FT T pr n (-6) f) k) h i (201 - i)) → W p9 l e9 { frames := 3, cells := 0, slots := 0, locals := 69 } s9 m9 a9 below meth c9 H locs 0 0 Z9 (F0 m9 65 ls []) := by
          intro nn
          induction nn with
          | zero => intro i w H locs ls X hl hfuel hi hw; exact absurd hfuel (by omega)
          | succ nn ih_65 =>
            intro i w H locs ls X hl hfuel hi hw
            refine lv_iload_n hx hb dX7_windOfFlag_65 rfl (lv_at hl 0 rfl) ?_
            refine lv_sipush (v := 200) hx hb dX7_windOfFlag_66 (by decide) ?_
            refine lv_icmp_gt (tgt := 111) hx hb dX7_windOfFlag_69 (by decide) (fun c_69 => ?_) (fun c_69 => ?_)
            · have c_69 : 200 < i := (nI_ltI (a := 200) (b := i) (by omega) (by omega)).mp c_69
              refine lv_bipush (v := (-6)) hx hb dX7_windOfFlag_111 (by decide) ?_
              exact hret _ _ _ _ _ _ (by exact ⟨_, _, _, rfl, by rw [ek, x_st_in (by omega) hk]; unfold x_wofk; rw [if_pos b_20, if_neg (show ¬ x_tC T k = 0 from fun z => c_41 ((hsr.2.2 k hk).2.1.trans z)), hw, show 201 - i = 0 by omega]; rfl⟩) X dX7_windOfFlag_113
            · have c_69 : i ≤ 200 := Nat.not_lt.mp (fun h => c_69 ((nI_ltI (a := 200) (b := i) (by omega) (by omega)).mpr h))
              refine lv_aload_n hx hb dX7_windOfFlag_72 rfl (lv_at hl 1 rfl) ?_
              refine x_get F X (v := .ref xa) (C := RX7) (T := TX7) (N := 8) (ci := 7) in_X7 0 rfl rfl 1 (by decide) mw_5 rfl dX7_windOfFlag_73 ?_
              refine lv_aload_n hx hb dX7_windOfFlag_76 rfl (lv_at hl 1 rfl) ?_
              refine x_get F X (v := .ref xt) (C := RX7) (T := TX7) (N := 8) (ci := 7) in_X7 0 rfl rfl 0 (by decide) mw_0 rfl dX7_windOfFlag_77 ?_
              refine x_get F X (v := .ref h0) (C := RX6) (T := TX6) (N := 4) (ci := 6) in_X6 1 rfl rfl 1 (by decide) mw_1 rfl dX7_windOfFlag_80 ?_
              refine lv_iload_n hx hb dX7_windOfFlag_83 rfl (lv_at hl 0 rfl) ?_
              refine x_cVv F X (gc := [aW q xa a1 a2 a3 w1_60 w2_60 w, sW q h0 h1 h2 h3 h4 h5 f1 f2 f3 f4 f5 (nI n)]) (gr := [xoW q x0 xt xa xh xs xf xp xd xr, twW q xt w1 h0 y0 r0 fc]) (xp_idx (n := 4) [3, 2, 0, 1] (by decide +kernel) rfl rfl) (c_X0_blow l D q xa a1 a2 a3 w1_60 w2_60 w h0 h1 h2 h3 h4 h5 n f1 f2 f3 f4 f5 (nI i) pr (by first | assumption | omega) (by first | assumption | omega) (by first | assumption | omega)) (cwV 2 F.1.2.2.2.2 gX7_windOfFlag_X0_blow rfl rfl rfl (by decide +kernel) ⟨Nat.le_of_ble_eq_true rfl, Nat.le_of_ble_eq_true rfl⟩) rfl rfl (r0 := 0) (ci := 0) (T := TX0) (N := 3) rfl rfl hl.1 ⟨Nat.le_of_ble_eq_true rfl, Nat.le_of_ble_eq_true rfl⟩ (Nat.le_of_ble_eq_true rfl) dX7_windOfFlag_84 (fun g1 H locs hp X => ?_)
              obtain ⟨w9, rfl, hw9⟩ := hp
              have X := X.perm (gs' := [xoW q x0 xt xa xh xs xf xp xd xr, twW q xt w1 h0 y0 r0 fc, sW q h0 h1 h2 h3 h4 h5 f1 f2 f3 f4 f5 (nI n), aW q xa a1 a2 a3 w1_60 w2_60 w9]) (xp_idx (n := 4) [2, 3, 1, 0] (by decide +kernel) rfl rfl)
              have hF : ∀ k, k < n → w9 k = x_FT T pr n (-6) (nI i) k := fun k hk => (hw9 k hk).trans (hsr.P hok hw1_60 hw2_60 hk)
              refine lv_aload_n hx hb dX7_windOfFlag_87 rfl (lv_at hl 1 rfl) ?_
              refine x_get F X (v := .ref xa) (C := RX7) (T := TX7) (N := 8) (ci := 7) in_X7 0 rfl rfl 1 (by decide) mw_5 rfl dX7_windOfFlag_88 ?_
              refine lv_aload_n hx hb dX7_windOfFlag_91 rfl (lv_at hl 1 rfl) ?_
              refine x_get F X (v := .ref xt) (C := RX7) (T := TX7) (N := 8) (ci := 7) in_X7 0 rfl rfl 0 (by decide) mw_0 rfl dX7_windOfFlag_92 ?_
              refine lv_iload_n hx hb dX7_windOfFlag_95 rfl (lv_at hl 2 rfl) ?_
              refine x_i (y := (nI k)) (ek) ?_
              refine x_cVi F X (gc := [aW q xa a1 a2 a3 w1_60 w2_60 w9, twW q xt w1 h0 y0 r0 fc, sW q h0 h1 h2 h3 h4 h5 f1 f2 f3 f4 f5 (nI n)]) (gr := [xoW q x0 xt xa xh xs xf xp xd xr]) (xp_idx (n := 4) [3, 1, 2, 0] (by decide +kernel) rfl rfl) (c_X0_flagSteps l D q xa a1 a2 a3 w1_60 w2_60 w9 xt w1 y0 r0 fc h0 h1 h2 h3 h4 h5 n f1 f2 f3 f4 f5 k (by first | assumption | omega)) (cwV 2 F.1.2.2.2.2 gX7_windOfFlag_X0_flagSteps rfl rfl rfl (by decide +kernel) ⟨Nat.le_of_ble_eq_true rfl, Nat.le_of_ble_eq_true rfl⟩) rfl rfl (r0 := 0) (ci := 0) (T := TX0) (N := 3) rfl rfl hl.1 ⟨Nat.le_of_ble_eq_true rfl, Nat.le_of_ble_eq_true rfl⟩ (Nat.le_of_ble_eq_true rfl) dX7_windOfFlag_96 (fun r_96 g1 H locs hp X => ?_)
              obtain ⟨rfl, rfl⟩ := hp
              have X := X.perm (gs' := [xoW q x0 xt xa xh xs xf xp xd xr, twW q xt w1 h0 y0 r0 fc, sW q h0 h1 h2 h3 h4 h5 f1 f2 f3 f4 f5 (nI n), aW q xa a1 a2 a3 w1_60 w2_60 w9]) (xp_idx (n := 4) [3, 1, 2, 0] (by decide +kernel) rfl rfl)
              have hh : (if f3 k = 0 then (-6 : Int32) else x_mn 12 (x_quo (w9 k) (r0 0 * f3 k))) = x_fst T (x_FT T pr n (-6) (nI i)) k := (hsr.fs hqr hk (hF k hk)).trans (if_neg (show ¬ x_tC T k = 0 from fun z => c_41 ((hsr.2.2 k hk).2.1.trans z)))
              refine lv_iload_n hx hb dX7_windOfFlag_99 rfl (lv_at hl 3 rfl) ?_
              refine lv_icmp_lt (tgt := 105) hx hb dX7_windOfFlag_100 (by decide) (fun c_100 => ?_) (fun c_100 => ?_)
              · refine lv_iinc (v := (nI (i + 1))) (lv' := [(3, .int (nI (i + 1))), (0, .ref x0), (1, .int st), (2, .int h)]) hx hb dX7_windOfFlag_105 hl (k := 0) rfl (nI_add i 1) (by decide) rfl (fun ls hl => ?_)
                refine lv_goto (tgt := 65) hx hb dX7_windOfFlag_108 (by decide) ?_
                exact ih_65 (i + 1) _ _ _ _ X (lv_sub hl [0, 1, 2, 3] rfl) (by omega) (by omega) (by rw [hw, show 201 - i = 201 - (i + 1) + 1 by omega, x_fnd_no (by (try dsimp only); rw [← hh]; exact Int32.not_le.mpr c_100)])
              · refine lv_iload_n hx hb dX7_windOfFlag_103 rfl (lv_at hl 0 rfl) ?_
                exact hret _ _ _ _ _ _ (by exact ⟨_, _, _, rfl, by rw [ek, x_st_in (by omega) hk]; unfold x_wofk; rw [if_pos b_20, if_neg (show ¬ x_tC T k = 0 from fun z => c_41 ((hsr.2.2 k hk).2.1.trans z)), hw, show 201 - i = 201 - (i + 1) + 1 by omega, x_fnd_yes (by (try dsimp only); rw [← hh]; exact Int32.not_lt.mp c_100)]⟩) X dX7_windOfFlag_104
        exact L_65 (202) 0 _ _ _ _ X (lv_sub hl [0, 1, 2, 3] rfl) (by omega) (by omega) (by rfl)
      · refine lv_bipush (v := (-5)) hx hb dX7_windOfFlag_44 (by decide) ?_
        exact hret _ _ _ _ _ _ (by exact ⟨_, _, _, rfl, by rw [ek, x_st_in (by omega) hk]; unfold x_wofk; rw [if_pos b_20, if_pos ((hsr.2.2 k hk).2.1.symm.trans c_41)]⟩) X dX7_windOfFlag_46
    · refine lv_if_ne (tgt := 29) hx hb dX7_windOfFlag_23 (by decide) (fun h => absurd (by decide) h) (fun _ => ?_)
      refine lv_bipush (v := (-2)) hx hb dX7_windOfFlag_26 (by decide) ?_
      exact hret _ _ _ _ _ _ (by exact ⟨_, _, _, rfl, by rw [ek, x_st_in (by omega) hk]; unfold x_wofk; rw [if_neg b_20]⟩) X dX7_windOfFlag_28
  · refine lv_if_ne (tgt := 16) hx hb dX7_windOfFlag_11 (by decide) (fun h => absurd (by decide) h) (fun _ => ?_)
    refine lv_iconst (v := (-1)) hx hb dX7_windOfFlag_14 (by decide) ?_
    exact hret _ _ _ _ _ _ (by exact ⟨_, _, _, rfl, (x_st_out (by omega) b_8 _).symm⟩) X dX7_windOfFlag_15
