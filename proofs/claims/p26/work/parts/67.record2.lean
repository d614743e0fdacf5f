set_option maxHeartbeats 1000000 in
set_option maxRecDepth 100000 in
theorem c_X7_recordN2 (l : Launch) (D : va_G) (q : xQ) (x0 : Nat) (xt : Nat) (xa : Nat) (xh : Nat) (xs : Nat) (xf : Nat) (xp : Nat) (xd : Nat) (xr : Nat) (w1 : Nat) (h0 : Nat) (y0 : Nat) (y1 : Nat) (y2 : Nat) (y3 : Nat) (r0 : Nat → Int32) (g1 : Nat → Int32) (g2 : Nat → Int32) (g3 : Nat → Int32) (fc : Int32) (ps : Int32) (lo : Int32) (kn : Nat) (k : Nat) (v : Int32) (hkn : x_mn ps 8 = nI kn) (hk : k < kn) (hk8 : kn ≤ 8) (hv : v.toInt < 0 ∨ 2 < v.toInt) : xMi l yX7_record wsX7_record { frames := 2, cells := 0, slots := 0, locals := 41 } D q [.ref x0, .int (nI k), .int v] [xoW q x0 xt xa xh xs xf xp xd xr, twW q xt w1 h0 y0 r0 fc, hW q y0 y1 y2 y3 g1 g2 g3 ps lo] (fun r gw => gw = [xoW q x0 xt xa xh xs xf xp xd xr, twW q xt w1 h0 y0 r0 fc, hW q y0 y1 y2 y3 g1 g2 g3 ps lo] ∧ r = -2) := by
  refine xMi_of (cc := cX7_record) (maxL := 4) (rt := .int) (by decide) rfl (Nat.le_of_ble_eq_true rfl) (fun _ _ _ => rfl) ?_
  intro p9 e9 s9 m9 a9 below meth c9 A9 Z9 ls H locs F X hl hret
  have hx := F.1.1
  have hb := F.1.2.1
  have in_X7 : ∀ w ∈ wsX70, w ∈ wsX7_record := by decide +kernel
  have in_X6 : ∀ w ∈ wsX60, w ∈ wsX7_record := by decide +kernel
  have mw_0 : Cond.fieldLink RX7 10 "HatWinds" "town" "LHatWinds$Town;" ∈ wsX7_record := by decide +kernel
  have mw_1 : Cond.fieldLink RX7 129 "HatWinds$Town" "hours" "LHatWinds$Hours;" ∈ wsX7_record := by decide +kernel
  have mw_2 : Cond.initialized RX2 ∈ wsX7_record := by decide +kernel
  have mw_3 : Cond.initialized RX7 ∈ wsX7_record := by decide +kernel
  have hl : lv_has ls 4 [(0, .ref x0), (1, .int (nI k)), (2, .int v)] := hl
  refine lv_aload_n hx hb dX7_record_0 rfl (lv_at hl 0 rfl) ?_
  refine x_get F X (v := .ref xt) (C := RX7) (T := TX7) (N := 8) (ci := 7) in_X7 0 rfl rfl 0 (by decide) mw_0 rfl dX7_record_1 ?_
  refine x_get F X (v := .ref y0) (C := RX6) (T := TX6) (N := 4) (ci := 6) in_X6 1 rfl rfl 2 (by decide) mw_1 rfl dX7_record_4 ?_
  refine lv_astore_n (lv' := [(3, .ref y0), (0, .ref x0), (1, .int (nI k)), (2, .int v)]) hx hb dX7_record_7 rfl hl (by decide) rfl (fun ls hl => ?_)
  refine lv_iload_n hx hb dX7_record_8 rfl (lv_at hl 2 rfl) ?_
  refine lv_aload_n hx hb dX7_record_9 rfl (lv_at hl 0 rfl) ?_
  refine x_cVi F X (gc := [hW q y0 y1 y2 y3 g1 g2 g3 ps lo]) (gr := [xoW q x0 xt xa xh xs xf xp xd xr, twW q xt w1 h0 y0 r0 fc]) (xp_idx (n := 3) [2, 0, 1] (by decide +kernel) rfl rfl) (c_X2_kept l D q y0 y1 y2 y3 g1 g2 g3 ps lo ) (cwV 0 F.1.2.2.2.2 gX7_record_X2_kept rfl rfl rfl (by decide +kernel) ⟨Nat.le_of_ble_eq_true rfl, Nat.le_of_ble_eq_true rfl⟩) rfl rfl (r0 := 0) (ci := 2) (T := TX2) (N := 5) rfl rfl hl.1 ⟨Nat.le_of_ble_eq_true rfl, Nat.le_of_ble_eq_true rfl⟩ (Nat.le_of_ble_eq_true rfl) dX7_record_10 (fun r_10 g1 H locs hp X => ?_)
  obtain ⟨rfl, rfl⟩ := hp
  have X := X.perm (gs' := [xoW q x0 xt xa xh xs xf xp xd xr, twW q xt w1 h0 y0 r0 fc, hW q y0 y1 y2 y3 g1 g2 g3 ps lo]) (xp_idx (n := 3) [1, 2, 0] (by decide +kernel) rfl rfl)
  refine x_i (y := (nI kn)) (hkn) ?_
  refine x_cSi F X (gc := []) (gr := [xoW q x0 xt xa xh xs xf xp xd xr, twW q xt w1 h0 y0 r0 fc, hW q y0 y1 y2 y3 g1 g2 g3 ps lo]) (xp_idx (n := 3) [0, 1, 2] (by decide +kernel) rfl rfl) (c_X7_isIndexOf l D q (nI k) (nI kn) ) (va_cwS 2 F.1.2.2.2.2 gX7_record_X7_isIndexOf rfl rfl rfl (by decide +kernel) ⟨Nat.le_of_ble_eq_true rfl, Nat.le_of_ble_eq_true rfl⟩) rfl rfl hl.1 ⟨Nat.le_of_ble_eq_true rfl, Nat.le_of_ble_eq_true rfl⟩ (Nat.le_of_ble_eq_true rfl) dX7_record_13 (fun r_13 g1 H locs hp X => ?_)
  obtain ⟨rfl, hz⟩ := hp
  have X : xS D A9 s9 [xoW q x0 xt xa xh xs xf xp xd xr, twW q xt w1 h0 y0 r0 fc, hW q y0 y1 y2 y3 g1 g2 g3 ps lo] H locs := X
  rcases hz with ⟨rfl, b_13⟩ | ⟨rfl, b_13⟩
  · refine lv_if_ne (tgt := 21) hx hb dX7_record_16 (by decide) (fun _ => ?_) (fun h => absurd h (by decide))
    refine lv_iload_n hx hb dX7_record_21 rfl (lv_at hl 3 rfl) ?_
    rcases x_sw v 0 2 (by decide) with c_22 | c_22
    · refine lv_tableOut (tgt := 69) hx hb dX7_record_22 c_22 (by decide) ?_
      refine lv_bipush (v := (-2)) hx hb dX7_record_69 (by decide) ?_
      exact hret _ _ _ _ _ _ (by exact ⟨rfl, rfl⟩) X dX7_record_71
    · obtain ⟨j_1, hj1, hj2, e_22⟩ := c_22
      subst e_22
      rcases (show j_1 = 0 ∨ j_1 = 1 ∨ j_1 = 2 by omega) with rfl | rfl | rfl
      · refine lv_tableIn (off := 26) (tgt := 48) hx hb dX7_record_22 (by decide) (by decide) (by decide) (by decide) ?_
        exact absurd hv (by decide)
      · refine lv_tableIn (off := 33) (tgt := 55) hx hb dX7_record_22 (by decide) (by decide) (by decide) (by decide) ?_
        exact absurd hv (by decide)
      · refine lv_tableIn (off := 40) (tgt := 62) hx hb dX7_record_22 (by decide) (by decide) (by decide) (by decide) ?_
        exact absurd hv (by decide)
  · refine lv_if_ne (tgt := 21) hx hb dX7_record_16 (by decide) (fun h => absurd (by decide) h) (fun _ => ?_)
    exact absurd ⟨nI_pos (by omega), nI_lt hk (by omega)⟩ b_13
