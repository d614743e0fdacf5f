set_option maxHeartbeats 1000000 in
set_option maxRecDepth 100000 in
theorem c_X7_recordY0 (l : Launch) (D : va_G) (q : xQ) (x0 : Nat) (xt : Nat) (xa : Nat) (xh : Nat) (xs : Nat) (xf : Nat) (xp : Nat) (xd : Nat) (xr : Nat) (w1 : Nat) (h0 : Nat) (y0 : Nat) (y1 : Nat) (y2 : Nat) (y3 : Nat) (r0 : Nat → Int32) (g1 : Nat → Int32) (g2 : Nat → Int32) (g3 : Nat → Int32) (fc : Int32) (ps : Int32) (lo : Int32) (k : Nat) (kn : Nat) (hkn : x_mn ps 8 = nI kn) (hk : k < kn) (hk8 : kn ≤ 8) : xMi l yX7_record wsX7_record { frames := 2, cells := 0, slots := 0, locals := 41 } D q [.ref x0, .int (nI k), .int 0] [xoW q x0 xt xa xh xs xf xp xd xr, twW q xt w1 h0 y0 r0 fc, hW q y0 y1 y2 y3 g1 g2 g3 ps lo] (fun r gw => gw = [xoW q x0 xt xa xh xs xf xp xd xr, twW q xt w1 h0 y0 r0 fc, hW q y0 y1 y2 y3 g1 g2 g3 ps lo] ∧ r = g1 k) := by
  refine xMi_of (cc := cX7_record) (maxL := 4) (rt := .int) (by decide) rfl (Nat.le_of_ble_eq_true rfl) (fun _ _ _ => rfl) ?_
  intro p9 e9 s9 m9 a9 below meth c9 A9 Z9 ls H locs F X hl hret
  have hx := F.1.1
  have hb := F.1.2.1
  have in_X7 : ∀ w ∈ wsX70, w ∈ wsX7_record := by decide +kernel
  have in_X6 : ∀ w ∈ wsX60, w ∈ wsX7_record := by decide +kernel
  have in_X2 : ∀ w ∈ wsX20, w ∈ wsX7_record := by decide +kernel
  have mw_0 : Cond.fieldLink RX7 10 "HatWinds" "town" "LHatWinds$Town;" ∈ wsX7_record := by decide +kernel
  have mw_1 : Cond.fieldLink RX7 129 "HatWinds$Town" "hours" "LHatWinds$Hours;" ∈ wsX7_record := by decide +kernel
  have mw_2 : Cond.initialized RX2 ∈ wsX7_record := by decide +kernel
  have mw_3 : Cond.initialized RX7 ∈ wsX7_record := by decide +kernel
  have mw_4 : Cond.fieldLink RX7 209 "HatWinds$Hours" "forces" "[I" ∈ wsX7_record := by decide +kernel
  have hl : lv_has ls 4 [(0, .ref x0), (1, .int (nI k)), (2, .int 0)] := hl
  refine lv_aload_n hx hb dX7_record_0 rfl (lv_at hl 0 rfl) ?_
  refine x_get F X (v := .ref xt) (C := RX7) (T := TX7) (N := 8) (ci := 7) in_X7 0 rfl rfl 0 (by decide) mw_0 rfl dX7_record_1 ?_
  refine x_get F X (v := .ref y0) (C := RX6) (T := TX6) (N := 4) (ci := 6) in_X6 1 rfl rfl 2 (by decide) mw_1 rfl dX7_record_4 ?_
  refine lv_astore_n (lv' := [(3, .ref y0), (0, .ref x0), (1, .int (nI k)), (2, .int 0)]) hx hb dX7_record_7 rfl hl (by decide) rfl (fun ls hl => ?_)
  refine lv_iload_n hx hb dX7_record_8 rfl (lv_at hl 2 rfl) ?_
  refine lv_aload_n hx hb dX7_record_9 rfl (lv_at hl 0 rfl) ?_
  refine x_cVi F X (gc := [hW q y0 y1 y2 y3 g1 g2 g3 ps lo]) (gr := [xoW q x0 xt xa xh xs xf xp xd xr, twW q xt w1 h0 y0 r0 fc]) (xp_idx (n := 3) [2, 0, 1] (by decide +kernel) rfl rfl) (c_X2_kept l D q y0 y1 y2 y3 g1 g2 g3 ps lo ) (cwV 0 F.1.2.2.2.2 gX7_record_X2_kept rfl rfl rfl (by decide +kernel) ⟨Nat.le_of_ble_eq_true rfl, Nat.le_of_ble_eq_true rfl⟩) rfl rfl (r0 := 0) (ci := 2) (T := TX2) (N := 5) rfl rfl hl.1 ⟨Nat.le_of_ble_eq_true rfl, Nat.le_of_ble_eq_true rfl⟩ (Nat.le_of_ble_eq_true rfl) dX7_record_10 (fun r_10 g1 H locs hp X => ?_)
  obtain ⟨rfl, rfl⟩ := hp
  have X := X.perm (gs' := [xoW q x0 xt xa xh xs xf xp xd xr, twW q xt w1 h0 y0 r0 fc, hW q y0 y1 y2 y3 g1 g2 g3 ps lo]) (xp_idx (n := 3) [1, 2, 0] (by decide +kernel) rfl rfl)
  refine x_i (y := (nI kn)) (hkn) ?_
  refine x_cSi F X (gc := []) (gr := [xoW q x0 xt xa xh xs xf xp xd xr, twW q xt w1 h0 y0 r0 fc, hW q y0 y1 y2 y3 g1 g2 g3 ps lo]) (xp_idx (n := 3) [0, 1, 2] (by decide +kernel) rfl rfl) (c_X7_isIndexOf l D q (nI k) (nI kn) ) (va_cwS 2 F.1.2.2.2.2 gX7_record_X7_isIndexOf rfl rfl rfl (by decide +kernel) ⟨Nat.le_of_ble_eq_true rfl, Nat.le_of_ble_eq_true rfl⟩) rfl rfl hl.1 ⟨Nat.le_of_ble_eq_true rfl, Nat.le_of_ble_eq_true rfl⟩ (Nat.le_of_ble_eq_true rfl) dX7_record_13 (fun r_13 g1 H locs hp X => ?_)
  obtain ⟨rfl, hz⟩ := hp
  have X : xS D A9 s9 [xoW q x0 xt xa xh xs xf xp xd xr, twW q xt w1 h0 y0 r0 fc, hW q y0 y1 y2 y3 g1 g2 g3 ps lo] H locs := X
  rcases hz with ⟨rfl, b_13⟩ | ⟨rfl, b_13⟩
  · refine lv_if_ne (tgt := 21) hx hb dX7_record_16 (by decide) (fun _ => ?_) (fun h => absurd h (by decide))
    refine lv_iload_n hx hb dX7_record_21 rfl (lv_at hl 3 rfl) ?_
    refine lv_tableIn (off := 26) (tgt := 48) hx hb dX7_record_22 (by decide) (by decide) (by decide) (by decide) ?_
    refine lv_aload_n hx hb dX7_record_48 rfl (lv_at hl 0 rfl) ?_
    refine x_get F X (v := .ref y1) (C := RX2) (T := TX2) (N := 5) (ci := 2) in_X2 3 rfl rfl 0 (by decide) mw_4 rfl dX7_record_49 ?_
    refine lv_iload_n hx hb dX7_record_52 rfl (lv_at hl 2 rfl) ?_
    refine x_iald F X (v := (g1 k)) (n := 8) (f := g1) 4 rfl (vp_in_nI (by omega) (by omega)) (x_cl (by omega)) dX7_record_53 ?_
    exact hret _ _ _ _ _ _ (by exact ⟨rfl, rfl⟩) X dX7_record_54
  · refine lv_if_ne (tgt := 21) hx hb dX7_record_16 (by decide) (fun h => absurd (by decide) h) (fun _ => ?_)
    exact absurd ⟨nI_pos (by omega), nI_lt hk (by omega)⟩ b_13

set_option maxHeartbeats 1000000 in
set_option maxRecDepth 100000 in
theorem c_X7_recordY1 (l : Launch) (D : va_G) (q : xQ) (x0 : Nat) (xt : Nat) (xa : Nat) (xh : Nat) (xs : Nat) (xf : Nat) (xp : Nat) (xd : Nat) (xr : Nat) (w1 : Nat) (h0 : Nat) (y0 : Nat) (y1 : Nat) (y2 : Nat) (y3 : Nat) (r0 : Nat → Int32) (g1 : Nat → Int32) (g2 : Nat → Int32) (g3 : Nat → Int32) (fc : Int32) (ps : Int32) (lo : Int32) (k : Nat) (kn : Nat) (hkn : x_mn ps 8 = nI kn) (hk : k < kn) (hk8 : kn ≤ 8) : xMi l yX7_record wsX7_record { frames := 2, cells := 0, slots := 0, locals := 41 } D q [.ref x0, .int (nI k), .int 1] [xoW q x0 xt xa xh xs xf xp xd xr, twW q xt w1 h0 y0 r0 fc, hW q y0 y1 y2 y3 g1 g2 g3 ps lo] (fun r gw => gw = [xoW q x0 xt xa xh xs xf xp xd xr, twW q xt w1 h0 y0 r0 fc, hW q y0 y1 y2 y3 g1 g2 g3 ps lo] ∧ r = g2 k) := by
  refine xMi_of (cc := cX7_record) (maxL := 4) (rt := .int) (by decide) rfl (Nat.le_of_ble_eq_true rfl) (fun _ _ _ => rfl) ?_
  intro p9 e9 s9 m9 a9 below meth c9 A9 Z9 ls H locs F X hl hret
  have hx := F.1.1
  have hb := F.1.2.1
  have in_X7 : ∀ w ∈ wsX70, w ∈ wsX7_record := by decide +kernel
  have in_X6 : ∀ w ∈ wsX60, w ∈ wsX7_record := by decide +kernel
  have in_X2 : ∀ w ∈ wsX20, w ∈ wsX7_record := by decide +kernel
  have mw_0 : Cond.fieldLink RX7 10 "HatWinds" "town" "LHatWinds$Town;" ∈ wsX7_record := by decide +kernel
  have mw_1 : Cond.fieldLink RX7 129 "HatWinds$Town" "hours" "LHatWinds$Hours;" ∈ wsX7_record := by decide +kernel
  have mw_2 : Cond.initialized RX2 ∈ wsX7_record := by decide +kernel
  have mw_3 : Cond.initialized RX7 ∈ wsX7_record := by decide +kernel
  have mw_4 : Cond.fieldLink RX7 212 "HatWinds$Hours" "lost" "[I" ∈ wsX7_record := by decide +kernel
  have hl : lv_has ls 4 [(0, .ref x0), (1, .int (nI k)), (2, .int 1)] := hl
  refine lv_aload_n hx hb dX7_record_0 rfl (lv_at hl 0 rfl) ?_
  refine x_get F X (v := .ref xt) (C := RX7) (T := TX7) (N := 8) (ci := 7) in_X7 0 rfl rfl 0 (by decide) mw_0 rfl dX7_record_1 ?_
  refine x_get F X (v := .ref y0) (C := RX6) (T := TX6) (N := 4) (ci := 6) in_X6 1 rfl rfl 2 (by decide) mw_1 rfl dX7_record_4 ?_
  refine lv_astore_n (lv' := [(3, .ref y0), (0, .ref x0), (1, .int (nI k)), (2, .int 1)]) hx hb dX7_record_7 rfl hl (by decide) rfl (fun ls hl => ?_)
  refine lv_iload_n hx hb dX7_record_8 rfl (lv_at hl 2 rfl) ?_
  refine lv_aload_n hx hb dX7_record_9 rfl (lv_at hl 0 rfl) ?_
  refine x_cVi F X (gc := [hW q y0 y1 y2 y3 g1 g2 g3 ps lo]) (gr := [xoW q x0 xt xa xh xs xf xp xd xr, twW q xt w1 h0 y0 r0 fc]) (xp_idx (n := 3) [2, 0, 1] (by decide +kernel) rfl rfl) (c_X2_kept l D q y0 y1 y2 y3 g1 g2 g3 ps lo ) (cwV 0 F.1.2.2.2.2 gX7_record_X2_kept rfl rfl rfl (by decide +kernel) ⟨Nat.le_of_ble_eq_true rfl, Nat.le_of_ble_eq_true rfl⟩) rfl rfl (r0 := 0) (ci := 2) (T := TX2) (N := 5) rfl rfl hl.1 ⟨Nat.le_of_ble_eq_true rfl, Nat.le_of_ble_eq_true rfl⟩ (Nat.le_of_ble_eq_true rfl) dX7_record_10 (fun r_10 g1 H locs hp X => ?_)
  obtain ⟨rfl, rfl⟩ := hp
  have X := X.perm (gs' := [xoW q x0 xt xa xh xs xf xp xd xr, twW q xt w1 h0 y0 r0 fc, hW q y0 y1 y2 y3 g1 g2 g3 ps lo]) (xp_idx (n := 3) [1, 2, 0] (by decide +kernel) rfl rfl)
  refine x_i (y := (nI kn)) (hkn) ?_
  refine x_cSi F X (gc := []) (gr := [xoW q x0 xt xa xh xs xf xp xd xr, twW q xt w1 h0 y0 r0 fc, hW q y0 y1 y2 y3 g1 g2 g3 ps lo]) (xp_idx (n := 3) [0, 1, 2] (by decide +kernel) rfl rfl) (c_X7_isIndexOf l D q (nI k) (nI kn) ) (va_cwS 2 F.1.2.2.2.2 gX7_record_X7_isIndexOf rfl rfl rfl (by decide +kernel) ⟨Nat.le_of_ble_eq_true rfl, Nat.le_of_ble_eq_true rfl⟩) rfl rfl hl.1 ⟨Nat.le_of_ble_eq_true rfl, Nat.le_of_ble_eq_true rfl⟩ (Nat.le_of_ble_eq_true rfl) dX7_record_13 (fun r_13 g1 H locs hp X => ?_)
  obtain ⟨rfl, hz⟩ := hp
  have X : xS D A9 s9 [xoW q x0 xt xa xh xs xf xp xd xr, twW q xt w1 h0 y0 r0 fc, hW q y0 y1 y2 y3 g1 g2 g3 ps lo] H locs := X
  rcases hz with ⟨rfl, b_13⟩ | ⟨rfl, b_13⟩
  · refine lv_if_ne (tgt := 21) hx hb dX7_record_16 (by decide) (fun _ => ?_) (fun h => absurd h (by decide))
    refine lv_iload_n hx hb dX7_record_21 rfl (lv_at hl 3 rfl) ?_
    refine lv_tableIn (off := 33) (tgt := 55) hx hb dX7_record_22 (by decide) (by decide) (by decide) (by decide) ?_
    refine lv_aload_n hx hb dX7_record_55 rfl (lv_at hl 0 rfl) ?_
    refine x_get F X (v := .ref y2) (C := RX2) (T := TX2) (N := 5) (ci := 2) in_X2 3 rfl rfl 1 (by decide) mw_4 rfl dX7_record_56 ?_
    refine lv_iload_n hx hb dX7_record_59 rfl (lv_at hl 2 rfl) ?_
    refine x_iald F X (v := (g2 k)) (n := 8) (f := g2) 5 rfl (vp_in_nI (by omega) (by omega)) (x_cl (by omega)) dX7_record_60 ?_
    exact hret _ _ _ _ _ _ (by exact ⟨rfl, rfl⟩) X dX7_record_61
  · refine lv_if_ne (tgt := 21) hx hb dX7_record_16 (by decide) (fun h => absurd (by decide) h) (fun _ => ?_)
    exact absurd ⟨nI_pos (by omega), nI_lt hk (by omega)⟩ b_13

set_option maxHeartbeats 1000000 in
set_option maxRecDepth 100000 in
theorem c_X7_recordY2 (l : Launch) (D : va_G) (q : xQ) (x0 : Nat) (xt : Nat) (xa : Nat) (xh : Nat) (xs : Nat) (xf : Nat) (xp : Nat) (xd : Nat) (xr : Nat) (w1 : Nat) (h0 : Nat) (y0 : Nat) (y1 : Nat) (y2 : Nat) (y3 : Nat) (r0 : Nat → Int32) (g1 : Nat → Int32) (g2 : Nat → Int32) (g3 : Nat → Int32) (fc : Int32) (ps : Int32) (lo : Int32) (k : Nat) (kn : Nat) (hkn : x_mn ps 8 = nI kn) (hk : k < kn) (hk8 : kn ≤ 8) : xMi l yX7_record wsX7_record { frames := 2, cells := 0, slots := 0, locals := 41 } D q [.ref x0, .int (nI k), .int 2] [xoW q x0 xt xa xh xs xf xp xd xr, twW q xt w1 h0 y0 r0 fc, hW q y0 y1 y2 y3 g1 g2 g3 ps lo] (fun r gw => gw = [xoW q x0 xt xa xh xs xf xp xd xr, twW q xt w1 h0 y0 r0 fc, hW q y0 y1 y2 y3 g1 g2 g3 ps lo] ∧ r = g3 k) := by
  refine xMi_of (cc := cX7_record) (maxL := 4) (rt := .int) (by decide) rfl (Nat.le_of_ble_eq_true rfl) (fun _ _ _ => rfl) ?_
  intro p9 e9 s9 m9 a9 below meth c9 A9 Z9 ls H locs F X hl hret
  have hx := F.1.1
  have hb := F.1.2.1
  have in_X7 : ∀ w ∈ wsX70, w ∈ wsX7_record := by decide +kernel
  have in_X6 : ∀ w ∈ wsX60, w ∈ wsX7_record := by decide +kernel
  have in_X2 : ∀ w ∈ wsX20, w ∈ wsX7_record := by decide +kernel
  have mw_0 : Cond.fieldLink RX7 10 "HatWinds" "town" "LHatWinds$Town;" ∈ wsX7_record := by decide +kernel
  have mw_1 : Cond.fieldLink RX7 129 "HatWinds$Town" "hours" "LHatWinds$Hours;" ∈ wsX7_record := by decide +kernel
  have mw_2 : Cond.initialized RX2 ∈ wsX7_record := by decide +kernel
  have mw_3 : Cond.initialized RX7 ∈ wsX7_record := by decide +kernel
  have mw_4 : Cond.fieldLink RX7 215 "HatWinds$Hours" "worst" "[I" ∈ wsX7_record := by decide +kernel
  have hl : lv_has ls 4 [(0, .ref x0), (1, .int (nI k)), (2, .int 2)] := hl
  refine lv_aload_n hx hb dX7_record_0 rfl (lv_at hl 0 rfl) ?_
  refine x_get F X (v := .ref xt) (C := RX7) (T := TX7) (N := 8) (ci := 7) in_X7 0 rfl rfl 0 (by decide) mw_0 rfl dX7_record_1 ?_
  refine x_get F X (v := .ref y0) (C := RX6) (T := TX6) (N := 4) (ci := 6) in_X6 1 rfl rfl 2 (by decide) mw_1 rfl dX7_record_4 ?_
  refine lv_astore_n (lv' := [(3, .ref y0), (0, .ref x0), (1, .int (nI k)), (2, .int 2)]) hx hb dX7_record_7 rfl hl (by decide) rfl (fun ls hl => ?_)
  refine lv_iload_n hx hb dX7_record_8 rfl (lv_at hl 2 rfl) ?_
  refine lv_aload_n hx hb dX7_record_9 rfl (lv_at hl 0 rfl) ?_
  refine x_cVi F X (gc := [hW q y0 y1 y2 y3 g1 g2 g3 ps lo]) (gr := [xoW q x0 xt xa xh xs xf xp xd xr, twW q xt w1 h0 y0 r0 fc]) (xp_idx (n := 3) [2, 0, 1] (by decide +kernel) rfl rfl) (c_X2_kept l D q y0 y1 y2 y3 g1 g2 g3 ps lo ) (cwV 0 F.1.2.2.2.2 gX7_record_X2_kept rfl rfl rfl (by decide +kernel) ⟨Nat.le_of_ble_eq_true rfl, Nat.le_of_ble_eq_true rfl⟩) rfl rfl (r0 := 0) (ci := 2) (T := TX2) (N := 5) rfl rfl hl.1 ⟨Nat.le_of_ble_eq_true rfl, Nat.le_of_ble_eq_true rfl⟩ (Nat.le_of_ble_eq_true rfl) dX7_record_10 (fun r_10 g1 H locs hp X => ?_)
  obtain ⟨rfl, rfl⟩ := hp
  have X := X.perm (gs' := [xoW q x0 xt xa xh xs xf xp xd xr, twW q xt w1 h0 y0 r0 fc, hW q y0 y1 y2 y3 g1 g2 g3 ps lo]) (xp_idx (n := 3) [1, 2, 0] (by decide +kernel) rfl rfl)
  refine x_i (y := (nI kn)) (hkn) ?_
  refine x_cSi F X (gc := []) (gr := [xoW q x0 xt xa xh xs xf xp xd xr, twW q xt w1 h0 y0 r0 fc, hW q y0 y1 y2 y3 g1 g2 g3 ps lo]) (xp_idx (n := 3) [0, 1, 2] (by decide +kernel) rfl rfl) (c_X7_isIndexOf l D q (nI k) (nI kn) ) (va_cwS 2 F.1.2.2.2.2 gX7_record_X7_isIndexOf rfl rfl rfl (by decide +kernel) ⟨Nat.le_of_ble_eq_true rfl, Nat.le_of_ble_eq_true rfl⟩) rfl rfl hl.1 ⟨Nat.le_of_ble_eq_true rfl, Nat.le_of_ble_eq_true rfl⟩ (Nat.le_of_ble_eq_true rfl) dX7_record_13 (fun r_13 g1 H locs hp X => ?_)
  obtain ⟨rfl, hz⟩ := hp
  have X : xS D A9 s9 [xoW q x0 xt xa xh xs xf xp xd xr, twW q xt w1 h0 y0 r0 fc, hW q y0 y1 y2 y3 g1 g2 g3 ps lo] H locs := X
  rcases hz with ⟨rfl, b_13⟩ | ⟨rfl, b_13⟩
  · refine lv_if_ne (tgt := 21) hx hb dX7_record_16 (by decide) (fun _ => ?_) (fun h => absurd h (by decide))
    refine lv_iload_n hx hb dX7_record_21 rfl (lv_at hl 3 rfl) ?_
    refine lv_tableIn (off := 40) (tgt := 62) hx hb dX7_record_22 (by decide) (by decide) (by decide) (by decide) ?_
    refine lv_aload_n hx hb dX7_record_62 rfl (lv_at hl 0 rfl) ?_
    refine x_get F X (v := .ref y3) (C := RX2) (T := TX2) (N := 5) (ci := 2) in_X2 3 rfl rfl 2 (by decide) mw_4 rfl dX7_record_63 ?_
    refine lv_iload_n hx hb dX7_record_66 rfl (lv_at hl 2 rfl) ?_
    refine x_iald F X (v := (g3 k)) (n := 8) (f := g3) 6 rfl (vp_in_nI (by omega) (by omega)) (x_cl (by omega)) dX7_record_67 ?_
    exact hret _ _ _ _ _ _ (by exact ⟨rfl, rfl⟩) X dX7_record_68
  · refine lv_if_ne (tgt := 21) hx hb dX7_record_16 (by decide) (fun h => absurd (by decide) h) (fun _ => ?_)
    exact absurd ⟨nI_pos (by omega), nI_lt hk (by omega)⟩ b_13

set_option maxHeartbeats 1000000 in
set_option maxRecDepth 100000 in
theorem c_X7_recordN1 (l : Launch) (D : va_G) (q : xQ) (x0 : Nat) (xt : Nat) (xa : Nat) (xh : Nat) (xs : Nat) (xf : Nat) (xp : Nat) (xd : Nat) (xr : Nat) (w1 : Nat) (h0 : Nat) (y0 : Nat) (y1 : Nat) (y2 : Nat) (y3 : Nat) (r0 : Nat → Int32) (g1 : Nat → Int32) (g2 : Nat → Int32) (g3 : Nat → Int32) (fc : Int32) (ps : Int32) (lo : Int32) (kn : Nat) (a : Int32) (v : Int32) (hkn : x_mn ps 8 = nI kn) (ha : ¬ (¬ a < 0 ∧ a < nI kn)) : xMi l yX7_record wsX7_record { frames := 2, cells := 0, slots := 0, locals := 41 } D q [.ref x0, .int a, .int v] [xoW q x0 xt xa xh xs xf xp xd xr, twW q xt w1 h0 y0 r0 fc, hW q y0 y1 y2 y3 g1 g2 g3 ps lo] (fun r gw => gw = [xoW q x0 xt xa xh xs xf xp xd xr, twW q xt w1 h0 y0 r0 fc, hW q y0 y1 y2 y3 g1 g2 g3 ps lo] ∧ r = -1) := by
  refine xMi_of (cc := cX7_record) (maxL := 4) (rt := .int) (by decide) rfl (Nat.le_of_ble_eq_true rfl) (fun _ _ _ => rfl) ?_
  intro p9 e9 s9 m9 a9 below meth c9 A9 Z9 ls H locs F X hl hret
  have hx := F.1.1
  have hb := F.1.2.1
  have in_X7 : ∀ w ∈ wsX70, w ∈ wsX7_record := by decide +kernel
  have in_X6 : ∀ w ∈ wsX60, w ∈ wsX7_record := by decide +kernel
  have mw_0 : Cond.fieldLink RX7 10 "HatWinds" "town" "LHatWinds$Town;" ∈ wsX7_record := by decide +kernel
  have mw_1 : Cond.fieldLink RX7 129 "HatWinds$Town" "hours" "LHatWinds$Hours;" ∈ wsX7_record := by decide +kernel
  have mw_2 : Cond.initialized RX2 ∈ wsX7_record := by decide +kernel
  have mw_3 : Cond.initialized RX7 ∈ wsX7_record := by decide +kernel
  have hl : lv_has ls 4 [(0, .ref x0), (1, .int a), (2, .int v)] := hl
  refine lv_aload_n hx hb dX7_record_0 rfl (lv_at hl 0 rfl) ?_
  refine x_get F X (v := .ref xt) (C := RX7) (T := TX7) (N := 8) (ci := 7) in_X7 0 rfl rfl 0 (by decide) mw_0 rfl dX7_record_1 ?_
  refine x_get F X (v := .ref y0) (C := RX6) (T := TX6) (N := 4) (ci := 6) in_X6 1 rfl rfl 2 (by decide) mw_1 rfl dX7_record_4 ?_
  refine lv_astore_n (lv' := [(3, .ref y0), (0, .ref x0), (1, .int a), (2, .int v)]) hx hb dX7_record_7 rfl hl (by decide) rfl (fun ls hl => ?_)
  refine lv_iload_n hx hb dX7_record_8 rfl (lv_at hl 2 rfl) ?_
  refine lv_aload_n hx hb dX7_record_9 rfl (lv_at hl 0 rfl) ?_
  refine x_cVi F X (gc := [hW q y0 y1 y2 y3 g1 g2 g3 ps lo]) (gr := [xoW q x0 xt xa xh xs xf xp xd xr, twW q xt w1 h0 y0 r0 fc]) (xp_idx (n := 3) [2, 0, 1] (by decide +kernel) rfl rfl) (c_X2_kept l D q y0 y1 y2 y3 g1 g2 g3 ps lo ) (cwV 0 F.1.2.2.2.2 gX7_record_X2_kept rfl rfl rfl (by decide +kernel) ⟨Nat.le_of_ble_eq_true rfl, Nat.le_of_ble_eq_true rfl⟩) rfl rfl (r0 := 0) (ci := 2) (T := TX2) (N := 5) rfl rfl hl.1 ⟨Nat.le_of_ble_eq_true rfl, Nat.le_of_ble_eq_true rfl⟩ (Nat.le_of_ble_eq_true rfl) dX7_record_10 (fun r_10 g1 H locs hp X => ?_)
  obtain ⟨rfl, rfl⟩ := hp
  have X := X.perm (gs' := [xoW q x0 xt xa xh xs xf xp xd xr, twW q xt w1 h0 y0 r0 fc, hW q y0 y1 y2 y3 g1 g2 g3 ps lo]) (xp_idx (n := 3) [1, 2, 0] (by decide +kernel) rfl rfl)
  refine x_i (y := (nI kn)) (hkn) ?_
  refine x_cSi F X (gc := []) (gr := [xoW q x0 xt xa xh xs xf xp xd xr, twW q xt w1 h0 y0 r0 fc, hW q y0 y1 y2 y3 g1 g2 g3 ps lo]) (xp_idx (n := 3) [0, 1, 2] (by decide +kernel) rfl rfl) (c_X7_isIndexOf l D q a (nI kn) ) (va_cwS 2 F.1.2.2.2.2 gX7_record_X7_isIndexOf rfl rfl rfl (by decide +kernel) ⟨Nat.le_of_ble_eq_true rfl, Nat.le_of_ble_eq_true rfl⟩) rfl rfl hl.1 ⟨Nat.le_of_ble_eq_true rfl, Nat.le_of_ble_eq_true rfl⟩ (Nat.le_of_ble_eq_true rfl) dX7_record_13 (fun r_13 g1 H locs hp X => ?_)
  obtain ⟨rfl, hz⟩ := hp
  have X : xS D A9 s9 [xoW q x0 xt xa xh xs xf xp xd xr, twW q xt w1 h0 y0 r0 fc, hW q y0 y1 y2 y3 g1 g2 g3 ps lo] H locs := X
  rcases hz with ⟨rfl, b_13⟩ | ⟨rfl, b_13⟩
  · refine lv_if_ne (tgt := 21) hx hb dX7_record_16 (by decide) (fun _ => ?_) (fun h => absurd h (by decide))
    exact absurd b_13 ha
  · refine lv_if_ne (tgt := 21) hx hb dX7_record_16 (by decide) (fun h => absurd (by decide) h) (fun _ => ?_)
    refine lv_iconst (v := (-1)) hx hb dX7_record_19 (by decide) ?_
    exact hret _ _ _ _ _ _ (by exact ⟨rfl, rfl⟩) X dX7_record_20
