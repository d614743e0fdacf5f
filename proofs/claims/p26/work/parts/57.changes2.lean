set_option maxHeartbeats 1000000 in
set_option maxRecDepth 100000 in
theorem c_X7_signY (l : Launch) (D : va_G) (q : xQ) (x0 : Nat) (xt : Nat) (xa : Nat) (xh : Nat) (xs : Nat) (xf : Nat) (xp : Nat) (xd : Nat) (xr : Nat) (p1 : Nat) (z : Nat) (k : Nat) (cs : Nat → Int32) (ov : Int32) (hz : z ≤ 80) (hk : k < z) : xMi l yX7_sign wsX7_sign { frames := 1, cells := 0, slots := 0, locals := 21 } D q [.ref x0, .int (nI k)] [xoW q x0 xt xa xh xs xf xp xd xr, pW q xp p1 cs (nI z) ov] (fun r gw => gw = [xoW q x0 xt xa xh xs xf xp xd xr, pW q xp p1 cs (nI z) ov] ∧ r = cs k) := by
  refine xMi_of (cc := cX7_sign) (maxL := 2) (rt := .int) (by decide) rfl (Nat.le_of_ble_eq_true rfl) (fun _ _ _ => rfl) ?_
  intro p9 e9 s9 m9 a9 below meth c9 A9 Z9 ls H locs F X hl hret
  have hx := F.1.1
  have hb := F.1.2.1
  have in_X7 : ∀ w ∈ wsX70, w ∈ wsX7_sign := by decide +kernel
  have in_X3 : ∀ w ∈ wsX30, w ∈ wsX7_sign := by decide +kernel
  have mw_0 : Cond.fieldLink RX7 41 "HatWinds" "pad" "LHatWinds$Pad;" ∈ wsX7_sign := by decide +kernel
  have mw_1 : Cond.fieldLink RX7 162 "HatWinds$Pad" "length" "I" ∈ wsX7_sign := by decide +kernel
  have mw_2 : Cond.initialized RX7 ∈ wsX7_sign := by decide +kernel
  have mw_3 : Cond.fieldLink RX7 218 "HatWinds$Pad" "signs" "[C" ∈ wsX7_sign := by decide +kernel
  have hl : lv_has ls 2 [(0, .ref x0), (1, .int (nI k))] := hl
  refine lv_iload_n hx hb dX7_sign_0 rfl (lv_at hl 1 rfl) ?_
  refine lv_aload_n hx hb dX7_sign_1 rfl (lv_at hl 0 rfl) ?_
  refine x_get F X (v := .ref xp) (C := RX7) (T := TX7) (N := 8) (ci := 7) in_X7 0 rfl rfl 5 (by decide) mw_0 rfl dX7_sign_2 ?_
  refine x_get F X (v := .int (nI z)) (C := RX3) (T := TX3) (N := 3) (ci := 3) in_X3 1 rfl rfl 1 (by decide) mw_1 rfl dX7_sign_5 ?_
  refine x_cSi F X (gc := []) (gr := [xoW q x0 xt xa xh xs xf xp xd xr, pW q xp p1 cs (nI z) ov]) (xp_idx (n := 2) [0, 1] (by decide +kernel) rfl rfl) (c_X7_isIndexOf l D q (nI k) (nI z) ) (va_cwS 2 F.1.2.2.2.2 gX7_sign_X7_isIndexOf rfl rfl rfl (by decide +kernel) ⟨Nat.le_of_ble_eq_true rfl, Nat.le_of_ble_eq_true rfl⟩) rfl rfl hl.1 ⟨Nat.le_of_ble_eq_true rfl, Nat.le_of_ble_eq_true rfl⟩ (Nat.le_of_ble_eq_true rfl) dX7_sign_8 (fun r_8 g1 H locs hp X => ?_)
  obtain ⟨rfl, hz⟩ := hp
  have X : xS D A9 s9 [xoW q x0 xt xa xh xs xf xp xd xr, pW q xp p1 cs (nI z) ov] H locs := X
  rcases hz with ⟨rfl, b_8⟩ | ⟨rfl, b_8⟩
  · refine lv_if_eq (tgt := 26) hx hb dX7_sign_11 (by decide) (fun h => absurd h (by decide)) (fun _ => ?_)
    refine lv_aload_n hx hb dX7_sign_14 rfl (lv_at hl 0 rfl) ?_
    refine x_get F X (v := .ref xp) (C := RX7) (T := TX7) (N := 8) (ci := 7) in_X7 0 rfl rfl 5 (by decide) mw_0 rfl dX7_sign_15 ?_
    refine x_get F X (v := .ref p1) (C := RX3) (T := TX3) (N := 3) (ci := 3) in_X3 1 rfl rfl 0 (by decide) mw_3 rfl dX7_sign_18 ?_
    refine lv_iload_n hx hb dX7_sign_21 rfl (lv_at hl 1 rfl) ?_
    refine x_cald F X (v := (cs k)) (n := 80) (f := cs) 2 rfl (vp_in_nI (by omega) (by omega)) (x_cl (by omega)) dX7_sign_22 ?_
    refine lv_goto (tgt := 27) hx hb dX7_sign_23 (by decide) ?_
    exact hret _ _ _ _ _ _ (by exact ⟨rfl, rfl⟩) X dX7_sign_27
  · refine lv_if_eq (tgt := 26) hx hb dX7_sign_11 (by decide) (fun _ => ?_) (fun h => absurd (by decide) h)
    exact absurd ⟨nI_pos (by omega), nI_lt hk (by omega)⟩ b_8

set_option maxHeartbeats 1000000 in
set_option maxRecDepth 100000 in
theorem c_X7_signN (l : Launch) (D : va_G) (q : xQ) (x0 : Nat) (xt : Nat) (xa : Nat) (xh : Nat) (xs : Nat) (xf : Nat) (xp : Nat) (xd : Nat) (xr : Nat) (p1 : Nat) (z : Nat) (cs : Nat → Int32) (ov : Int32) (v : Int32) (hv : ¬ (¬ v < 0 ∧ v < nI z)) : xMi l yX7_sign wsX7_sign { frames := 1, cells := 0, slots := 0, locals := 21 } D q [.ref x0, .int v] [xoW q x0 xt xa xh xs xf xp xd xr, pW q xp p1 cs (nI z) ov] (fun r gw => gw = [xoW q x0 xt xa xh xs xf xp xd xr, pW q xp p1 cs (nI z) ov] ∧ r = -1) := by
  refine xMi_of (cc := cX7_sign) (maxL := 2) (rt := .int) (by decide) rfl (Nat.le_of_ble_eq_true rfl) (fun _ _ _ => rfl) ?_
  intro p9 e9 s9 m9 a9 below meth c9 A9 Z9 ls H locs F X hl hret
  have hx := F.1.1
  have hb := F.1.2.1
  have in_X7 : ∀ w ∈ wsX70, w ∈ wsX7_sign := by decide +kernel
  have in_X3 : ∀ w ∈ wsX30, w ∈ wsX7_sign := by decide +kernel
  have mw_0 : Cond.fieldLink RX7 41 "HatWinds" "pad" "LHatWinds$Pad;" ∈ wsX7_sign := by decide +kernel
  have mw_1 : Cond.fieldLink RX7 162 "HatWinds$Pad" "length" "I" ∈ wsX7_sign := by decide +kernel
  have mw_2 : Cond.initialized RX7 ∈ wsX7_sign := by decide +kernel
  have hl : lv_has ls 2 [(0, .ref x0), (1, .int v)] := hl
  refine lv_iload_n hx hb dX7_sign_0 rfl (lv_at hl 1 rfl) ?_
  refine lv_aload_n hx hb dX7_sign_1 rfl (lv_at hl 0 rfl) ?_
  refine x_get F X (v := .ref xp) (C := RX7) (T := TX7) (N := 8) (ci := 7) in_X7 0 rfl rfl 5 (by decide) mw_0 rfl dX7_sign_2 ?_
  refine x_get F X (v := .int (nI z)) (C := RX3) (T := TX3) (N := 3) (ci := 3) in_X3 1 rfl rfl 1 (by decide) mw_1 rfl dX7_sign_5 ?_
  refine x_cSi F X (gc := []) (gr := [xoW q x0 xt xa xh xs xf xp xd xr, pW q xp p1 cs (nI z) ov]) (xp_idx (n := 2) [0, 1] (by decide +kernel) rfl rfl) (c_X7_isIndexOf l D q v (nI z) ) (va_cwS 2 F.1.2.2.2.2 gX7_sign_X7_isIndexOf rfl rfl rfl (by decide +kernel) ⟨Nat.le_of_ble_eq_true rfl, Nat.le_of_ble_eq_true rfl⟩) rfl rfl hl.1 ⟨Nat.le_of_ble_eq_true rfl, Nat.le_of_ble_eq_true rfl⟩ (Nat.le_of_ble_eq_true rfl) dX7_sign_8 (fun r_8 g1 H locs hp X => ?_)
  obtain ⟨rfl, hz⟩ := hp
  have X : xS D A9 s9 [xoW q x0 xt xa xh xs xf xp xd xr, pW q xp p1 cs (nI z) ov] H locs := X
  rcases hz with ⟨rfl, b_8⟩ | ⟨rfl, b_8⟩
  · refine lv_if_eq (tgt := 26) hx hb dX7_sign_11 (by decide) (fun h => absurd h (by decide)) (fun _ => ?_)
    exact absurd b_8 hv
  · refine lv_if_eq (tgt := 26) hx hb dX7_sign_11 (by decide) (fun _ => ?_) (fun h => absurd (by decide) h)
    refine lv_iconst (v := (-1)) hx hb dX7_sign_26 (by decide) ?_
    exact hret _ _ _ _ _ _ (by exact ⟨rfl, rfl⟩) X dX7_sign_27

set_option maxHeartbeats 1000000 in
set_option maxRecDepth 100000 in
theorem c_X7_streetN1 (l : Launch) (D : va_G) (q : xQ) (x0 : Nat) (xt : Nat) (xa : Nat) (xh : Nat) (xs : Nat) (xf : Nat) (xp : Nat) (xd : Nat) (xr : Nat) (w1 : Nat) (y0 : Nat) (h0 : Nat) (h1 : Nat) (h2 : Nat) (h3 : Nat) (h4 : Nat) (h5 : Nat) (r0 : Nat → Int32) (f1 : Nat → Int32) (f2 : Nat → Int32) (f3 : Nat → Int32) (f4 : Nat → Int32) (f5 : Nat → Int32) (fc : Int32) (n : Nat) (st : Int32) (w : Int32) (hn : n ≤ 20) (hq1 : ¬ xIx st n) : xMi l yX7_street wsX7_street { frames := 5, cells := 0, slots := 0, locals := 124 } D q [.ref x0, .int st, .int w] [xoW q x0 xt xa xh xs xf xp xd xr, twW q xt w1 h0 y0 r0 fc, sW q h0 h1 h2 h3 h4 h5 f1 f2 f3 f4 f5 (nI n)] (fun r gw => gw = [xoW q x0 xt xa xh xs xf xp xd xr, twW q xt w1 h0 y0 r0 fc, sW q h0 h1 h2 h3 h4 h5 f1 f2 f3 f4 f5 (nI n)] ∧ r = -1) := by
  refine xMi_of (cc := cX7_street) (maxL := 3) (rt := .int) (by decide) rfl (Nat.le_of_ble_eq_true rfl) (fun _ _ _ => rfl) ?_
  intro p9 e9 s9 m9 a9 below meth c9 A9 Z9 ls H locs F X hl hret
  have hx := F.1.1
  have hb := F.1.2.1
  have in_X7 : ∀ w ∈ wsX70, w ∈ wsX7_street := by decide +kernel
  have in_X6 : ∀ w ∈ wsX60, w ∈ wsX7_street := by decide +kernel
  have mw_0 : Cond.fieldLink RX7 10 "HatWinds" "town" "LHatWinds$Town;" ∈ wsX7_street := by decide +kernel
  have mw_1 : Cond.fieldLink RX7 84 "HatWinds$Town" "streets" "LHatWinds$Streets;" ∈ wsX7_street := by decide +kernel
  have mw_2 : Cond.initialized RX5 ∈ wsX7_street := by decide +kernel
  have hl : lv_has ls 3 [(0, .ref x0), (1, .int st), (2, .int w)] := hl
  refine lv_aload_n hx hb dX7_street_0 rfl (lv_at hl 0 rfl) ?_
  refine x_get F X (v := .ref xt) (C := RX7) (T := TX7) (N := 8) (ci := 7) in_X7 0 rfl rfl 0 (by decide) mw_0 rfl dX7_street_1 ?_
  refine x_get F X (v := .ref h0) (C := RX6) (T := TX6) (N := 4) (ci := 6) in_X6 1 rfl rfl 1 (by decide) mw_1 rfl dX7_street_4 ?_
  refine lv_iload_n hx hb dX7_street_7 rfl (lv_at hl 1 rfl) ?_
  refine x_cVi F X (gc := [sW q h0 h1 h2 h3 h4 h5 f1 f2 f3 f4 f5 (nI n)]) (gr := [xoW q x0 xt xa xh xs xf xp xd xr, twW q xt w1 h0 y0 r0 fc]) (xp_idx (n := 3) [2, 0, 1] (by decide +kernel) rfl rfl) (c_X5_has l D q h0 h1 h2 h3 h4 h5 n f1 f2 f3 f4 f5 st (by first | assumption | omega)) (cwV 1 F.1.2.2.2.2 gX7_street_X5_has rfl rfl rfl (by decide +kernel) ⟨Nat.le_of_ble_eq_true rfl, Nat.le_of_ble_eq_true rfl⟩) rfl rfl (r0 := 0) (ci := 5) (T := TX5) (N := 6) rfl rfl hl.1 ⟨Nat.le_of_ble_eq_true rfl, Nat.le_of_ble_eq_true rfl⟩ (Nat.le_of_ble_eq_true rfl) dX7_street_8 (fun r_8 g1 H locs hp X => ?_)
  obtain ⟨rfl, hz⟩ := hp
  have X := X.perm (gs' := [xoW q x0 xt xa xh xs xf xp xd xr, twW q xt w1 h0 y0 r0 fc, sW q h0 h1 h2 h3 h4 h5 f1 f2 f3 f4 f5 (nI n)]) (xp_idx (n := 3) [1, 2, 0] (by decide +kernel) rfl rfl)
  rcases hz with ⟨rfl, b_8⟩ | ⟨rfl, b_8⟩
  · refine lv_if_ne (tgt := 16) hx hb dX7_street_11 (by decide) (fun _ => ?_) (fun h => absurd h (by decide))
    exact absurd b_8 hq1
  · refine lv_if_ne (tgt := 16) hx hb dX7_street_11 (by decide) (fun h => absurd (by decide) h) (fun _ => ?_)
    refine lv_iconst (v := (-1)) hx hb dX7_street_14 (by decide) ?_
    exact hret _ _ _ _ _ _ (by exact ⟨rfl, rfl⟩) X dX7_street_15

set_option maxHeartbeats 1000000 in
set_option maxRecDepth 100000 in
theorem c_X7_streetN2 (l : Launch) (D : va_G) (q : xQ) (x0 : Nat) (xt : Nat) (xa : Nat) (xh : Nat) (xs : Nat) (xf : Nat) (xp : Nat) (xd : Nat) (xr : Nat) (w1 : Nat) (y0 : Nat) (h0 : Nat) (h1 : Nat) (h2 : Nat) (h3 : Nat) (h4 : Nat) (h5 : Nat) (r0 : Nat → Int32) (f1 : Nat → Int32) (f2 : Nat → Int32) (f3 : Nat → Int32) (f4 : Nat → Int32) (f5 : Nat → Int32) (fc : Int32) (n : Nat) (st : Int32) (w : Int32) (hn : n ≤ 20) (hq1 : xIx st n) (hq2 : ¬ (1 ≤ w ∧ w ≤ 9)) : xMi l yX7_street wsX7_street { frames := 5, cells := 0, slots := 0, locals := 124 } D q [.ref x0, .int st, .int w] [xoW q x0 xt xa xh xs xf xp xd xr, twW q xt w1 h0 y0 r0 fc, sW q h0 h1 h2 h3 h4 h5 f1 f2 f3 f4 f5 (nI n)] (fun r gw => gw = [xoW q x0 xt xa xh xs xf xp xd xr, twW q xt w1 h0 y0 r0 fc, sW q h0 h1 h2 h3 h4 h5 f1 f2 f3 f4 f5 (nI n)] ∧ r = -2) := by
  refine xMi_of (cc := cX7_street) (maxL := 3) (rt := .int) (by decide) rfl (Nat.le_of_ble_eq_true rfl) (fun _ _ _ => rfl) ?_
  intro p9 e9 s9 m9 a9 below meth c9 A9 Z9 ls H locs F X hl hret
  have hx := F.1.1
  have hb := F.1.2.1
  have in_X7 : ∀ w ∈ wsX70, w ∈ wsX7_street := by decide +kernel
  have in_X6 : ∀ w ∈ wsX60, w ∈ wsX7_street := by decide +kernel
  have mw_0 : Cond.fieldLink RX7 10 "HatWinds" "town" "LHatWinds$Town;" ∈ wsX7_street := by decide +kernel
  have mw_1 : Cond.fieldLink RX7 84 "HatWinds$Town" "streets" "LHatWinds$Streets;" ∈ wsX7_street := by decide +kernel
  have mw_2 : Cond.initialized RX5 ∈ wsX7_street := by decide +kernel
  have mw_3 : Cond.initialized RX7 ∈ wsX7_street := by decide +kernel
  have hl : lv_has ls 3 [(0, .ref x0), (1, .int st), (2, .int w)] := hl
  refine lv_aload_n hx hb dX7_street_0 rfl (lv_at hl 0 rfl) ?_
  refine x_get F X (v := .ref xt) (C := RX7) (T := TX7) (N := 8) (ci := 7) in_X7 0 rfl rfl 0 (by decide) mw_0 rfl dX7_street_1 ?_
  refine x_get F X (v := .ref h0) (C := RX6) (T := TX6) (N := 4) (ci := 6) in_X6 1 rfl rfl 1 (by decide) mw_1 rfl dX7_street_4 ?_
  refine lv_iload_n hx hb dX7_street_7 rfl (lv_at hl 1 rfl) ?_
  refine x_cVi F X (gc := [sW q h0 h1 h2 h3 h4 h5 f1 f2 f3 f4 f5 (nI n)]) (gr := [xoW q x0 xt xa xh xs xf xp xd xr, twW q xt w1 h0 y0 r0 fc]) (xp_idx (n := 3) [2, 0, 1] (by decide +kernel) rfl rfl) (c_X5_has l D q h0 h1 h2 h3 h4 h5 n f1 f2 f3 f4 f5 st (by first | assumption | omega)) (cwV 1 F.1.2.2.2.2 gX7_street_X5_has rfl rfl rfl (by decide +kernel) ⟨Nat.le_of_ble_eq_true rfl, Nat.le_of_ble_eq_true rfl⟩) rfl rfl (r0 := 0) (ci := 5) (T := TX5) (N := 6) rfl rfl hl.1 ⟨Nat.le_of_ble_eq_true rfl, Nat.le_of_ble_eq_true rfl⟩ (Nat.le_of_ble_eq_true rfl) dX7_street_8 (fun r_8 g1 H locs hp X => ?_)
  obtain ⟨rfl, hz⟩ := hp
  have X := X.perm (gs' := [xoW q x0 xt xa xh xs xf xp xd xr, twW q xt w1 h0 y0 r0 fc, sW q h0 h1 h2 h3 h4 h5 f1 f2 f3 f4 f5 (nI n)]) (xp_idx (n := 3) [1, 2, 0] (by decide +kernel) rfl rfl)
  rcases hz with ⟨rfl, b_8⟩ | ⟨rfl, b_8⟩
  · refine lv_if_ne (tgt := 16) hx hb dX7_street_11 (by decide) (fun _ => ?_) (fun h => absurd h (by decide))
    refine lv_iload_n hx hb dX7_street_16 rfl (lv_at hl 2 rfl) ?_
    refine lv_iconst (v := 1) hx hb dX7_street_17 (by decide) ?_
    refine lv_bipush (v := 9) hx hb dX7_street_18 (by decide) ?_
    refine x_cSi F X (gc := []) (gr := [xoW q x0 xt xa xh xs xf xp xd xr, twW q xt w1 h0 y0 r0 fc, sW q h0 h1 h2 h3 h4 h5 f1 f2 f3 f4 f5 (nI n)]) (xp_idx (n := 3) [0, 1, 2] (by decide +kernel) rfl rfl) (c_X7_isWithin l D q w 1 9 ) (va_cwS 3 F.1.2.2.2.2 gX7_street_X7_isWithin rfl rfl rfl (by decide +kernel) ⟨Nat.le_of_ble_eq_true rfl, Nat.le_of_ble_eq_true rfl⟩) rfl rfl hl.1 ⟨Nat.le_of_ble_eq_true rfl, Nat.le_of_ble_eq_true rfl⟩ (Nat.le_of_ble_eq_true rfl) dX7_street_20 (fun r_20 g1 H locs hp X => ?_)
    obtain ⟨rfl, hz⟩ := hp
    have X : xS D A9 s9 [xoW q x0 xt xa xh xs xf xp xd xr, twW q xt w1 h0 y0 r0 fc, sW q h0 h1 h2 h3 h4 h5 f1 f2 f3 f4 f5 (nI n)] H locs := X
    rcases hz with ⟨rfl, b_20⟩ | ⟨rfl, b_20⟩
    · refine lv_if_ne (tgt := 29) hx hb dX7_street_23 (by decide) (fun _ => ?_) (fun h => absurd h (by decide))
      exact absurd b_20 hq2
    · refine lv_if_ne (tgt := 29) hx hb dX7_street_23 (by decide) (fun h => absurd (by decide) h) (fun _ => ?_)
      refine lv_bipush (v := (-2)) hx hb dX7_street_26 (by decide) ?_
      exact hret _ _ _ _ _ _ (by exact ⟨rfl, rfl⟩) X dX7_street_28
  · refine lv_if_ne (tgt := 16) hx hb dX7_street_11 (by decide) (fun h => absurd (by decide) h) (fun _ => ?_)
    exact absurd hq1 b_8

set_option maxHeartbeats 1000000 in
set_option maxRecDepth 100000 in
theorem c_X7_streetN3 (l : Launch) (D : va_G) (q : xQ) (x0 : Nat) (xt : Nat) (xa : Nat) (xh : Nat) (xs : Nat) (xf : Nat) (xp : Nat) (xd : Nat) (xr : Nat) (w1 : Nat) (y0 : Nat) (h0 : Nat) (h1 : Nat) (h2 : Nat) (h3 : Nat) (h4 : Nat) (h5 : Nat) (r0 : Nat → Int32) (f1 : Nat → Int32) (f2 : Nat → Int32) (f3 : Nat → Int32) (f4 : Nat → Int32) (f5 : Nat → Int32) (fc : Int32) (n : Nat) (st : Int32) (w : Int32) (hn : n ≤ 20) (hq1 : xIx st n) (hq2 : 1 ≤ w ∧ w ≤ 9) (hq3 : ¬ (n < 20 ∧ x_ct f1 st n < 4)) : xMi l yX7_street wsX7_street { frames := 5, cells := 0, slots := 0, locals := 124 } D q [.ref x0, .int st, .int w] [xoW q x0 xt xa xh xs xf xp xd xr, twW q xt w1 h0 y0 r0 fc, sW q h0 h1 h2 h3 h4 h5 f1 f2 f3 f4 f5 (nI n)] (fun r gw => gw = [xoW q x0 xt xa xh xs xf xp xd xr, twW q xt w1 h0 y0 r0 fc, sW q h0 h1 h2 h3 h4 h5 f1 f2 f3 f4 f5 (nI n)] ∧ r = -4) := by
  refine xMi_of (cc := cX7_street) (maxL := 3) (rt := .int) (by decide) rfl (Nat.le_of_ble_eq_true rfl) (fun _ _ _ => rfl) ?_
  intro p9 e9 s9 m9 a9 below meth c9 A9 Z9 ls H locs F X hl hret
  have hx := F.1.1
  have hb := F.1.2.1
  have in_X7 : ∀ w ∈ wsX70, w ∈ wsX7_street := by decide +kernel
  have in_X6 : ∀ w ∈ wsX60, w ∈ wsX7_street := by decide +kernel
  have mw_0 : Cond.fieldLink RX7 10 "HatWinds" "town" "LHatWinds$Town;" ∈ wsX7_street := by decide +kernel
  have mw_1 : Cond.fieldLink RX7 84 "HatWinds$Town" "streets" "LHatWinds$Streets;" ∈ wsX7_street := by decide +kernel
  have mw_2 : Cond.initialized RX5 ∈ wsX7_street := by decide +kernel
  have mw_3 : Cond.initialized RX7 ∈ wsX7_street := by decide +kernel
  have hl : lv_has ls 3 [(0, .ref x0), (1, .int st), (2, .int w)] := hl
  refine lv_aload_n hx hb dX7_street_0 rfl (lv_at hl 0 rfl) ?_
  refine x_get F X (v := .ref xt) (C := RX7) (T := TX7) (N := 8) (ci := 7) in_X7 0 rfl rfl 0 (by decide) mw_0 rfl dX7_street_1 ?_
  refine x_get F X (v := .ref h0) (C := RX6) (T := TX6) (N := 4) (ci := 6) in_X6 1 rfl rfl 1 (by decide) mw_1 rfl dX7_street_4 ?_
  refine lv_iload_n hx hb dX7_street_7 rfl (lv_at hl 1 rfl) ?_
  refine x_cVi F X (gc := [sW q h0 h1 h2 h3 h4 h5 f1 f2 f3 f4 f5 (nI n)]) (gr := [xoW q x0 xt xa xh xs xf xp xd xr, twW q xt w1 h0 y0 r0 fc]) (xp_idx (n := 3) [2, 0, 1] (by decide +kernel) rfl rfl) (c_X5_has l D q h0 h1 h2 h3 h4 h5 n f1 f2 f3 f4 f5 st (by first | assumption | omega)) (cwV 1 F.1.2.2.2.2 gX7_street_X5_has rfl rfl rfl (by decide +kernel) ⟨Nat.le_of_ble_eq_true rfl, Nat.le_of_ble_eq_true rfl⟩) rfl rfl (r0 := 0) (ci := 5) (T := TX5) (N := 6) rfl rfl hl.1 ⟨Nat.le_of_ble_eq_true rfl, Nat.le_of_ble_eq_true rfl⟩ (Nat.le_of_ble_eq_true rfl) dX7_street_8 (fun r_8 g1 H locs hp X => ?_)
  obtain ⟨rfl, hz⟩ := hp
  have X := X.perm (gs' := [xoW q x0 xt xa xh xs xf xp xd xr, twW q xt w1 h0 y0 r0 fc, sW q h0 h1 h2 h3 h4 h5 f1 f2 f3 f4 f5 (nI n)]) (xp_idx (n := 3) [1, 2, 0] (by decide +kernel) rfl rfl)
  rcases hz with ⟨rfl, b_8⟩ | ⟨rfl, b_8⟩
  · refine lv_if_ne (tgt := 16) hx hb dX7_street_11 (by decide) (fun _ => ?_) (fun h => absurd h (by decide))
    refine lv_iload_n hx hb dX7_street_16 rfl (lv_at hl 2 rfl) ?_
    refine lv_iconst (v := 1) hx hb dX7_street_17 (by decide) ?_
    refine lv_bipush (v := 9) hx hb dX7_street_18 (by decide) ?_
    refine x_cSi F X (gc := []) (gr := [xoW q x0 xt xa xh xs xf xp xd xr, twW q xt w1 h0 y0 r0 fc, sW q h0 h1 h2 h3 h4 h5 f1 f2 f3 f4 f5 (nI n)]) (xp_idx (n := 3) [0, 1, 2] (by decide +kernel) rfl rfl) (c_X7_isWithin l D q w 1 9 ) (va_cwS 3 F.1.2.2.2.2 gX7_street_X7_isWithin rfl rfl rfl (by decide +kernel) ⟨Nat.le_of_ble_eq_true rfl, Nat.le_of_ble_eq_true rfl⟩) rfl rfl hl.1 ⟨Nat.le_of_ble_eq_true rfl, Nat.le_of_ble_eq_true rfl⟩ (Nat.le_of_ble_eq_true rfl) dX7_street_20 (fun r_20 g1 H locs hp X => ?_)
    obtain ⟨rfl, hz⟩ := hp
    have X : xS D A9 s9 [xoW q x0 xt xa xh xs xf xp xd xr, twW q xt w1 h0 y0 r0 fc, sW q h0 h1 h2 h3 h4 h5 f1 f2 f3 f4 f5 (nI n)] H locs := X
    rcases hz with ⟨rfl, b_20⟩ | ⟨rfl, b_20⟩
    · refine lv_if_ne (tgt := 29) hx hb dX7_street_23 (by decide) (fun _ => ?_) (fun h => absurd h (by decide))
      refine lv_aload_n hx hb dX7_street_29 rfl (lv_at hl 0 rfl) ?_
      refine x_get F X (v := .ref xt) (C := RX7) (T := TX7) (N := 8) (ci := 7) in_X7 0 rfl rfl 0 (by decide) mw_0 rfl dX7_street_30 ?_
      refine x_get F X (v := .ref h0) (C := RX6) (T := TX6) (N := 4) (ci := 6) in_X6 1 rfl rfl 1 (by decide) mw_1 rfl dX7_street_33 ?_
      refine lv_iload_n hx hb dX7_street_36 rfl (lv_at hl 1 rfl) ?_
      refine x_cVi F X (gc := [sW q h0 h1 h2 h3 h4 h5 f1 f2 f3 f4 f5 (nI n)]) (gr := [xoW q x0 xt xa xh xs xf xp xd xr, twW q xt w1 h0 y0 r0 fc]) (xp_idx (n := 3) [2, 0, 1] (by decide +kernel) rfl rfl) (c_X5_hasRoomOff l D q h0 h1 h2 h3 h4 h5 n f1 f2 f3 f4 f5 st (by first | assumption | omega)) (cwV 1 F.1.2.2.2.2 gX7_street_X5_hasRoomOff rfl rfl rfl (by decide +kernel) ⟨Nat.le_of_ble_eq_true rfl, Nat.le_of_ble_eq_true rfl⟩) rfl rfl (r0 := 0) (ci := 5) (T := TX5) (N := 6) rfl rfl hl.1 ⟨Nat.le_of_ble_eq_true rfl, Nat.le_of_ble_eq_true rfl⟩ (Nat.le_of_ble_eq_true rfl) dX7_street_37 (fun r_37 g1 H locs hp X => ?_)
      obtain ⟨rfl, hz⟩ := hp
      have X := X.perm (gs' := [xoW q x0 xt xa xh xs xf xp xd xr, twW q xt w1 h0 y0 r0 fc, sW q h0 h1 h2 h3 h4 h5 f1 f2 f3 f4 f5 (nI n)]) (xp_idx (n := 3) [1, 2, 0] (by decide +kernel) rfl rfl)
      rcases hz with ⟨rfl, b_37⟩ | ⟨rfl, b_37⟩
      · refine lv_if_ne (tgt := 46) hx hb dX7_street_40 (by decide) (fun _ => ?_) (fun h => absurd h (by decide))
        refine absurd ⟨b_37.1, ?_⟩ hq3
        have e := b_37.2
        rw [x_bc_orf f1 st hn] at e
        have := x_ct_le f1 st n
        exact (nI_ltI (a := x_ct f1 st n) (b := 4) (by omega) (by omega)).mp e
      · refine lv_if_ne (tgt := 46) hx hb dX7_street_40 (by decide) (fun h => absurd (by decide) h) (fun _ => ?_)
        refine lv_bipush (v := (-4)) hx hb dX7_street_43 (by decide) ?_
        exact hret _ _ _ _ _ _ (by exact ⟨rfl, rfl⟩) X dX7_street_45
    · refine lv_if_ne (tgt := 29) hx hb dX7_street_23 (by decide) (fun h => absurd (by decide) h) (fun _ => ?_)
      exact absurd hq2 b_20
  · refine lv_if_ne (tgt := 16) hx hb dX7_street_11 (by decide) (fun h => absurd (by decide) h) (fun _ => ?_)
    exact absurd hq1 b_8
