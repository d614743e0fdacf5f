set_option maxHeartbeats 1000000 in
set_option maxRecDepth 100000 in
theorem c_X7_changeN1 (l : Launch) (D : va_G) (q : xQ) (x0 : Nat) (xt : Nat) (xa : Nat) (xh : Nat) (xs : Nat) (xf : Nat) (xp : Nat) (xd : Nat) (xr : Nat) (w1 : Nat) (y0 : Nat) (h0 : Nat) (h1 : Nat) (h2 : Nat) (h3 : Nat) (h4 : Nat) (h5 : Nat) (r0 : Nat → Int32) (f1 : Nat → Int32) (f2 : Nat → Int32) (f3 : Nat → Int32) (f4 : Nat → Int32) (f5 : Nat → Int32) (fc : Int32) (n : Nat) (st : Int32) (a : Int32) (v : Int32) (hn : n ≤ 20) (hq1 : ¬ xIx st n) : xMi l yX7_change wsX7_change { frames := 5, cells := 0, slots := 0, locals := 124 } D q [.ref x0, .int st, .int a, .int v] [xoW q x0 xt xa xh xs xf xp xd xr, twW q xt w1 h0 y0 r0 fc, sW q h0 h1 h2 h3 h4 h5 f1 f2 f3 f4 f5 (nI n)] (fun r gw => gw = [xoW q x0 xt xa xh xs xf xp xd xr, twW q xt w1 h0 y0 r0 fc, sW q h0 h1 h2 h3 h4 h5 f1 f2 f3 f4 f5 (nI n)] ∧ r = -1) := by
  refine xMi_of (cc := cX7_change) (maxL := 6) (rt := .int) (by decide) rfl (Nat.le_of_ble_eq_true rfl) (fun _ _ _ => rfl) ?_
  intro p9 e9 s9 m9 a9 below meth c9 A9 Z9 ls H locs F X hl hret
  have hx := F.1.1
  have hb := F.1.2.1
  have in_X7 : ∀ w ∈ wsX70, w ∈ wsX7_change := by decide +kernel
  have in_X6 : ∀ w ∈ wsX60, w ∈ wsX7_change := by decide +kernel
  have mw_0 : Cond.fieldLink RX7 10 "HatWinds" "town" "LHatWinds$Town;" ∈ wsX7_change := by decide +kernel
  have mw_1 : Cond.fieldLink RX7 84 "HatWinds$Town" "streets" "LHatWinds$Streets;" ∈ wsX7_change := by decide +kernel
  have mw_2 : Cond.initialized RX5 ∈ wsX7_change := by decide +kernel
  have hl : lv_has ls 6 [(0, .ref x0), (1, .int st), (2, .int a), (3, .int v)] := hl
  refine lv_aload_n hx hb dX7_change_0 rfl (lv_at hl 0 rfl) ?_
  refine x_get F X (v := .ref xt) (C := RX7) (T := TX7) (N := 8) (ci := 7) in_X7 0 rfl rfl 0 (by decide) mw_0 rfl dX7_change_1 ?_
  refine x_get F X (v := .ref h0) (C := RX6) (T := TX6) (N := 4) (ci := 6) in_X6 1 rfl rfl 1 (by decide) mw_1 rfl dX7_change_4 ?_
  refine lv_iload_n hx hb dX7_change_7 rfl (lv_at hl 1 rfl) ?_
  refine x_cVi F X (gc := [sW q h0 h1 h2 h3 h4 h5 f1 f2 f3 f4 f5 (nI n)]) (gr := [xoW q x0 xt xa xh xs xf xp xd xr, twW q xt w1 h0 y0 r0 fc]) (xp_idx (n := 3) [2, 0, 1] (by decide +kernel) rfl rfl) (c_X5_has l D q h0 h1 h2 h3 h4 h5 n f1 f2 f3 f4 f5 st (by first | assumption | omega)) (cwV 1 F.1.2.2.2.2 gX7_change_X5_has rfl rfl rfl (by decide +kernel) ⟨Nat.le_of_ble_eq_true rfl, Nat.le_of_ble_eq_true rfl⟩) rfl rfl (r0 := 0) (ci := 5) (T := TX5) (N := 6) rfl rfl hl.1 ⟨Nat.le_of_ble_eq_true rfl, Nat.le_of_ble_eq_true rfl⟩ (Nat.le_of_ble_eq_true rfl) dX7_change_8 (fun r_8 g1 H locs hp X => ?_)
  obtain ⟨rfl, hz⟩ := hp
  have X := X.perm (gs' := [xoW q x0 xt xa xh xs xf xp xd xr, twW q xt w1 h0 y0 r0 fc, sW q h0 h1 h2 h3 h4 h5 f1 f2 f3 f4 f5 (nI n)]) (xp_idx (n := 3) [1, 2, 0] (by decide +kernel) rfl rfl)
  rcases hz with ⟨rfl, b_8⟩ | ⟨rfl, b_8⟩
  · refine lv_if_ne (tgt := 16) hx hb dX7_change_11 (by decide) (fun _ => ?_) (fun h => absurd h (by decide))
    exact absurd b_8 hq1
  · refine lv_if_ne (tgt := 16) hx hb dX7_change_11 (by decide) (fun h => absurd (by decide) h) (fun _ => ?_)
    refine lv_iconst (v := (-1)) hx hb dX7_change_14 (by decide) ?_
    exact hret _ _ _ _ _ _ (by exact ⟨rfl, rfl⟩) X dX7_change_15

set_option maxHeartbeats 1000000 in
set_option maxRecDepth 100000 in
theorem c_X7_changeN2 (l : Launch) (D : va_G) (q : xQ) (x0 : Nat) (xt : Nat) (xa : Nat) (xh : Nat) (xs : Nat) (xf : Nat) (xp : Nat) (xd : Nat) (xr : Nat) (w1 : Nat) (y0 : Nat) (h0 : Nat) (h1 : Nat) (h2 : Nat) (h3 : Nat) (h4 : Nat) (h5 : Nat) (r0 : Nat → Int32) (f1 : Nat → Int32) (f2 : Nat → Int32) (f3 : Nat → Int32) (f4 : Nat → Int32) (f5 : Nat → Int32) (fc : Int32) (n : Nat) (st : Int32) (a : Int32) (v : Int32) (hn : n ≤ 20) (hq1 : xIx st n) (hq2 : ¬ (¬ a < 0 ∧ a < 4)) : xMi l yX7_change wsX7_change { frames := 5, cells := 0, slots := 0, locals := 124 } D q [.ref x0, .int st, .int a, .int v] [xoW q x0 xt xa xh xs xf xp xd xr, twW q xt w1 h0 y0 r0 fc, sW q h0 h1 h2 h3 h4 h5 f1 f2 f3 f4 f5 (nI n)] (fun r gw => gw = [xoW q x0 xt xa xh xs xf xp xd xr, twW q xt w1 h0 y0 r0 fc, sW q h0 h1 h2 h3 h4 h5 f1 f2 f3 f4 f5 (nI n)] ∧ r = -2) := by
  refine xMi_of (cc := cX7_change) (maxL := 6) (rt := .int) (by decide) rfl (Nat.le_of_ble_eq_true rfl) (fun _ _ _ => rfl) ?_
  intro p9 e9 s9 m9 a9 below meth c9 A9 Z9 ls H locs F X hl hret
  have hx := F.1.1
  have hb := F.1.2.1
  have in_X7 : ∀ w ∈ wsX70, w ∈ wsX7_change := by decide +kernel
  have in_X6 : ∀ w ∈ wsX60, w ∈ wsX7_change := by decide +kernel
  have mw_0 : Cond.fieldLink RX7 10 "HatWinds" "town" "LHatWinds$Town;" ∈ wsX7_change := by decide +kernel
  have mw_1 : Cond.fieldLink RX7 84 "HatWinds$Town" "streets" "LHatWinds$Streets;" ∈ wsX7_change := by decide +kernel
  have mw_2 : Cond.initialized RX5 ∈ wsX7_change := by decide +kernel
  have mw_3 : Cond.fieldLink RX7 113 "HatWinds" "LEAST_OF_STREET" "[I" ∈ wsX7_change := by decide +kernel
  have mw_4 : Cond.initialized RX7 ∈ wsX7_change := by decide +kernel
  have hl : lv_has ls 6 [(0, .ref x0), (1, .int st), (2, .int a), (3, .int v)] := hl
  refine lv_aload_n hx hb dX7_change_0 rfl (lv_at hl 0 rfl) ?_
  refine x_get F X (v := .ref xt) (C := RX7) (T := TX7) (N := 8) (ci := 7) in_X7 0 rfl rfl 0 (by decide) mw_0 rfl dX7_change_1 ?_
  refine x_get F X (v := .ref h0) (C := RX6) (T := TX6) (N := 4) (ci := 6) in_X6 1 rfl rfl 1 (by decide) mw_1 rfl dX7_change_4 ?_
  refine lv_iload_n hx hb dX7_change_7 rfl (lv_at hl 1 rfl) ?_
  refine x_cVi F X (gc := [sW q h0 h1 h2 h3 h4 h5 f1 f2 f3 f4 f5 (nI n)]) (gr := [xoW q x0 xt xa xh xs xf xp xd xr, twW q xt w1 h0 y0 r0 fc]) (xp_idx (n := 3) [2, 0, 1] (by decide +kernel) rfl rfl) (c_X5_has l D q h0 h1 h2 h3 h4 h5 n f1 f2 f3 f4 f5 st (by first | assumption | omega)) (cwV 1 F.1.2.2.2.2 gX7_change_X5_has rfl rfl rfl (by decide +kernel) ⟨Nat.le_of_ble_eq_true rfl, Nat.le_of_ble_eq_true rfl⟩) rfl rfl (r0 := 0) (ci := 5) (T := TX5) (N := 6) rfl rfl hl.1 ⟨Nat.le_of_ble_eq_true rfl, Nat.le_of_ble_eq_true rfl⟩ (Nat.le_of_ble_eq_true rfl) dX7_change_8 (fun r_8 g1 H locs hp X => ?_)
  obtain ⟨rfl, hz⟩ := hp
  have X := X.perm (gs' := [xoW q x0 xt xa xh xs xf xp xd xr, twW q xt w1 h0 y0 r0 fc, sW q h0 h1 h2 h3 h4 h5 f1 f2 f3 f4 f5 (nI n)]) (xp_idx (n := 3) [1, 2, 0] (by decide +kernel) rfl rfl)
  rcases hz with ⟨rfl, b_8⟩ | ⟨rfl, b_8⟩
  · refine lv_if_ne (tgt := 16) hx hb dX7_change_11 (by decide) (fun _ => ?_) (fun h => absurd h (by decide))
    refine lv_iload_n hx hb dX7_change_16 rfl (lv_at hl 2 rfl) ?_
    refine x_gets F X 3 (by decide) mw_3 dX7_change_17 (fun u_17 hu_17 => ?_)
    refine x_tlen F X hu_17 dX7_change_20 ?_
    refine x_cSi F X (gc := []) (gr := [xoW q x0 xt xa xh xs xf xp xd xr, twW q xt w1 h0 y0 r0 fc, sW q h0 h1 h2 h3 h4 h5 f1 f2 f3 f4 f5 (nI n)]) (xp_idx (n := 3) [0, 1, 2] (by decide +kernel) rfl rfl) (c_X7_isIndexOf l D q a 4 ) (va_cwS 2 F.1.2.2.2.2 gX7_change_X7_isIndexOf rfl rfl rfl (by decide +kernel) ⟨Nat.le_of_ble_eq_true rfl, Nat.le_of_ble_eq_true rfl⟩) rfl rfl hl.1 ⟨Nat.le_of_ble_eq_true rfl, Nat.le_of_ble_eq_true rfl⟩ (Nat.le_of_ble_eq_true rfl) dX7_change_21 (fun r_21 g1 H locs hp X => ?_)
    obtain ⟨rfl, hz⟩ := hp
    have X : xS D A9 s9 [xoW q x0 xt xa xh xs xf xp xd xr, twW q xt w1 h0 y0 r0 fc, sW q h0 h1 h2 h3 h4 h5 f1 f2 f3 f4 f5 (nI n)] H locs := X
    rcases hz with ⟨rfl, b_21⟩ | ⟨rfl, b_21⟩
    · refine lv_if_ne (tgt := 30) hx hb dX7_change_24 (by decide) (fun _ => ?_) (fun h => absurd h (by decide))
      exact absurd b_21 hq2
    · refine lv_if_ne (tgt := 30) hx hb dX7_change_24 (by decide) (fun h => absurd (by decide) h) (fun _ => ?_)
      refine lv_bipush (v := (-2)) hx hb dX7_change_27 (by decide) ?_
      exact hret _ _ _ _ _ _ (by exact ⟨rfl, rfl⟩) X dX7_change_29
  · refine lv_if_ne (tgt := 16) hx hb dX7_change_11 (by decide) (fun h => absurd (by decide) h) (fun _ => ?_)
    exact absurd hq1 b_8

set_option maxHeartbeats 1000000 in
set_option maxRecDepth 100000 in
theorem c_X7_changeN3 (l : Launch) (D : va_G) (q : xQ) (x0 : Nat) (xt : Nat) (xa : Nat) (xh : Nat) (xs : Nat) (xf : Nat) (xp : Nat) (xd : Nat) (xr : Nat) (w1 : Nat) (y0 : Nat) (h0 : Nat) (h1 : Nat) (h2 : Nat) (h3 : Nat) (h4 : Nat) (h5 : Nat) (r0 : Nat → Int32) (f1 : Nat → Int32) (f2 : Nat → Int32) (f3 : Nat → Int32) (f4 : Nat → Int32) (f5 : Nat → Int32) (fc : Int32) (n : Nat) (i : Nat) (st : Int32) (v : Int32) (hn : n ≤ 20) (hq1 : xIx st n) (hi : i < 4) (hq3 : ¬ (xZv 3 i ≤ v ∧ v ≤ xZv 4 i)) : xMi l yX7_change wsX7_change { frames := 5, cells := 0, slots := 0, locals := 124 } D q [.ref x0, .int st, .int (nI i), .int v] [xoW q x0 xt xa xh xs xf xp xd xr, twW q xt w1 h0 y0 r0 fc, sW q h0 h1 h2 h3 h4 h5 f1 f2 f3 f4 f5 (nI n)] (fun r gw => gw = [xoW q x0 xt xa xh xs xf xp xd xr, twW q xt w1 h0 y0 r0 fc, sW q h0 h1 h2 h3 h4 h5 f1 f2 f3 f4 f5 (nI n)] ∧ r = -2) := by
  refine xMi_of (cc := cX7_change) (maxL := 6) (rt := .int) (by decide) rfl (Nat.le_of_ble_eq_true rfl) (fun _ _ _ => rfl) ?_
  intro p9 e9 s9 m9 a9 below meth c9 A9 Z9 ls H locs F X hl hret
  have hx := F.1.1
  have hb := F.1.2.1
  have in_X7 : ∀ w ∈ wsX70, w ∈ wsX7_change := by decide +kernel
  have in_X6 : ∀ w ∈ wsX60, w ∈ wsX7_change := by decide +kernel
  have mw_0 : Cond.fieldLink RX7 10 "HatWinds" "town" "LHatWinds$Town;" ∈ wsX7_change := by decide +kernel
  have mw_1 : Cond.fieldLink RX7 84 "HatWinds$Town" "streets" "LHatWinds$Streets;" ∈ wsX7_change := by decide +kernel
  have mw_2 : Cond.initialized RX5 ∈ wsX7_change := by decide +kernel
  have mw_3 : Cond.fieldLink RX7 113 "HatWinds" "LEAST_OF_STREET" "[I" ∈ wsX7_change := by decide +kernel
  have mw_4 : Cond.initialized RX7 ∈ wsX7_change := by decide +kernel
  have mw_5 : Cond.fieldLink RX7 116 "HatWinds" "MOST_OF_STREET" "[I" ∈ wsX7_change := by decide +kernel
  have hl : lv_has ls 6 [(0, .ref x0), (1, .int st), (2, .int (nI i)), (3, .int v)] := hl
  refine lv_aload_n hx hb dX7_change_0 rfl (lv_at hl 0 rfl) ?_
  refine x_get F X (v := .ref xt) (C := RX7) (T := TX7) (N := 8) (ci := 7) in_X7 0 rfl rfl 0 (by decide) mw_0 rfl dX7_change_1 ?_
  refine x_get F X (v := .ref h0) (C := RX6) (T := TX6) (N := 4) (ci := 6) in_X6 1 rfl rfl 1 (by decide) mw_1 rfl dX7_change_4 ?_
  refine lv_iload_n hx hb dX7_change_7 rfl (lv_at hl 1 rfl) ?_
  refine x_cVi F X (gc := [sW q h0 h1 h2 h3 h4 h5 f1 f2 f3 f4 f5 (nI n)]) (gr := [xoW q x0 xt xa xh xs xf xp xd xr, twW q xt w1 h0 y0 r0 fc]) (xp_idx (n := 3) [2, 0, 1] (by decide +kernel) rfl rfl) (c_X5_has l D q h0 h1 h2 h3 h4 h5 n f1 f2 f3 f4 f5 st (by first | assumption | omega)) (cwV 1 F.1.2.2.2.2 gX7_change_X5_has rfl rfl rfl (by decide +kernel) ⟨Nat.le_of_ble_eq_true rfl, Nat.le_of_ble_eq_true rfl⟩) rfl rfl (r0 := 0) (ci := 5) (T := TX5) (N := 6) rfl rfl hl.1 ⟨Nat.le_of_ble_eq_true rfl, Nat.le_of_ble_eq_true rfl⟩ (Nat.le_of_ble_eq_true rfl) dX7_change_8 (fun r_8 g1 H locs hp X => ?_)
  obtain ⟨rfl, hz⟩ := hp
  have X := X.perm (gs' := [xoW q x0 xt xa xh xs xf xp xd xr, twW q xt w1 h0 y0 r0 fc, sW q h0 h1 h2 h3 h4 h5 f1 f2 f3 f4 f5 (nI n)]) (xp_idx (n := 3) [1, 2, 0] (by decide +kernel) rfl rfl)
  rcases hz with ⟨rfl, b_8⟩ | ⟨rfl, b_8⟩
  · refine lv_if_ne (tgt := 16) hx hb dX7_change_11 (by decide) (fun _ => ?_) (fun h => absurd h (by decide))
    refine lv_iload_n hx hb dX7_change_16 rfl (lv_at hl 2 rfl) ?_
    refine x_gets F X 3 (by decide) mw_3 dX7_change_17 (fun u_17 hu_17 => ?_)
    refine x_tlen F X hu_17 dX7_change_20 ?_
    refine x_cSi F X (gc := []) (gr := [xoW q x0 xt xa xh xs xf xp xd xr, twW q xt w1 h0 y0 r0 fc, sW q h0 h1 h2 h3 h4 h5 f1 f2 f3 f4 f5 (nI n)]) (xp_idx (n := 3) [0, 1, 2] (by decide +kernel) rfl rfl) (c_X7_isIndexOf l D q (nI i) 4 ) (va_cwS 2 F.1.2.2.2.2 gX7_change_X7_isIndexOf rfl rfl rfl (by decide +kernel) ⟨Nat.le_of_ble_eq_true rfl, Nat.le_of_ble_eq_true rfl⟩) rfl rfl hl.1 ⟨Nat.le_of_ble_eq_true rfl, Nat.le_of_ble_eq_true rfl⟩ (Nat.le_of_ble_eq_true rfl) dX7_change_21 (fun r_21 g1 H locs hp X => ?_)
    obtain ⟨rfl, hz⟩ := hp
    have X : xS D A9 s9 [xoW q x0 xt xa xh xs xf xp xd xr, twW q xt w1 h0 y0 r0 fc, sW q h0 h1 h2 h3 h4 h5 f1 f2 f3 f4 f5 (nI n)] H locs := X
    rcases hz with ⟨rfl, b_21⟩ | ⟨rfl, b_21⟩
    · refine lv_if_ne (tgt := 30) hx hb dX7_change_24 (by decide) (fun _ => ?_) (fun h => absurd h (by decide))
      refine lv_iload_n hx hb dX7_change_30 rfl (lv_at hl 3 rfl) ?_
      refine x_gets F X 3 (by decide) mw_3 dX7_change_31 (fun u_31 hu_31 => ?_)
      refine lv_iload_n hx hb dX7_change_34 rfl (lv_at hl 2 rfl) ?_
      refine x_tld F X hu_31 (v := (xZv 3 i)) (vp_in_nI (by omega) (by omega)) (congrArg (xZv 3) (nI_clamp (by omega))) dX7_change_35 ?_
      refine x_gets F X 4 (by decide) mw_5 dX7_change_36 (fun u_36 hu_36 => ?_)
      refine lv_iload_n hx hb dX7_change_39 rfl (lv_at hl 2 rfl) ?_
      refine x_tld F X hu_36 (v := (xZv 4 i)) (vp_in_nI (by omega) (by omega)) (congrArg (xZv 4) (nI_clamp (by omega))) dX7_change_40 ?_
      refine x_cSi F X (gc := []) (gr := [xoW q x0 xt xa xh xs xf xp xd xr, twW q xt w1 h0 y0 r0 fc, sW q h0 h1 h2 h3 h4 h5 f1 f2 f3 f4 f5 (nI n)]) (xp_idx (n := 3) [0, 1, 2] (by decide +kernel) rfl rfl) (c_X7_isWithin l D q v (xZv 3 i) (xZv 4 i) ) (va_cwS 3 F.1.2.2.2.2 gX7_change_X7_isWithin rfl rfl rfl (by decide +kernel) ⟨Nat.le_of_ble_eq_true rfl, Nat.le_of_ble_eq_true rfl⟩) rfl rfl hl.1 ⟨Nat.le_of_ble_eq_true rfl, Nat.le_of_ble_eq_true rfl⟩ (Nat.le_of_ble_eq_true rfl) dX7_change_41 (fun r_41 g1 H locs hp X => ?_)
      obtain ⟨rfl, hz⟩ := hp
      have X : xS D A9 s9 [xoW q x0 xt xa xh xs xf xp xd xr, twW q xt w1 h0 y0 r0 fc, sW q h0 h1 h2 h3 h4 h5 f1 f2 f3 f4 f5 (nI n)] H locs := X
      rcases hz with ⟨rfl, b_41⟩ | ⟨rfl, b_41⟩
      · refine lv_if_ne (tgt := 50) hx hb dX7_change_44 (by decide) (fun _ => ?_) (fun h => absurd h (by decide))
        exact absurd b_41 hq3
      · refine lv_if_ne (tgt := 50) hx hb dX7_change_44 (by decide) (fun h => absurd (by decide) h) (fun _ => ?_)
        refine lv_bipush (v := (-2)) hx hb dX7_change_47 (by decide) ?_
        exact hret _ _ _ _ _ _ (by exact ⟨rfl, rfl⟩) X dX7_change_49
    · refine lv_if_ne (tgt := 30) hx hb dX7_change_24 (by decide) (fun h => absurd (by decide) h) (fun _ => ?_)
      exact absurd ⟨nI_pos (by omega), nI_lt (b := 4) hi (by omega)⟩ b_21
  · refine lv_if_ne (tgt := 16) hx hb dX7_change_11 (by decide) (fun h => absurd (by decide) h) (fun _ => ?_)
    exact absurd hq1 b_8
