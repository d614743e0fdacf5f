set_option maxHeartbeats 1000000 in
set_option maxRecDepth 100000 in
theorem c_X7_hatsBy (l : Launch) (D : va_G) (q : xQ) (x0 : Nat) (xt : Nat) (xa : Nat) (xh : Nat) (xs : Nat) (xf : Nat) (xp : Nat) (xd : Nat) (xr : Nat) (w1 : Nat) (y0 : Nat) (h0 : Nat) (h1 : Nat) (h2 : Nat) (h3 : Nat) (h4 : Nat) (h5 : Nat) (r0 : Nat → Int32) (f1 : Nat → Int32) (f2 : Nat → Int32) (f3 : Nat → Int32) (f4 : Nat → Int32) (f5 : Nat → Int32) (fc : Int32) (n : Nat) (T : Nat → Int32) (pr : Nat → Nat) (a1 : Nat) (a2 : Nat) (a3 : Nat) (t1 : Nat → Int32) (t2 : Nat → Int32) (t3 : Nat → Int32) (f : Int32) (hok : x_ok T n pr) (hsr : xSR T n f1 f2 f3 f4 f5) (hqr : ∀ i, i < 4 → r0 i = T i) (hfc : fc = T 4) : xMi l yX7_hatsBy wsX7_hatsBy { frames := 3, cells := 0, slots := 0, locals := 69 } D q [.ref x0, .int f] [xoW q x0 xt xa xh xs xf xp xd xr, twW q xt w1 h0 y0 r0 fc, sW q h0 h1 h2 h3 h4 h5 f1 f2 f3 f4 f5 (nI n), aW q xa a1 a2 a3 t1 t2 t3] (fun r gw => ∃ (u1 : Nat → Int32), ∃ (u2 : Nat → Int32), ∃ (u3 : Nat → Int32), gw = [xoW q x0 xt xa xh xs xf xp xd xr, twW q xt w1 h0 y0 r0 fc, sW q h0 h1 h2 h3 h4 h5 f1 f2 f3 f4 f5 (nI n), aW q xa a1 a2 a3 u1 u2 u3] ∧ r = x_hb T pr n f) := by
  refine xMi_of (cc := cX7_hatsBy) (maxL := 2) (rt := .int) (by decide) rfl (Nat.le_of_ble_eq_true rfl) (fun _ _ _ => rfl) ?_
  intro p9 e9 s9 m9 a9 below meth c9 A9 Z9 ls H locs F X hl hret
  have hx := F.1.1
  have hb := F.1.2.1
  have in_X7 : ∀ w ∈ wsX70, w ∈ wsX7_hatsBy := by decide +kernel
  have in_X6 : ∀ w ∈ wsX60, w ∈ wsX7_hatsBy := by decide +kernel
  have mw_0 : Cond.fieldLink RX7 19 "HatWinds" "air" "LHatWinds$Air;" ∈ wsX7_hatsBy := by decide +kernel
  have mw_1 : Cond.fieldLink RX7 10 "HatWinds" "town" "LHatWinds$Town;" ∈ wsX7_hatsBy := by decide +kernel
  have mw_2 : Cond.fieldLink RX7 84 "HatWinds$Town" "streets" "LHatWinds$Streets;" ∈ wsX7_hatsBy := by decide +kernel
  have mw_3 : Cond.initialized RX0 ∈ wsX7_hatsBy := by decide +kernel
  have hl : lv_has ls 2 [(0, .ref x0), (1, .int f)] := hl
  have hok0 := hok
  obtain ⟨hn, hn1, hs5, hs33, hpt, hwd, hcl, hsm, hpe, hst, hle, hhr, hcn⟩ := hok0
  have hpr := hsr.prs hok
  have h60 := hsr.1
  refine lv_aload_n hx hb dX7_hatsBy_0 rfl (lv_at hl 0 rfl) ?_
  refine x_get F X (v := .ref xa) (C := RX7) (T := TX7) (N := 8) (ci := 7) in_X7 0 rfl rfl 1 (by decide) mw_0 rfl dX7_hatsBy_1 ?_
  refine lv_aload_n hx hb dX7_hatsBy_4 rfl (lv_at hl 0 rfl) ?_
  refine x_get F X (v := .ref xt) (C := RX7) (T := TX7) (N := 8) (ci := 7) in_X7 0 rfl rfl 0 (by decide) mw_1 rfl dX7_hatsBy_5 ?_
  refine x_get F X (v := .ref h0) (C := RX6) (T := TX6) (N := 4) (ci := 6) in_X6 1 rfl rfl 1 (by decide) mw_2 rfl dX7_hatsBy_8 ?_
  refine lv_bipush (v := (-6)) hx hb dX7_hatsBy_11 (by decide) ?_
  refine x_cVv F X (gc := [aW q xa a1 a2 a3 t1 t2 t3, sW q h0 h1 h2 h3 h4 h5 f1 f2 f3 f4 f5 (nI n)]) (gr := [xoW q x0 xt xa xh xs xf xp xd xr, twW q xt w1 h0 y0 r0 fc]) (xp_idx (n := 4) [3, 2, 0, 1] (by decide +kernel) rfl rfl) (c_X0_part l D q xa a1 a2 a3 t1 t2 t3 h0 h1 h2 h3 h4 h5 n f1 f2 f3 f4 f5 (-6) (by first | assumption | omega)) (cwV 2 F.1.2.2.2.2 gX7_hatsBy_X0_part rfl rfl rfl (by decide +kernel) ⟨Nat.le_of_ble_eq_true rfl, Nat.le_of_ble_eq_true rfl⟩) rfl rfl (r0 := 0) (ci := 0) (T := TX0) (N := 3) rfl rfl hl.1 ⟨Nat.le_of_ble_eq_true rfl, Nat.le_of_ble_eq_true rfl⟩ (Nat.le_of_ble_eq_true rfl) dX7_hatsBy_13 (fun g1 H locs hp X => ?_)
  obtain ⟨w1_13, w2_13, rfl, hw1_13, hw2_13⟩ := hp
  have X := X.perm (gs' := [xoW q x0 xt xa xh xs xf xp xd xr, twW q xt w1 h0 y0 r0 fc, sW q h0 h1 h2 h3 h4 h5 f1 f2 f3 f4 f5 (nI n), aW q xa a1 a2 a3 w1_13 w2_13 t3]) (xp_idx (n := 4) [2, 3, 1, 0] (by decide +kernel) rfl rfl)
  refine lv_aload_n hx hb dX7_hatsBy_16 rfl (lv_at hl 0 rfl) ?_
  refine x_get F X (v := .ref xa) (C := RX7) (T := TX7) (N := 8) (ci := 7) in_X7 0 rfl rfl 1 (by decide) mw_0 rfl dX7_hatsBy_17 ?_
  refine lv_aload_n hx hb dX7_hatsBy_20 rfl (lv_at hl 0 rfl) ?_
  refine x_get F X (v := .ref xt) (C := RX7) (T := TX7) (N := 8) (ci := 7) in_X7 0 rfl rfl 0 (by decide) mw_1 rfl dX7_hatsBy_21 ?_
  refine x_get F X (v := .ref h0) (C := RX6) (T := TX6) (N := 4) (ci := 6) in_X6 1 rfl rfl 1 (by decide) mw_2 rfl dX7_hatsBy_24 ?_
  refine lv_iload_n hx hb dX7_hatsBy_27 rfl (lv_at hl 1 rfl) ?_
  refine x_cVv F X (gc := [aW q xa a1 a2 a3 w1_13 w2_13 t3, sW q h0 h1 h2 h3 h4 h5 f1 f2 f3 f4 f5 (nI n)]) (gr := [xoW q x0 xt xa xh xs xf xp xd xr, twW q xt w1 h0 y0 r0 fc]) (xp_idx (n := 4) [3, 2, 0, 1] (by decide +kernel) rfl rfl) (c_X0_blow l D q xa a1 a2 a3 w1_13 w2_13 t3 h0 h1 h2 h3 h4 h5 n f1 f2 f3 f4 f5 f pr (by first | assumption | omega) (by first | assumption | omega) (by first | assumption | omega)) (cwV 2 F.1.2.2.2.2 gX7_hatsBy_X0_blow rfl rfl rfl (by decide +kernel) ⟨Nat.le_of_ble_eq_true rfl, Nat.le_of_ble_eq_true rfl⟩) rfl rfl (r0 := 0) (ci := 0) (T := TX0) (N := 3) rfl rfl hl.1 ⟨Nat.le_of_ble_eq_true rfl, Nat.le_of_ble_eq_true rfl⟩ (Nat.le_of_ble_eq_true rfl) dX7_hatsBy_28 (fun g1 H locs hp X => ?_)
  obtain ⟨w3_28, rfl, hw3_28⟩ := hp
  have X := X.perm (gs' := [xoW q x0 xt xa xh xs xf xp xd xr, twW q xt w1 h0 y0 r0 fc, sW q h0 h1 h2 h3 h4 h5 f1 f2 f3 f4 f5 (nI n), aW q xa a1 a2 a3 w1_13 w2_13 w3_28]) (xp_idx (n := 4) [2, 3, 1, 0] (by decide +kernel) rfl rfl)
  have hF : ∀ k, k < n → w3_28 k = x_FT T pr n (-6) f k := fun k hk => (hw3_28 k hk).trans (hsr.P hok hw1_13 hw2_13 hk)
  refine lv_aload_n hx hb dX7_hatsBy_31 rfl (lv_at hl 0 rfl) ?_
  refine x_get F X (v := .ref xa) (C := RX7) (T := TX7) (N := 8) (ci := 7) in_X7 0 rfl rfl 1 (by decide) mw_0 rfl dX7_hatsBy_32 ?_
  refine lv_aload_n hx hb dX7_hatsBy_35 rfl (lv_at hl 0 rfl) ?_
  refine x_get F X (v := .ref xt) (C := RX7) (T := TX7) (N := 8) (ci := 7) in_X7 0 rfl rfl 0 (by decide) mw_1 rfl dX7_hatsBy_36 ?_
  refine x_cVi F X (gc := [aW q xa a1 a2 a3 w1_13 w2_13 w3_28, twW q xt w1 h0 y0 r0 fc, sW q h0 h1 h2 h3 h4 h5 f1 f2 f3 f4 f5 (nI n)]) (gr := [xoW q x0 xt xa xh xs xf xp xd xr]) (xp_idx (n := 4) [3, 1, 2, 0] (by decide +kernel) rfl rfl) (c_X0_hatsLost l D q xa a1 a2 a3 w1_13 w2_13 w3_28 xt w1 y0 r0 fc h0 h1 h2 h3 h4 h5 n f1 f2 f3 f4 f5 (by first | assumption | omega)) (cwV 1 F.1.2.2.2.2 gX7_hatsBy_X0_hatsLost rfl rfl rfl (by decide +kernel) ⟨Nat.le_of_ble_eq_true rfl, Nat.le_of_ble_eq_true rfl⟩) rfl rfl (r0 := 0) (ci := 0) (T := TX0) (N := 3) rfl rfl hl.1 ⟨Nat.le_of_ble_eq_true rfl, Nat.le_of_ble_eq_true rfl⟩ (Nat.le_of_ble_eq_true rfl) dX7_hatsBy_39 (fun r_39 g1 H locs hp X => ?_)
  obtain ⟨rfl, rfl⟩ := hp
  have X := X.perm (gs' := [xoW q x0 xt xa xh xs xf xp xd xr, twW q xt w1 h0 y0 r0 fc, sW q h0 h1 h2 h3 h4 h5 f1 f2 f3 f4 f5 (nI n), aW q xa a1 a2 a3 w1_13 w2_13 w3_28]) (xp_idx (n := 4) [3, 1, 2, 0] (by decide +kernel) rfl rfl)
  exact hret _ _ _ _ _ _ (by exact ⟨_, _, _, rfl, hsr.hb hqr hF⟩) X dX7_hatsBy_42

set_option maxHeartbeats 1000000 in
set_option maxRecDepth 100000 in
theorem c_X7_shelters (l : Launch) (D : va_G) (q : xQ) (x0 : Nat) (xt : Nat) (xa : Nat) (xh : Nat) (xs : Nat) (xf : Nat) (xp : Nat) (xd : Nat) (xr : Nat) (w1 : Nat) (y0 : Nat) (h0 : Nat) (h1 : Nat) (h2 : Nat) (h3 : Nat) (h4 : Nat) (h5 : Nat) (r0 : Nat → Int32) (f1 : Nat → Int32) (f2 : Nat → Int32) (f3 : Nat → Int32) (f4 : Nat → Int32) (f5 : Nat → Int32) (fc : Int32) (n : Nat) (T : Nat → Int32) (pr : Nat → Nat) (a1 : Nat) (a2 : Nat) (a3 : Nat) (t1 : Nat → Int32) (t2 : Nat → Int32) (t3 : Nat → Int32) (hok : x_ok T n pr) (hsr : xSR T n f1 f2 f3 f4 f5) (hqr : ∀ i, i < 4 → r0 i = T i) (hfc : fc = T 4) : xMi l yX7_shelters wsX7_shelters { frames := 4, cells := 0, slots := 0, locals := 90 } D q [.ref x0] [xoW q x0 xt xa xh xs xf xp xd xr, twW q xt w1 h0 y0 r0 fc, sW q h0 h1 h2 h3 h4 h5 f1 f2 f3 f4 f5 (nI n), aW q xa a1 a2 a3 t1 t2 t3] (fun r gw => ∃ (u1 : Nat → Int32), ∃ (u2 : Nat → Int32), ∃ (u3 : Nat → Int32), gw = [xoW q x0 xt xa xh xs xf xp xd xr, twW q xt w1 h0 y0 r0 fc, sW q h0 h1 h2 h3 h4 h5 f1 f2 f3 f4 f5 (nI n), aW q xa a1 a2 a3 u1 u2 u3] ∧ r = x_orf (x_shk T (x_FT T pr n (-6) (T 4))) n) := by
  refine xMi_of (cc := cX7_shelters) (maxL := 3) (rt := .int) (by decide) rfl (Nat.le_of_ble_eq_true rfl) (fun _ _ _ => rfl) ?_
  intro p9 e9 s9 m9 a9 below meth c9 A9 Z9 ls H locs F X hl hret
  have hx := F.1.1
  have hb := F.1.2.1
  have in_X7 : ∀ w ∈ wsX70, w ∈ wsX7_shelters := by decide +kernel
  have in_X6 : ∀ w ∈ wsX60, w ∈ wsX7_shelters := by decide +kernel
  have in_X5 : ∀ w ∈ wsX50, w ∈ wsX7_shelters := by decide +kernel
  have mw_0 : Cond.fieldLink RX7 19 "HatWinds" "air" "LHatWinds$Air;" ∈ wsX7_shelters := by decide +kernel
  have mw_1 : Cond.fieldLink RX7 10 "HatWinds" "town" "LHatWinds$Town;" ∈ wsX7_shelters := by decide +kernel
  have mw_2 : Cond.initialized RX0 ∈ wsX7_shelters := by decide +kernel
  have mw_3 : Cond.fieldLink RX7 84 "HatWinds$Town" "streets" "LHatWinds$Streets;" ∈ wsX7_shelters := by decide +kernel
  have mw_4 : Cond.fieldLink RX7 98 "HatWinds$Streets" "number" "I" ∈ wsX7_shelters := by decide +kernel
  have hl : lv_has ls 3 [(0, .ref x0)] := hl
  have hok0 := hok
  obtain ⟨hn, hn1, hs5, hs33, hpt, hwd, hcl, hsm, hpe, hst, hle, hhr, hcn⟩ := hok0
  have hpr := hsr.prs hok
  have h60 := hsr.1
  refine lv_aload_n hx hb dX7_shelters_0 rfl (lv_at hl 0 rfl) ?_
  refine x_get F X (v := .ref xa) (C := RX7) (T := TX7) (N := 8) (ci := 7) in_X7 0 rfl rfl 1 (by decide) mw_0 rfl dX7_shelters_1 ?_
  refine lv_aload_n hx hb dX7_shelters_4 rfl (lv_at hl 0 rfl) ?_
  refine x_get F X (v := .ref xt) (C := RX7) (T := TX7) (N := 8) (ci := 7) in_X7 0 rfl rfl 0 (by decide) mw_1 rfl dX7_shelters_5 ?_
  refine x_cVv F X (gc := [aW q xa a1 a2 a3 t1 t2 t3, twW q xt w1 h0 y0 r0 fc, sW q h0 h1 h2 h3 h4 h5 f1 f2 f3 f4 f5 (nI n)]) (gr := [xoW q x0 xt xa xh xs xf xp xd xr]) (xp_idx (n := 4) [3, 1, 2, 0] (by decide +kernel) rfl rfl) (c_X0_blowIn l D q xa a1 a2 a3 t1 t2 t3 xt w1 y0 r0 fc h0 h1 h2 h3 h4 h5 n f1 f2 f3 f4 f5 pr (by first | assumption | omega) (by first | assumption | omega) (by first | assumption | omega)) (cwV 1 F.1.2.2.2.2 gX7_shelters_X0_blowIn rfl rfl rfl (by decide +kernel) ⟨Nat.le_of_ble_eq_true rfl, Nat.le_of_ble_eq_true rfl⟩) rfl rfl (r0 := 0) (ci := 0) (T := TX0) (N := 3) rfl rfl hl.1 ⟨Nat.le_of_ble_eq_true rfl, Nat.le_of_ble_eq_true rfl⟩ (Nat.le_of_ble_eq_true rfl) dX7_shelters_8 (fun g1 H locs hp X => ?_)
  obtain ⟨w1_9, w2_9, w3_9, rfl, hw9⟩ := hp
  have X := X.perm (gs' := [xoW q x0 xt xa xh xs xf xp xd xr, twW q xt w1 h0 y0 r0 fc, sW q h0 h1 h2 h3 h4 h5 f1 f2 f3 f4 f5 (nI n), aW q xa a1 a2 a3 w1_9 w2_9 w3_9]) (xp_idx (n := 4) [3, 1, 2, 0] (by decide +kernel) rfl rfl)
  have hF : ∀ k, k < n → w3_9 k = x_FT T pr n (-6) (T 4) k := fun k hk => (hw9 k hk).trans (hsr.F hok hfc hk)
  refine lv_iconst (v := 0) hx hb dX7_shelters_11 (by decide) ?_
  refine lv_istore_n (lv' := [(1, .int 0), (0, .ref x0)]) hx hb dX7_shelters_12 rfl hl (by decide) rfl (fun ls hl => ?_)
  refine lv_iconst (v := 0) hx hb dX7_shelters_13 (by decide) ?_
  refine lv_istore_n (lv' := [(2, .int 0), (1, .int 0), (0, .ref x0)]) hx hb dX7_shelters_14 rfl hl (by decide) rfl (fun ls hl => ?_)
  have L_15 : ∀ (nn : Nat) (j : Nat) (sv1 : Int32) (H : Heap) (locs : List Loc) (ls : Array Slot), xS D A9 s9 [xoW q x0 xt xa xh xs xf xp xd xr, twW q xt w1 h0 y0 r0 fc, sW q h0 h1 h2 h3 h4 h5 f1 f2 f3 f4 f5 (nI n), aW q xa a1 a2 a3 w1_9 w2_9 w3_9] H locs → lv_has ls 3 [(2, .int (nI j)), (1, .int sv1), (0, .ref x0)] → (n < j + nn) → (j ≤ n) → (sv1 = x_orf (x_shk T (x_FT T pr n (-6) (T 4))) j) → W p9 l e9 { frames := 4, cells := 0, slots := 0, locals := 90 } s9 m9 a9 below meth c9 H locs 0 0 Z9 (F0 m9 15 ls []) := by
    intro nn
    induction nn with
    | zero => intro j sv1 H locs ls X hl hfuel hj hs; exact absurd hfuel (by omega)
    | succ nn ih_15 =>
      intro j sv1 H locs ls X hl hfuel hj hs
      refine lv_iload_n hx hb dX7_shelters_15 rfl (lv_at hl 0 rfl) ?_
      refine lv_aload_n hx hb dX7_shelters_16 rfl (lv_at hl 2 rfl) ?_
      refine x_get F X (v := .ref xt) (C := RX7) (T := TX7) (N := 8) (ci := 7) in_X7 0 rfl rfl 0 (by decide) mw_1 rfl dX7_shelters_17 ?_
      refine x_get F X (v := .ref h0) (C := RX6) (T := TX6) (N := 4) (ci := 6) in_X6 1 rfl rfl 1 (by decide) mw_3 rfl dX7_shelters_20 ?_
      refine x_get F X (v := .int (nI n)) (C := RX5) (T := TX5) (N := 6) (ci := 5) in_X5 3 rfl rfl 5 (by decide) mw_4 rfl dX7_shelters_23 ?_
      refine lv_icmp_ge (tgt := 56) hx hb dX7_shelters_26 (by decide) (fun c_26 => ?_) (fun c_26 => ?_)
      · have c_26 : n ≤ j := (nI_leI (a := n) (b := j) (by omega) (by omega)).mp c_26
        refine lv_iload_n hx hb dX7_shelters_56 rfl (lv_at hl 1 rfl) ?_
        refine hret _ _ _ _ _ _ ?_ X dX7_shelters_57
        obtain rfl : j = n := by omega
        exact ⟨_, _, _, rfl, hs⟩
      · have c_26 : j < n := Nat.not_le.mp (fun h => c_26 ((nI_leI (a := n) (b := j) (by omega) (by omega)).mpr h))
        refine lv_aload_n hx hb dX7_shelters_29 rfl (lv_at hl 2 rfl) ?_
        refine x_get F X (v := .ref xa) (C := RX7) (T := TX7) (N := 8) (ci := 7) in_X7 0 rfl rfl 1 (by decide) mw_0 rfl dX7_shelters_30 ?_
        refine lv_aload_n hx hb dX7_shelters_33 rfl (lv_at hl 2 rfl) ?_
        refine x_get F X (v := .ref xt) (C := RX7) (T := TX7) (N := 8) (ci := 7) in_X7 0 rfl rfl 0 (by decide) mw_1 rfl dX7_shelters_34 ?_
        refine lv_iload_n hx hb dX7_shelters_37 rfl (lv_at hl 0 rfl) ?_
        refine x_cVi F X (gc := [aW q xa a1 a2 a3 w1_9 w2_9 w3_9, twW q xt w1 h0 y0 r0 fc, sW q h0 h1 h2 h3 h4 h5 f1 f2 f3 f4 f5 (nI n)]) (gr := [xoW q x0 xt xa xh xs xf xp xd xr]) (xp_idx (n := 4) [3, 1, 2, 0] (by decide +kernel) rfl rfl) (c_X0_hatsLostIn l D q xa a1 a2 a3 w1_9 w2_9 w3_9 xt w1 y0 r0 fc h0 h1 h2 h3 h4 h5 n f1 f2 f3 f4 f5 j (by first | assumption | omega)) (cwV 2 F.1.2.2.2.2 gX7_shelters_X0_hatsLostIn rfl rfl rfl (by decide +kernel) ⟨Nat.le_of_ble_eq_true rfl, Nat.le_of_ble_eq_true rfl⟩) rfl rfl (r0 := 0) (ci := 0) (T := TX0) (N := 3) rfl rfl hl.1 ⟨Nat.le_of_ble_eq_true rfl, Nat.le_of_ble_eq_true rfl⟩ (Nat.le_of_ble_eq_true rfl) dX7_shelters_38 (fun r_38 g1 H locs hp X => ?_)
        obtain ⟨rfl, rfl⟩ := hp
        have X := X.perm (gs' := [xoW q x0 xt xa xh xs xf xp xd xr, twW q xt w1 h0 y0 r0 fc, sW q h0 h1 h2 h3 h4 h5 f1 f2 f3 f4 f5 (nI n), aW q xa a1 a2 a3 w1_9 w2_9 w3_9]) (xp_idx (n := 4) [3, 1, 2, 0] (by decide +kernel) rfl rfl)
        refine lv_if_ne (tgt := 50) hx hb dX7_shelters_41 (by decide) (fun c_41 => ?_) (fun c_41 => ?_)
        · refine lv_iinc (v := (nI (j + 1))) (lv' := [(2, .int (nI (j + 1))), (1, .int sv1), (0, .ref x0)]) hx hb dX7_shelters_50 hl (k := 0) rfl (nI_add j 1) (by decide) rfl (fun ls hl => ?_)
          refine lv_goto (tgt := 15) hx hb dX7_shelters_53 (by decide) ?_
          exact ih_15 (j + 1) _ _ _ _ X (lv_sub hl [0, 1, 2] rfl) (by omega) (by omega) (by rw [hs]; exact (x_orf_z (if_neg (fun z => c_41 ((hsr.hk hqr (show j < n by omega) (hF j (by omega))).trans z)))).symm)
        · refine lv_iload_n hx hb dX7_shelters_44 rfl (lv_at hl 1 rfl) ?_
          refine lv_iconst (v := 1) hx hb dX7_shelters_45 (by decide) ?_
          refine lv_iload_n hx hb dX7_shelters_46 rfl (lv_at hl 0 rfl) ?_
          refine lv_ishl hx hb dX7_shelters_47 ?_
          refine lv_ior hx hb dX7_shelters_48 ?_
          refine lv_istore_n (lv' := [(1, .int (sv1 ||| (1 <<< ((nI j) &&& 31)))), (2, .int (nI j)), (0, .ref x0)]) hx hb dX7_shelters_49 rfl hl (by decide) rfl (fun ls hl => ?_)
          refine lv_iinc (v := (nI (j + 1))) (lv' := [(2, .int (nI (j + 1))), (1, .int (sv1 ||| (1 <<< ((nI j) &&& 31)))), (0, .ref x0)]) hx hb dX7_shelters_50 hl (k := 1) rfl (nI_add j 1) (by decide) rfl (fun ls hl => ?_)
          refine lv_goto (tgt := 15) hx hb dX7_shelters_53 (by decide) ?_
          exact ih_15 (j + 1) _ _ _ _ X (lv_sub hl [0, 1, 2] rfl) (by omega) (by omega) (by rw [hs, x_orf, x_shk, if_pos ((hsr.hk hqr (show j < n by omega) (hF j (by omega))).symm.trans c_41)])
  exact L_15 (n + 1) 0 _ _ _ _ X (lv_sub hl [0, 1, 2] rfl) (by omega) (by omega) (by rfl)

set_option maxHeartbeats 1000000 in
set_option maxRecDepth 100000 in
theorem c_X7_calmest (l : Launch) (D : va_G) (q : xQ) (x0 : Nat) (xt : Nat) (xa : Nat) (xh : Nat) (xs : Nat) (xf : Nat) (xp : Nat) (xd : Nat) (xr : Nat) (w1 : Nat) (y0 : Nat) (h0 : Nat) (h1 : Nat) (h2 : Nat) (h3 : Nat) (h4 : Nat) (h5 : Nat) (r0 : Nat → Int32) (f1 : Nat → Int32) (f2 : Nat → Int32) (f3 : Nat → Int32) (f4 : Nat → Int32) (f5 : Nat → Int32) (fc : Int32) (n : Nat) (T : Nat → Int32) (pr : Nat → Nat) (a1 : Nat) (a2 : Nat) (a3 : Nat) (t1 : Nat → Int32) (t2 : Nat → Int32) (t3 : Nat → Int32) (hok : x_ok T n pr) (hsr : xSR T n f1 f2 f3 f4 f5) (hqr : ∀ i, i < 4 → r0 i = T i) (hfc : fc = T 4) : xMi l yX7_calmest wsX7_calmest { frames := 4, cells := 0, slots := 0, locals := 90 } D q [.ref x0] [xoW q x0 xt xa xh xs xf xp xd xr, twW q xt w1 h0 y0 r0 fc, sW q h0 h1 h2 h3 h4 h5 f1 f2 f3 f4 f5 (nI n), aW q xa a1 a2 a3 t1 t2 t3] (fun r gw => ∃ (u1 : Nat → Int32), ∃ (u2 : Nat → Int32), ∃ (u3 : Nat → Int32), gw = [xoW q x0 xt xa xh xs xf xp xd xr, twW q xt w1 h0 y0 r0 fc, sW q h0 h1 h2 h3 h4 h5 f1 f2 f3 f4 f5 (nI n), aW q xa a1 a2 a3 u1 u2 u3] ∧ r = nI (x_lst (x_FT T pr n (-6) (T 4)) n)) := by
  refine xMi_of (cc := cX7_calmest) (maxL := 3) (rt := .int) (by decide) rfl (Nat.le_of_ble_eq_true rfl) (fun _ _ _ => rfl) ?_
  intro p9 e9 s9 m9 a9 below meth c9 A9 Z9 ls H locs F X hl hret
  have hx := F.1.1
  have hb := F.1.2.1
  have in_X7 : ∀ w ∈ wsX70, w ∈ wsX7_calmest := by decide +kernel
  have in_X6 : ∀ w ∈ wsX60, w ∈ wsX7_calmest := by decide +kernel
  have in_X5 : ∀ w ∈ wsX50, w ∈ wsX7_calmest := by decide +kernel
  have in_X0 : ∀ w ∈ wsX00, w ∈ wsX7_calmest := by decide +kernel
  have mw_0 : Cond.fieldLink RX7 19 "HatWinds" "air" "LHatWinds$Air;" ∈ wsX7_calmest := by decide +kernel
  have mw_1 : Cond.fieldLink RX7 10 "HatWinds" "town" "LHatWinds$Town;" ∈ wsX7_calmest := by decide +kernel
  have mw_2 : Cond.initialized RX0 ∈ wsX7_calmest := by decide +kernel
  have mw_3 : Cond.fieldLink RX7 84 "HatWinds$Town" "streets" "LHatWinds$Streets;" ∈ wsX7_calmest := by decide +kernel
  have mw_4 : Cond.fieldLink RX7 98 "HatWinds$Streets" "number" "I" ∈ wsX7_calmest := by decide +kernel
  have mw_5 : Cond.fieldLink RX7 190 "HatWinds$Air" "force" "[I" ∈ wsX7_calmest := by decide +kernel
  have hl : lv_has ls 3 [(0, .ref x0)] := hl
  have hok0 := hok
  obtain ⟨hn, hn1, hs5, hs33, hpt, hwd, hcl, hsm, hpe, hst, hle, hhr, hcn⟩ := hok0
  have hpr := hsr.prs hok
  have h60 := hsr.1
  refine lv_aload_n hx hb dX7_calmest_0 rfl (lv_at hl 0 rfl) ?_
  refine x_get F X (v := .ref xa) (C := RX7) (T := TX7) (N := 8) (ci := 7) in_X7 0 rfl rfl 1 (by decide) mw_0 rfl dX7_calmest_1 ?_
  refine lv_aload_n hx hb dX7_calmest_4 rfl (lv_at hl 0 rfl) ?_
  refine x_get F X (v := .ref xt) (C := RX7) (T := TX7) (N := 8) (ci := 7) in_X7 0 rfl rfl 0 (by decide) mw_1 rfl dX7_calmest_5 ?_
  refine x_cVv F X (gc := [aW q xa a1 a2 a3 t1 t2 t3, twW q xt w1 h0 y0 r0 fc, sW q h0 h1 h2 h3 h4 h5 f1 f2 f3 f4 f5 (nI n)]) (gr := [xoW q x0 xt xa xh xs xf xp xd xr]) (xp_idx (n := 4) [3, 1, 2, 0] (by decide +kernel) rfl rfl) (c_X0_blowIn l D q xa a1 a2 a3 t1 t2 t3 xt w1 y0 r0 fc h0 h1 h2 h3 h4 h5 n f1 f2 f3 f4 f5 pr (by first | assumption | omega) (by first | assumption | omega) (by first | assumption | omega)) (cwV 1 F.1.2.2.2.2 gX7_calmest_X0_blowIn rfl rfl rfl (by decide +kernel) ⟨Nat.le_of_ble_eq_true rfl, Nat.le_of_ble_eq_true rfl⟩) rfl rfl (r0 := 0) (ci := 0) (T := TX0) (N := 3) rfl rfl hl.1 ⟨Nat.le_of_ble_eq_true rfl, Nat.le_of_ble_eq_true rfl⟩ (Nat.le_of_ble_eq_true rfl) dX7_calmest_8 (fun g1 H locs hp X => ?_)
  obtain ⟨w1_9, w2_9, w3_9, rfl, hw9⟩ := hp
  have X := X.perm (gs' := [xoW q x0 xt xa xh xs xf xp xd xr, twW q xt w1 h0 y0 r0 fc, sW q h0 h1 h2 h3 h4 h5 f1 f2 f3 f4 f5 (nI n), aW q xa a1 a2 a3 w1_9 w2_9 w3_9]) (xp_idx (n := 4) [3, 1, 2, 0] (by decide +kernel) rfl rfl)
  have hF : ∀ k, k < n → w3_9 k = x_FT T pr n (-6) (T 4) k := fun k hk => (hw9 k hk).trans (hsr.F hok hfc hk)
  refine lv_iconst (v := 0) hx hb dX7_calmest_11 (by decide) ?_
  refine lv_istore_n (lv' := [(1, .int 0), (0, .ref x0)]) hx hb dX7_calmest_12 rfl hl (by decide) rfl (fun ls hl => ?_)
  refine lv_iconst (v := 1) hx hb dX7_calmest_13 (by decide) ?_
  refine lv_istore_n (lv' := [(2, .int 1), (1, .int 0), (0, .ref x0)]) hx hb dX7_calmest_14 rfl hl (by decide) rfl (fun ls hl => ?_)
  have L_15 : ∀ (nn : Nat) (j t : Nat) (H : Heap) (locs : List Loc) (ls : Array Slot), xS D A9 s9 [xoW q x0 xt xa xh xs xf xp xd xr, twW q xt w1 h0 y0 r0 fc, sW q h0 h1 h2 h3 h4 h5 f1 f2 f3 f4 f5 (nI n), aW q xa a1 a2 a3 w1_9 w2_9 w3_9] H locs → lv_has ls 3 [(2, .int (nI j)), (1, .int (nI t)), (0, .ref x0)] → (n < j + nn) → (j ≤ n) → (1 ≤ j) → (t = x_lst w3_9 j) → (t < n) → W p9 l e9 { frames := 4, cells := 0, slots := 0, locals := 90 } s9 m9 a9 below meth c9 H locs 0 0 Z9 (F0 m9 15 ls []) := by
    intro nn
    induction nn with
    | zero => intro j t H locs ls X hl hfuel hj hj1 ht ht2; exact absurd hfuel (by omega)
    | succ nn ih_15 =>
      intro j t H locs ls X hl hfuel hj hj1 ht ht2
      refine lv_iload_n hx hb dX7_calmest_15 rfl (lv_at hl 0 rfl) ?_
      refine lv_aload_n hx hb dX7_calmest_16 rfl (lv_at hl 2 rfl) ?_
      refine x_get F X (v := .ref xt) (C := RX7) (T := TX7) (N := 8) (ci := 7) in_X7 0 rfl rfl 0 (by decide) mw_1 rfl dX7_calmest_17 ?_
      refine x_get F X (v := .ref h0) (C := RX6) (T := TX6) (N := 4) (ci := 6) in_X6 1 rfl rfl 1 (by decide) mw_3 rfl dX7_calmest_20 ?_
      refine x_get F X (v := .int (nI n)) (C := RX5) (T := TX5) (N := 6) (ci := 5) in_X5 3 rfl rfl 5 (by decide) mw_4 rfl dX7_calmest_23 ?_
      refine lv_icmp_ge (tgt := 58) hx hb dX7_calmest_26 (by decide) (fun c_26 => ?_) (fun c_26 => ?_)
      · have c_26 : n ≤ j := (nI_leI (a := n) (b := j) (by omega) (by omega)).mp c_26
        refine lv_iload_n hx hb dX7_calmest_58 rfl (lv_at hl 1 rfl) ?_
        refine hret _ _ _ _ _ _ ?_ X dX7_calmest_59
        obtain rfl : j = n := by omega
        exact ⟨_, _, _, rfl, by rw [ht, x_lst_cong hF j (Nat.le_refl j)]⟩
      · have c_26 : j < n := Nat.not_le.mp (fun h => c_26 ((nI_leI (a := n) (b := j) (by omega) (by omega)).mpr h))
        refine lv_aload_n hx hb dX7_calmest_29 rfl (lv_at hl 2 rfl) ?_
        refine x_get F X (v := .ref xa) (C := RX7) (T := TX7) (N := 8) (ci := 7) in_X7 0 rfl rfl 1 (by decide) mw_0 rfl dX7_calmest_30 ?_
        refine x_get F X (v := .ref a3) (C := RX0) (T := TX0) (N := 3) (ci := 0) in_X0 9 rfl rfl 2 (by decide) mw_5 rfl dX7_calmest_33 ?_
        refine lv_iload_n hx hb dX7_calmest_36 rfl (lv_at hl 0 rfl) ?_
        refine x_iald F X (v := (w3_9 j)) (n := 20) (f := w3_9) 12 rfl (vp_in_nI (by omega) (by omega)) (x_cl (by omega)) dX7_calmest_37 ?_
        refine lv_aload_n hx hb dX7_calmest_38 rfl (lv_at hl 2 rfl) ?_
        refine x_get F X (v := .ref xa) (C := RX7) (T := TX7) (N := 8) (ci := 7) in_X7 0 rfl rfl 1 (by decide) mw_0 rfl dX7_calmest_39 ?_
        refine x_get F X (v := .ref a3) (C := RX0) (T := TX0) (N := 3) (ci := 0) in_X0 9 rfl rfl 2 (by decide) mw_5 rfl dX7_calmest_42 ?_
        refine lv_iload_n hx hb dX7_calmest_45 rfl (lv_at hl 1 rfl) ?_
        refine x_iald F X (v := (w3_9 t)) (n := 20) (f := w3_9) 12 rfl (vp_in_nI (by omega) (by omega)) (x_cl (by omega)) dX7_calmest_46 ?_
        refine lv_icmp_ge (tgt := 52) hx hb dX7_calmest_47 (by decide) (fun c_47 => ?_) (fun c_47 => ?_)
        · refine lv_iinc (v := (nI (j + 1))) (lv' := [(2, .int (nI (j + 1))), (1, .int (nI t)), (0, .ref x0)]) hx hb dX7_calmest_52 hl (k := 0) rfl (nI_add j 1) (by decide) rfl (fun ls hl => ?_)
          refine lv_goto (tgt := 15) hx hb dX7_calmest_55 (by decide) ?_
          exact ih_15 (j + 1) t _ _ _ X (lv_sub hl [0, 1, 2] rfl) (by omega) (by omega) (by omega) (by rw [x_lst, ← ht, if_neg (Int32.not_lt.mpr c_47)]) (by omega)
        · refine lv_iload_n hx hb dX7_calmest_50 rfl (lv_at hl 0 rfl) ?_
          refine lv_istore_n (lv' := [(1, .int (nI j)), (2, .int (nI j)), (0, .ref x0)]) hx hb dX7_calmest_51 rfl hl (by decide) rfl (fun ls hl => ?_)
          refine lv_iinc (v := (nI (j + 1))) (lv' := [(2, .int (nI (j + 1))), (1, .int (nI j)), (0, .ref x0)]) hx hb dX7_calmest_52 hl (k := 1) rfl (nI_add j 1) (by decide) rfl (fun ls hl => ?_)
          refine lv_goto (tgt := 15) hx hb dX7_calmest_55 (by decide) ?_
          exact ih_15 (j + 1) j _ _ _ X (lv_sub hl [0, 1, 2] rfl) (by omega) (by omega) (by omega) (by rw [x_lst, ← ht, if_pos (Int32.not_le.mp c_47)]) (by omega)
  exact L_15 (n) 1 0 _ _ _ X (lv_sub hl [0, 1, 2] rfl) (by omega) (by omega) (by omega) (by rw [x_lst]; split <;> rfl) (by omega)
