set_option maxHeartbeats 1000000 in
set_option maxRecDepth 100000 in
theorem c_X5_howFarOff (l : Launch) (D : va_G) (q : xQ) (h0 : Nat) (h1 : Nat) (h2 : Nat) (h3 : Nat) (h4 : Nat) (h5 : Nat) (n : Nat) (f1 : Nat → Int32) (f2 : Nat → Int32) (f3 : Nat → Int32) (f4 : Nat → Int32) (f5 : Nat → Int32) (k : Nat) (pr : Nat → Nat) (hn : n ≤ 20) (hk : k < n) (h60 : f1 0 = -6) (hpr : ∀ o, 1 ≤ o → o < n → f1 o = nI (pr o) ∧ pr o < o) : xMi l yX5_howFarOff wsX5_howFarOff { frames := 2, cells := 0, slots := 0, locals := 42 } D q [.ref h0, .int (nI k)] [sW q h0 h1 h2 h3 h4 h5 f1 f2 f3 f4 f5 (nI n)] (fun r gw => gw = [sW q h0 h1 h2 h3 h4 h5 f1 f2 f3 f4 f5 (nI n)] ∧ r = nI (x_dep pr k k)) := by
  refine xMi_of (cc := cX5_howFarOff) (maxL := 4) (rt := .int) (by decide) rfl (Nat.le_of_ble_eq_true rfl) (fun _ _ _ => rfl) ?_
  intro p9 e9 s9 m9 a9 below meth c9 A9 Z9 ls H locs F X hl hret
  have hx := F.1.1
  have hb := F.1.2.1
  have in_X5 : ∀ w ∈ wsX50, w ∈ wsX5_howFarOff := by decide +kernel
  have mw_0 : Cond.fieldLink RX5 9 "HatWinds$Streets" "from" "[I" ∈ wsX5_howFarOff := by decide +kernel
  have mw_1 : Cond.initialized RX5 ∈ wsX5_howFarOff := by decide +kernel
  have hl : lv_has ls 4 [(0, .ref h0), (1, .int (nI k))] := hl
  refine lv_iconst (v := 0) hx hb dX5_howFarOff_0 (by decide) ?_
  refine lv_istore_n (lv' := [(2, .int 0), (0, .ref h0), (1, .int (nI k))]) hx hb dX5_howFarOff_1 rfl hl (by decide) rfl (fun ls hl => ?_)
  refine lv_aload_n hx hb dX5_howFarOff_2 rfl (lv_at hl 1 rfl) ?_
  refine x_get F X (v := .ref h1) (C := RX5) (T := TX5) (N := 6) (ci := 5) in_X5 0 rfl rfl 0 (by decide) mw_0 rfl dX5_howFarOff_3 ?_
  refine lv_iload_n hx hb dX5_howFarOff_6 rfl (lv_at hl 2 rfl) ?_
  refine x_iald F X (v := (f1 k)) (n := 20) (f := f1) 1 rfl (vp_in_nI (by omega) (by omega)) (x_cl (by omega)) dX5_howFarOff_7 ?_
  refine lv_istore_n (lv' := [(3, .int (f1 k)), (2, .int 0), (0, .ref h0), (1, .int (nI k))]) hx hb dX5_howFarOff_8 rfl hl (by decide) rfl (fun ls hl => ?_)
  have L_9 : ∀ (nn : Nat) (d u : Nat) (H : Heap) (locs : List Loc) (ls : Array Slot), xS D A9 s9 [sW q h0 h1 h2 h3 h4 h5 f1 f2 f3 f4 f5 (nI n)] H locs → lv_has ls 4 [(3, .int (f1 u)), (2, .int (nI d)), (0, .ref h0), (1, .int (nI k))] → (u < nn) → (u < n) → (d + x_dep pr u u = x_dep pr k k) → (d + u ≤ k) → W p9 l e9 { frames := 2, cells := 0, slots := 0, locals := 42 } s9 m9 a9 below meth c9 H locs 0 0 Z9 (F0 m9 9 ls []) := by
    intro nn
    induction nn with
    | zero => intro d u H locs ls X hl hfuel hu hd hdk; exact absurd hfuel (by omega)
    | succ nn ih_9 =>
      intro d u H locs ls X hl hfuel hu hd hdk
      refine lv_aload_n hx hb dX5_howFarOff_9 rfl (lv_at hl 2 rfl) ?_
      refine lv_iload_n hx hb dX5_howFarOff_10 rfl (lv_at hl 0 rfl) ?_
      refine x_cVi F X (gc := [sW q h0 h1 h2 h3 h4 h5 f1 f2 f3 f4 f5 (nI n)]) (gr := []) (xp_idx (n := 1) [0] (by decide +kernel) rfl rfl) (c_X5_has l D q h0 h1 h2 h3 h4 h5 n f1 f2 f3 f4 f5 (f1 u) (by first | assumption | omega)) (cwV 1 F.1.2.2.2.2 gX5_howFarOff_X5_has rfl rfl rfl (by decide +kernel) ⟨Nat.le_of_ble_eq_true rfl, Nat.le_of_ble_eq_true rfl⟩) rfl rfl (r0 := 0) (ci := 5) (T := TX5) (N := 6) rfl rfl hl.1 ⟨Nat.le_of_ble_eq_true rfl, Nat.le_of_ble_eq_true rfl⟩ (Nat.le_of_ble_eq_true rfl) dX5_howFarOff_11 (fun r_11 g1 H locs hp X => ?_)
      obtain ⟨rfl, hz⟩ := hp
      have X : xS D A9 s9 [sW q h0 h1 h2 h3 h4 h5 f1 f2 f3 f4 f5 (nI n)] H locs := X
      rcases hz with ⟨rfl, b_11⟩ | ⟨rfl, b_11⟩
      · refine lv_if_eq (tgt := 36) hx hb dX5_howFarOff_14 (by decide) (fun h => absurd h (by decide)) (fun _ => ?_)
        have hu1 : 1 ≤ u := by
          obtain ⟨z, hz, e⟩ := b_11
          rcases Nat.eq_zero_or_pos u with rfl | h
          · rw [h60] at e; exact absurd e (x_m6 z (by omega))
          · exact h
        have ep : f1 u = nI (pr u) := (hpr u hu1 hu).1
        refine lv_iload_n hx hb dX5_howFarOff_17 rfl (lv_at hl 1 rfl) ?_
        refine lv_bipush (v := 20) hx hb dX5_howFarOff_18 (by decide) ?_
        refine lv_icmp_ge (tgt := 36) hx hb dX5_howFarOff_20 (by decide) (fun c_20 => ?_) (fun c_20 => ?_)
        · exfalso
          have c_20 : 20 ≤ d := (nI_leI (a := 20) (b := d) (by omega) (by omega)).mp c_20
          omega
        have c_20 : d < 20 := Nat.not_le.mp (fun h => c_20 ((nI_leI (a := 20) (b := d) (by omega) (by omega)).mpr h))
        refine lv_iinc (v := (nI (d + 1))) (lv' := [(2, .int (nI (d + 1))), (3, .int (f1 u)), (0, .ref h0), (1, .int (nI k))]) hx hb dX5_howFarOff_23 hl (k := 1) rfl (nI_add d 1) (by decide) rfl (fun ls hl => ?_)
        refine lv_aload_n hx hb dX5_howFarOff_26 rfl (lv_at hl 2 rfl) ?_
        refine x_get F X (v := .ref h1) (C := RX5) (T := TX5) (N := 6) (ci := 5) in_X5 0 rfl rfl 0 (by decide) mw_0 rfl dX5_howFarOff_27 ?_
        refine lv_iload_n hx hb dX5_howFarOff_30 rfl (lv_at hl 1 rfl) ?_
        refine x_iald F X (v := (f1 (pr u))) (n := 20) (f := f1) 1 rfl (by rw [ep]; exact vp_in_nI (by have := (hpr u hu1 hu).2; omega) (by decide)) (by rw [ep]; exact x_cl (by have := (hpr u hu1 hu).2; omega)) dX5_howFarOff_31 ?_
        refine lv_istore_n (lv' := [(3, .int (f1 (pr u))), (2, .int (nI (d + 1))), (0, .ref h0), (1, .int (nI k))]) hx hb dX5_howFarOff_32 rfl hl (by decide) rfl (fun ls hl => ?_)
        refine lv_goto (tgt := 9) hx hb dX5_howFarOff_33 (by decide) ?_
        exact ih_9 (d + 1) (pr u) _ _ _ X (lv_sub hl [0, 1, 2, 3] rfl) (by have := (hpr u hu1 hu).2; omega) (by have := (hpr u hu1 hu).2; omega) (by have := x_dep_step pr n (fun o h1 h2 => (hpr o h1 h2).2) hu1 hu; omega) (by have := (hpr u hu1 hu).2; omega)
      · refine lv_if_eq (tgt := 36) hx hb dX5_howFarOff_14 (by decide) (fun _ => ?_) (fun h => absurd (by decide) h)
        refine lv_iload_n hx hb dX5_howFarOff_36 rfl (lv_at hl 1 rfl) ?_
        refine hret _ _ _ _ _ _ ?_ X dX5_howFarOff_37
        have hu0 : u = 0 := by
          rcases Nat.eq_zero_or_pos u with h | h
          · exact h
          · exact absurd ⟨pr u, by have := (hpr u h hu).2; omega, (hpr u h hu).1⟩ b_11
        subst hu0
        have : x_dep pr 0 0 = 0 := rfl
        obtain rfl : d = x_dep pr k k := by omega
        exact ⟨rfl, rfl⟩
  exact L_9 (k + 1) 0 k _ _ _ X (lv_sub hl [0, 1, 2, 3] rfl) (by omega) (by omega) (by exact Nat.zero_add _) (by omega)

set_option maxHeartbeats 1000000 in
set_option maxRecDepth 100000 in
theorem c_X5_peopleOfAll (l : Launch) (D : va_G) (q : xQ) (h0 : Nat) (h1 : Nat) (h2 : Nat) (h3 : Nat) (h4 : Nat) (h5 : Nat) (n : Nat) (f1 : Nat → Int32) (f2 : Nat → Int32) (f3 : Nat → Int32) (f4 : Nat → Int32) (f5 : Nat → Int32) (hn : n ≤ 20) : xMi l yX5_peopleOfAll wsX5_peopleOfAll { frames := 0, cells := 0, slots := 0, locals := 0 } D q [.ref h0] [sW q h0 h1 h2 h3 h4 h5 f1 f2 f3 f4 f5 (nI n)] (fun r gw => gw = [sW q h0 h1 h2 h3 h4 h5 f1 f2 f3 f4 f5 (nI n)] ∧ r = x_sm f5 n) := by
  refine xMi_of (cc := cX5_peopleOfAll) (maxL := 3) (rt := .int) (by decide) rfl (Nat.le_of_ble_eq_true rfl) (fun _ _ _ => rfl) ?_
  intro p9 e9 s9 m9 a9 below meth c9 A9 Z9 ls H locs F X hl hret
  have hx := F.1.1
  have hb := F.1.2.1
  have in_X5 : ∀ w ∈ wsX50, w ∈ wsX5_peopleOfAll := by decide +kernel
  have mw_0 : Cond.fieldLink RX5 27 "HatWinds$Streets" "number" "I" ∈ wsX5_peopleOfAll := by decide +kernel
  have mw_1 : Cond.fieldLink RX5 24 "HatWinds$Streets" "people" "[I" ∈ wsX5_peopleOfAll := by decide +kernel
  have hl : lv_has ls 3 [(0, .ref h0)] := hl
  refine lv_iconst (v := 0) hx hb dX5_peopleOfAll_0 (by decide) ?_
  refine lv_istore_n (lv' := [(1, .int 0), (0, .ref h0)]) hx hb dX5_peopleOfAll_1 rfl hl (by decide) rfl (fun ls hl => ?_)
  refine lv_iconst (v := 0) hx hb dX5_peopleOfAll_2 (by decide) ?_
  refine lv_istore_n (lv' := [(2, .int 0), (1, .int 0), (0, .ref h0)]) hx hb dX5_peopleOfAll_3 rfl hl (by decide) rfl (fun ls hl => ?_)
  have L_4 : ∀ (nn : Nat) (j : Nat) (t : Int32) (H : Heap) (locs : List Loc) (ls : Array Slot), xS D A9 s9 [sW q h0 h1 h2 h3 h4 h5 f1 f2 f3 f4 f5 (nI n)] H locs → lv_has ls 3 [(2, .int (nI j)), (1, .int t), (0, .ref h0)] → (n < j + nn) → (j ≤ n) → (t = x_sm f5 j) → W p9 l e9 { frames := 0, cells := 0, slots := 0, locals := 0 } s9 m9 a9 below meth c9 H locs 0 0 Z9 (F0 m9 4 ls []) := by
    intro nn
    induction nn with
    | zero => intro j t H locs ls X hl hfuel hj ht; exact absurd hfuel (by omega)
    | succ nn ih_4 =>
      intro j t H locs ls X hl hfuel hj ht
      refine lv_iload_n hx hb dX5_peopleOfAll_4 rfl (lv_at hl 0 rfl) ?_
      refine lv_aload_n hx hb dX5_peopleOfAll_5 rfl (lv_at hl 2 rfl) ?_
      refine x_get F X (v := .int (nI n)) (C := RX5) (T := TX5) (N := 6) (ci := 5) in_X5 0 rfl rfl 5 (by decide) mw_0 rfl dX5_peopleOfAll_6 ?_
      refine lv_icmp_ge (tgt := 27) hx hb dX5_peopleOfAll_9 (by decide) (fun c_9 => ?_) (fun c_9 => ?_)
      · have c_9 : n ≤ j := (nI_leI (a := n) (b := j) (by omega) (by omega)).mp c_9
        refine lv_iload_n hx hb dX5_peopleOfAll_27 rfl (lv_at hl 1 rfl) ?_
        refine hret _ _ _ _ _ _ ?_ X dX5_peopleOfAll_28
        obtain rfl : j = n := by omega
        exact ⟨rfl, ht⟩
      · have c_9 : j < n := Nat.not_le.mp (fun h => c_9 ((nI_leI (a := n) (b := j) (by omega) (by omega)).mpr h))
        refine lv_iload_n hx hb dX5_peopleOfAll_12 rfl (lv_at hl 1 rfl) ?_
        refine lv_aload_n hx hb dX5_peopleOfAll_13 rfl (lv_at hl 2 rfl) ?_
        refine x_get F X (v := .ref h5) (C := RX5) (T := TX5) (N := 6) (ci := 5) in_X5 0 rfl rfl 4 (by decide) mw_1 rfl dX5_peopleOfAll_14 ?_
        refine lv_iload_n hx hb dX5_peopleOfAll_17 rfl (lv_at hl 0 rfl) ?_
        refine x_iald F X (v := (f5 j)) (n := 20) (f := f5) 5 rfl (vp_in_nI (by omega) (by omega)) (x_cl (by omega)) dX5_peopleOfAll_18 ?_
        refine lv_iadd hx hb dX5_peopleOfAll_19 ?_
        refine lv_istore_n (lv' := [(1, .int (t + (f5 j))), (2, .int (nI j)), (0, .ref h0)]) hx hb dX5_peopleOfAll_20 rfl hl (by decide) rfl (fun ls hl => ?_)
        refine lv_iinc (v := (nI (j + 1))) (lv' := [(2, .int (nI (j + 1))), (1, .int (t + (f5 j))), (0, .ref h0)]) hx hb dX5_peopleOfAll_21 hl (k := 1) rfl (nI_add j 1) (by decide) rfl (fun ls hl => ?_)
        refine lv_goto (tgt := 4) hx hb dX5_peopleOfAll_24 (by decide) ?_
        exact ih_4 (j + 1) _ _ _ _ X (lv_sub hl [0, 1, 2] rfl) (by omega) (by omega) (by rw [ht]; rfl)
  exact L_4 (n + 1) 0 _ _ _ _ X (lv_sub hl [0, 1, 2] rfl) (by omega) (by omega) (by rfl)

set_option maxHeartbeats 1000000 in
set_option maxRecDepth 100000 in
theorem c_X5_copy (l : Launch) (D : va_G) (q : xQ) (h0 : Nat) (h1 : Nat) (h2 : Nat) (h3 : Nat) (h4 : Nat) (h5 : Nat) (i0 : Nat) (i1 : Nat) (i2 : Nat) (i3 : Nat) (i4 : Nat) (i5 : Nat) (f1 : Nat → Int32) (f2 : Nat → Int32) (f3 : Nat → Int32) (f4 : Nat → Int32) (f5 : Nat → Int32) (e1 : Nat → Int32) (e2 : Nat → Int32) (e3 : Nat → Int32) (e4 : Nat → Int32) (e5 : Nat → Int32) (nb : Int32) (mb : Int32) : xMv l yX5_copy wsX5_copy { frames := 2, cells := 0, slots := 0, locals := 61 } D q [.ref h0, .ref i0] [sW q h0 h1 h2 h3 h4 h5 f1 f2 f3 f4 f5 nb, sW q i0 i1 i2 i3 i4 i5 e1 e2 e3 e4 e5 mb] (fun gw => gw = [sW q h0 h1 h2 h3 h4 h5 (va_cpy e1 f1 0 0 20) (va_cpy e2 f2 0 0 20) (va_cpy e3 f3 0 0 20) (va_cpy e4 f4 0 0 20) (va_cpy e5 f5 0 0 20) mb, sW q i0 i1 i2 i3 i4 i5 e1 e2 e3 e4 e5 mb]) := by
  refine xMv_of (cc := cX5_copy) (maxL := 2) (by decide) rfl (Nat.le_of_ble_eq_true rfl) ?_
  intro p9 e9 s9 m9 a9 below meth c9 A9 Z9 ls H locs F hini X hl hret
  have hx := F.1.1
  have hb := F.1.2.1
  have in_X5 : ∀ w ∈ wsX50, w ∈ wsX5_copy := by decide +kernel
  have mw_0 : Cond.fieldLink RX5 9 "HatWinds$Streets" "from" "[I" ∈ wsX5_copy := by decide +kernel
  have mw_1 : Cond.initialized RX7 ∈ wsX5_copy := by decide +kernel
  have mw_2 : Cond.static yX7_copyRow ∈ wsX5_copy := by decide +kernel
  have mw_3 : Cond.fieldLink RX5 15 "HatWinds$Streets" "width" "[I" ∈ wsX5_copy := by decide +kernel
  have mw_4 : Cond.fieldLink RX5 18 "HatWinds$Streets" "cloth" "[I" ∈ wsX5_copy := by decide +kernel
  have mw_5 : Cond.fieldLink RX5 21 "HatWinds$Streets" "smoke" "[I" ∈ wsX5_copy := by decide +kernel
  have mw_6 : Cond.fieldLink RX5 24 "HatWinds$Streets" "people" "[I" ∈ wsX5_copy := by decide +kernel
  have mw_7 : Cond.fieldLink RX5 27 "HatWinds$Streets" "number" "I" ∈ wsX5_copy := by decide +kernel
  have hl : lv_has ls 2 [(0, .ref h0), (1, .ref i0)] := hl
  refine lv_aload_n hx hb dX5_copy_0 rfl (lv_at hl 1 rfl) ?_
  refine x_get F X (v := .ref i1) (C := RX5) (T := TX5) (N := 6) (ci := 5) in_X5 6 rfl rfl 0 (by decide) mw_0 rfl dX5_copy_1 ?_
  refine lv_aload_n hx hb dX5_copy_4 rfl (lv_at hl 0 rfl) ?_
  refine x_get F X (v := .ref h1) (C := RX5) (T := TX5) (N := 6) (ci := 5) in_X5 0 rfl rfl 0 (by decide) mw_0 rfl dX5_copy_5 ?_
  have X := X.expl (gs' := [sW q h0 h1 h2 h3 h4 h5 f1 f2 f3 f4 f5 nb, [(i0, .inr (5, [.ref i1, .ref i2, .ref i3, .ref i4, .ref i5, .int mb]))], rW q i1 20 e1, rW q i2 20 e2, rW q i3 20 e3, rW q i4 20 e4, rW q i5 20 e5]) (bs := [[(i0, .inr (5, [.ref i1, .ref i2, .ref i3, .ref i4, .ref i5, .int mb]))], rW q i1 20 e1, rW q i2 20 e2, rW q i3 20 e3, rW q i4 20 e4, rW q i5 20 e5]) 1 rfl rfl rfl
  have X := X.expl (gs' := [[(h0, .inr (5, [.ref h1, .ref h2, .ref h3, .ref h4, .ref h5, .int nb]))], rW q h1 20 f1, rW q h2 20 f2, rW q h3 20 f3, rW q h4 20 f4, rW q h5 20 f5, [(i0, .inr (5, [.ref i1, .ref i2, .ref i3, .ref i4, .ref i5, .int mb]))], rW q i1 20 e1, rW q i2 20 e2, rW q i3 20 e3, rW q i4 20 e4, rW q i5 20 e5]) (bs := [[(h0, .inr (5, [.ref h1, .ref h2, .ref h3, .ref h4, .ref h5, .int nb]))], rW q h1 20 f1, rW q h2 20 f2, rW q h3 20 f3, rW q h4 20 f4, rW q h5 20 f5]) 0 rfl rfl rfl
  refine x_cNv F X (gc := [rW q i1 20 e1, rW q h1 20 f1]) (gr := [[(h0, .inr (5, [.ref h1, .ref h2, .ref h3, .ref h4, .ref h5, .int nb]))], rW q h2 20 f2, rW q h3 20 f3, rW q h4 20 f4, rW q h5 20 f5, [(i0, .inr (5, [.ref i1, .ref i2, .ref i3, .ref i4, .ref i5, .int mb]))], rW q i2 20 e2, rW q i3 20 e3, rW q i4 20 e4, rW q i5 20 e5]) (xp_idx (n := 12) [7, 1, 0, 2, 3, 4, 5, 6, 8, 9, 10, 11] (by decide +kernel) rfl rfl) (c_X7_copyRow l D q i1 h1 20 e1 f1 (by omega)) ⟨va_cnB (host := "HatWinds") 2 F.1.2.2.2.2 gX5_copy_X7_copyRow_n31 rfl rfl rfl (F.2.2 _ (List.mem_of_getElem? (i := 7) rfl)) (F.1.2.2.2.2 _ mw_1) (by decide +kernel) ⟨Nat.le_of_ble_eq_true rfl, Nat.le_of_ble_eq_true rfl⟩, F.1.2.2.2.2 _ mw_2, trivial⟩ rfl rfl hl.1 ⟨Nat.le_of_ble_eq_true rfl, Nat.le_of_ble_eq_true rfl⟩ (Nat.le_of_ble_eq_true rfl) dX5_copy_8 (fun g1 H locs hp X => ?_)
  subst hp
  have X := X.perm (gs' := [[(h0, .inr (5, [.ref h1, .ref h2, .ref h3, .ref h4, .ref h5, .int nb]))], rW q h1 20 (va_cpy e1 f1 0 0 20), rW q h2 20 f2, rW q h3 20 f3, rW q h4 20 f4, rW q h5 20 f5, [(i0, .inr (5, [.ref i1, .ref i2, .ref i3, .ref i4, .ref i5, .int mb]))], rW q i1 20 e1, rW q i2 20 e2, rW q i3 20 e3, rW q i4 20 e4, rW q i5 20 e5]) (xp_idx (n := 12) [2, 1, 3, 4, 5, 6, 7, 0, 8, 9, 10, 11] (by decide +kernel) rfl rfl)
  have X := X.impl (gs' := [[(h0, .inr (5, [.ref h1, .ref h2, .ref h3, .ref h4, .ref h5, .int nb]))], rW q h1 20 (va_cpy e1 f1 0 0 20), rW q h2 20 f2, rW q h3 20 f3, rW q h4 20 f4, rW q h5 20 f5, sW q i0 i1 i2 i3 i4 i5 e1 e2 e3 e4 e5 mb]) (b := sW q i0 i1 i2 i3 i4 i5 e1 e2 e3 e4 e5 mb) 6 6 rfl rfl rfl
  have X := X.impl (gs' := [sW q h0 h1 h2 h3 h4 h5 (va_cpy e1 f1 0 0 20) f2 f3 f4 f5 nb, sW q i0 i1 i2 i3 i4 i5 e1 e2 e3 e4 e5 mb]) (b := sW q h0 h1 h2 h3 h4 h5 (va_cpy e1 f1 0 0 20) f2 f3 f4 f5 nb) 0 6 rfl rfl rfl
  refine lv_aload_n hx hb dX5_copy_11 rfl (lv_at hl 1 rfl) ?_
  refine x_get F X (v := .ref i2) (C := RX5) (T := TX5) (N := 6) (ci := 5) in_X5 6 rfl rfl 1 (by decide) mw_3 rfl dX5_copy_12 ?_
  refine lv_aload_n hx hb dX5_copy_15 rfl (lv_at hl 0 rfl) ?_
  refine x_get F X (v := .ref h2) (C := RX5) (T := TX5) (N := 6) (ci := 5) in_X5 0 rfl rfl 1 (by decide) mw_3 rfl dX5_copy_16 ?_
  have X := X.expl (gs' := [sW q h0 h1 h2 h3 h4 h5 (va_cpy e1 f1 0 0 20) f2 f3 f4 f5 nb, [(i0, .inr (5, [.ref i1, .ref i2, .ref i3, .ref i4, .ref i5, .int mb]))], rW q i1 20 e1, rW q i2 20 e2, rW q i3 20 e3, rW q i4 20 e4, rW q i5 20 e5]) (bs := [[(i0, .inr (5, [.ref i1, .ref i2, .ref i3, .ref i4, .ref i5, .int mb]))], rW q i1 20 e1, rW q i2 20 e2, rW q i3 20 e3, rW q i4 20 e4, rW q i5 20 e5]) 1 rfl rfl rfl
  have X := X.expl (gs' := [[(h0, .inr (5, [.ref h1, .ref h2, .ref h3, .ref h4, .ref h5, .int nb]))], rW q h1 20 (va_cpy e1 f1 0 0 20), rW q h2 20 f2, rW q h3 20 f3, rW q h4 20 f4, rW q h5 20 f5, [(i0, .inr (5, [.ref i1, .ref i2, .ref i3, .ref i4, .ref i5, .int mb]))], rW q i1 20 e1, rW q i2 20 e2, rW q i3 20 e3, rW q i4 20 e4, rW q i5 20 e5]) (bs := [[(h0, .inr (5, [.ref h1, .ref h2, .ref h3, .ref h4, .ref h5, .int nb]))], rW q h1 20 (va_cpy e1 f1 0 0 20), rW q h2 20 f2, rW q h3 20 f3, rW q h4 20 f4, rW q h5 20 f5]) 0 rfl rfl rfl
  refine x_cNv F X (gc := [rW q i2 20 e2, rW q h2 20 f2]) (gr := [[(h0, .inr (5, [.ref h1, .ref h2, .ref h3, .ref h4, .ref h5, .int nb]))], rW q h1 20 (va_cpy e1 f1 0 0 20), rW q h3 20 f3, rW q h4 20 f4, rW q h5 20 f5, [(i0, .inr (5, [.ref i1, .ref i2, .ref i3, .ref i4, .ref i5, .int mb]))], rW q i1 20 e1, rW q i3 20 e3, rW q i4 20 e4, rW q i5 20 e5]) (xp_idx (n := 12) [8, 2, 0, 1, 3, 4, 5, 6, 7, 9, 10, 11] (by decide +kernel) rfl rfl) (c_X7_copyRow l D q i2 h2 20 e2 f2 (by omega)) ⟨va_cnB (host := "HatWinds") 2 F.1.2.2.2.2 gX5_copy_X7_copyRow_n31 rfl rfl rfl (F.2.2 _ (List.mem_of_getElem? (i := 7) rfl)) (F.1.2.2.2.2 _ mw_1) (by decide +kernel) ⟨Nat.le_of_ble_eq_true rfl, Nat.le_of_ble_eq_true rfl⟩, F.1.2.2.2.2 _ mw_2, trivial⟩ rfl rfl hl.1 ⟨Nat.le_of_ble_eq_true rfl, Nat.le_of_ble_eq_true rfl⟩ (Nat.le_of_ble_eq_true rfl) dX5_copy_19 (fun g1 H locs hp X => ?_)
  subst hp
  have X := X.perm (gs' := [[(h0, .inr (5, [.ref h1, .ref h2, .ref h3, .ref h4, .ref h5, .int nb]))], rW q h1 20 (va_cpy e1 f1 0 0 20), rW q h2 20 (va_cpy e2 f2 0 0 20), rW q h3 20 f3, rW q h4 20 f4, rW q h5 20 f5, [(i0, .inr (5, [.ref i1, .ref i2, .ref i3, .ref i4, .ref i5, .int mb]))], rW q i1 20 e1, rW q i2 20 e2, rW q i3 20 e3, rW q i4 20 e4, rW q i5 20 e5]) (xp_idx (n := 12) [2, 3, 1, 4, 5, 6, 7, 8, 0, 9, 10, 11] (by decide +kernel) rfl rfl)
  have X := X.impl (gs' := [[(h0, .inr (5, [.ref h1, .ref h2, .ref h3, .ref h4, .ref h5, .int nb]))], rW q h1 20 (va_cpy e1 f1 0 0 20), rW q h2 20 (va_cpy e2 f2 0 0 20), rW q h3 20 f3, rW q h4 20 f4, rW q h5 20 f5, sW q i0 i1 i2 i3 i4 i5 e1 e2 e3 e4 e5 mb]) (b := sW q i0 i1 i2 i3 i4 i5 e1 e2 e3 e4 e5 mb) 6 6 rfl rfl rfl
  have X := X.impl (gs' := [sW q h0 h1 h2 h3 h4 h5 (va_cpy e1 f1 0 0 20) (va_cpy e2 f2 0 0 20) f3 f4 f5 nb, sW q i0 i1 i2 i3 i4 i5 e1 e2 e3 e4 e5 mb]) (b := sW q h0 h1 h2 h3 h4 h5 (va_cpy e1 f1 0 0 20) (va_cpy e2 f2 0 0 20) f3 f4 f5 nb) 0 6 rfl rfl rfl
  refine lv_aload_n hx hb dX5_copy_22 rfl (lv_at hl 1 rfl) ?_
  refine x_get F X (v := .ref i3) (C := RX5) (T := TX5) (N := 6) (ci := 5) in_X5 6 rfl rfl 2 (by decide) mw_4 rfl dX5_copy_23 ?_
  refine lv_aload_n hx hb dX5_copy_26 rfl (lv_at hl 0 rfl) ?_
  refine x_get F X (v := .ref h3) (C := RX5) (T := TX5) (N := 6) (ci := 5) in_X5 0 rfl rfl 2 (by decide) mw_4 rfl dX5_copy_27 ?_
  have X := X.expl (gs' := [sW q h0 h1 h2 h3 h4 h5 (va_cpy e1 f1 0 0 20) (va_cpy e2 f2 0 0 20) f3 f4 f5 nb, [(i0, .inr (5, [.ref i1, .ref i2, .ref i3, .ref i4, .ref i5, .int mb]))], rW q i1 20 e1, rW q i2 20 e2, rW q i3 20 e3, rW q i4 20 e4, rW q i5 20 e5]) (bs := [[(i0, .inr (5, [.ref i1, .ref i2, .ref i3, .ref i4, .ref i5, .int mb]))], rW q i1 20 e1, rW q i2 20 e2, rW q i3 20 e3, rW q i4 20 e4, rW q i5 20 e5]) 1 rfl rfl rfl
  have X := X.expl (gs' := [[(h0, .inr (5, [.ref h1, .ref h2, .ref h3, .ref h4, .ref h5, .int nb]))], rW q h1 20 (va_cpy e1 f1 0 0 20), rW q h2 20 (va_cpy e2 f2 0 0 20), rW q h3 20 f3, rW q h4 20 f4, rW q h5 20 f5, [(i0, .inr (5, [.ref i1, .ref i2, .ref i3, .ref i4, .ref i5, .int mb]))], rW q i1 20 e1, rW q i2 20 e2, rW q i3 20 e3, rW q i4 20 e4, rW q i5 20 e5]) (bs := [[(h0, .inr (5, [.ref h1, .ref h2, .ref h3, .ref h4, .ref h5, .int nb]))], rW q h1 20 (va_cpy e1 f1 0 0 20), rW q h2 20 (va_cpy e2 f2 0 0 20), rW q h3 20 f3, rW q h4 20 f4, rW q h5 20 f5]) 0 rfl rfl rfl
  refine x_cNv F X (gc := [rW q i3 20 e3, rW q h3 20 f3]) (gr := [[(h0, .inr (5, [.ref h1, .ref h2, .ref h3, .ref h4, .ref h5, .int nb]))], rW q h1 20 (va_cpy e1 f1 0 0 20), rW q h2 20 (va_cpy e2 f2 0 0 20), rW q h4 20 f4, rW q h5 20 f5, [(i0, .inr (5, [.ref i1, .ref i2, .ref i3, .ref i4, .ref i5, .int mb]))], rW q i1 20 e1, rW q i2 20 e2, rW q i4 20 e4, rW q i5 20 e5]) (xp_idx (n := 12) [9, 3, 0, 1, 2, 4, 5, 6, 7, 8, 10, 11] (by decide +kernel) rfl rfl) (c_X7_copyRow l D q i3 h3 20 e3 f3 (by omega)) ⟨va_cnB (host := "HatWinds") 2 F.1.2.2.2.2 gX5_copy_X7_copyRow_n31 rfl rfl rfl (F.2.2 _ (List.mem_of_getElem? (i := 7) rfl)) (F.1.2.2.2.2 _ mw_1) (by decide +kernel) ⟨Nat.le_of_ble_eq_true rfl, Nat.le_of_ble_eq_true rfl⟩, F.1.2.2.2.2 _ mw_2, trivial⟩ rfl rfl hl.1 ⟨Nat.le_of_ble_eq_true rfl, Nat.le_of_ble_eq_true rfl⟩ (Nat.le_of_ble_eq_true rfl) dX5_copy_30 (fun g1 H locs hp X => ?_)
  subst hp
  have X := X.perm (gs' := [[(h0, .inr (5, [.ref h1, .ref h2, .ref h3, .ref h4, .ref h5, .int nb]))], rW q h1 20 (va_cpy e1 f1 0 0 20), rW q h2 20 (va_cpy e2 f2 0 0 20), rW q h3 20 (va_cpy e3 f3 0 0 20), rW q h4 20 f4, rW q h5 20 f5, [(i0, .inr (5, [.ref i1, .ref i2, .ref i3, .ref i4, .ref i5, .int mb]))], rW q i1 20 e1, rW q i2 20 e2, rW q i3 20 e3, rW q i4 20 e4, rW q i5 20 e5]) (xp_idx (n := 12) [2, 3, 4, 1, 5, 6, 7, 8, 9, 0, 10, 11] (by decide +kernel) rfl rfl)
  have X := X.impl (gs' := [[(h0, .inr (5, [.ref h1, .ref h2, .ref h3, .ref h4, .ref h5, .int nb]))], rW q h1 20 (va_cpy e1 f1 0 0 20), rW q h2 20 (va_cpy e2 f2 0 0 20), rW q h3 20 (va_cpy e3 f3 0 0 20), rW q h4 20 f4, rW q h5 20 f5, sW q i0 i1 i2 i3 i4 i5 e1 e2 e3 e4 e5 mb]) (b := sW q i0 i1 i2 i3 i4 i5 e1 e2 e3 e4 e5 mb) 6 6 rfl rfl rfl
  have X := X.impl (gs' := [sW q h0 h1 h2 h3 h4 h5 (va_cpy e1 f1 0 0 20) (va_cpy e2 f2 0 0 20) (va_cpy e3 f3 0 0 20) f4 f5 nb, sW q i0 i1 i2 i3 i4 i5 e1 e2 e3 e4 e5 mb]) (b := sW q h0 h1 h2 h3 h4 h5 (va_cpy e1 f1 0 0 20) (va_cpy e2 f2 0 0 20) (va_cpy e3 f3 0 0 20) f4 f5 nb) 0 6 rfl rfl rfl
  refine lv_aload_n hx hb dX5_copy_33 rfl (lv_at hl 1 rfl) ?_
  refine x_get F X (v := .ref i4) (C := RX5) (T := TX5) (N := 6) (ci := 5) in_X5 6 rfl rfl 3 (by decide) mw_5 rfl dX5_copy_34 ?_
  refine lv_aload_n hx hb dX5_copy_37 rfl (lv_at hl 0 rfl) ?_
  refine x_get F X (v := .ref h4) (C := RX5) (T := TX5) (N := 6) (ci := 5) in_X5 0 rfl rfl 3 (by decide) mw_5 rfl dX5_copy_38 ?_
  have X := X.expl (gs' := [sW q h0 h1 h2 h3 h4 h5 (va_cpy e1 f1 0 0 20) (va_cpy e2 f2 0 0 20) (va_cpy e3 f3 0 0 20) f4 f5 nb, [(i0, .inr (5, [.ref i1, .ref i2, .ref i3, .ref i4, .ref i5, .int mb]))], rW q i1 20 e1, rW q i2 20 e2, rW q i3 20 e3, rW q i4 20 e4, rW q i5 20 e5]) (bs := [[(i0, .inr (5, [.ref i1, .ref i2, .ref i3, .ref i4, .ref i5, .int mb]))], rW q i1 20 e1, rW q i2 20 e2, rW q i3 20 e3, rW q i4 20 e4, rW q i5 20 e5]) 1 rfl rfl rfl
  have X := X.expl (gs' := [[(h0, .inr (5, [.ref h1, .ref h2, .ref h3, .ref h4, .ref h5, .int nb]))], rW q h1 20 (va_cpy e1 f1 0 0 20), rW q h2 20 (va_cpy e2 f2 0 0 20), rW q h3 20 (va_cpy e3 f3 0 0 20), rW q h4 20 f4, rW q h5 20 f5, [(i0, .inr (5, [.ref i1, .ref i2, .ref i3, .ref i4, .ref i5, .int mb]))], rW q i1 20 e1, rW q i2 20 e2, rW q i3 20 e3, rW q i4 20 e4, rW q i5 20 e5]) (bs := [[(h0, .inr (5, [.ref h1, .ref h2, .ref h3, .ref h4, .ref h5, .int nb]))], rW q h1 20 (va_cpy e1 f1 0 0 20), rW q h2 20 (va_cpy e2 f2 0 0 20), rW q h3 20 (va_cpy e3 f3 0 0 20), rW q h4 20 f4, rW q h5 20 f5]) 0 rfl rfl rfl
  refine x_cNv F X (gc := [rW q i4 20 e4, rW q h4 20 f4]) (gr := [[(h0, .inr (5, [.ref h1, .ref h2, .ref h3, .ref h4, .ref h5, .int nb]))], rW q h1 20 (va_cpy e1 f1 0 0 20), rW q h2 20 (va_cpy e2 f2 0 0 20), rW q h3 20 (va_cpy e3 f3 0 0 20), rW q h5 20 f5, [(i0, .inr (5, [.ref i1, .ref i2, .ref i3, .ref i4, .ref i5, .int mb]))], rW q i1 20 e1, rW q i2 20 e2, rW q i3 20 e3, rW q i5 20 e5]) (xp_idx (n := 12) [10, 4, 0, 1, 2, 3, 5, 6, 7, 8, 9, 11] (by decide +kernel) rfl rfl) (c_X7_copyRow l D q i4 h4 20 e4 f4 (by omega)) ⟨va_cnB (host := "HatWinds") 2 F.1.2.2.2.2 gX5_copy_X7_copyRow_n31 rfl rfl rfl (F.2.2 _ (List.mem_of_getElem? (i := 7) rfl)) (F.1.2.2.2.2 _ mw_1) (by decide +kernel) ⟨Nat.le_of_ble_eq_true rfl, Nat.le_of_ble_eq_true rfl⟩, F.1.2.2.2.2 _ mw_2, trivial⟩ rfl rfl hl.1 ⟨Nat.le_of_ble_eq_true rfl, Nat.le_of_ble_eq_true rfl⟩ (Nat.le_of_ble_eq_true rfl) dX5_copy_41 (fun g1 H locs hp X => ?_)
  subst hp
  have X := X.perm (gs' := [[(h0, .inr (5, [.ref h1, .ref h2, .ref h3, .ref h4, .ref h5, .int nb]))], rW q h1 20 (va_cpy e1 f1 0 0 20), rW q h2 20 (va_cpy e2 f2 0 0 20), rW q h3 20 (va_cpy e3 f3 0 0 20), rW q h4 20 (va_cpy e4 f4 0 0 20), rW q h5 20 f5, [(i0, .inr (5, [.ref i1, .ref i2, .ref i3, .ref i4, .ref i5, .int mb]))], rW q i1 20 e1, rW q i2 20 e2, rW q i3 20 e3, rW q i4 20 e4, rW q i5 20 e5]) (xp_idx (n := 12) [2, 3, 4, 5, 1, 6, 7, 8, 9, 10, 0, 11] (by decide +kernel) rfl rfl)
  have X := X.impl (gs' := [[(h0, .inr (5, [.ref h1, .ref h2, .ref h3, .ref h4, .ref h5, .int nb]))], rW q h1 20 (va_cpy e1 f1 0 0 20), rW q h2 20 (va_cpy e2 f2 0 0 20), rW q h3 20 (va_cpy e3 f3 0 0 20), rW q h4 20 (va_cpy e4 f4 0 0 20), rW q h5 20 f5, sW q i0 i1 i2 i3 i4 i5 e1 e2 e3 e4 e5 mb]) (b := sW q i0 i1 i2 i3 i4 i5 e1 e2 e3 e4 e5 mb) 6 6 rfl rfl rfl
  have X := X.impl (gs' := [sW q h0 h1 h2 h3 h4 h5 (va_cpy e1 f1 0 0 20) (va_cpy e2 f2 0 0 20) (va_cpy e3 f3 0 0 20) (va_cpy e4 f4 0 0 20) f5 nb, sW q i0 i1 i2 i3 i4 i5 e1 e2 e3 e4 e5 mb]) (b := sW q h0 h1 h2 h3 h4 h5 (va_cpy e1 f1 0 0 20) (va_cpy e2 f2 0 0 20) (va_cpy e3 f3 0 0 20) (va_cpy e4 f4 0 0 20) f5 nb) 0 6 rfl rfl rfl
  refine lv_aload_n hx hb dX5_copy_44 rfl (lv_at hl 1 rfl) ?_
  refine x_get F X (v := .ref i5) (C := RX5) (T := TX5) (N := 6) (ci := 5) in_X5 6 rfl rfl 4 (by decide) mw_6 rfl dX5_copy_45 ?_
  refine lv_aload_n hx hb dX5_copy_48 rfl (lv_at hl 0 rfl) ?_
  refine x_get F X (v := .ref h5) (C := RX5) (T := TX5) (N := 6) (ci := 5) in_X5 0 rfl rfl 4 (by decide) mw_6 rfl dX5_copy_49 ?_
  have X := X.expl (gs' := [sW q h0 h1 h2 h3 h4 h5 (va_cpy e1 f1 0 0 20) (va_cpy e2 f2 0 0 20) (va_cpy e3 f3 0 0 20) (va_cpy e4 f4 0 0 20) f5 nb, [(i0, .inr (5, [.ref i1, .ref i2, .ref i3, .ref i4, .ref i5, .int mb]))], rW q i1 20 e1, rW q i2 20 e2, rW q i3 20 e3, rW q i4 20 e4, rW q i5 20 e5]) (bs := [[(i0, .inr (5, [.ref i1, .ref i2, .ref i3, .ref i4, .ref i5, .int mb]))], rW q i1 20 e1, rW q i2 20 e2, rW q i3 20 e3, rW q i4 20 e4, rW q i5 20 e5]) 1 rfl rfl rfl
  have X := X.expl (gs' := [[(h0, .inr (5, [.ref h1, .ref h2, .ref h3, .ref h4, .ref h5, .int nb]))], rW q h1 20 (va_cpy e1 f1 0 0 20), rW q h2 20 (va_cpy e2 f2 0 0 20), rW q h3 20 (va_cpy e3 f3 0 0 20), rW q h4 20 (va_cpy e4 f4 0 0 20), rW q h5 20 f5, [(i0, .inr (5, [.ref i1, .ref i2, .ref i3, .ref i4, .ref i5, .int mb]))], rW q i1 20 e1, rW q i2 20 e2, rW q i3 20 e3, rW q i4 20 e4, rW q i5 20 e5]) (bs := [[(h0, .inr (5, [.ref h1, .ref h2, .ref h3, .ref h4, .ref h5, .int nb]))], rW q h1 20 (va_cpy e1 f1 0 0 20), rW q h2 20 (va_cpy e2 f2 0 0 20), rW q h3 20 (va_cpy e3 f3 0 0 20), rW q h4 20 (va_cpy e4 f4 0 0 20), rW q h5 20 f5]) 0 rfl rfl rfl
  refine x_cNv F X (gc := [rW q i5 20 e5, rW q h5 20 f5]) (gr := [[(h0, .inr (5, [.ref h1, .ref h2, .ref h3, .ref h4, .ref h5, .int nb]))], rW q h1 20 (va_cpy e1 f1 0 0 20), rW q h2 20 (va_cpy e2 f2 0 0 20), rW q h3 20 (va_cpy e3 f3 0 0 20), rW q h4 20 (va_cpy e4 f4 0 0 20), [(i0, .inr (5, [.ref i1, .ref i2, .ref i3, .ref i4, .ref i5, .int mb]))], rW q i1 20 e1, rW q i2 20 e2, rW q i3 20 e3, rW q i4 20 e4]) (xp_idx (n := 12) [11, 5, 0, 1, 2, 3, 4, 6, 7, 8, 9, 10] (by decide +kernel) rfl rfl) (c_X7_copyRow l D q i5 h5 20 e5 f5 (by omega)) ⟨va_cnB (host := "HatWinds") 2 F.1.2.2.2.2 gX5_copy_X7_copyRow_n31 rfl rfl rfl (F.2.2 _ (List.mem_of_getElem? (i := 7) rfl)) (F.1.2.2.2.2 _ mw_1) (by decide +kernel) ⟨Nat.le_of_ble_eq_true rfl, Nat.le_of_ble_eq_true rfl⟩, F.1.2.2.2.2 _ mw_2, trivial⟩ rfl rfl hl.1 ⟨Nat.le_of_ble_eq_true rfl, Nat.le_of_ble_eq_true rfl⟩ (Nat.le_of_ble_eq_true rfl) dX5_copy_52 (fun g1 H locs hp X => ?_)
  subst hp
  have X := X.perm (gs' := [[(h0, .inr (5, [.ref h1, .ref h2, .ref h3, .ref h4, .ref h5, .int nb]))], rW q h1 20 (va_cpy e1 f1 0 0 20), rW q h2 20 (va_cpy e2 f2 0 0 20), rW q h3 20 (va_cpy e3 f3 0 0 20), rW q h4 20 (va_cpy e4 f4 0 0 20), rW q h5 20 (va_cpy e5 f5 0 0 20), [(i0, .inr (5, [.ref i1, .ref i2, .ref i3, .ref i4, .ref i5, .int mb]))], rW q i1 20 e1, rW q i2 20 e2, rW q i3 20 e3, rW q i4 20 e4, rW q i5 20 e5]) (xp_idx (n := 12) [2, 3, 4, 5, 6, 1, 7, 8, 9, 10, 11, 0] (by decide +kernel) rfl rfl)
  have X := X.impl (gs' := [[(h0, .inr (5, [.ref h1, .ref h2, .ref h3, .ref h4, .ref h5, .int nb]))], rW q h1 20 (va_cpy e1 f1 0 0 20), rW q h2 20 (va_cpy e2 f2 0 0 20), rW q h3 20 (va_cpy e3 f3 0 0 20), rW q h4 20 (va_cpy e4 f4 0 0 20), rW q h5 20 (va_cpy e5 f5 0 0 20), sW q i0 i1 i2 i3 i4 i5 e1 e2 e3 e4 e5 mb]) (b := sW q i0 i1 i2 i3 i4 i5 e1 e2 e3 e4 e5 mb) 6 6 rfl rfl rfl
  have X := X.impl (gs' := [sW q h0 h1 h2 h3 h4 h5 (va_cpy e1 f1 0 0 20) (va_cpy e2 f2 0 0 20) (va_cpy e3 f3 0 0 20) (va_cpy e4 f4 0 0 20) (va_cpy e5 f5 0 0 20) nb, sW q i0 i1 i2 i3 i4 i5 e1 e2 e3 e4 e5 mb]) (b := sW q h0 h1 h2 h3 h4 h5 (va_cpy e1 f1 0 0 20) (va_cpy e2 f2 0 0 20) (va_cpy e3 f3 0 0 20) (va_cpy e4 f4 0 0 20) (va_cpy e5 f5 0 0 20) nb) 0 6 rfl rfl rfl
  refine lv_aload_n hx hb dX5_copy_55 rfl (lv_at hl 0 rfl) ?_
  refine lv_aload_n hx hb dX5_copy_56 rfl (lv_at hl 1 rfl) ?_
  refine x_get F X (v := .int mb) (C := RX5) (T := TX5) (N := 6) (ci := 5) in_X5 6 rfl rfl 5 (by decide) mw_7 rfl dX5_copy_57 ?_
  refine x_put F X (gs' := [sW q h0 h1 h2 h3 h4 h5 (va_cpy e1 f1 0 0 20) (va_cpy e2 f2 0 0 20) (va_cpy e3 f3 0 0 20) (va_cpy e4 f4 0 0 20) (va_cpy e5 f5 0 0 20) mb, sW q i0 i1 i2 i3 i4 i5 e1 e2 e3 e4 e5 mb]) (v := .int mb) (C := RX5) (T := TX5) (N := 6) (ci := 5) in_X5 tyX5 tyX5_ok nmX5 0 rfl rfl 5 (by decide) mw_7 rfl rfl rfl (Nat.le_of_ble_eq_true rfl) dX5_copy_60 rfl (fun H locs X => ?_)
  exact hret _ _ _ _ _ (by exact rfl) X dX5_copy_63

set_option maxHeartbeats 1000000 in
set_option maxRecDepth 100000 in
theorem c_X2_copy (l : Launch) (D : va_G) (q : xQ) (h0 : Nat) (h1 : Nat) (h2 : Nat) (h3 : Nat) (i0 : Nat) (i1 : Nat) (i2 : Nat) (i3 : Nat) (g1 : Nat → Int32) (g2 : Nat → Int32) (g3 : Nat → Int32) (e1 : Nat → Int32) (e2 : Nat → Int32) (e3 : Nat → Int32) (ps : Int32) (lo : Int32) (qs : Int32) (mo : Int32) : xMv l yX2_copy wsX2_copy { frames := 2, cells := 0, slots := 0, locals := 61 } D q [.ref h0, .ref i0] [hW q h0 h1 h2 h3 g1 g2 g3 ps lo, hW q i0 i1 i2 i3 e1 e2 e3 qs mo] (fun gw => gw = [hW q h0 h1 h2 h3 (va_cpy e1 g1 0 0 8) (va_cpy e2 g2 0 0 8) (va_cpy e3 g3 0 0 8) qs mo, hW q i0 i1 i2 i3 e1 e2 e3 qs mo]) := by
  refine xMv_of (cc := cX2_copy) (maxL := 2) (by decide) rfl (Nat.le_of_ble_eq_true rfl) ?_
  intro p9 e9 s9 m9 a9 below meth c9 A9 Z9 ls H locs F hini X hl hret
  have hx := F.1.1
  have hb := F.1.2.1
  have in_X2 : ∀ w ∈ wsX20, w ∈ wsX2_copy := by decide +kernel
  have mw_0 : Cond.fieldLink RX2 9 "HatWinds$Hours" "forces" "[I" ∈ wsX2_copy := by decide +kernel
  have mw_1 : Cond.initialized RX7 ∈ wsX2_copy := by decide +kernel
  have mw_2 : Cond.static yX7_copyRow ∈ wsX2_copy := by decide +kernel
  have mw_3 : Cond.fieldLink RX2 15 "HatWinds$Hours" "lost" "[I" ∈ wsX2_copy := by decide +kernel
  have mw_4 : Cond.fieldLink RX2 18 "HatWinds$Hours" "worst" "[I" ∈ wsX2_copy := by decide +kernel
  have mw_5 : Cond.fieldLink RX2 21 "HatWinds$Hours" "passed" "I" ∈ wsX2_copy := by decide +kernel
  have mw_6 : Cond.fieldLink RX2 25 "HatWinds$Hours" "lostSoFar" "I" ∈ wsX2_copy := by decide +kernel
  have hl : lv_has ls 2 [(0, .ref h0), (1, .ref i0)] := hl
  refine lv_aload_n hx hb dX2_copy_0 rfl (lv_at hl 1 rfl) ?_
  refine x_get F X (v := .ref i1) (C := RX2) (T := TX2) (N := 5) (ci := 2) in_X2 4 rfl rfl 0 (by decide) mw_0 rfl dX2_copy_1 ?_
  refine lv_aload_n hx hb dX2_copy_4 rfl (lv_at hl 0 rfl) ?_
  refine x_get F X (v := .ref h1) (C := RX2) (T := TX2) (N := 5) (ci := 2) in_X2 0 rfl rfl 0 (by decide) mw_0 rfl dX2_copy_5 ?_
  have X := X.expl (gs' := [hW q h0 h1 h2 h3 g1 g2 g3 ps lo, [(i0, .inr (2, [.ref i1, .ref i2, .ref i3, .int qs, .int mo]))], rW q i1 8 e1, rW q i2 8 e2, rW q i3 8 e3]) (bs := [[(i0, .inr (2, [.ref i1, .ref i2, .ref i3, .int qs, .int mo]))], rW q i1 8 e1, rW q i2 8 e2, rW q i3 8 e3]) 1 rfl rfl rfl
  have X := X.expl (gs' := [[(h0, .inr (2, [.ref h1, .ref h2, .ref h3, .int ps, .int lo]))], rW q h1 8 g1, rW q h2 8 g2, rW q h3 8 g3, [(i0, .inr (2, [.ref i1, .ref i2, .ref i3, .int qs, .int mo]))], rW q i1 8 e1, rW q i2 8 e2, rW q i3 8 e3]) (bs := [[(h0, .inr (2, [.ref h1, .ref h2, .ref h3, .int ps, .int lo]))], rW q h1 8 g1, rW q h2 8 g2, rW q h3 8 g3]) 0 rfl rfl rfl
  refine x_cNv F X (gc := [rW q i1 8 e1, rW q h1 8 g1]) (gr := [[(h0, .inr (2, [.ref h1, .ref h2, .ref h3, .int ps, .int lo]))], rW q h2 8 g2, rW q h3 8 g3, [(i0, .inr (2, [.ref i1, .ref i2, .ref i3, .int qs, .int mo]))], rW q i2 8 e2, rW q i3 8 e3]) (xp_idx (n := 8) [5, 1, 0, 2, 3, 4, 6, 7] (by decide +kernel) rfl rfl) (c_X7_copyRow l D q i1 h1 8 e1 g1 (by omega)) ⟨va_cnB (host := "HatWinds") 2 F.1.2.2.2.2 gX2_copy_X7_copyRow_n28 rfl rfl rfl (F.2.2 _ (List.mem_of_getElem? (i := 4) rfl)) (F.1.2.2.2.2 _ mw_1) (by decide +kernel) ⟨Nat.le_of_ble_eq_true rfl, Nat.le_of_ble_eq_true rfl⟩, F.1.2.2.2.2 _ mw_2, trivial⟩ rfl rfl hl.1 ⟨Nat.le_of_ble_eq_true rfl, Nat.le_of_ble_eq_true rfl⟩ (Nat.le_of_ble_eq_true rfl) dX2_copy_8 (fun g1 H locs hp X => ?_)
  subst hp
  have X := X.perm (gs' := [[(h0, .inr (2, [.ref h1, .ref h2, .ref h3, .int ps, .int lo]))], rW q h1 8 (va_cpy e1 g1 0 0 8), rW q h2 8 g2, rW q h3 8 g3, [(i0, .inr (2, [.ref i1, .ref i2, .ref i3, .int qs, .int mo]))], rW q i1 8 e1, rW q i2 8 e2, rW q i3 8 e3]) (xp_idx (n := 8) [2, 1, 3, 4, 5, 0, 6, 7] (by decide +kernel) rfl rfl)
  have X := X.impl (gs' := [[(h0, .inr (2, [.ref h1, .ref h2, .ref h3, .int ps, .int lo]))], rW q h1 8 (va_cpy e1 g1 0 0 8), rW q h2 8 g2, rW q h3 8 g3, hW q i0 i1 i2 i3 e1 e2 e3 qs mo]) (b := hW q i0 i1 i2 i3 e1 e2 e3 qs mo) 4 4 rfl rfl rfl
  have X := X.impl (gs' := [hW q h0 h1 h2 h3 (va_cpy e1 g1 0 0 8) g2 g3 ps lo, hW q i0 i1 i2 i3 e1 e2 e3 qs mo]) (b := hW q h0 h1 h2 h3 (va_cpy e1 g1 0 0 8) g2 g3 ps lo) 0 4 rfl rfl rfl
  refine lv_aload_n hx hb dX2_copy_11 rfl (lv_at hl 1 rfl) ?_
  refine x_get F X (v := .ref i2) (C := RX2) (T := TX2) (N := 5) (ci := 2) in_X2 4 rfl rfl 1 (by decide) mw_3 rfl dX2_copy_12 ?_
  refine lv_aload_n hx hb dX2_copy_15 rfl (lv_at hl 0 rfl) ?_
  refine x_get F X (v := .ref h2) (C := RX2) (T := TX2) (N := 5) (ci := 2) in_X2 0 rfl rfl 1 (by decide) mw_3 rfl dX2_copy_16 ?_
  have X := X.expl (gs' := [hW q h0 h1 h2 h3 (va_cpy e1 g1 0 0 8) g2 g3 ps lo, [(i0, .inr (2, [.ref i1, .ref i2, .ref i3, .int qs, .int mo]))], rW q i1 8 e1, rW q i2 8 e2, rW q i3 8 e3]) (bs := [[(i0, .inr (2, [.ref i1, .ref i2, .ref i3, .int qs, .int mo]))], rW q i1 8 e1, rW q i2 8 e2, rW q i3 8 e3]) 1 rfl rfl rfl
  have X := X.expl (gs' := [[(h0, .inr (2, [.ref h1, .ref h2, .ref h3, .int ps, .int lo]))], rW q h1 8 (va_cpy e1 g1 0 0 8), rW q h2 8 g2, rW q h3 8 g3, [(i0, .inr (2, [.ref i1, .ref i2, .ref i3, .int qs, .int mo]))], rW q i1 8 e1, rW q i2 8 e2, rW q i3 8 e3]) (bs := [[(h0, .inr (2, [.ref h1, .ref h2, .ref h3, .int ps, .int lo]))], rW q h1 8 (va_cpy e1 g1 0 0 8), rW q h2 8 g2, rW q h3 8 g3]) 0 rfl rfl rfl
  refine x_cNv F X (gc := [rW q i2 8 e2, rW q h2 8 g2]) (gr := [[(h0, .inr (2, [.ref h1, .ref h2, .ref h3, .int ps, .int lo]))], rW q h1 8 (va_cpy e1 g1 0 0 8), rW q h3 8 g3, [(i0, .inr (2, [.ref i1, .ref i2, .ref i3, .int qs, .int mo]))], rW q i1 8 e1, rW q i3 8 e3]) (xp_idx (n := 8) [6, 2, 0, 1, 3, 4, 5, 7] (by decide +kernel) rfl rfl) (c_X7_copyRow l D q i2 h2 8 e2 g2 (by omega)) ⟨va_cnB (host := "HatWinds") 2 F.1.2.2.2.2 gX2_copy_X7_copyRow_n28 rfl rfl rfl (F.2.2 _ (List.mem_of_getElem? (i := 4) rfl)) (F.1.2.2.2.2 _ mw_1) (by decide +kernel) ⟨Nat.le_of_ble_eq_true rfl, Nat.le_of_ble_eq_true rfl⟩, F.1.2.2.2.2 _ mw_2, trivial⟩ rfl rfl hl.1 ⟨Nat.le_of_ble_eq_true rfl, Nat.le_of_ble_eq_true rfl⟩ (Nat.le_of_ble_eq_true rfl) dX2_copy_19 (fun g1 H locs hp X => ?_)
  subst hp
  have X := X.perm (gs' := [[(h0, .inr (2, [.ref h1, .ref h2, .ref h3, .int ps, .int lo]))], rW q h1 8 (va_cpy e1 g1 0 0 8), rW q h2 8 (va_cpy e2 g2 0 0 8), rW q h3 8 g3, [(i0, .inr (2, [.ref i1, .ref i2, .ref i3, .int qs, .int mo]))], rW q i1 8 e1, rW q i2 8 e2, rW q i3 8 e3]) (xp_idx (n := 8) [2, 3, 1, 4, 5, 6, 0, 7] (by decide +kernel) rfl rfl)
  have X := X.impl (gs' := [[(h0, .inr (2, [.ref h1, .ref h2, .ref h3, .int ps, .int lo]))], rW q h1 8 (va_cpy e1 g1 0 0 8), rW q h2 8 (va_cpy e2 g2 0 0 8), rW q h3 8 g3, hW q i0 i1 i2 i3 e1 e2 e3 qs mo]) (b := hW q i0 i1 i2 i3 e1 e2 e3 qs mo) 4 4 rfl rfl rfl
  have X := X.impl (gs' := [hW q h0 h1 h2 h3 (va_cpy e1 g1 0 0 8) (va_cpy e2 g2 0 0 8) g3 ps lo, hW q i0 i1 i2 i3 e1 e2 e3 qs mo]) (b := hW q h0 h1 h2 h3 (va_cpy e1 g1 0 0 8) (va_cpy e2 g2 0 0 8) g3 ps lo) 0 4 rfl rfl rfl
  refine lv_aload_n hx hb dX2_copy_22 rfl (lv_at hl 1 rfl) ?_
  refine x_get F X (v := .ref i3) (C := RX2) (T := TX2) (N := 5) (ci := 2) in_X2 4 rfl rfl 2 (by decide) mw_4 rfl dX2_copy_23 ?_
  refine lv_aload_n hx hb dX2_copy_26 rfl (lv_at hl 0 rfl) ?_
  refine x_get F X (v := .ref h3) (C := RX2) (T := TX2) (N := 5) (ci := 2) in_X2 0 rfl rfl 2 (by decide) mw_4 rfl dX2_copy_27 ?_
  have X := X.expl (gs' := [hW q h0 h1 h2 h3 (va_cpy e1 g1 0 0 8) (va_cpy e2 g2 0 0 8) g3 ps lo, [(i0, .inr (2, [.ref i1, .ref i2, .ref i3, .int qs, .int mo]))], rW q i1 8 e1, rW q i2 8 e2, rW q i3 8 e3]) (bs := [[(i0, .inr (2, [.ref i1, .ref i2, .ref i3, .int qs, .int mo]))], rW q i1 8 e1, rW q i2 8 e2, rW q i3 8 e3]) 1 rfl rfl rfl
  have X := X.expl (gs' := [[(h0, .inr (2, [.ref h1, .ref h2, .ref h3, .int ps, .int lo]))], rW q h1 8 (va_cpy e1 g1 0 0 8), rW q h2 8 (va_cpy e2 g2 0 0 8), rW q h3 8 g3, [(i0, .inr (2, [.ref i1, .ref i2, .ref i3, .int qs, .int mo]))], rW q i1 8 e1, rW q i2 8 e2, rW q i3 8 e3]) (bs := [[(h0, .inr (2, [.ref h1, .ref h2, .ref h3, .int ps, .int lo]))], rW q h1 8 (va_cpy e1 g1 0 0 8), rW q h2 8 (va_cpy e2 g2 0 0 8), rW q h3 8 g3]) 0 rfl rfl rfl
  refine x_cNv F X (gc := [rW q i3 8 e3, rW q h3 8 g3]) (gr := [[(h0, .inr (2, [.ref h1, .ref h2, .ref h3, .int ps, .int lo]))], rW q h1 8 (va_cpy e1 g1 0 0 8), rW q h2 8 (va_cpy e2 g2 0 0 8), [(i0, .inr (2, [.ref i1, .ref i2, .ref i3, .int qs, .int mo]))], rW q i1 8 e1, rW q i2 8 e2]) (xp_idx (n := 8) [7, 3, 0, 1, 2, 4, 5, 6] (by decide +kernel) rfl rfl) (c_X7_copyRow l D q i3 h3 8 e3 g3 (by omega)) ⟨va_cnB (host := "HatWinds") 2 F.1.2.2.2.2 gX2_copy_X7_copyRow_n28 rfl rfl rfl (F.2.2 _ (List.mem_of_getElem? (i := 4) rfl)) (F.1.2.2.2.2 _ mw_1) (by decide +kernel) ⟨Nat.le_of_ble_eq_true rfl, Nat.le_of_ble_eq_true rfl⟩, F.1.2.2.2.2 _ mw_2, trivial⟩ rfl rfl hl.1 ⟨Nat.le_of_ble_eq_true rfl, Nat.le_of_ble_eq_true rfl⟩ (Nat.le_of_ble_eq_true rfl) dX2_copy_30 (fun g1 H locs hp X => ?_)
  subst hp
  have X := X.perm (gs' := [[(h0, .inr (2, [.ref h1, .ref h2, .ref h3, .int ps, .int lo]))], rW q h1 8 (va_cpy e1 g1 0 0 8), rW q h2 8 (va_cpy e2 g2 0 0 8), rW q h3 8 (va_cpy e3 g3 0 0 8), [(i0, .inr (2, [.ref i1, .ref i2, .ref i3, .int qs, .int mo]))], rW q i1 8 e1, rW q i2 8 e2, rW q i3 8 e3]) (xp_idx (n := 8) [2, 3, 4, 1, 5, 6, 7, 0] (by decide +kernel) rfl rfl)
  have X := X.impl (gs' := [[(h0, .inr (2, [.ref h1, .ref h2, .ref h3, .int ps, .int lo]))], rW q h1 8 (va_cpy e1 g1 0 0 8), rW q h2 8 (va_cpy e2 g2 0 0 8), rW q h3 8 (va_cpy e3 g3 0 0 8), hW q i0 i1 i2 i3 e1 e2 e3 qs mo]) (b := hW q i0 i1 i2 i3 e1 e2 e3 qs mo) 4 4 rfl rfl rfl
  have X := X.impl (gs' := [hW q h0 h1 h2 h3 (va_cpy e1 g1 0 0 8) (va_cpy e2 g2 0 0 8) (va_cpy e3 g3 0 0 8) ps lo, hW q i0 i1 i2 i3 e1 e2 e3 qs mo]) (b := hW q h0 h1 h2 h3 (va_cpy e1 g1 0 0 8) (va_cpy e2 g2 0 0 8) (va_cpy e3 g3 0 0 8) ps lo) 0 4 rfl rfl rfl
  refine lv_aload_n hx hb dX2_copy_33 rfl (lv_at hl 0 rfl) ?_
  refine lv_aload_n hx hb dX2_copy_34 rfl (lv_at hl 1 rfl) ?_
  refine x_get F X (v := .int qs) (C := RX2) (T := TX2) (N := 5) (ci := 2) in_X2 4 rfl rfl 3 (by decide) mw_5 rfl dX2_copy_35 ?_
  refine x_put F X (gs' := [hW q h0 h1 h2 h3 (va_cpy e1 g1 0 0 8) (va_cpy e2 g2 0 0 8) (va_cpy e3 g3 0 0 8) qs lo, hW q i0 i1 i2 i3 e1 e2 e3 qs mo]) (v := .int qs) (C := RX2) (T := TX2) (N := 5) (ci := 2) in_X2 tyX2 tyX2_ok nmX2 0 rfl rfl 3 (by decide) mw_5 rfl rfl rfl (Nat.le_of_ble_eq_true rfl) dX2_copy_38 rfl (fun H locs X => ?_)
  refine lv_aload_n hx hb dX2_copy_41 rfl (lv_at hl 0 rfl) ?_
  refine lv_aload_n hx hb dX2_copy_42 rfl (lv_at hl 1 rfl) ?_
  refine x_get F X (v := .int mo) (C := RX2) (T := TX2) (N := 5) (ci := 2) in_X2 4 rfl rfl 4 (by decide) mw_6 rfl dX2_copy_43 ?_
  refine x_put F X (gs' := [hW q h0 h1 h2 h3 (va_cpy e1 g1 0 0 8) (va_cpy e2 g2 0 0 8) (va_cpy e3 g3 0 0 8) qs mo, hW q i0 i1 i2 i3 e1 e2 e3 qs mo]) (v := .int mo) (C := RX2) (T := TX2) (N := 5) (ci := 2) in_X2 tyX2 tyX2_ok nmX2 0 rfl rfl 4 (by decide) mw_6 rfl rfl rfl (Nat.le_of_ble_eq_true rfl) dX2_copy_46 rfl (fun H locs X => ?_)
  exact hret _ _ _ _ _ (by exact rfl) X dX2_copy_49

set_option maxHeartbeats 1000000 in
set_option maxRecDepth 100000 in
theorem c_X2_kept (l : Launch) (D : va_G) (q : xQ) (h0 : Nat) (h1 : Nat) (h2 : Nat) (h3 : Nat) (g1 : Nat → Int32) (g2 : Nat → Int32) (g3 : Nat → Int32) (ps : Int32) (lo : Int32) : xMi l yX2_kept wsX2_kept { frames := 1, cells := 0, slots := 0, locals := 21 } D q [.ref h0] [hW q h0 h1 h2 h3 g1 g2 g3 ps lo] (fun r gw => gw = [hW q h0 h1 h2 h3 g1 g2 g3 ps lo] ∧ r = x_mn ps 8) := by
  refine xMi_of (cc := cX2_kept) (maxL := 1) (rt := .int) (by decide) rfl (Nat.le_of_ble_eq_true rfl) (fun _ _ _ => rfl) ?_
  intro p9 e9 s9 m9 a9 below meth c9 A9 Z9 ls H locs F X hl hret
  have hx := F.1.1
  have hb := F.1.2.1
  have in_X2 : ∀ w ∈ wsX20, w ∈ wsX2_kept := by decide +kernel
  have mw_0 : Cond.fieldLink RX2 21 "HatWinds$Hours" "passed" "I" ∈ wsX2_kept := by decide +kernel
  have mw_1 : Cond.methodLink RX2 32 Lib.Math.min.name ∈ wsX2_kept := by decide +kernel
  have mw_2 : Cond.static Lib.Math.min.name ∈ wsX2_kept := by decide +kernel
  have mw_3 : Cond.initialized "java/lang/Math" ∈ wsX2_kept := by decide +kernel
  have mw_4 : Cond.code Lib.Math.min.name Lib.Math.min.code 2 (some .int) ∈ wsX2_kept := by decide +kernel
  have hl : lv_has ls 1 [(0, .ref h0)] := hl
  refine lv_aload_n hx hb dX2_kept_0 rfl (lv_at hl 0 rfl) ?_
  refine x_get F X (v := .int ps) (C := RX2) (T := TX2) (N := 5) (ci := 2) in_X2 0 rfl rfl 3 (by decide) mw_0 rfl dX2_kept_1 ?_
  refine lv_bipush (v := 8) hx hb dX2_kept_4 (by decide) ?_
  refine x_min F hl.1 mw_1 mw_2 mw_3 mw_4 ⟨Nat.le_of_ble_eq_true rfl, Nat.le_of_ble_eq_true rfl⟩ ⟨Nat.le_of_ble_eq_true rfl, Nat.le_of_ble_eq_true rfl⟩ dX2_kept_6 ?_
  exact hret _ _ _ _ _ _ (by exact ⟨rfl, rfl⟩) X dX2_kept_9

set_option maxHeartbeats 1000000 in
set_option maxRecDepth 100000 in
theorem c_X2_pushFirst (l : Launch) (D : va_G) (q : xQ) (h0 : Nat) (n : Nat) (f : Nat → Int32) (v : Int32) (hn : n < 2 ^ 31) (hn1 : 1 ≤ n) : xMv l yX2_pushFirst wsX2_pushFirst { frames := 0, cells := 0, slots := 0, locals := 0 } D q [.ref h0, .int v] [rW q h0 n f] (fun gw => ∃ (w : Nat → Int32), gw = [rW q h0 n w] ∧ (∀ j, j < n → w j = if j = 0 then v else f (j - 1))) := by
  refine xMv_of (cc := cX2_pushFirst) (maxL := 3) (by decide) rfl (Nat.le_of_ble_eq_true rfl) ?_
  intro p9 e9 s9 m9 a9 below meth c9 A9 Z9 ls H locs F hini X hl hret
  have hx := F.1.1
  have hb := F.1.2.1
  have hl : lv_has ls 3 [(0, .ref h0), (1, .int v)] := hl
  refine lv_aload_n hx hb dX2_pushFirst_0 rfl (lv_at hl 0 rfl) ?_
  refine x_alen F X (n := n) 0 rfl dX2_pushFirst_1 ?_
  refine lv_iconst (v := 1) hx hb dX2_pushFirst_2 (by decide) ?_
  refine lv_isub hx hb dX2_pushFirst_3 ?_
  refine x_i (y := (nI (n - 1))) (pk_sub (a := n) (b := 1) (by omega)) ?_
  refine lv_istore_n (lv' := [(2, .int (nI (n - 1))), (0, .ref h0), (1, .int v)]) hx hb dX2_pushFirst_4 rfl hl (by decide) rfl (fun ls hl => ?_)
  have L_5 : ∀ (nn : Nat) (k : Nat) (w : Nat → Int32) (H : Heap) (locs : List Loc) (ls : Array Slot), xS D A9 s9 [rW q h0 n w] H locs → lv_has ls 3 [(2, .int (nI k)), (0, .ref h0), (1, .int v)] → (k < nn) → (k < n) → (∀ j, j ≤ k → w j = f j) → (∀ j, k < j → j < n → w j = f (j - 1)) → W p9 l e9 { frames := 0, cells := 0, slots := 0, locals := 0 } s9 m9 a9 below meth c9 H locs 0 0 Z9 (F0 m9 5 ls []) := by
    intro nn
    induction nn with
    | zero => intro k w H locs ls X hl hfuel hk h1 h2; exact absurd hfuel (by omega)
    | succ nn ih_5 =>
      intro k w H locs ls X hl hfuel hk h1 h2
      refine lv_iload_n hx hb dX2_pushFirst_5 rfl (lv_at hl 0 rfl) ?_
      refine lv_if_le (tgt := 23) hx hb dX2_pushFirst_6 (by decide) (fun c_6 => ?_) (fun c_6 => ?_)
      · have c_6 : k ≤ 0 := (nI_leI (a := k) (b := 0) (by omega) (by omega)).mp c_6
        refine lv_aload_n hx hb dX2_pushFirst_23 rfl (lv_at hl 1 rfl) ?_
        refine lv_iconst (v := 0) hx hb dX2_pushFirst_24 (by decide) ?_
        refine lv_iload_n hx hb dX2_pushFirst_25 rfl (lv_at hl 2 rfl) ?_
        refine x_iast F X (gs' := [rW q h0 n (upd w 0 v)]) (n := n) (f := w) (k := 0) 0 rfl (show vp_in (nI 0) _ from vp_in_nI (by omega) (by omega)) rfl dX2_pushFirst_26 rfl (fun H locs X => ?_)
        refine hret _ _ _ _ _ ?_ X dX2_pushFirst_27
        refine ⟨_, rfl, fun j hj => ?_⟩
        by_cases e : j = 0
        · subst e; rw [pk_us, if_pos rfl]
        · rw [pk_un e, if_neg e]; exact h2 j (by omega) hj
      · have c_6 : 0 < k := Nat.not_le.mp (fun h => c_6 ((nI_leI (a := k) (b := 0) (by omega) (by omega)).mpr h))
        refine lv_aload_n hx hb dX2_pushFirst_9 rfl (lv_at hl 1 rfl) ?_
        refine lv_iload_n hx hb dX2_pushFirst_10 rfl (lv_at hl 0 rfl) ?_
        refine lv_aload_n hx hb dX2_pushFirst_11 rfl (lv_at hl 1 rfl) ?_
        refine lv_iload_n hx hb dX2_pushFirst_12 rfl (lv_at hl 0 rfl) ?_
        refine lv_iconst (v := 1) hx hb dX2_pushFirst_13 (by decide) ?_
        refine lv_isub hx hb dX2_pushFirst_14 ?_
        refine x_i (y := (nI (k - 1))) (pk_sub (a := k) (b := 1) (by omega)) ?_
        refine x_iald F X (v := (w (k - 1))) (n := n) (f := w) 0 rfl (vp_in_nI (by omega) (by omega)) (x_cl (by omega)) dX2_pushFirst_15 ?_
        refine x_iast F X (gs' := [rW q h0 n (upd w k (w (k - 1)))]) (n := n) (f := w) (k := k) 0 rfl (vp_in_nI (by omega) (by omega)) (nI_clamp (by omega)) dX2_pushFirst_16 rfl (fun H locs X => ?_)
        refine lv_iinc (v := (nI (k - 1))) (lv' := [(2, .int (nI (k - 1))), (0, .ref h0), (1, .int v)]) hx hb dX2_pushFirst_17 hl (k := 0) rfl (x_dec k (by omega)) (by decide) rfl (fun ls hl => ?_)
        refine lv_goto (tgt := 5) hx hb dX2_pushFirst_20 (by decide) ?_
        exact ih_5 (k - 1) _ _ _ _ X (lv_sub hl [0, 1, 2] rfl) (by omega) (by omega) (by exact fun j h => by rw [pk_un (by omega)]; exact h1 j (by omega)) (by
            intro j h3 h4
            by_cases e : j = k
            · subst e; rw [pk_us]; exact h1 _ (by omega)
            · rw [pk_un e]; exact h2 j (by omega) h4)
  exact L_5 (n) (n - 1) _ _ _ _ X (lv_sub hl [0, 1, 2] rfl) (by omega) (by omega) (by exact fun _ _ => rfl) (by exact fun j h3 h4 => absurd h3 (by omega))

set_option maxHeartbeats 1000000 in
set_option maxRecDepth 100000 in
theorem c_X2_add (l : Launch) (D : va_G) (q : xQ) (h0 : Nat) (h1 : Nat) (h2 : Nat) (h3 : Nat) (g1 : Nat → Int32) (g2 : Nat → Int32) (g3 : Nat → Int32) (ps : Int32) (lo : Int32) (x : Int32) (y : Int32) (z : Int32) : xMv l yX2_add wsX2_add { frames := 1, cells := 0, slots := 0, locals := 22 } D q [.ref h0, .int x, .int y, .int z] [hW q h0 h1 h2 h3 g1 g2 g3 ps lo] (fun gw => ∃ (w1 : Nat → Int32), ∃ (w2 : Nat → Int32), ∃ (w3 : Nat → Int32), gw = [hW q h0 h1 h2 h3 w1 w2 w3 (ps + 1) (lo + y)] ∧ (∀ j, j < 8 → w1 j = if j = 0 then x else g1 (j - 1)) ∧ (∀ j, j < 8 → w2 j = if j = 0 then y else g2 (j - 1)) ∧ (∀ j, j < 8 → w3 j = if j = 0 then z else g3 (j - 1))) := by
  refine xMv_of (cc := cX2_add) (maxL := 4) (by decide) rfl (Nat.le_of_ble_eq_true rfl) ?_
  intro p9 e9 s9 m9 a9 below meth c9 A9 Z9 ls H locs F hini X hl hret
  have hx := F.1.1
  have hb := F.1.2.1
  have in_X2 : ∀ w ∈ wsX20, w ∈ wsX2_add := by decide +kernel
  have mw_0 : Cond.fieldLink RX2 9 "HatWinds$Hours" "forces" "[I" ∈ wsX2_add := by decide +kernel
  have mw_1 : Cond.initialized RX2 ∈ wsX2_add := by decide +kernel
  have mw_2 : Cond.fieldLink RX2 15 "HatWinds$Hours" "lost" "[I" ∈ wsX2_add := by decide +kernel
  have mw_3 : Cond.fieldLink RX2 18 "HatWinds$Hours" "worst" "[I" ∈ wsX2_add := by decide +kernel
  have mw_4 : Cond.fieldLink RX2 21 "HatWinds$Hours" "passed" "I" ∈ wsX2_add := by decide +kernel
  have mw_5 : Cond.fieldLink RX2 25 "HatWinds$Hours" "lostSoFar" "I" ∈ wsX2_add := by decide +kernel
  have hl : lv_has ls 4 [(0, .ref h0), (1, .int x), (2, .int y), (3, .int z)] := hl
  refine lv_aload_n hx hb dX2_add_0 rfl (lv_at hl 0 rfl) ?_
  refine x_get F X (v := .ref h1) (C := RX2) (T := TX2) (N := 5) (ci := 2) in_X2 0 rfl rfl 0 (by decide) mw_0 rfl dX2_add_1 ?_
  refine lv_iload_n hx hb dX2_add_4 rfl (lv_at hl 1 rfl) ?_
  have X := X.expl (gs' := [[(h0, .inr (2, [.ref h1, .ref h2, .ref h3, .int ps, .int lo]))], rW q h1 8 g1, rW q h2 8 g2, rW q h3 8 g3]) (bs := [[(h0, .inr (2, [.ref h1, .ref h2, .ref h3, .int ps, .int lo]))], rW q h1 8 g1, rW q h2 8 g2, rW q h3 8 g3]) 0 rfl rfl rfl
  refine x_cSv F X (gc := [rW q h1 8 g1]) (gr := [[(h0, .inr (2, [.ref h1, .ref h2, .ref h3, .int ps, .int lo]))], rW q h2 8 g2, rW q h3 8 g3]) (xp_idx (n := 4) [1, 0, 2, 3] (by decide +kernel) rfl rfl) (c_X2_pushFirst l D q h1 8 g1 x (by omega) (by omega)) (va_cwS 2 F.1.2.2.2.2 gX2_add_X2_pushFirst rfl rfl rfl (by decide +kernel) ⟨Nat.le_of_ble_eq_true rfl, Nat.le_of_ble_eq_true rfl⟩) rfl rfl hl.1 ⟨Nat.le_of_ble_eq_true rfl, Nat.le_of_ble_eq_true rfl⟩ (Nat.le_of_ble_eq_true rfl) dX2_add_5 (fun g1 H locs hp X => ?_)
  obtain ⟨w1, rfl, hw1⟩ := hp
  have X := X.perm (gs' := [[(h0, .inr (2, [.ref h1, .ref h2, .ref h3, .int ps, .int lo]))], rW q h1 8 w1, rW q h2 8 g2, rW q h3 8 g3]) (xp_idx (n := 4) [1, 0, 2, 3] (by decide +kernel) rfl rfl)
  have X := X.impl (gs' := [hW q h0 h1 h2 h3 w1 g2 g3 ps lo]) (b := hW q h0 h1 h2 h3 w1 g2 g3 ps lo) 0 4 rfl rfl rfl
  refine lv_aload_n hx hb dX2_add_8 rfl (lv_at hl 0 rfl) ?_
  refine x_get F X (v := .ref h2) (C := RX2) (T := TX2) (N := 5) (ci := 2) in_X2 0 rfl rfl 1 (by decide) mw_2 rfl dX2_add_9 ?_
  refine lv_iload_n hx hb dX2_add_12 rfl (lv_at hl 2 rfl) ?_
  have X := X.expl (gs' := [[(h0, .inr (2, [.ref h1, .ref h2, .ref h3, .int ps, .int lo]))], rW q h1 8 w1, rW q h2 8 g2, rW q h3 8 g3]) (bs := [[(h0, .inr (2, [.ref h1, .ref h2, .ref h3, .int ps, .int lo]))], rW q h1 8 w1, rW q h2 8 g2, rW q h3 8 g3]) 0 rfl rfl rfl
  refine x_cSv F X (gc := [rW q h2 8 g2]) (gr := [[(h0, .inr (2, [.ref h1, .ref h2, .ref h3, .int ps, .int lo]))], rW q h1 8 w1, rW q h3 8 g3]) (xp_idx (n := 4) [2, 0, 1, 3] (by decide +kernel) rfl rfl) (c_X2_pushFirst l D q h2 8 g2 y (by omega) (by omega)) (va_cwS 2 F.1.2.2.2.2 gX2_add_X2_pushFirst rfl rfl rfl (by decide +kernel) ⟨Nat.le_of_ble_eq_true rfl, Nat.le_of_ble_eq_true rfl⟩) rfl rfl hl.1 ⟨Nat.le_of_ble_eq_true rfl, Nat.le_of_ble_eq_true rfl⟩ (Nat.le_of_ble_eq_true rfl) dX2_add_13 (fun g1 H locs hp X => ?_)
  obtain ⟨w2, rfl, hw2⟩ := hp
  have X := X.perm (gs' := [[(h0, .inr (2, [.ref h1, .ref h2, .ref h3, .int ps, .int lo]))], rW q h1 8 w1, rW q h2 8 w2, rW q h3 8 g3]) (xp_idx (n := 4) [1, 2, 0, 3] (by decide +kernel) rfl rfl)
  have X := X.impl (gs' := [hW q h0 h1 h2 h3 w1 w2 g3 ps lo]) (b := hW q h0 h1 h2 h3 w1 w2 g3 ps lo) 0 4 rfl rfl rfl
  refine lv_aload_n hx hb dX2_add_16 rfl (lv_at hl 0 rfl) ?_
  refine x_get F X (v := .ref h3) (C := RX2) (T := TX2) (N := 5) (ci := 2) in_X2 0 rfl rfl 2 (by decide) mw_3 rfl dX2_add_17 ?_
  refine lv_iload_n hx hb dX2_add_20 rfl (lv_at hl 3 rfl) ?_
  have X := X.expl (gs' := [[(h0, .inr (2, [.ref h1, .ref h2, .ref h3, .int ps, .int lo]))], rW q h1 8 w1, rW q h2 8 w2, rW q h3 8 g3]) (bs := [[(h0, .inr (2, [.ref h1, .ref h2, .ref h3, .int ps, .int lo]))], rW q h1 8 w1, rW q h2 8 w2, rW q h3 8 g3]) 0 rfl rfl rfl
  refine x_cSv F X (gc := [rW q h3 8 g3]) (gr := [[(h0, .inr (2, [.ref h1, .ref h2, .ref h3, .int ps, .int lo]))], rW q h1 8 w1, rW q h2 8 w2]) (xp_idx (n := 4) [3, 0, 1, 2] (by decide +kernel) rfl rfl) (c_X2_pushFirst l D q h3 8 g3 z (by omega) (by omega)) (va_cwS 2 F.1.2.2.2.2 gX2_add_X2_pushFirst rfl rfl rfl (by decide +kernel) ⟨Nat.le_of_ble_eq_true rfl, Nat.le_of_ble_eq_true rfl⟩) rfl rfl hl.1 ⟨Nat.le_of_ble_eq_true rfl, Nat.le_of_ble_eq_true rfl⟩ (Nat.le_of_ble_eq_true rfl) dX2_add_21 (fun g1 H locs hp X => ?_)
  obtain ⟨w3, rfl, hw3⟩ := hp
  have X := X.perm (gs' := [[(h0, .inr (2, [.ref h1, .ref h2, .ref h3, .int ps, .int lo]))], rW q h1 8 w1, rW q h2 8 w2, rW q h3 8 w3]) (xp_idx (n := 4) [1, 2, 3, 0] (by decide +kernel) rfl rfl)
  have X := X.impl (gs' := [hW q h0 h1 h2 h3 w1 w2 w3 ps lo]) (b := hW q h0 h1 h2 h3 w1 w2 w3 ps lo) 0 4 rfl rfl rfl
  refine lv_aload_n hx hb dX2_add_24 rfl (lv_at hl 0 rfl) ?_
  refine lv_dup hx hb dX2_add_25 rfl ?_
  refine x_get F X (v := .int ps) (C := RX2) (T := TX2) (N := 5) (ci := 2) in_X2 0 rfl rfl 3 (by decide) mw_4 rfl dX2_add_26 ?_
  refine lv_iconst (v := 1) hx hb dX2_add_29 (by decide) ?_
  refine lv_iadd hx hb dX2_add_30 ?_
  refine x_put F X (gs' := [hW q h0 h1 h2 h3 w1 w2 w3 (ps + 1) lo]) (v := .int (ps + 1)) (C := RX2) (T := TX2) (N := 5) (ci := 2) in_X2 tyX2 tyX2_ok nmX2 0 rfl rfl 3 (by decide) mw_4 rfl rfl rfl (Nat.le_of_ble_eq_true rfl) dX2_add_31 rfl (fun H locs X => ?_)
  refine lv_aload_n hx hb dX2_add_34 rfl (lv_at hl 0 rfl) ?_
  refine lv_dup hx hb dX2_add_35 rfl ?_
  refine x_get F X (v := .int lo) (C := RX2) (T := TX2) (N := 5) (ci := 2) in_X2 0 rfl rfl 4 (by decide) mw_5 rfl dX2_add_36 ?_
  refine lv_iload_n hx hb dX2_add_39 rfl (lv_at hl 2 rfl) ?_
  refine lv_iadd hx hb dX2_add_40 ?_
  refine x_put F X (gs' := [hW q h0 h1 h2 h3 w1 w2 w3 (ps + 1) (lo + y)]) (v := .int (lo + y)) (C := RX2) (T := TX2) (N := 5) (ci := 2) in_X2 tyX2 tyX2_ok nmX2 0 rfl rfl 4 (by decide) mw_5 rfl rfl rfl (Nat.le_of_ble_eq_true rfl) dX2_add_41 rfl (fun H locs X => ?_)
  exact hret _ _ _ _ _ (by exact ⟨_, _, _, rfl, hw1, hw2, hw3⟩) X dX2_add_44

set_option maxHeartbeats 1000000 in
set_option maxRecDepth 100000 in
theorem c_X3_clear (l : Launch) (D : va_G) (q : xQ) (h0 : Nat) (h1 : Nat) (cs : Nat → Int32) (ln : Int32) (ov : Int32) : xMv l yX3_clear wsX3_clear { frames := 0, cells := 0, slots := 0, locals := 0 } D q [.ref h0] [pW q h0 h1 cs ln ov] (fun gw => gw = [pW q h0 h1 cs 0 0]) := by
  refine xMv_of (cc := cX3_clear) (maxL := 1) (by decide) rfl (Nat.le_of_ble_eq_true rfl) ?_
  intro p9 e9 s9 m9 a9 below meth c9 A9 Z9 ls H locs F hini X hl hret
  have hx := F.1.1
  have hb := F.1.2.1
  have in_X3 : ∀ w ∈ wsX30, w ∈ wsX3_clear := by decide +kernel
  have mw_0 : Cond.fieldLink RX3 15 "HatWinds$Pad" "length" "I" ∈ wsX3_clear := by decide +kernel
  have mw_1 : Cond.fieldLink RX3 19 "HatWinds$Pad" "overflowed" "Z" ∈ wsX3_clear := by decide +kernel
  have hl : lv_has ls 1 [(0, .ref h0)] := hl
  refine lv_aload_n hx hb dX3_clear_0 rfl (lv_at hl 0 rfl) ?_
  refine lv_iconst (v := 0) hx hb dX3_clear_1 (by decide) ?_
  refine x_put F X (gs' := [pW q h0 h1 cs 0 ov]) (v := .int 0) (C := RX3) (T := TX3) (N := 3) (ci := 3) in_X3 tyX3 tyX3_ok nmX3 0 rfl rfl 1 (by decide) mw_0 rfl rfl rfl (Nat.le_of_ble_eq_true rfl) dX3_clear_2 rfl (fun H locs X => ?_)
  refine lv_aload_n hx hb dX3_clear_5 rfl (lv_at hl 0 rfl) ?_
  refine lv_iconst (v := 0) hx hb dX3_clear_6 (by decide) ?_
  refine x_put F X (gs' := [pW q h0 h1 cs 0 0]) (v := .int 0) (C := RX3) (T := TX3) (N := 3) (ci := 3) in_X3 tyX3 tyX3_ok nmX3 0 rfl rfl 2 (by decide) mw_1 rfl rfl rfl (Nat.le_of_ble_eq_true rfl) dX3_clear_7 rfl (fun H locs X => ?_)
  exact hret _ _ _ _ _ (by exact rfl) X dX3_clear_10

set_option maxHeartbeats 1000000 in
set_option maxRecDepth 100000 in
theorem c_X3_add (l : Launch) (D : va_G) (q : xQ) (h0 : Nat) (h1 : Nat) (cs : Nat → Int32) (k : Nat) (ov : Int32) (x : Nat) (S : List Nat) (hxx : x < 65536) (hS : xPad S cs k ov) : xMv l yX3_add wsX3_add { frames := 0, cells := 0, slots := 0, locals := 0 } D q [.ref h0, .int (nI x)] [pW q h0 h1 cs (nI k) ov] (fun gw => ∃ (cs2 : Nat → Int32), ∃ (k2 : Nat), ∃ (ov2 : Int32), gw = [pW q h0 h1 cs2 (nI k2) ov2] ∧ (xPad (S ++ [x]) cs2 k2 ov2)) := by
  refine xMv_of (cc := cX3_add) (maxL := 2) (by decide) rfl (Nat.le_of_ble_eq_true rfl) ?_
  intro p9 e9 s9 m9 a9 below meth c9 A9 Z9 ls H locs F hini X hl hret
  have hx := F.1.1
  have hb := F.1.2.1
  have in_X3 : ∀ w ∈ wsX30, w ∈ wsX3_add := by decide +kernel
  have mw_0 : Cond.fieldLink RX3 15 "HatWinds$Pad" "length" "I" ∈ wsX3_add := by decide +kernel
  have mw_1 : Cond.fieldLink RX3 9 "HatWinds$Pad" "signs" "[C" ∈ wsX3_add := by decide +kernel
  have mw_2 : Cond.fieldLink RX3 19 "HatWinds$Pad" "overflowed" "Z" ∈ wsX3_add := by decide +kernel
  have hl : lv_has ls 2 [(0, .ref h0), (1, .int (nI x))] := hl
  have hk := hS.1
  have hk8 : k ≤ 80 := by omega
  refine lv_aload_n hx hb dX3_add_0 rfl (lv_at hl 0 rfl) ?_
  refine x_get F X (v := .int (nI k)) (C := RX3) (T := TX3) (N := 3) (ci := 3) in_X3 0 rfl rfl 1 (by decide) mw_0 rfl dX3_add_1 ?_
  refine lv_bipush (v := 80) hx hb dX3_add_4 (by decide) ?_
  refine lv_icmp_lt (tgt := 15) hx hb dX3_add_6 (by decide) (fun c_6 => ?_) (fun c_6 => ?_)
  · have c_6 : k < 80 := (nI_ltI (a := k) (b := 80) (by omega) (by omega)).mp c_6
    refine lv_aload_n hx hb dX3_add_15 rfl (lv_at hl 0 rfl) ?_
    refine x_get F X (v := .ref h1) (C := RX3) (T := TX3) (N := 3) (ci := 3) in_X3 0 rfl rfl 0 (by decide) mw_1 rfl dX3_add_16 ?_
    refine lv_aload_n hx hb dX3_add_19 rfl (lv_at hl 0 rfl) ?_
    refine x_get F X (v := .int (nI k)) (C := RX3) (T := TX3) (N := 3) (ci := 3) in_X3 0 rfl rfl 1 (by decide) mw_0 rfl dX3_add_20 ?_
    refine lv_iload_n hx hb dX3_add_23 rfl (lv_at hl 1 rfl) ?_
    refine lv_i2c (v := ((nI x).toUInt32 % 65536).toInt32) hx hb dX3_add_24 rfl ?_
    refine x_i (y := (nI x)) (x_chr hxx) ?_
    refine x_cast F X (gs' := [pW q h0 h1 (upd cs k (nI x)) (nI k) ov]) (n := 80) (f := cs) (k := k) 1 rfl (vp_in_nI (by omega) (by omega)) (nI_clamp (by omega)) (by exact x_nar hxx) dX3_add_25 rfl (fun H locs X => ?_)
    refine lv_aload_n hx hb dX3_add_26 rfl (lv_at hl 0 rfl) ?_
    refine lv_dup hx hb dX3_add_27 rfl ?_
    refine x_get F X (v := .int (nI k)) (C := RX3) (T := TX3) (N := 3) (ci := 3) in_X3 0 rfl rfl 1 (by decide) mw_0 rfl dX3_add_28 ?_
    refine lv_iconst (v := 1) hx hb dX3_add_31 (by decide) ?_
    refine lv_iadd hx hb dX3_add_32 ?_
    refine x_i (y := (nI (k + 1))) (nI_add k 1) ?_
    refine x_put F X (gs' := [pW q h0 h1 (upd cs k (nI x)) (nI (k + 1)) ov]) (v := .int (nI (k + 1))) (C := RX3) (T := TX3) (N := 3) (ci := 3) in_X3 tyX3 tyX3_ok nmX3 0 rfl rfl 1 (by decide) mw_0 rfl rfl rfl (Nat.le_of_ble_eq_true rfl) dX3_add_33 rfl (fun H locs X => ?_)
    refine hret _ _ _ _ _ ?_ X dX3_add_36
    refine ⟨upd cs k (nI x), k + 1, ov, rfl, ?_⟩
    exact hS.put hxx c_6
  · have c_6 : 80 ≤ k := Nat.not_lt.mp (fun h => c_6 ((nI_ltI (a := k) (b := 80) (by omega) (by omega)).mpr h))
    refine lv_aload_n hx hb dX3_add_9 rfl (lv_at hl 0 rfl) ?_
    refine lv_iconst (v := 1) hx hb dX3_add_10 (by decide) ?_
    refine x_put F X (gs' := [pW q h0 h1 cs (nI k) 1]) (v := .int 1) (C := RX3) (T := TX3) (N := 3) (ci := 3) in_X3 tyX3 tyX3_ok nmX3 0 rfl rfl 2 (by decide) mw_2 rfl rfl rfl (Nat.le_of_ble_eq_true rfl) dX3_add_11 rfl (fun H locs X => ?_)
    refine hret _ _ _ _ _ ?_ X dX3_add_14
    refine ⟨cs, k, 1, rfl, ?_⟩
    exact hS.full (by omega)

set_option maxHeartbeats 1000000 in
set_option maxRecDepth 100000 in
theorem c_X3_copy (l : Launch) (D : va_G) (q : xQ) (h0 : Nat) (h1 : Nat) (i0 : Nat) (i1 : Nat) (cs : Nat → Int32) (es : Nat → Int32) (ln : Int32) (ov : Int32) (mn : Int32) (mv : Int32) (hfit : ∀ j, j < 80 → fits .char (.int (es j)) = true) (hmv : mv = 0 ∨ mv = 1) : xMv l yX3_copy wsX3_copy { frames := 1, cells := 0, slots := 0, locals := 40 } D q [.ref h0, .ref i0] [pW q h0 h1 cs ln ov, pW q i0 i1 es mn mv] (fun gw => gw = [pW q h0 h1 (va_cpy es cs 0 0 80) mn mv, pW q i0 i1 es mn mv]) := by
  refine xMv_of (cc := cX3_copy) (maxL := 2) (by decide) rfl (Nat.le_of_ble_eq_true rfl) ?_
  intro p9 e9 s9 m9 a9 below meth c9 A9 Z9 ls H locs F hini X hl hret
  have hx := F.1.1
  have hb := F.1.2.1
  have in_X3 : ∀ w ∈ wsX30, w ∈ wsX3_copy := by decide +kernel
  have mw_0 : Cond.fieldLink RX3 9 "HatWinds$Pad" "signs" "[C" ∈ wsX3_copy := by decide +kernel
  have mw_1 : Cond.methodLink RX3 23 arraycopyName ∈ wsX3_copy := by decide +kernel
  have mw_2 : Cond.native arraycopyName ∈ wsX3_copy := by decide +kernel
  have mw_3 : Cond.static arraycopyName ∈ wsX3_copy := by decide +kernel
  have mw_4 : Cond.initialized "java/lang/System" ∈ wsX3_copy := by decide +kernel
  have mw_5 : Cond.fieldLink RX3 15 "HatWinds$Pad" "length" "I" ∈ wsX3_copy := by decide +kernel
  have mw_6 : Cond.fieldLink RX3 19 "HatWinds$Pad" "overflowed" "Z" ∈ wsX3_copy := by decide +kernel
  have hl : lv_has ls 2 [(0, .ref h0), (1, .ref i0)] := hl
  refine lv_aload_n hx hb dX3_copy_0 rfl (lv_at hl 1 rfl) ?_
  refine x_get F X (v := .ref i1) (C := RX3) (T := TX3) (N := 3) (ci := 3) in_X3 2 rfl rfl 0 (by decide) mw_0 rfl dX3_copy_1 ?_
  refine lv_iconst (v := 0) hx hb dX3_copy_4 (by decide) ?_
  refine lv_aload_n hx hb dX3_copy_5 rfl (lv_at hl 0 rfl) ?_
  refine x_get F X (v := .ref h1) (C := RX3) (T := TX3) (N := 3) (ci := 3) in_X3 0 rfl rfl 0 (by decide) mw_0 rfl dX3_copy_6 ?_
  refine lv_iconst (v := 0) hx hb dX3_copy_9 (by decide) ?_
  refine lv_bipush (v := 80) hx hb dX3_copy_10 (by decide) ?_
  refine x_copy F X (gs' := [pW q h0 h1 (va_cpy es cs 0 0 80) ln ov, pW q i0 i1 es mn mv]) (k := 80) (f := es) (g := cs) hl.1 mw_1 mw_2 mw_3 mw_4 3 1 1 rfl rfl rfl rfl rfl (by omega) (by omega) (by omega) hfit ⟨Nat.le_of_ble_eq_true rfl, Nat.le_of_ble_eq_true rfl⟩ dX3_copy_12 rfl (fun H locs X => ?_)
  refine lv_aload_n hx hb dX3_copy_15 rfl (lv_at hl 0 rfl) ?_
  refine lv_aload_n hx hb dX3_copy_16 rfl (lv_at hl 1 rfl) ?_
  refine x_get F X (v := .int mn) (C := RX3) (T := TX3) (N := 3) (ci := 3) in_X3 2 rfl rfl 1 (by decide) mw_5 rfl dX3_copy_17 ?_
  refine x_put F X (gs' := [pW q h0 h1 (va_cpy es cs 0 0 80) mn ov, pW q i0 i1 es mn mv]) (v := .int mn) (C := RX3) (T := TX3) (N := 3) (ci := 3) in_X3 tyX3 tyX3_ok nmX3 0 rfl rfl 1 (by decide) mw_5 rfl rfl rfl (Nat.le_of_ble_eq_true rfl) dX3_copy_20 rfl (fun H locs X => ?_)
  refine lv_aload_n hx hb dX3_copy_23 rfl (lv_at hl 0 rfl) ?_
  refine lv_aload_n hx hb dX3_copy_24 rfl (lv_at hl 1 rfl) ?_
  refine x_get F X (v := .int mv) (C := RX3) (T := TX3) (N := 3) (ci := 3) in_X3 2 rfl rfl 2 (by decide) mw_6 rfl dX3_copy_25 ?_
  refine x_put F X (gs' := [pW q h0 h1 (va_cpy es cs 0 0 80) mn mv, pW q i0 i1 es mn mv]) (v := .int mv) (C := RX3) (T := TX3) (N := 3) (ci := 3) in_X3 tyX3 tyX3_ok nmX3 0 rfl rfl 2 (by decide) mw_6 rfl (x_nz hmv) (x_fz hmv) (Nat.le_of_ble_eq_true rfl) dX3_copy_28 rfl (fun H locs X => ?_)
  exact hret _ _ _ _ _ (by exact rfl) X dX3_copy_31

set_option maxHeartbeats 1000000 in
set_option maxRecDepth 100000 in
theorem c_X6_copy (l : Launch) (D : va_G) (q : xQ) (t0 : Nat) (t1 : Nat) (u0 : Nat) (u1 : Nat) (u2 : Nat) (u3 : Nat) (h0 : Nat) (h1 : Nat) (h2 : Nat) (h3 : Nat) (h4 : Nat) (h5 : Nat) (r0 : Nat → Int32) (f1 : Nat → Int32) (f2 : Nat → Int32) (f3 : Nat → Int32) (f4 : Nat → Int32) (f5 : Nat → Int32) (g1 : Nat → Int32) (g2 : Nat → Int32) (g3 : Nat → Int32) (fc : Int32) (nb : Int32) (ps : Int32) (lo : Int32) (v0 : Nat) (v1 : Nat) (y0 : Nat) (y1 : Nat) (y2 : Nat) (y3 : Nat) (i0 : Nat) (i1 : Nat) (i2 : Nat) (i3 : Nat) (i4 : Nat) (i5 : Nat) (s0 : Nat → Int32) (e1 : Nat → Int32) (e2 : Nat → Int32) (e3 : Nat → Int32) (e4 : Nat → Int32) (e5 : Nat → Int32) (k1 : Nat → Int32) (k2 : Nat → Int32) (k3 : Nat → Int32) (gc : Int32) (mb : Int32) (qs : Int32) (mo : Int32) : xMv l yX6_copy wsX6_copy { frames := 3, cells := 0, slots := 0, locals := 82 } D q [.ref t0, .ref v0] [twW q t0 t1 h0 u0 r0 fc, sW q h0 h1 h2 h3 h4 h5 f1 f2 f3 f4 f5 nb, hW q u0 u1 u2 u3 g1 g2 g3 ps lo, twW q v0 v1 i0 y0 s0 gc, sW q i0 i1 i2 i3 i4 i5 e1 e2 e3 e4 e5 mb, hW q y0 y1 y2 y3 k1 k2 k3 qs mo] (fun gw => gw = [twW q t0 t1 h0 u0 (va_cpy s0 r0 0 0 4) gc, sW q h0 h1 h2 h3 h4 h5 (va_cpy e1 f1 0 0 20) (va_cpy e2 f2 0 0 20) (va_cpy e3 f3 0 0 20) (va_cpy e4 f4 0 0 20) (va_cpy e5 f5 0 0 20) mb, hW q u0 u1 u2 u3 (va_cpy k1 g1 0 0 8) (va_cpy k2 g2 0 0 8) (va_cpy k3 g3 0 0 8) qs mo, twW q v0 v1 i0 y0 s0 gc, sW q i0 i1 i2 i3 i4 i5 e1 e2 e3 e4 e5 mb, hW q y0 y1 y2 y3 k1 k2 k3 qs mo]) := by
  refine xMv_of (cc := cX6_copy) (maxL := 2) (by decide) rfl (Nat.le_of_ble_eq_true rfl) ?_
  intro p9 e9 s9 m9 a9 below meth c9 A9 Z9 ls H locs F hini X hl hret
  have hx := F.1.1
  have hb := F.1.2.1
  have in_X6 : ∀ w ∈ wsX60, w ∈ wsX6_copy := by decide +kernel
  have mw_0 : Cond.fieldLink RX6 18 "HatWinds$Town" "settings" "[I" ∈ wsX6_copy := by decide +kernel
  have mw_1 : Cond.initialized RX7 ∈ wsX6_copy := by decide +kernel
  have mw_2 : Cond.static yX7_copyRow ∈ wsX6_copy := by decide +kernel
  have mw_3 : Cond.fieldLink RX6 26 "HatWinds$Town" "streets" "LHatWinds$Streets;" ∈ wsX6_copy := by decide +kernel
  have mw_4 : Cond.initialized RX5 ∈ wsX6_copy := by decide +kernel
  have mw_5 : Cond.fieldLink RX6 33 "HatWinds$Town" "hours" "LHatWinds$Hours;" ∈ wsX6_copy := by decide +kernel
  have mw_6 : Cond.initialized RX2 ∈ wsX6_copy := by decide +kernel
  have mw_7 : Cond.fieldLink RX6 37 "HatWinds$Town" "force" "I" ∈ wsX6_copy := by decide +kernel
  have hl : lv_has ls 2 [(0, .ref t0), (1, .ref v0)] := hl
  refine lv_aload_n hx hb dX6_copy_0 rfl (lv_at hl 1 rfl) ?_
  refine x_get F X (v := .ref v1) (C := RX6) (T := TX6) (N := 4) (ci := 6) in_X6 12 rfl rfl 0 (by decide) mw_0 rfl dX6_copy_1 ?_
  refine lv_aload_n hx hb dX6_copy_4 rfl (lv_at hl 0 rfl) ?_
  refine x_get F X (v := .ref t1) (C := RX6) (T := TX6) (N := 4) (ci := 6) in_X6 0 rfl rfl 0 (by decide) mw_0 rfl dX6_copy_5 ?_
  have X := X.expl (gs' := [twW q t0 t1 h0 u0 r0 fc, sW q h0 h1 h2 h3 h4 h5 f1 f2 f3 f4 f5 nb, hW q u0 u1 u2 u3 g1 g2 g3 ps lo, [(v0, .inr (6, [.ref v1, .ref i0, .ref y0, .int gc]))], rW q v1 4 s0, sW q i0 i1 i2 i3 i4 i5 e1 e2 e3 e4 e5 mb, hW q y0 y1 y2 y3 k1 k2 k3 qs mo]) (bs := [[(v0, .inr (6, [.ref v1, .ref i0, .ref y0, .int gc]))], rW q v1 4 s0]) 3 rfl rfl rfl
  have X := X.expl (gs' := [[(t0, .inr (6, [.ref t1, .ref h0, .ref u0, .int fc]))], rW q t1 4 r0, sW q h0 h1 h2 h3 h4 h5 f1 f2 f3 f4 f5 nb, hW q u0 u1 u2 u3 g1 g2 g3 ps lo, [(v0, .inr (6, [.ref v1, .ref i0, .ref y0, .int gc]))], rW q v1 4 s0, sW q i0 i1 i2 i3 i4 i5 e1 e2 e3 e4 e5 mb, hW q y0 y1 y2 y3 k1 k2 k3 qs mo]) (bs := [[(t0, .inr (6, [.ref t1, .ref h0, .ref u0, .int fc]))], rW q t1 4 r0]) 0 rfl rfl rfl
  refine x_cNv F X (gc := [rW q v1 4 s0, rW q t1 4 r0]) (gr := [[(t0, .inr (6, [.ref t1, .ref h0, .ref u0, .int fc]))], sW q h0 h1 h2 h3 h4 h5 f1 f2 f3 f4 f5 nb, hW q u0 u1 u2 u3 g1 g2 g3 ps lo, [(v0, .inr (6, [.ref v1, .ref i0, .ref y0, .int gc]))], sW q i0 i1 i2 i3 i4 i5 e1 e2 e3 e4 e5 mb, hW q y0 y1 y2 y3 k1 k2 k3 qs mo]) (xp_idx (n := 8) [5, 1, 0, 2, 3, 4, 6, 7] (by decide +kernel) rfl rfl) (c_X7_copyRow l D q v1 t1 4 s0 r0 (by omega)) ⟨va_cnB (host := "HatWinds") 2 F.1.2.2.2.2 gX6_copy_X7_copyRow_n45 rfl rfl rfl (F.2.2 _ (List.mem_of_getElem? (i := 11) rfl)) (F.1.2.2.2.2 _ mw_1) (by decide +kernel) ⟨Nat.le_of_ble_eq_true rfl, Nat.le_of_ble_eq_true rfl⟩, F.1.2.2.2.2 _ mw_2, trivial⟩ rfl rfl hl.1 ⟨Nat.le_of_ble_eq_true rfl, Nat.le_of_ble_eq_true rfl⟩ (Nat.le_of_ble_eq_true rfl) dX6_copy_8 (fun g1 H locs hp X => ?_)
  subst hp
  have X := X.perm (gs' := [[(t0, .inr (6, [.ref t1, .ref h0, .ref u0, .int fc]))], rW q t1 4 (va_cpy s0 r0 0 0 4), sW q h0 h1 h2 h3 h4 h5 f1 f2 f3 f4 f5 nb, hW q u0 u1 u2 u3 g1 g2 g3 ps lo, [(v0, .inr (6, [.ref v1, .ref i0, .ref y0, .int gc]))], rW q v1 4 s0, sW q i0 i1 i2 i3 i4 i5 e1 e2 e3 e4 e5 mb, hW q y0 y1 y2 y3 k1 k2 k3 qs mo]) (xp_idx (n := 8) [2, 1, 3, 4, 5, 0, 6, 7] (by decide +kernel) rfl rfl)
  have X := X.impl (gs' := [[(t0, .inr (6, [.ref t1, .ref h0, .ref u0, .int fc]))], rW q t1 4 (va_cpy s0 r0 0 0 4), sW q h0 h1 h2 h3 h4 h5 f1 f2 f3 f4 f5 nb, hW q u0 u1 u2 u3 g1 g2 g3 ps lo, twW q v0 v1 i0 y0 s0 gc, sW q i0 i1 i2 i3 i4 i5 e1 e2 e3 e4 e5 mb, hW q y0 y1 y2 y3 k1 k2 k3 qs mo]) (b := twW q v0 v1 i0 y0 s0 gc) 4 2 rfl rfl rfl
  have X := X.impl (gs' := [twW q t0 t1 h0 u0 (va_cpy s0 r0 0 0 4) fc, sW q h0 h1 h2 h3 h4 h5 f1 f2 f3 f4 f5 nb, hW q u0 u1 u2 u3 g1 g2 g3 ps lo, twW q v0 v1 i0 y0 s0 gc, sW q i0 i1 i2 i3 i4 i5 e1 e2 e3 e4 e5 mb, hW q y0 y1 y2 y3 k1 k2 k3 qs mo]) (b := twW q t0 t1 h0 u0 (va_cpy s0 r0 0 0 4) fc) 0 2 rfl rfl rfl
  refine lv_aload_n hx hb dX6_copy_11 rfl (lv_at hl 0 rfl) ?_
  refine x_get F X (v := .ref h0) (C := RX6) (T := TX6) (N := 4) (ci := 6) in_X6 0 rfl rfl 1 (by decide) mw_3 rfl dX6_copy_12 ?_
  refine lv_aload_n hx hb dX6_copy_15 rfl (lv_at hl 1 rfl) ?_
  refine x_get F X (v := .ref i0) (C := RX6) (T := TX6) (N := 4) (ci := 6) in_X6 12 rfl rfl 1 (by decide) mw_3 rfl dX6_copy_16 ?_
  refine x_cVv F X (gc := [sW q h0 h1 h2 h3 h4 h5 f1 f2 f3 f4 f5 nb, sW q i0 i1 i2 i3 i4 i5 e1 e2 e3 e4 e5 mb]) (gr := [twW q t0 t1 h0 u0 (va_cpy s0 r0 0 0 4) fc, hW q u0 u1 u2 u3 g1 g2 g3 ps lo, twW q v0 v1 i0 y0 s0 gc, hW q y0 y1 y2 y3 k1 k2 k3 qs mo]) (xp_idx (n := 6) [1, 4, 0, 2, 3, 5] (by decide +kernel) rfl rfl) (c_X5_copy l D q h0 h1 h2 h3 h4 h5 i0 i1 i2 i3 i4 i5 f1 f2 f3 f4 f5 e1 e2 e3 e4 e5 nb mb ) (cwV 1 F.1.2.2.2.2 gX6_copy_X5_copy rfl rfl rfl (by decide +kernel) ⟨Nat.le_of_ble_eq_true rfl, Nat.le_of_ble_eq_true rfl⟩) rfl rfl (r0 := 0) (ci := 5) (T := TX5) (N := 6) rfl rfl hl.1 ⟨Nat.le_of_ble_eq_true rfl, Nat.le_of_ble_eq_true rfl⟩ (Nat.le_of_ble_eq_true rfl) dX6_copy_19 (fun g1 H locs hp X => ?_)
  subst hp
  have X := X.perm (gs' := [twW q t0 t1 h0 u0 (va_cpy s0 r0 0 0 4) fc, sW q h0 h1 h2 h3 h4 h5 (va_cpy e1 f1 0 0 20) (va_cpy e2 f2 0 0 20) (va_cpy e3 f3 0 0 20) (va_cpy e4 f4 0 0 20) (va_cpy e5 f5 0 0 20) mb, hW q u0 u1 u2 u3 g1 g2 g3 ps lo, twW q v0 v1 i0 y0 s0 gc, sW q i0 i1 i2 i3 i4 i5 e1 e2 e3 e4 e5 mb, hW q y0 y1 y2 y3 k1 k2 k3 qs mo]) (xp_idx (n := 6) [2, 0, 3, 4, 1, 5] (by decide +kernel) rfl rfl)
  refine lv_aload_n hx hb dX6_copy_22 rfl (lv_at hl 0 rfl) ?_
  refine x_get F X (v := .ref u0) (C := RX6) (T := TX6) (N := 4) (ci := 6) in_X6 0 rfl rfl 2 (by decide) mw_5 rfl dX6_copy_23 ?_
  refine lv_aload_n hx hb dX6_copy_26 rfl (lv_at hl 1 rfl) ?_
  refine x_get F X (v := .ref y0) (C := RX6) (T := TX6) (N := 4) (ci := 6) in_X6 12 rfl rfl 2 (by decide) mw_5 rfl dX6_copy_27 ?_
  refine x_cVv F X (gc := [hW q u0 u1 u2 u3 g1 g2 g3 ps lo, hW q y0 y1 y2 y3 k1 k2 k3 qs mo]) (gr := [twW q t0 t1 h0 u0 (va_cpy s0 r0 0 0 4) fc, sW q h0 h1 h2 h3 h4 h5 (va_cpy e1 f1 0 0 20) (va_cpy e2 f2 0 0 20) (va_cpy e3 f3 0 0 20) (va_cpy e4 f4 0 0 20) (va_cpy e5 f5 0 0 20) mb, twW q v0 v1 i0 y0 s0 gc, sW q i0 i1 i2 i3 i4 i5 e1 e2 e3 e4 e5 mb]) (xp_idx (n := 6) [2, 5, 0, 1, 3, 4] (by decide +kernel) rfl rfl) (c_X2_copy l D q u0 u1 u2 u3 y0 y1 y2 y3 g1 g2 g3 k1 k2 k3 ps lo qs mo ) (cwV 1 F.1.2.2.2.2 gX6_copy_X2_copy rfl rfl rfl (by decide +kernel) ⟨Nat.le_of_ble_eq_true rfl, Nat.le_of_ble_eq_true rfl⟩) rfl rfl (r0 := 0) (ci := 2) (T := TX2) (N := 5) rfl rfl hl.1 ⟨Nat.le_of_ble_eq_true rfl, Nat.le_of_ble_eq_true rfl⟩ (Nat.le_of_ble_eq_true rfl) dX6_copy_30 (fun g1 H locs hp X => ?_)
  subst hp
  have X := X.perm (gs' := [twW q t0 t1 h0 u0 (va_cpy s0 r0 0 0 4) fc, sW q h0 h1 h2 h3 h4 h5 (va_cpy e1 f1 0 0 20) (va_cpy e2 f2 0 0 20) (va_cpy e3 f3 0 0 20) (va_cpy e4 f4 0 0 20) (va_cpy e5 f5 0 0 20) mb, hW q u0 u1 u2 u3 (va_cpy k1 g1 0 0 8) (va_cpy k2 g2 0 0 8) (va_cpy k3 g3 0 0 8) qs mo, twW q v0 v1 i0 y0 s0 gc, sW q i0 i1 i2 i3 i4 i5 e1 e2 e3 e4 e5 mb, hW q y0 y1 y2 y3 k1 k2 k3 qs mo]) (xp_idx (n := 6) [2, 3, 0, 4, 5, 1] (by decide +kernel) rfl rfl)
  refine lv_aload_n hx hb dX6_copy_33 rfl (lv_at hl 0 rfl) ?_
  refine lv_aload_n hx hb dX6_copy_34 rfl (lv_at hl 1 rfl) ?_
  refine x_get F X (v := .int gc) (C := RX6) (T := TX6) (N := 4) (ci := 6) in_X6 12 rfl rfl 3 (by decide) mw_7 rfl dX6_copy_35 ?_
  refine x_put F X (gs' := [twW q t0 t1 h0 u0 (va_cpy s0 r0 0 0 4) gc, sW q h0 h1 h2 h3 h4 h5 (va_cpy e1 f1 0 0 20) (va_cpy e2 f2 0 0 20) (va_cpy e3 f3 0 0 20) (va_cpy e4 f4 0 0 20) (va_cpy e5 f5 0 0 20) mb, hW q u0 u1 u2 u3 (va_cpy k1 g1 0 0 8) (va_cpy k2 g2 0 0 8) (va_cpy k3 g3 0 0 8) qs mo, twW q v0 v1 i0 y0 s0 gc, sW q i0 i1 i2 i3 i4 i5 e1 e2 e3 e4 e5 mb, hW q y0 y1 y2 y3 k1 k2 k3 qs mo]) (v := .int gc) (C := RX6) (T := TX6) (N := 4) (ci := 6) in_X6 tyX6 tyX6_ok nmX6 0 rfl rfl 3 (by decide) mw_7 rfl rfl rfl (Nat.le_of_ble_eq_true rfl) dX6_copy_38 rfl (fun H locs X => ?_)
  exact hret _ _ _ _ _ (by exact rfl) X dX6_copy_41
