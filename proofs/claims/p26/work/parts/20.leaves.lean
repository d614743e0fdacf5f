set_option maxHeartbeats 1000000 in
set_option maxRecDepth 100000 in
theorem c_X7_isIndexOf (l : Launch) (D : va_G) (q : xQ) (v : Int32) (len : Int32) : xMi l yX7_isIndexOf wsX7_isIndexOf { frames := 0, cells := 0, slots := 0, locals := 0 } D q [.int v, .int len] [] (fun r gw => gw = [] ∧ ((r = 1 ∧ (¬ v < 0 ∧ v < len)) ∨ (r = 0 ∧ ¬ (¬ v < 0 ∧ v < len)))) := by
  refine xMi_of (cc := cX7_isIndexOf) (maxL := 2) (rt := .boolean) (by decide) rfl (Nat.le_of_ble_eq_true rfl) (fun v w h => by obtain ⟨_, (⟨rfl, _⟩ | ⟨rfl, _⟩)⟩ := h <;> rfl) ?_
  intro p9 e9 s9 m9 a9 below meth c9 A9 Z9 ls H locs F X hl hret
  have hx := F.1.1
  have hb := F.1.2.1
  have hl : lv_has ls 2 [(0, .int v), (1, .int len)] := hl
  refine lv_iload_n hx hb dX7_isIndexOf_0 rfl (lv_at hl 0 rfl) ?_
  refine lv_if_lt (tgt := 13) hx hb dX7_isIndexOf_1 (by decide) (fun c_1 => ?_) (fun c_1 => ?_)
  · refine lv_iconst (v := 0) hx hb dX7_isIndexOf_13 (by decide) ?_
    exact hret _ _ _ _ _ _ (by exact ⟨rfl, Or.inr ⟨rfl, fun h => h.1 c_1⟩⟩) X dX7_isIndexOf_14
  · refine lv_iload_n hx hb dX7_isIndexOf_4 rfl (lv_at hl 0 rfl) ?_
    refine lv_iload_n hx hb dX7_isIndexOf_5 rfl (lv_at hl 1 rfl) ?_
    refine lv_icmp_ge (tgt := 13) hx hb dX7_isIndexOf_6 (by decide) (fun c_6 => ?_) (fun c_6 => ?_)
    · refine lv_iconst (v := 0) hx hb dX7_isIndexOf_13 (by decide) ?_
      exact hret _ _ _ _ _ _ (by exact ⟨rfl, Or.inr ⟨rfl, fun h => absurd c_6 (Int32.not_le.mpr h.2)⟩⟩) X dX7_isIndexOf_14
    · refine lv_iconst (v := 1) hx hb dX7_isIndexOf_9 (by decide) ?_
      refine lv_goto (tgt := 14) hx hb dX7_isIndexOf_10 (by decide) ?_
      exact hret _ _ _ _ _ _ (by exact ⟨rfl, Or.inl ⟨rfl, c_1, Int32.not_le.mp c_6⟩⟩) X dX7_isIndexOf_14

set_option maxHeartbeats 1000000 in
set_option maxRecDepth 100000 in
theorem c_X7_isWithin (l : Launch) (D : va_G) (q : xQ) (v : Int32) (lo : Int32) (hi : Int32) : xMi l yX7_isWithin wsX7_isWithin { frames := 0, cells := 0, slots := 0, locals := 0 } D q [.int v, .int lo, .int hi] [] (fun r gw => gw = [] ∧ ((r = 1 ∧ (lo ≤ v ∧ v ≤ hi)) ∨ (r = 0 ∧ ¬ (lo ≤ v ∧ v ≤ hi)))) := by
  refine xMi_of (cc := cX7_isWithin) (maxL := 3) (rt := .boolean) (by decide) rfl (Nat.le_of_ble_eq_true rfl) (fun v w h => by obtain ⟨_, (⟨rfl, _⟩ | ⟨rfl, _⟩)⟩ := h <;> rfl) ?_
  intro p9 e9 s9 m9 a9 below meth c9 A9 Z9 ls H locs F X hl hret
  have hx := F.1.1
  have hb := F.1.2.1
  have hl : lv_has ls 3 [(0, .int v), (1, .int lo), (2, .int hi)] := hl
  refine lv_iload_n hx hb dX7_isWithin_0 rfl (lv_at hl 0 rfl) ?_
  refine lv_iload_n hx hb dX7_isWithin_1 rfl (lv_at hl 1 rfl) ?_
  refine lv_icmp_lt (tgt := 14) hx hb dX7_isWithin_2 (by decide) (fun c_2 => ?_) (fun c_2 => ?_)
  · refine lv_iconst (v := 0) hx hb dX7_isWithin_14 (by decide) ?_
    exact hret _ _ _ _ _ _ (by exact ⟨rfl, Or.inr ⟨rfl, fun h => absurd c_2 (Int32.not_lt.mpr h.1)⟩⟩) X dX7_isWithin_15
  · refine lv_iload_n hx hb dX7_isWithin_5 rfl (lv_at hl 0 rfl) ?_
    refine lv_iload_n hx hb dX7_isWithin_6 rfl (lv_at hl 2 rfl) ?_
    refine lv_icmp_gt (tgt := 14) hx hb dX7_isWithin_7 (by decide) (fun c_7 => ?_) (fun c_7 => ?_)
    · refine lv_iconst (v := 0) hx hb dX7_isWithin_14 (by decide) ?_
      exact hret _ _ _ _ _ _ (by exact ⟨rfl, Or.inr ⟨rfl, fun h => absurd c_7 (Int32.not_lt.mpr h.2)⟩⟩) X dX7_isWithin_15
    · refine lv_iconst (v := 1) hx hb dX7_isWithin_10 (by decide) ?_
      refine lv_goto (tgt := 15) hx hb dX7_isWithin_11 (by decide) ?_
      exact hret _ _ _ _ _ _ (by exact ⟨rfl, Or.inl ⟨rfl, Int32.not_lt.mp c_2, Int32.not_lt.mp c_7⟩⟩) X dX7_isWithin_15

set_option maxHeartbeats 1000000 in
set_option maxRecDepth 100000 in
theorem c_X7_isForce (l : Launch) (D : va_G) (q : xQ) (v : Int32) : xMi l yX7_isForce wsX7_isForce { frames := 1, cells := 0, slots := 0, locals := 22 } D q [.int v] [] (fun r gw => gw = [] ∧ ((r = 1 ∧ (∃ k, k ≤ 200 ∧ v = nI k)) ∨ (r = 0 ∧ ¬ (∃ k, k ≤ 200 ∧ v = nI k)))) := by
  refine xMi_of (cc := cX7_isForce) (maxL := 1) (rt := .boolean) (by decide) rfl (Nat.le_of_ble_eq_true rfl) (fun v w h => by obtain ⟨_, (⟨rfl, _⟩ | ⟨rfl, _⟩)⟩ := h <;> rfl) ?_
  intro p9 e9 s9 m9 a9 below meth c9 A9 Z9 ls H locs F X hl hret
  have hx := F.1.1
  have hb := F.1.2.1
  have mw_0 : Cond.initialized RX7 ∈ wsX7_isForce := by decide +kernel
  have hl : lv_has ls 1 [(0, .int v)] := hl
  refine lv_iload_n hx hb dX7_isForce_0 rfl (lv_at hl 0 rfl) ?_
  refine lv_iconst (v := 0) hx hb dX7_isForce_1 (by decide) ?_
  refine lv_sipush (v := 200) hx hb dX7_isForce_2 (by decide) ?_
  refine x_cSi F X (gc := []) (gr := []) (xp_idx (n := 0) [] (by decide +kernel) rfl rfl) (c_X7_isWithin l D q v 0 200 ) (va_cwS 3 F.1.2.2.2.2 gX7_isForce_X7_isWithin rfl rfl rfl (by decide +kernel) ⟨Nat.le_of_ble_eq_true rfl, Nat.le_of_ble_eq_true rfl⟩) rfl rfl hl.1 ⟨Nat.le_of_ble_eq_true rfl, Nat.le_of_ble_eq_true rfl⟩ (Nat.le_of_ble_eq_true rfl) dX7_isForce_5 (fun r_5 g1 H locs hp X => ?_)
  obtain ⟨rfl, hz⟩ := hp
  have X : xS D A9 s9 [] H locs := X
  rcases hz with ⟨rfl, b_5⟩ | ⟨rfl, b_5⟩
  · exact hret _ _ _ _ _ _ (by exact ⟨rfl, Or.inl ⟨rfl, ((x_rng (a := 0) (b := 200) (by omega) (by omega)).mp b_5).imp fun k h => ⟨h.2.1, h.2.2⟩⟩⟩) X dX7_isForce_8
  · exact hret _ _ _ _ _ _ (by exact ⟨rfl, Or.inr ⟨rfl, fun h => b_5 ((x_rng (a := 0) (b := 200) (by omega) (by omega)).mpr (h.imp fun k z => ⟨Nat.zero_le k, z⟩))⟩⟩) X dX7_isForce_8

set_option maxHeartbeats 1000000 in
set_option maxRecDepth 100000 in
theorem c_X7_quotient (l : Launch) (D : va_G) (q : xQ) (a : Int32) (b : Int32) : xMi l yX7_quotient wsX7_quotient { frames := 0, cells := 0, slots := 0, locals := 0 } D q [.int a, .int b] [] (fun r gw => gw = [] ∧ r = x_quo a b) := by
  refine xMi_of (cc := cX7_quotient) (maxL := 2) (rt := .int) (by decide) rfl (Nat.le_of_ble_eq_true rfl) (fun _ _ _ => rfl) ?_
  intro p9 e9 s9 m9 a9 below meth c9 A9 Z9 ls H locs F X hl hret
  have hx := F.1.1
  have hb := F.1.2.1
  have hl : lv_has ls 2 [(0, .int a), (1, .int b)] := hl
  refine lv_iload_n hx hb dX7_quotient_0 rfl (lv_at hl 1 rfl) ?_
  refine lv_if_le (tgt := 10) hx hb dX7_quotient_1 (by decide) (fun c_1 => ?_) (fun c_1 => ?_)
  · refine lv_iconst (v := 0) hx hb dX7_quotient_10 (by decide) ?_
    exact hret _ _ _ _ _ _ (by exact ⟨rfl, (if_neg (Int32.not_lt.mpr c_1)).symm⟩) X dX7_quotient_11
  · refine lv_iload_n hx hb dX7_quotient_4 rfl (lv_at hl 0 rfl) ?_
    refine lv_iload_n hx hb dX7_quotient_5 rfl (lv_at hl 1 rfl) ?_
    refine lv_idiv hx hb dX7_quotient_6 (by intro h; subst h; exact c_1 (by decide)) ?_
    refine lv_goto (tgt := 11) hx hb dX7_quotient_7 (by decide) ?_
    exact hret _ _ _ _ _ _ (by exact ⟨rfl, (if_pos (Int32.not_le.mp c_1)).symm⟩) X dX7_quotient_11

set_option maxHeartbeats 1000000 in
set_option maxRecDepth 100000 in
theorem c_X7_copyRow (l : Launch) (D : va_G) (q : xQ) (h0 : Nat) (h1 : Nat) (n : Nat) (f : Nat → Int32) (g : Nat → Int32) (hn : n < 2 ^ 31) : xMv l yX7_copyRow wsX7_copyRow { frames := 1, cells := 0, slots := 0, locals := 40 } D q [.ref h0, .ref h1] [rW q h0 n f, rW q h1 n g] (fun gw => gw = [rW q h0 n f, rW q h1 n (va_cpy f g 0 0 n)]) := by
  refine xMv_of (cc := cX7_copyRow) (maxL := 2) (by decide) rfl (Nat.le_of_ble_eq_true rfl) ?_
  intro p9 e9 s9 m9 a9 below meth c9 A9 Z9 ls H locs F hini X hl hret
  have hx := F.1.1
  have hb := F.1.2.1
  have mw_0 : Cond.methodLink RX7 263 Lib.Math.min.name ∈ wsX7_copyRow := by decide +kernel
  have mw_1 : Cond.static Lib.Math.min.name ∈ wsX7_copyRow := by decide +kernel
  have mw_2 : Cond.initialized "java/lang/Math" ∈ wsX7_copyRow := by decide +kernel
  have mw_3 : Cond.code Lib.Math.min.name Lib.Math.min.code 2 (some .int) ∈ wsX7_copyRow := by decide +kernel
  have mw_4 : Cond.methodLink RX7 268 arraycopyName ∈ wsX7_copyRow := by decide +kernel
  have mw_5 : Cond.native arraycopyName ∈ wsX7_copyRow := by decide +kernel
  have mw_6 : Cond.static arraycopyName ∈ wsX7_copyRow := by decide +kernel
  have mw_7 : Cond.initialized "java/lang/System" ∈ wsX7_copyRow := by decide +kernel
  have hl : lv_has ls 2 [(0, .ref h0), (1, .ref h1)] := hl
  refine lv_aload_n hx hb dX7_copyRow_0 rfl (lv_at hl 0 rfl) ?_
  refine lv_iconst (v := 0) hx hb dX7_copyRow_1 (by decide) ?_
  refine lv_aload_n hx hb dX7_copyRow_2 rfl (lv_at hl 1 rfl) ?_
  refine lv_iconst (v := 0) hx hb dX7_copyRow_3 (by decide) ?_
  refine lv_aload_n hx hb dX7_copyRow_4 rfl (lv_at hl 0 rfl) ?_
  refine x_alen F X (n := n) 0 rfl dX7_copyRow_5 ?_
  refine lv_aload_n hx hb dX7_copyRow_6 rfl (lv_at hl 1 rfl) ?_
  refine x_alen F X (n := n) 1 rfl dX7_copyRow_7 ?_
  refine x_min F hl.1 mw_0 mw_1 mw_2 mw_3 ⟨Nat.le_of_ble_eq_true rfl, Nat.le_of_ble_eq_true rfl⟩ ⟨Nat.le_of_ble_eq_true rfl, Nat.le_of_ble_eq_true rfl⟩ dX7_copyRow_8 ?_
  refine x_i (y := (nI n)) (ite_self _) ?_
  refine x_copy F X (gs' := [rW q h0 n f, rW q h1 n (va_cpy f g 0 0 n)]) (k := n) (f := f) (g := g) hl.1 mw_4 mw_5 mw_6 mw_7 0 1 0 rfl rfl rfl rfl rfl (by omega) (Nat.le_refl n) (Nat.le_refl n) (fun _ _ => rfl) ⟨Nat.le_of_ble_eq_true rfl, Nat.le_of_ble_eq_true rfl⟩ dX7_copyRow_11 rfl (fun H locs X => ?_)
  exact hret _ _ _ _ _ (by exact rfl) X dX7_copyRow_14

set_option maxHeartbeats 1000000 in
set_option maxRecDepth 100000 in
theorem c_J6_bitCount_0f7a4 (l : Launch) (D : va_G) (q : xQ) (x : Int32) : xMi l yJ6_bitCount_0f7a4 wsJ6_bitCount_0f7a4 { frames := 0, cells := 0, slots := 0, locals := 0 } D q [.int x] [] (fun r gw => gw = [] ∧ r = x_bc x) := by
  refine xMi_of (cc := cJ6_bitCount_0f7a4) (maxL := 1) (rt := .int) (by decide) rfl (Nat.le_of_ble_eq_true rfl) (fun _ _ _ => rfl) ?_
  intro p9 e9 s9 m9 a9 below meth c9 A9 Z9 ls H locs F X hl hret
  have hx := F.1.1
  have hb := F.1.2.1
  have mw_0 : Cond.constant RJ6 265 (1431655765) ∈ wsJ6_bitCount_0f7a4 := by decide +kernel
  have mw_1 : Cond.constant RJ6 266 (858993459) ∈ wsJ6_bitCount_0f7a4 := by decide +kernel
  have mw_2 : Cond.constant RJ6 267 (252645135) ∈ wsJ6_bitCount_0f7a4 := by decide +kernel
  have hl : lv_has ls 1 [(0, .int x)] := hl
  refine lv_iload_n hx hb dJ6_bitCount_0f7a4_0 rfl (lv_at hl 0 rfl) ?_
  refine lv_iload_n hx hb dJ6_bitCount_0f7a4_1 rfl (lv_at hl 0 rfl) ?_
  refine lv_iconst (v := 1) hx hb dJ6_bitCount_0f7a4_2 (by decide) ?_
  refine lv_iushr (v := x_us x 1) hx hb dJ6_bitCount_0f7a4_3 rfl ?_
  refine lv_ldcw (v := 1431655765) hx hb F.1.2.2.2.1 (F.1.2.2.2.2 _ mw_0) dJ6_bitCount_0f7a4_4 ?_
  refine lv_iand hx hb dJ6_bitCount_0f7a4_7 ?_
  refine lv_isub hx hb dJ6_bitCount_0f7a4_8 ?_
  refine x_i (y := x_b1 x) (rfl) ?_
  refine lv_istore_n (lv' := [(0, .int (x_b1 x))]) hx hb dJ6_bitCount_0f7a4_9 rfl hl (by decide) rfl (fun ls hl => ?_)
  refine lv_iload_n hx hb dJ6_bitCount_0f7a4_10 rfl (lv_at hl 0 rfl) ?_
  refine lv_ldcw (v := 858993459) hx hb F.1.2.2.2.1 (F.1.2.2.2.2 _ mw_1) dJ6_bitCount_0f7a4_11 ?_
  refine lv_iand hx hb dJ6_bitCount_0f7a4_14 ?_
  refine lv_iload_n hx hb dJ6_bitCount_0f7a4_15 rfl (lv_at hl 0 rfl) ?_
  refine lv_iconst (v := 2) hx hb dJ6_bitCount_0f7a4_16 (by decide) ?_
  refine lv_iushr (v := x_us (x_b1 x) 2) hx hb dJ6_bitCount_0f7a4_17 rfl ?_
  refine lv_ldcw (v := 858993459) hx hb F.1.2.2.2.1 (F.1.2.2.2.2 _ mw_1) dJ6_bitCount_0f7a4_18 ?_
  refine lv_iand hx hb dJ6_bitCount_0f7a4_21 ?_
  refine lv_iadd hx hb dJ6_bitCount_0f7a4_22 ?_
  refine x_i (y := x_b2 (x_b1 x)) (rfl) ?_
  refine lv_istore_n (lv' := [(0, .int (x_b2 (x_b1 x)))]) hx hb dJ6_bitCount_0f7a4_23 rfl hl (by decide) rfl (fun ls hl => ?_)
  refine lv_iload_n hx hb dJ6_bitCount_0f7a4_24 rfl (lv_at hl 0 rfl) ?_
  refine lv_iload_n hx hb dJ6_bitCount_0f7a4_25 rfl (lv_at hl 0 rfl) ?_
  refine lv_iconst (v := 4) hx hb dJ6_bitCount_0f7a4_26 (by decide) ?_
  refine lv_iushr (v := x_us (x_b2 (x_b1 x)) 4) hx hb dJ6_bitCount_0f7a4_27 rfl ?_
  refine lv_iadd hx hb dJ6_bitCount_0f7a4_28 ?_
  refine lv_ldcw (v := 252645135) hx hb F.1.2.2.2.1 (F.1.2.2.2.2 _ mw_2) dJ6_bitCount_0f7a4_29 ?_
  refine lv_iand hx hb dJ6_bitCount_0f7a4_32 ?_
  refine x_i (y := x_b3 (x_b2 (x_b1 x))) (rfl) ?_
  refine lv_istore_n (lv' := [(0, .int (x_b3 (x_b2 (x_b1 x))))]) hx hb dJ6_bitCount_0f7a4_33 rfl hl (by decide) rfl (fun ls hl => ?_)
  refine lv_iload_n hx hb dJ6_bitCount_0f7a4_34 rfl (lv_at hl 0 rfl) ?_
  refine lv_iload_n hx hb dJ6_bitCount_0f7a4_35 rfl (lv_at hl 0 rfl) ?_
  refine lv_bipush (v := 8) hx hb dJ6_bitCount_0f7a4_36 (by decide) ?_
  refine lv_iushr (v := x_us (x_b3 (x_b2 (x_b1 x))) 8) hx hb dJ6_bitCount_0f7a4_38 rfl ?_
  refine lv_iadd hx hb dJ6_bitCount_0f7a4_39 ?_
  refine x_i (y := x_b4 (x_b3 (x_b2 (x_b1 x)))) (rfl) ?_
  refine lv_istore_n (lv' := [(0, .int (x_b4 (x_b3 (x_b2 (x_b1 x)))))]) hx hb dJ6_bitCount_0f7a4_40 rfl hl (by decide) rfl (fun ls hl => ?_)
  refine lv_iload_n hx hb dJ6_bitCount_0f7a4_41 rfl (lv_at hl 0 rfl) ?_
  refine lv_iload_n hx hb dJ6_bitCount_0f7a4_42 rfl (lv_at hl 0 rfl) ?_
  refine lv_bipush (v := 16) hx hb dJ6_bitCount_0f7a4_43 (by decide) ?_
  refine lv_iushr (v := x_us (x_b4 (x_b3 (x_b2 (x_b1 x)))) 16) hx hb dJ6_bitCount_0f7a4_45 rfl ?_
  refine lv_iadd hx hb dJ6_bitCount_0f7a4_46 ?_
  refine x_i (y := x_b5 (x_b4 (x_b3 (x_b2 (x_b1 x))))) (rfl) ?_
  refine lv_istore_n (lv' := [(0, .int (x_b5 (x_b4 (x_b3 (x_b2 (x_b1 x))))))]) hx hb dJ6_bitCount_0f7a4_47 rfl hl (by decide) rfl (fun ls hl => ?_)
  refine lv_iload_n hx hb dJ6_bitCount_0f7a4_48 rfl (lv_at hl 0 rfl) ?_
  refine lv_bipush (v := 63) hx hb dJ6_bitCount_0f7a4_49 (by decide) ?_
  refine lv_iand hx hb dJ6_bitCount_0f7a4_51 ?_
  refine x_i (y := x_bc x) (rfl) ?_
  exact hret _ _ _ _ _ _ (by exact ⟨rfl, rfl⟩) X dJ6_bitCount_0f7a4_52

set_option maxHeartbeats 1000000 in
set_option maxRecDepth 100000 in
theorem c_X5_clear (l : Launch) (D : va_G) (q : xQ) (h0 : Nat) (h1 : Nat) (h2 : Nat) (h3 : Nat) (h4 : Nat) (h5 : Nat) (f1 : Nat → Int32) (f2 : Nat → Int32) (f3 : Nat → Int32) (f4 : Nat → Int32) (f5 : Nat → Int32) (nb : Int32) : xMv l yX5_clear wsX5_clear { frames := 0, cells := 0, slots := 0, locals := 0 } D q [.ref h0] [sW q h0 h1 h2 h3 h4 h5 f1 f2 f3 f4 f5 nb] (fun gw => gw = [sW q h0 h1 h2 h3 h4 h5 f1 f2 f3 f4 f5 0]) := by
  refine xMv_of (cc := cX5_clear) (maxL := 1) (by decide) rfl (Nat.le_of_ble_eq_true rfl) ?_
  intro p9 e9 s9 m9 a9 below meth c9 A9 Z9 ls H locs F hini X hl hret
  have hx := F.1.1
  have hb := F.1.2.1
  have in_X5 : ∀ w ∈ wsX50, w ∈ wsX5_clear := by decide +kernel
  have mw_0 : Cond.fieldLink RX5 27 "HatWinds$Streets" "number" "I" ∈ wsX5_clear := by decide +kernel
  have hl : lv_has ls 1 [(0, .ref h0)] := hl
  refine lv_aload_n hx hb dX5_clear_0 rfl (lv_at hl 0 rfl) ?_
  refine lv_iconst (v := 0) hx hb dX5_clear_1 (by decide) ?_
  refine x_put F X (gs' := [sW q h0 h1 h2 h3 h4 h5 f1 f2 f3 f4 f5 0]) (v := .int 0) (C := RX5) (T := TX5) (N := 6) (ci := 5) in_X5 tyX5 tyX5_ok nmX5 0 rfl rfl 5 (by decide) mw_0 rfl rfl rfl (Nat.le_of_ble_eq_true rfl) dX5_clear_2 rfl (fun H locs X => ?_)
  exact hret _ _ _ _ _ (by exact rfl) X dX5_clear_5

set_option maxHeartbeats 1000000 in
set_option maxRecDepth 100000 in
theorem c_X5_has (l : Launch) (D : va_G) (q : xQ) (h0 : Nat) (h1 : Nat) (h2 : Nat) (h3 : Nat) (h4 : Nat) (h5 : Nat) (n : Nat) (f1 : Nat → Int32) (f2 : Nat → Int32) (f3 : Nat → Int32) (f4 : Nat → Int32) (f5 : Nat → Int32) (st : Int32) (hn : n ≤ 20) : xMi l yX5_has wsX5_has { frames := 1, cells := 0, slots := 0, locals := 21 } D q [.ref h0, .int st] [sW q h0 h1 h2 h3 h4 h5 f1 f2 f3 f4 f5 (nI n)] (fun r gw => gw = [sW q h0 h1 h2 h3 h4 h5 f1 f2 f3 f4 f5 (nI n)] ∧ ((r = 1 ∧ (xIx st n)) ∨ (r = 0 ∧ ¬ (xIx st n)))) := by
  refine xMi_of (cc := cX5_has) (maxL := 2) (rt := .boolean) (by decide) rfl (Nat.le_of_ble_eq_true rfl) (fun v w h => by obtain ⟨_, (⟨rfl, _⟩ | ⟨rfl, _⟩)⟩ := h <;> rfl) ?_
  intro p9 e9 s9 m9 a9 below meth c9 A9 Z9 ls H locs F X hl hret
  have hx := F.1.1
  have hb := F.1.2.1
  have in_X5 : ∀ w ∈ wsX50, w ∈ wsX5_has := by decide +kernel
  have mw_0 : Cond.fieldLink RX5 27 "HatWinds$Streets" "number" "I" ∈ wsX5_has := by decide +kernel
  have mw_1 : Cond.initialized RX7 ∈ wsX5_has := by decide +kernel
  have mw_2 : Cond.static yX7_isIndexOf ∈ wsX5_has := by decide +kernel
  have hl : lv_has ls 2 [(0, .ref h0), (1, .int st)] := hl
  refine lv_iload_n hx hb dX5_has_0 rfl (lv_at hl 1 rfl) ?_
  refine lv_aload_n hx hb dX5_has_1 rfl (lv_at hl 0 rfl) ?_
  refine x_get F X (v := .int (nI n)) (C := RX5) (T := TX5) (N := 6) (ci := 5) in_X5 0 rfl rfl 5 (by decide) mw_0 rfl dX5_has_2 ?_
  refine x_cNi F X (gc := []) (gr := [sW q h0 h1 h2 h3 h4 h5 f1 f2 f3 f4 f5 (nI n)]) (xp_idx (n := 1) [0] (by decide +kernel) rfl rfl) (c_X7_isIndexOf l D q st (nI n) ) ⟨va_cnB (host := "HatWinds") 2 F.1.2.2.2.2 gX5_has_X7_isIndexOf_n35 rfl rfl rfl (F.2.2 _ (List.mem_of_getElem? (i := 8) rfl)) (F.1.2.2.2.2 _ mw_1) (by decide +kernel) ⟨Nat.le_of_ble_eq_true rfl, Nat.le_of_ble_eq_true rfl⟩, F.1.2.2.2.2 _ mw_2, trivial⟩ rfl rfl hl.1 ⟨Nat.le_of_ble_eq_true rfl, Nat.le_of_ble_eq_true rfl⟩ (Nat.le_of_ble_eq_true rfl) dX5_has_5 (fun r_5 g1 H locs hp X => ?_)
  obtain ⟨rfl, hz⟩ := hp
  have X : xS D A9 s9 [sW q h0 h1 h2 h3 h4 h5 f1 f2 f3 f4 f5 (nI n)] H locs := X
  rcases hz with ⟨rfl, b_5⟩ | ⟨rfl, b_5⟩
  · exact hret _ _ _ _ _ _ (by exact ⟨rfl, Or.inl ⟨rfl, (x_ix (by omega)).mp b_5⟩⟩) X dX5_has_8
  · exact hret _ _ _ _ _ _ (by exact ⟨rfl, Or.inr ⟨rfl, fun h => b_5 ((x_ix (by omega)).mpr h)⟩⟩) X dX5_has_8

set_option maxHeartbeats 1000000 in
set_option maxRecDepth 100000 in
theorem c_X5_branchesOff (l : Launch) (D : va_G) (q : xQ) (h0 : Nat) (h1 : Nat) (h2 : Nat) (h3 : Nat) (h4 : Nat) (h5 : Nat) (n : Nat) (f1 : Nat → Int32) (f2 : Nat → Int32) (f3 : Nat → Int32) (f4 : Nat → Int32) (f5 : Nat → Int32) (st : Int32) (hn : n ≤ 20) : xMi l yX5_branchesOff wsX5_branchesOff { frames := 0, cells := 0, slots := 0, locals := 0 } D q [.ref h0, .int st] [sW q h0 h1 h2 h3 h4 h5 f1 f2 f3 f4 f5 (nI n)] (fun r gw => gw = [sW q h0 h1 h2 h3 h4 h5 f1 f2 f3 f4 f5 (nI n)] ∧ r = x_orf (x_bo f1 st) n) := by
  refine xMi_of (cc := cX5_branchesOff) (maxL := 4) (rt := .int) (by decide) rfl (Nat.le_of_ble_eq_true rfl) (fun _ _ _ => rfl) ?_
  intro p9 e9 s9 m9 a9 below meth c9 A9 Z9 ls H locs F X hl hret
  have hx := F.1.1
  have hb := F.1.2.1
  have in_X5 : ∀ w ∈ wsX50, w ∈ wsX5_branchesOff := by decide +kernel
  have mw_0 : Cond.fieldLink RX5 27 "HatWinds$Streets" "number" "I" ∈ wsX5_branchesOff := by decide +kernel
  have mw_1 : Cond.fieldLink RX5 9 "HatWinds$Streets" "from" "[I" ∈ wsX5_branchesOff := by decide +kernel
  have hl : lv_has ls 4 [(0, .ref h0), (1, .int st)] := hl
  refine lv_iconst (v := 0) hx hb dX5_branchesOff_0 (by decide) ?_
  refine lv_istore_n (lv' := [(2, .int 0), (0, .ref h0), (1, .int st)]) hx hb dX5_branchesOff_1 rfl hl (by decide) rfl (fun ls hl => ?_)
  refine lv_iconst (v := 0) hx hb dX5_branchesOff_2 (by decide) ?_
  refine lv_istore_n (lv' := [(3, .int 0), (2, .int 0), (0, .ref h0), (1, .int st)]) hx hb dX5_branchesOff_3 rfl hl (by decide) rfl (fun ls hl => ?_)
  have L_4 : ∀ (nn : Nat) (j : Nat) (sv : Int32) (H : Heap) (locs : List Loc) (ls : Array Slot), xS D A9 s9 [sW q h0 h1 h2 h3 h4 h5 f1 f2 f3 f4 f5 (nI n)] H locs → lv_has ls 4 [(3, .int (nI j)), (2, .int sv), (0, .ref h0), (1, .int st)] → (n < j + nn) → (j ≤ n) → (sv = x_orf (x_bo f1 st) j) → W p9 l e9 { frames := 0, cells := 0, slots := 0, locals := 0 } s9 m9 a9 below meth c9 H locs 0 0 Z9 (F0 m9 4 ls []) := by
    intro nn
    induction nn with
    | zero => intro j sv H locs ls X hl hfuel hj hs; exact absurd hfuel (by omega)
    | succ nn ih_4 =>
      intro j sv H locs ls X hl hfuel hj hs
      refine lv_iload_n hx hb dX5_branchesOff_4 rfl (lv_at hl 0 rfl) ?_
      refine lv_aload_n hx hb dX5_branchesOff_5 rfl (lv_at hl 2 rfl) ?_
      refine x_get F X (v := .int (nI n)) (C := RX5) (T := TX5) (N := 6) (ci := 5) in_X5 0 rfl rfl 5 (by decide) mw_0 rfl dX5_branchesOff_6 ?_
      refine lv_icmp_ge (tgt := 34) hx hb dX5_branchesOff_9 (by decide) (fun c_9 => ?_) (fun c_9 => ?_)
      · have c_9 : n ≤ j := (nI_leI (a := n) (b := j) (by omega) (by omega)).mp c_9
        refine lv_iload_n hx hb dX5_branchesOff_34 rfl (lv_at hl 1 rfl) ?_
        refine hret _ _ _ _ _ _ ?_ X dX5_branchesOff_35
        obtain rfl : j = n := by omega
        exact ⟨rfl, hs⟩
      · have c_9 : j < n := Nat.not_le.mp (fun h => c_9 ((nI_leI (a := n) (b := j) (by omega) (by omega)).mpr h))
        refine lv_aload_n hx hb dX5_branchesOff_12 rfl (lv_at hl 2 rfl) ?_
        refine x_get F X (v := .ref h1) (C := RX5) (T := TX5) (N := 6) (ci := 5) in_X5 0 rfl rfl 0 (by decide) mw_1 rfl dX5_branchesOff_13 ?_
        refine lv_iload_n hx hb dX5_branchesOff_16 rfl (lv_at hl 0 rfl) ?_
        refine x_iald F X (v := (f1 j)) (n := 20) (f := f1) 1 rfl (vp_in_nI (by omega) (by omega)) (x_cl (by omega)) dX5_branchesOff_17 ?_
        refine lv_iload_n hx hb dX5_branchesOff_18 rfl (lv_at hl 3 rfl) ?_
        refine lv_icmp_ne (tgt := 28) hx hb dX5_branchesOff_19 (by decide) (fun c_19 => ?_) (fun c_19 => ?_)
        · refine lv_iinc (v := (nI (j + 1))) (lv' := [(3, .int (nI (j + 1))), (2, .int sv), (0, .ref h0), (1, .int st)]) hx hb dX5_branchesOff_28 hl (k := 0) rfl (nI_add j 1) (by decide) rfl (fun ls hl => ?_)
          refine lv_goto (tgt := 4) hx hb dX5_branchesOff_31 (by decide) ?_
          exact ih_4 (j + 1) _ _ _ _ X (lv_sub hl [0, 1, 2, 3] rfl) (by omega) (by omega) (by rw [hs]; exact (x_orf_z (if_neg c_19)).symm)
        · refine lv_iload_n hx hb dX5_branchesOff_22 rfl (lv_at hl 1 rfl) ?_
          refine lv_iconst (v := 1) hx hb dX5_branchesOff_23 (by decide) ?_
          refine lv_iload_n hx hb dX5_branchesOff_24 rfl (lv_at hl 0 rfl) ?_
          refine lv_ishl hx hb dX5_branchesOff_25 ?_
          refine lv_ior hx hb dX5_branchesOff_26 ?_
          refine lv_istore_n (lv' := [(2, .int (sv ||| (1 <<< ((nI j) &&& 31)))), (3, .int (nI j)), (0, .ref h0), (1, .int st)]) hx hb dX5_branchesOff_27 rfl hl (by decide) rfl (fun ls hl => ?_)
          refine lv_iinc (v := (nI (j + 1))) (lv' := [(3, .int (nI (j + 1))), (2, .int (sv ||| (1 <<< ((nI j) &&& 31)))), (0, .ref h0), (1, .int st)]) hx hb dX5_branchesOff_28 hl (k := 1) rfl (nI_add j 1) (by decide) rfl (fun ls hl => ?_)
          refine lv_goto (tgt := 4) hx hb dX5_branchesOff_31 (by decide) ?_
          exact ih_4 (j + 1) _ _ _ _ X (lv_sub hl [0, 1, 2, 3] rfl) (by omega) (by omega) (by rw [hs, x_orf, x_bo, if_pos c_19])
  exact L_4 (n + 1) 0 _ _ _ _ X (lv_sub hl [0, 1, 2, 3] rfl) (by omega) (by omega) (by rfl)

set_option maxHeartbeats 1000000 in
set_option maxRecDepth 100000 in
theorem c_X5_hasRoomOff (l : Launch) (D : va_G) (q : xQ) (h0 : Nat) (h1 : Nat) (h2 : Nat) (h3 : Nat) (h4 : Nat) (h5 : Nat) (n : Nat) (f1 : Nat → Int32) (f2 : Nat → Int32) (f3 : Nat → Int32) (f4 : Nat → Int32) (f5 : Nat → Int32) (st : Int32) (hn : n ≤ 20) : xMi l yX5_hasRoomOff wsX5_hasRoomOff { frames := 1, cells := 0, slots := 0, locals := 23 } D q [.ref h0, .int st] [sW q h0 h1 h2 h3 h4 h5 f1 f2 f3 f4 f5 (nI n)] (fun r gw => gw = [sW q h0 h1 h2 h3 h4 h5 f1 f2 f3 f4 f5 (nI n)] ∧ ((r = 1 ∧ (n < 20 ∧ x_bc (x_orf (x_bo f1 st) n) < 4)) ∨ (r = 0 ∧ ¬ (n < 20 ∧ x_bc (x_orf (x_bo f1 st) n) < 4)))) := by
  refine xMi_of (cc := cX5_hasRoomOff) (maxL := 2) (rt := .boolean) (by decide) rfl (Nat.le_of_ble_eq_true rfl) (fun v w h => by obtain ⟨_, (⟨rfl, _⟩ | ⟨rfl, _⟩)⟩ := h <;> rfl) ?_
  intro p9 e9 s9 m9 a9 below meth c9 A9 Z9 ls H locs F X hl hret
  have hx := F.1.1
  have hb := F.1.2.1
  have in_X5 : ∀ w ∈ wsX50, w ∈ wsX5_hasRoomOff := by decide +kernel
  have mw_0 : Cond.fieldLink RX5 27 "HatWinds$Streets" "number" "I" ∈ wsX5_hasRoomOff := by decide +kernel
  have mw_1 : Cond.initialized RX5 ∈ wsX5_hasRoomOff := by decide +kernel
  have mw_2 : Cond.initialized RJ6 ∈ wsX5_hasRoomOff := by decide +kernel
  have hl : lv_has ls 2 [(0, .ref h0), (1, .int st)] := hl
  refine lv_aload_n hx hb dX5_hasRoomOff_0 rfl (lv_at hl 0 rfl) ?_
  refine x_get F X (v := .int (nI n)) (C := RX5) (T := TX5) (N := 6) (ci := 5) in_X5 0 rfl rfl 5 (by decide) mw_0 rfl dX5_hasRoomOff_1 ?_
  refine lv_bipush (v := 20) hx hb dX5_hasRoomOff_4 (by decide) ?_
  refine lv_icmp_ge (tgt := 25) hx hb dX5_hasRoomOff_6 (by decide) (fun c_6 => ?_) (fun c_6 => ?_)
  · have c_6 : 20 ≤ n := (nI_leI (a := 20) (b := n) (by omega) (by omega)).mp c_6
    refine lv_iconst (v := 0) hx hb dX5_hasRoomOff_25 (by decide) ?_
    exact hret _ _ _ _ _ _ (by exact ⟨rfl, Or.inr ⟨rfl, fun h => absurd h.1 (by omega)⟩⟩) X dX5_hasRoomOff_26
  · have c_6 : n < 20 := Nat.not_le.mp (fun h => c_6 ((nI_leI (a := 20) (b := n) (by omega) (by omega)).mpr h))
    refine lv_aload_n hx hb dX5_hasRoomOff_9 rfl (lv_at hl 0 rfl) ?_
    refine lv_iload_n hx hb dX5_hasRoomOff_10 rfl (lv_at hl 1 rfl) ?_
    refine x_cVi F X (gc := [sW q h0 h1 h2 h3 h4 h5 f1 f2 f3 f4 f5 (nI n)]) (gr := []) (xp_idx (n := 1) [0] (by decide +kernel) rfl rfl) (c_X5_branchesOff l D q h0 h1 h2 h3 h4 h5 n f1 f2 f3 f4 f5 st (by first | assumption | omega)) (cwV 1 F.1.2.2.2.2 gX5_hasRoomOff_X5_branchesOff rfl rfl rfl (by decide +kernel) ⟨Nat.le_of_ble_eq_true rfl, Nat.le_of_ble_eq_true rfl⟩) rfl rfl (r0 := 0) (ci := 5) (T := TX5) (N := 6) rfl rfl hl.1 ⟨Nat.le_of_ble_eq_true rfl, Nat.le_of_ble_eq_true rfl⟩ (Nat.le_of_ble_eq_true rfl) dX5_hasRoomOff_11 (fun r_11 g1 H locs hp X => ?_)
    obtain ⟨rfl, rfl⟩ := hp
    have X : xS D A9 s9 [sW q h0 h1 h2 h3 h4 h5 f1 f2 f3 f4 f5 (nI n)] H locs := X
    refine x_cSi F X (gc := []) (gr := [sW q h0 h1 h2 h3 h4 h5 f1 f2 f3 f4 f5 (nI n)]) (xp_idx (n := 1) [0] (by decide +kernel) rfl rfl) (c_J6_bitCount_0f7a4 l D q (x_orf (x_bo f1 st) n) ) (va_cwS 1 F.1.2.2.2.2 gX5_hasRoomOff_J6_bitCount_0f7a4 rfl rfl rfl (by decide +kernel) ⟨Nat.le_of_ble_eq_true rfl, Nat.le_of_ble_eq_true rfl⟩) rfl rfl hl.1 ⟨Nat.le_of_ble_eq_true rfl, Nat.le_of_ble_eq_true rfl⟩ (Nat.le_of_ble_eq_true rfl) dX5_hasRoomOff_14 (fun r_14 g1 H locs hp X => ?_)
    obtain ⟨rfl, rfl⟩ := hp
    have X : xS D A9 s9 [sW q h0 h1 h2 h3 h4 h5 f1 f2 f3 f4 f5 (nI n)] H locs := X
    refine lv_iconst (v := 4) hx hb dX5_hasRoomOff_17 (by decide) ?_
    refine lv_icmp_ge (tgt := 25) hx hb dX5_hasRoomOff_18 (by decide) (fun c_18 => ?_) (fun c_18 => ?_)
    · refine lv_iconst (v := 0) hx hb dX5_hasRoomOff_25 (by decide) ?_
      exact hret _ _ _ _ _ _ (by exact ⟨rfl, Or.inr ⟨rfl, fun h => absurd c_18 (Int32.not_le.mpr h.2)⟩⟩) X dX5_hasRoomOff_26
    · refine lv_iconst (v := 1) hx hb dX5_hasRoomOff_21 (by decide) ?_
      refine lv_goto (tgt := 26) hx hb dX5_hasRoomOff_22 (by decide) ?_
      exact hret _ _ _ _ _ _ (by exact ⟨rfl, Or.inl ⟨rfl, c_6, Int32.not_le.mp c_18⟩⟩) X dX5_hasRoomOff_26

set_option maxHeartbeats 1000000 in
set_option maxRecDepth 100000 in
theorem c_X5_add (l : Launch) (D : va_G) (q : xQ) (h0 : Nat) (h1 : Nat) (h2 : Nat) (h3 : Nat) (h4 : Nat) (h5 : Nat) (n : Nat) (f1 : Nat → Int32) (f2 : Nat → Int32) (f3 : Nat → Int32) (f4 : Nat → Int32) (f5 : Nat → Int32) (pa : Int32) (wi : Int32) (hn : n < 20) : xMi l yX5_add wsX5_add { frames := 0, cells := 0, slots := 0, locals := 0 } D q [.ref h0, .int pa, .int wi] [sW q h0 h1 h2 h3 h4 h5 f1 f2 f3 f4 f5 (nI n)] (fun r gw => gw = [sW q h0 h1 h2 h3 h4 h5 (upd f1 n pa) (upd f2 n wi) (upd f3 n 0) (upd f4 n 0) (upd f5 n 0) (nI (n + 1))] ∧ r = nI n) := by
  refine xMi_of (cc := cX5_add) (maxL := 3) (rt := .int) (by decide) rfl (Nat.le_of_ble_eq_true rfl) (fun _ _ _ => rfl) ?_
  intro p9 e9 s9 m9 a9 below meth c9 A9 Z9 ls H locs F X hl hret
  have hx := F.1.1
  have hb := F.1.2.1
  have in_X5 : ∀ w ∈ wsX50, w ∈ wsX5_add := by decide +kernel
  have mw_0 : Cond.fieldLink RX5 27 "HatWinds$Streets" "number" "I" ∈ wsX5_add := by decide +kernel
  have mw_1 : Cond.fieldLink RX5 9 "HatWinds$Streets" "from" "[I" ∈ wsX5_add := by decide +kernel
  have mw_2 : Cond.fieldLink RX5 15 "HatWinds$Streets" "width" "[I" ∈ wsX5_add := by decide +kernel
  have mw_3 : Cond.fieldLink RX5 18 "HatWinds$Streets" "cloth" "[I" ∈ wsX5_add := by decide +kernel
  have mw_4 : Cond.fieldLink RX5 21 "HatWinds$Streets" "smoke" "[I" ∈ wsX5_add := by decide +kernel
  have mw_5 : Cond.fieldLink RX5 24 "HatWinds$Streets" "people" "[I" ∈ wsX5_add := by decide +kernel
  have hl : lv_has ls 3 [(0, .ref h0), (1, .int pa), (2, .int wi)] := hl
  refine lv_aload_n hx hb dX5_add_0 rfl (lv_at hl 0 rfl) ?_
  refine x_get F X (v := .int (nI n)) (C := RX5) (T := TX5) (N := 6) (ci := 5) in_X5 0 rfl rfl 5 (by decide) mw_0 rfl dX5_add_1 ?_
  refine lv_bipush (v := 20) hx hb dX5_add_4 (by decide) ?_
  refine lv_icmp_lt (tgt := 12) hx hb dX5_add_6 (by decide) (fun c_6 => ?_) (fun c_6 => ?_)
  rotate_left
  · exfalso
    have c_6 : 20 ≤ n := Nat.not_lt.mp (fun h => c_6 ((nI_ltI (a := n) (b := 20) (by omega) (by omega)).mpr h))
    omega
  have c_6 : n < 20 := (nI_ltI (a := n) (b := 20) (by omega) (by omega)).mp c_6
  refine lv_aload_n hx hb dX5_add_12 rfl (lv_at hl 0 rfl) ?_
  refine x_get F X (v := .ref h1) (C := RX5) (T := TX5) (N := 6) (ci := 5) in_X5 0 rfl rfl 0 (by decide) mw_1 rfl dX5_add_13 ?_
  refine lv_aload_n hx hb dX5_add_16 rfl (lv_at hl 0 rfl) ?_
  refine x_get F X (v := .int (nI n)) (C := RX5) (T := TX5) (N := 6) (ci := 5) in_X5 0 rfl rfl 5 (by decide) mw_0 rfl dX5_add_17 ?_
  refine lv_iload_n hx hb dX5_add_20 rfl (lv_at hl 1 rfl) ?_
  refine x_iast F X (gs' := [sW q h0 h1 h2 h3 h4 h5 (upd f1 n pa) f2 f3 f4 f5 (nI n)]) (n := 20) (f := f1) (k := n) 1 rfl (vp_in_nI (by omega) (by omega)) (nI_clamp (by omega)) dX5_add_21 rfl (fun H locs X => ?_)
  refine lv_aload_n hx hb dX5_add_22 rfl (lv_at hl 0 rfl) ?_
  refine x_get F X (v := .ref h2) (C := RX5) (T := TX5) (N := 6) (ci := 5) in_X5 0 rfl rfl 1 (by decide) mw_2 rfl dX5_add_23 ?_
  refine lv_aload_n hx hb dX5_add_26 rfl (lv_at hl 0 rfl) ?_
  refine x_get F X (v := .int (nI n)) (C := RX5) (T := TX5) (N := 6) (ci := 5) in_X5 0 rfl rfl 5 (by decide) mw_0 rfl dX5_add_27 ?_
  refine lv_iload_n hx hb dX5_add_30 rfl (lv_at hl 2 rfl) ?_
  refine x_iast F X (gs' := [sW q h0 h1 h2 h3 h4 h5 (upd f1 n pa) (upd f2 n wi) f3 f4 f5 (nI n)]) (n := 20) (f := f2) (k := n) 2 rfl (vp_in_nI (by omega) (by omega)) (nI_clamp (by omega)) dX5_add_31 rfl (fun H locs X => ?_)
  refine lv_aload_n hx hb dX5_add_32 rfl (lv_at hl 0 rfl) ?_
  refine x_get F X (v := .ref h3) (C := RX5) (T := TX5) (N := 6) (ci := 5) in_X5 0 rfl rfl 2 (by decide) mw_3 rfl dX5_add_33 ?_
  refine lv_aload_n hx hb dX5_add_36 rfl (lv_at hl 0 rfl) ?_
  refine x_get F X (v := .int (nI n)) (C := RX5) (T := TX5) (N := 6) (ci := 5) in_X5 0 rfl rfl 5 (by decide) mw_0 rfl dX5_add_37 ?_
  refine lv_iconst (v := 0) hx hb dX5_add_40 (by decide) ?_
  refine x_iast F X (gs' := [sW q h0 h1 h2 h3 h4 h5 (upd f1 n pa) (upd f2 n wi) (upd f3 n 0) f4 f5 (nI n)]) (n := 20) (f := f3) (k := n) 3 rfl (vp_in_nI (by omega) (by omega)) (nI_clamp (by omega)) dX5_add_41 rfl (fun H locs X => ?_)
  refine lv_aload_n hx hb dX5_add_42 rfl (lv_at hl 0 rfl) ?_
  refine x_get F X (v := .ref h4) (C := RX5) (T := TX5) (N := 6) (ci := 5) in_X5 0 rfl rfl 3 (by decide) mw_4 rfl dX5_add_43 ?_
  refine lv_aload_n hx hb dX5_add_46 rfl (lv_at hl 0 rfl) ?_
  refine x_get F X (v := .int (nI n)) (C := RX5) (T := TX5) (N := 6) (ci := 5) in_X5 0 rfl rfl 5 (by decide) mw_0 rfl dX5_add_47 ?_
  refine lv_iconst (v := 0) hx hb dX5_add_50 (by decide) ?_
  refine x_iast F X (gs' := [sW q h0 h1 h2 h3 h4 h5 (upd f1 n pa) (upd f2 n wi) (upd f3 n 0) (upd f4 n 0) f5 (nI n)]) (n := 20) (f := f4) (k := n) 4 rfl (vp_in_nI (by omega) (by omega)) (nI_clamp (by omega)) dX5_add_51 rfl (fun H locs X => ?_)
  refine lv_aload_n hx hb dX5_add_52 rfl (lv_at hl 0 rfl) ?_
  refine x_get F X (v := .ref h5) (C := RX5) (T := TX5) (N := 6) (ci := 5) in_X5 0 rfl rfl 4 (by decide) mw_5 rfl dX5_add_53 ?_
  refine lv_aload_n hx hb dX5_add_56 rfl (lv_at hl 0 rfl) ?_
  refine x_get F X (v := .int (nI n)) (C := RX5) (T := TX5) (N := 6) (ci := 5) in_X5 0 rfl rfl 5 (by decide) mw_0 rfl dX5_add_57 ?_
  refine lv_iconst (v := 0) hx hb dX5_add_60 (by decide) ?_
  refine x_iast F X (gs' := [sW q h0 h1 h2 h3 h4 h5 (upd f1 n pa) (upd f2 n wi) (upd f3 n 0) (upd f4 n 0) (upd f5 n 0) (nI n)]) (n := 20) (f := f5) (k := n) 5 rfl (vp_in_nI (by omega) (by omega)) (nI_clamp (by omega)) dX5_add_61 rfl (fun H locs X => ?_)
  refine lv_aload_n hx hb dX5_add_62 rfl (lv_at hl 0 rfl) ?_
  refine lv_dup hx hb dX5_add_63 rfl ?_
  refine x_get F X (v := .int (nI n)) (C := RX5) (T := TX5) (N := 6) (ci := 5) in_X5 0 rfl rfl 5 (by decide) mw_0 rfl dX5_add_64 ?_
  refine lv_iconst (v := 1) hx hb dX5_add_67 (by decide) ?_
  refine lv_iadd hx hb dX5_add_68 ?_
  refine x_i (y := (nI (n + 1))) (nI_add n 1) ?_
  refine x_put F X (gs' := [sW q h0 h1 h2 h3 h4 h5 (upd f1 n pa) (upd f2 n wi) (upd f3 n 0) (upd f4 n 0) (upd f5 n 0) (nI (n + 1))]) (v := .int (nI (n + 1))) (C := RX5) (T := TX5) (N := 6) (ci := 5) in_X5 tyX5 tyX5_ok nmX5 0 rfl rfl 5 (by decide) mw_0 rfl rfl rfl (Nat.le_of_ble_eq_true rfl) dX5_add_69 rfl (fun H locs X => ?_)
  refine lv_aload_n hx hb dX5_add_72 rfl (lv_at hl 0 rfl) ?_
  refine x_get F X (v := .int (nI (n + 1))) (C := RX5) (T := TX5) (N := 6) (ci := 5) in_X5 0 rfl rfl 5 (by decide) mw_0 rfl dX5_add_73 ?_
  refine lv_iconst (v := 1) hx hb dX5_add_76 (by decide) ?_
  refine lv_isub hx hb dX5_add_77 ?_
  refine x_i (y := (nI ((n + 1) - 1))) (pk_sub (a := (n + 1)) (b := 1) (by omega)) ?_
  exact hret _ _ _ _ _ _ (by exact ⟨rfl, rfl⟩) X dX5_add_78

set_option maxHeartbeats 1000000 in
set_option maxRecDepth 100000 in
theorem c_X5_changeable_0 (l : Launch) (D : va_G) (q : xQ) (h0 : Nat) (h1 : Nat) (h2 : Nat) (h3 : Nat) (h4 : Nat) (h5 : Nat) (n : Nat) (f1 : Nat → Int32) (f2 : Nat → Int32) (f3 : Nat → Int32) (f4 : Nat → Int32) (f5 : Nat → Int32) : xMr l yX5_changeable wsX5_changeable { frames := 0, cells := 0, slots := 0, locals := 0 } D q [.ref h0, .int 0] [sW q h0 h1 h2 h3 h4 h5 f1 f2 f3 f4 f5 (nI n)] (fun r gw => gw = [sW q h0 h1 h2 h3 h4 h5 f1 f2 f3 f4 f5 (nI n)] ∧ r = h3) := by
  refine xMr_of (cc := cX5_changeable) (maxL := 2) (rt := .int) (by decide) rfl (Nat.le_of_ble_eq_true rfl) ?_
  intro p9 e9 s9 m9 a9 below meth c9 A9 Z9 ls H locs F X hl hret
  have hx := F.1.1
  have hb := F.1.2.1
  have in_X5 : ∀ w ∈ wsX50, w ∈ wsX5_changeable := by decide +kernel
  have mw_0 : Cond.fieldLink RX5 18 "HatWinds$Streets" "cloth" "[I" ∈ wsX5_changeable := by decide +kernel
  have hl : lv_has ls 2 [(0, .ref h0), (1, .int 0)] := hl
  refine lv_iload_n hx hb dX5_changeable_0 rfl (lv_at hl 1 rfl) ?_
  refine lv_tableIn (off := 27) (tgt := 28) hx hb dX5_changeable_1 (by decide) (by decide) (by decide) (by decide) ?_
  refine lv_aload_n hx hb dX5_changeable_28 rfl (lv_at hl 0 rfl) ?_
  refine x_get F X (v := .ref h3) (C := RX5) (T := TX5) (N := 6) (ci := 5) in_X5 0 rfl rfl 2 (by decide) mw_0 rfl dX5_changeable_29 ?_
  exact hret _ _ _ _ _ _ (by exact ⟨rfl, rfl⟩) X dX5_changeable_32

set_option maxHeartbeats 1000000 in
set_option maxRecDepth 100000 in
theorem c_X5_changeable_1 (l : Launch) (D : va_G) (q : xQ) (h0 : Nat) (h1 : Nat) (h2 : Nat) (h3 : Nat) (h4 : Nat) (h5 : Nat) (n : Nat) (f1 : Nat → Int32) (f2 : Nat → Int32) (f3 : Nat → Int32) (f4 : Nat → Int32) (f5 : Nat → Int32) : xMr l yX5_changeable wsX5_changeable { frames := 0, cells := 0, slots := 0, locals := 0 } D q [.ref h0, .int 1] [sW q h0 h1 h2 h3 h4 h5 f1 f2 f3 f4 f5 (nI n)] (fun r gw => gw = [sW q h0 h1 h2 h3 h4 h5 f1 f2 f3 f4 f5 (nI n)] ∧ r = h4) := by
  refine xMr_of (cc := cX5_changeable) (maxL := 2) (rt := .int) (by decide) rfl (Nat.le_of_ble_eq_true rfl) ?_
  intro p9 e9 s9 m9 a9 below meth c9 A9 Z9 ls H locs F X hl hret
  have hx := F.1.1
  have hb := F.1.2.1
  have in_X5 : ∀ w ∈ wsX50, w ∈ wsX5_changeable := by decide +kernel
  have mw_0 : Cond.fieldLink RX5 21 "HatWinds$Streets" "smoke" "[I" ∈ wsX5_changeable := by decide +kernel
  have hl : lv_has ls 2 [(0, .ref h0), (1, .int 1)] := hl
  refine lv_iload_n hx hb dX5_changeable_0 rfl (lv_at hl 1 rfl) ?_
  refine lv_tableIn (off := 32) (tgt := 33) hx hb dX5_changeable_1 (by decide) (by decide) (by decide) (by decide) ?_
  refine lv_aload_n hx hb dX5_changeable_33 rfl (lv_at hl 0 rfl) ?_
  refine x_get F X (v := .ref h4) (C := RX5) (T := TX5) (N := 6) (ci := 5) in_X5 0 rfl rfl 3 (by decide) mw_0 rfl dX5_changeable_34 ?_
  exact hret _ _ _ _ _ _ (by exact ⟨rfl, rfl⟩) X dX5_changeable_37

set_option maxHeartbeats 1000000 in
set_option maxRecDepth 100000 in
theorem c_X5_changeable_2 (l : Launch) (D : va_G) (q : xQ) (h0 : Nat) (h1 : Nat) (h2 : Nat) (h3 : Nat) (h4 : Nat) (h5 : Nat) (n : Nat) (f1 : Nat → Int32) (f2 : Nat → Int32) (f3 : Nat → Int32) (f4 : Nat → Int32) (f5 : Nat → Int32) : xMr l yX5_changeable wsX5_changeable { frames := 0, cells := 0, slots := 0, locals := 0 } D q [.ref h0, .int 2] [sW q h0 h1 h2 h3 h4 h5 f1 f2 f3 f4 f5 (nI n)] (fun r gw => gw = [sW q h0 h1 h2 h3 h4 h5 f1 f2 f3 f4 f5 (nI n)] ∧ r = h5) := by
  refine xMr_of (cc := cX5_changeable) (maxL := 2) (rt := .int) (by decide) rfl (Nat.le_of_ble_eq_true rfl) ?_
  intro p9 e9 s9 m9 a9 below meth c9 A9 Z9 ls H locs F X hl hret
  have hx := F.1.1
  have hb := F.1.2.1
  have in_X5 : ∀ w ∈ wsX50, w ∈ wsX5_changeable := by decide +kernel
  have mw_0 : Cond.fieldLink RX5 24 "HatWinds$Streets" "people" "[I" ∈ wsX5_changeable := by decide +kernel
  have hl : lv_has ls 2 [(0, .ref h0), (1, .int 2)] := hl
  refine lv_iload_n hx hb dX5_changeable_0 rfl (lv_at hl 1 rfl) ?_
  refine lv_tableIn (off := 37) (tgt := 38) hx hb dX5_changeable_1 (by decide) (by decide) (by decide) (by decide) ?_
  refine lv_aload_n hx hb dX5_changeable_38 rfl (lv_at hl 0 rfl) ?_
  refine x_get F X (v := .ref h5) (C := RX5) (T := TX5) (N := 6) (ci := 5) in_X5 0 rfl rfl 4 (by decide) mw_0 rfl dX5_changeable_39 ?_
  exact hret _ _ _ _ _ _ (by exact ⟨rfl, rfl⟩) X dX5_changeable_42

set_option maxHeartbeats 1000000 in
set_option maxRecDepth 100000 in
theorem c_X5_changeable_3 (l : Launch) (D : va_G) (q : xQ) (h0 : Nat) (h1 : Nat) (h2 : Nat) (h3 : Nat) (h4 : Nat) (h5 : Nat) (n : Nat) (f1 : Nat → Int32) (f2 : Nat → Int32) (f3 : Nat → Int32) (f4 : Nat → Int32) (f5 : Nat → Int32) : xMr l yX5_changeable wsX5_changeable { frames := 0, cells := 0, slots := 0, locals := 0 } D q [.ref h0, .int 3] [sW q h0 h1 h2 h3 h4 h5 f1 f2 f3 f4 f5 (nI n)] (fun r gw => gw = [sW q h0 h1 h2 h3 h4 h5 f1 f2 f3 f4 f5 (nI n)] ∧ r = h2) := by
  refine xMr_of (cc := cX5_changeable) (maxL := 2) (rt := .int) (by decide) rfl (Nat.le_of_ble_eq_true rfl) ?_
  intro p9 e9 s9 m9 a9 below meth c9 A9 Z9 ls H locs F X hl hret
  have hx := F.1.1
  have hb := F.1.2.1
  have in_X5 : ∀ w ∈ wsX50, w ∈ wsX5_changeable := by decide +kernel
  have mw_0 : Cond.fieldLink RX5 15 "HatWinds$Streets" "width" "[I" ∈ wsX5_changeable := by decide +kernel
  have hl : lv_has ls 2 [(0, .ref h0), (1, .int 3)] := hl
  refine lv_iload_n hx hb dX5_changeable_0 rfl (lv_at hl 1 rfl) ?_
  refine lv_tableOut (tgt := 43) hx hb dX5_changeable_1 (by decide) (by decide) ?_
  refine lv_aload_n hx hb dX5_changeable_43 rfl (lv_at hl 0 rfl) ?_
  refine x_get F X (v := .ref h2) (C := RX5) (T := TX5) (N := 6) (ci := 5) in_X5 0 rfl rfl 1 (by decide) mw_0 rfl dX5_changeable_44 ?_
  exact hret _ _ _ _ _ _ (by exact ⟨rfl, rfl⟩) X dX5_changeable_47

set_option maxHeartbeats 1000000 in
set_option maxRecDepth 100000 in
theorem c_X5_howManyBehind (l : Launch) (D : va_G) (q : xQ) (h0 : Nat) (h1 : Nat) (h2 : Nat) (h3 : Nat) (h4 : Nat) (h5 : Nat) (n : Nat) (f1 : Nat → Int32) (f2 : Nat → Int32) (f3 : Nat → Int32) (f4 : Nat → Int32) (f5 : Nat → Int32) (k : Nat) (pr : Nat → Nat) (hn : n ≤ 20) (hk : k < n) (hpr : ∀ o, 1 ≤ o → o < n → f1 o = nI (pr o) ∧ pr o < o) : xMi l yX5_howManyBehind wsX5_howManyBehind { frames := 1, cells := 0, slots := 0, locals := 20 } D q [.ref h0, .int (nI k)] [sW q h0 h1 h2 h3 h4 h5 f1 f2 f3 f4 f5 (nI n)] (fun r gw => gw = [sW q h0 h1 h2 h3 h4 h5 f1 f2 f3 f4 f5 (nI n)] ∧ r = x_bc (nI (x_bh pr k (n - (k + 1)))) - 1) := by
  refine xMi_of (cc := cX5_howManyBehind) (maxL := 4) (rt := .int) (by decide) rfl (Nat.le_of_ble_eq_true rfl) (fun _ _ _ => rfl) ?_
  intro p9 e9 s9 m9 a9 below meth c9 A9 Z9 ls H locs F X hl hret
  have hx := F.1.1
  have hb := F.1.2.1
  have in_X5 : ∀ w ∈ wsX50, w ∈ wsX5_howManyBehind := by decide +kernel
  have mw_0 : Cond.fieldLink RX5 27 "HatWinds$Streets" "number" "I" ∈ wsX5_howManyBehind := by decide +kernel
  have mw_1 : Cond.initialized RJ6 ∈ wsX5_howManyBehind := by decide +kernel
  have mw_2 : Cond.fieldLink RX5 9 "HatWinds$Streets" "from" "[I" ∈ wsX5_howManyBehind := by decide +kernel
  have hl : lv_has ls 4 [(0, .ref h0), (1, .int (nI k))] := hl
  refine lv_iconst (v := 1) hx hb dX5_howManyBehind_0 (by decide) ?_
  refine lv_iload_n hx hb dX5_howManyBehind_1 rfl (lv_at hl 1 rfl) ?_
  refine lv_ishl hx hb dX5_howManyBehind_2 ?_
  refine x_i (y := (nI (2 ^ k))) (x_shl1 (by omega)) ?_
  refine lv_istore_n (lv' := [(2, .int (nI (2 ^ k))), (0, .ref h0), (1, .int (nI k))]) hx hb dX5_howManyBehind_3 rfl hl (by decide) rfl (fun ls hl => ?_)
  refine lv_iload_n hx hb dX5_howManyBehind_4 rfl (lv_at hl 2 rfl) ?_
  refine lv_iconst (v := 1) hx hb dX5_howManyBehind_5 (by decide) ?_
  refine lv_iadd hx hb dX5_howManyBehind_6 ?_
  refine x_i (y := (nI (k + 1))) (nI_add k 1) ?_
  refine lv_istore_n (lv' := [(3, .int (nI (k + 1))), (2, .int (nI (2 ^ k))), (0, .ref h0), (1, .int (nI k))]) hx hb dX5_howManyBehind_7 rfl hl (by decide) rfl (fun ls hl => ?_)
  have L_8 : ∀ (nn : Nat) (j b : Nat) (H : Heap) (locs : List Loc) (ls : Array Slot), xS D A9 s9 [sW q h0 h1 h2 h3 h4 h5 f1 f2 f3 f4 f5 (nI n)] H locs → lv_has ls 4 [(3, .int (nI j)), (2, .int (nI b)), (0, .ref h0), (1, .int (nI k))] → (n < j + nn) → (j ≤ n) → (k + 1 ≤ j) → (b = x_bh pr k (j - (k + 1))) → W p9 l e9 { frames := 1, cells := 0, slots := 0, locals := 20 } s9 m9 a9 below meth c9 H locs 0 0 Z9 (F0 m9 8 ls []) := by
    intro nn
    induction nn with
    | zero => intro j b H locs ls X hl hfuel hj hj2 hbb; exact absurd hfuel (by omega)
    | succ nn ih_8 =>
      intro j b H locs ls X hl hfuel hj hj2 hbb
      refine lv_iload_n hx hb dX5_howManyBehind_8 rfl (lv_at hl 0 rfl) ?_
      refine lv_aload_n hx hb dX5_howManyBehind_9 rfl (lv_at hl 2 rfl) ?_
      refine x_get F X (v := .int (nI n)) (C := RX5) (T := TX5) (N := 6) (ci := 5) in_X5 0 rfl rfl 5 (by decide) mw_0 rfl dX5_howManyBehind_10 ?_
      refine lv_icmp_ge (tgt := 41) hx hb dX5_howManyBehind_13 (by decide) (fun c_13 => ?_) (fun c_13 => ?_)
      · have c_13 : n ≤ j := (nI_leI (a := n) (b := j) (by omega) (by omega)).mp c_13
        refine lv_iload_n hx hb dX5_howManyBehind_41 rfl (lv_at hl 1 rfl) ?_
        refine x_cSi F X (gc := []) (gr := [sW q h0 h1 h2 h3 h4 h5 f1 f2 f3 f4 f5 (nI n)]) (xp_idx (n := 1) [0] (by decide +kernel) rfl rfl) (c_J6_bitCount_0f7a4 l D q (nI b) ) (va_cwS 1 F.1.2.2.2.2 gX5_howManyBehind_J6_bitCount_0f7a4 rfl rfl rfl (by decide +kernel) ⟨Nat.le_of_ble_eq_true rfl, Nat.le_of_ble_eq_true rfl⟩) rfl rfl hl.1 ⟨Nat.le_of_ble_eq_true rfl, Nat.le_of_ble_eq_true rfl⟩ (Nat.le_of_ble_eq_true rfl) dX5_howManyBehind_42 (fun r_42 g1 H locs hp X => ?_)
        obtain ⟨rfl, rfl⟩ := hp
        have X : xS D A9 s9 [sW q h0 h1 h2 h3 h4 h5 f1 f2 f3 f4 f5 (nI n)] H locs := X
        refine lv_iconst (v := 1) hx hb dX5_howManyBehind_45 (by decide) ?_
        refine lv_isub hx hb dX5_howManyBehind_46 ?_
        refine hret _ _ _ _ _ _ ?_ X dX5_howManyBehind_47
        obtain rfl : j = n := by omega
        subst hbb
        exact ⟨rfl, rfl⟩
      · have c_13 : j < n := Nat.not_le.mp (fun h => c_13 ((nI_leI (a := n) (b := j) (by omega) (by omega)).mpr h))
        refine lv_iload_n hx hb dX5_howManyBehind_16 rfl (lv_at hl 1 rfl) ?_
        refine lv_iconst (v := 1) hx hb dX5_howManyBehind_17 (by decide) ?_
        refine lv_aload_n hx hb dX5_howManyBehind_18 rfl (lv_at hl 2 rfl) ?_
        refine x_get F X (v := .ref h1) (C := RX5) (T := TX5) (N := 6) (ci := 5) in_X5 0 rfl rfl 0 (by decide) mw_2 rfl dX5_howManyBehind_19 ?_
        refine lv_iload_n hx hb dX5_howManyBehind_22 rfl (lv_at hl 0 rfl) ?_
        refine x_iald F X (v := (f1 j)) (n := 20) (f := f1) 1 rfl (vp_in_nI (by omega) (by omega)) (x_cl (by omega)) dX5_howManyBehind_23 ?_
        refine x_i (y := (nI (pr j))) ((hpr j (by omega) (by omega)).1) ?_
        refine lv_ishl hx hb dX5_howManyBehind_24 ?_
        refine x_i (y := (nI (2 ^ pr j))) (x_shl1 (by have := (hpr j (by omega) (by omega)).2; omega)) ?_
        refine lv_iand hx hb dX5_howManyBehind_25 ?_
        refine lv_if_eq (tgt := 35) hx hb dX5_howManyBehind_26 (by decide) (fun c_26 => ?_) (fun c_26 => ?_)
        · refine lv_iinc (v := (nI (j + 1))) (lv' := [(3, .int (nI (j + 1))), (2, .int (nI b)), (0, .ref h0), (1, .int (nI k))]) hx hb dX5_howManyBehind_35 hl (k := 0) rfl (nI_add j 1) (by decide) rfl (fun ls hl => ?_)
          refine lv_goto (tgt := 8) hx hb dX5_howManyBehind_38 (by decide) ?_
          exact ih_8 (j + 1) b _ _ _ X (lv_sub hl [0, 1, 2, 3] rfl) (by omega) (by omega) (by omega) (by exact x_bh_no hbb hj2 ((fa_bit (by have := (hpr j (by omega) (by omega)).2; omega)).mp c_26))
        · refine lv_iload_n hx hb dX5_howManyBehind_29 rfl (lv_at hl 1 rfl) ?_
          refine lv_iconst (v := 1) hx hb dX5_howManyBehind_30 (by decide) ?_
          refine lv_iload_n hx hb dX5_howManyBehind_31 rfl (lv_at hl 0 rfl) ?_
          refine lv_ishl hx hb dX5_howManyBehind_32 ?_
          refine x_i (y := (nI (2 ^ j))) (x_shl1 (by omega)) ?_
          refine lv_ior hx hb dX5_howManyBehind_33 ?_
          refine x_i (y := (nI (b ||| 2 ^ j))) (fa_or _ _) ?_
          refine lv_istore_n (lv' := [(2, .int (nI (b ||| 2 ^ j))), (3, .int (nI j)), (0, .ref h0), (1, .int (nI k))]) hx hb dX5_howManyBehind_34 rfl hl (by decide) rfl (fun ls hl => ?_)
          refine lv_iinc (v := (nI (j + 1))) (lv' := [(3, .int (nI (j + 1))), (2, .int (nI (b ||| 2 ^ j))), (0, .ref h0), (1, .int (nI k))]) hx hb dX5_howManyBehind_35 hl (k := 1) rfl (nI_add j 1) (by decide) rfl (fun ls hl => ?_)
          refine lv_goto (tgt := 8) hx hb dX5_howManyBehind_38 (by decide) ?_
          exact ih_8 (j + 1) (b ||| 2 ^ j) _ _ _ X (lv_sub hl [0, 1, 2, 3] rfl) (by omega) (by omega) (by omega) (by exact x_bh_yes hbb hj2 (fun h => c_26 ((fa_bit (by have := (hpr j (by omega) (by omega)).2; omega)).mpr h)))
  exact L_8 (n + 1) (k + 1) (2 ^ k) _ _ _ X (lv_sub hl [0, 1, 2, 3] rfl) (by omega) (by omega) (by omega) (by rw [Nat.sub_self]; rfl)
