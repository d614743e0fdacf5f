/-! The law's own small methods. -/
/-- a number without its sign's bit -/
def x_lv (v : Int32) : Nat := v.toBitVec.toNat % 2 ^ 31
theorem x_lv_lt (v : Int32) : x_lv v < 2 ^ 31 := Nat.mod_lt _ (by decide)
theorem x_lv_eq (v : Int32) : v &&& 2147483647 = nI (x_lv v) := by
  have e : v = nI v.toBitVec.toNat := by
    apply Int32.toBitVec_inj.mp
    show v.toBitVec = BitVec.ofNat 32 v.toBitVec.toNat
    rw [BitVec.ofNat_toNat, BitVec.setWidth_eq]
  have h : nI v.toBitVec.toNat &&& nI 2147483647 = nI (x_lv v) := by
    rw [fa_and]
    exact congrArg nI (Nat.and_two_pow_sub_one_eq_mod _ 31)
  rw [← e] at h
  exact h
def x_low (v : Int32) (m : Nat) : Nat := x_lv v % m
theorem x_low_lt (v : Int32) {m : Nat} (h : 1 ≤ m) : x_low v m < m := Nat.mod_lt _ h
/-- how many bits a set has -/
def x_on (st : Int32) : Int32 := x_sm (fun j => (st >>> (nI j &&& 31)) &&& 1) 20
theorem x_pc_s (a m : Nat) : x_pc (a + 1) m = x_pc a m + m / 2 ^ a % 2 := by
  have h0 := x_pc_app a 0 m
  have h1 := x_pc_app a 1 m
  have e0 : x_pc 0 (m / 2 ^ a) = 0 := rfl
  have e1 : x_pc 1 (m / 2 ^ a) = m / 2 ^ a % 2 := rfl
  rw [e0, Nat.add_zero, Nat.add_zero] at h0
  rw [e1] at h1
  rw [h1, ← h0]
theorem x_on_n {m : Nat} (hm : m < 2 ^ 20) : x_on (nI m) = nI (x_pc 20 m) := by
  have key : ∀ i, i ≤ 20 → x_sm (fun j => (nI m >>> (nI j &&& 31)) &&& 1) i = nI (x_pc i m) := by
    intro i
    induction i with
    | zero => intro _; rfl
    | succ i ih =>
      intro hi
      rw [x_sm, ih (by omega), x_shr1 (by omega) (by omega), nI_add, x_pc_s]
  exact key 20 (Nat.le_refl _)
theorem x_on_ct (f : Nat → Int32) (st : Int32) {n : Nat} (h : n ≤ 20) : x_on (x_orf (x_bo f st) n) = nI (x_ct f st n) := by
  obtain ⟨m, h1, h2, h3⟩ := x_orf_bits f st n h
  have : (2 : Nat) ^ n ≤ 2 ^ 20 := Nat.pow_le_pow_right (by decide) h
  rw [h2, x_on_n (by omega), h3]
set_option maxHeartbeats 1000000 in
set_option maxRecDepth 100000 in
theorem c_L_low (l : Launch) (D : va_G) (q : xQ) (v : Int32) (m : Nat) (hm : 1 ≤ m) (hm2 : m < 2 ^ 31) : xMi l yL_low wsL_low { frames := 0, cells := 0, slots := 0, locals := 0 } D q [.int v, .int (nI m)] [] (fun r gw => gw = [] ∧ r = nI (x_low v m) ∧ (x_low v m < m)) := by
  refine xMi_of (cc := cL_low) (maxL := 2) (rt := .int) (by decide) rfl (Nat.le_of_ble_eq_true rfl) (fun _ _ _ => rfl) ?_
  intro p9 e9 s9 m9 a9 below meth c9 A9 Z9 ls H locs F X hl hret
  have hx := F.1.1
  have hb := F.1.2.1
  have mw_0 : Cond.constant RL 7 (2147483647) ∈ wsL_low := by decide +kernel
  have hl : lv_has ls 2 [(0, .int v), (1, .int (nI m))] := hl
  have hlv := x_lv_lt v
  refine lv_iload_n hx hb dL_low_0 rfl (lv_at hl 0 rfl) ?_
  refine lv_ldc (v := 2147483647) hx hb F.1.2.2.2.1 (F.1.2.2.2.2 _ mw_0) dL_low_1 ?_
  refine lv_iand hx hb dL_low_3 ?_
  refine x_i (y := (nI (x_lv v))) (x_lv_eq v) ?_
  refine lv_iload_n hx hb dL_low_4 rfl (lv_at hl 1 rfl) ?_
  refine lv_irem hx hb dL_low_5 (by exact fun h => by have := (nI_eq (b := 0) (by omega) (by omega)).mp h; omega) ?_
  refine x_i (y := (nI ((x_lv v) % m))) (pk_rem (a := (x_lv v)) (d := m) (by omega) (by omega) (by omega)) ?_
  exact hret _ _ _ _ _ _ (by exact ⟨rfl, rfl, x_low_lt v hm⟩) X dL_low_6

set_option maxHeartbeats 1000000 in
set_option maxRecDepth 100000 in
theorem c_L_ones (l : Launch) (D : va_G) (q : xQ) (st : Int32) : xMi l yL_ones wsL_ones { frames := 0, cells := 0, slots := 0, locals := 0 } D q [.int st] [] (fun r gw => gw = [] ∧ r = x_on st) := by
  refine xMi_of (cc := cL_ones) (maxL := 3) (rt := .int) (by decide) rfl (Nat.le_of_ble_eq_true rfl) (fun _ _ _ => rfl) ?_
  intro p9 e9 s9 m9 a9 below meth c9 A9 Z9 ls H locs F X hl hret
  have hx := F.1.1
  have hb := F.1.2.1
  have hl : lv_has ls 3 [(0, .int st)] := hl
  refine lv_iconst (v := 0) hx hb dL_ones_0 (by decide) ?_
  refine lv_istore_n (lv' := [(1, .int 0), (0, .int st)]) hx hb dL_ones_1 rfl hl (by decide) rfl (fun ls hl => ?_)
  refine lv_iconst (v := 0) hx hb dL_ones_2 (by decide) ?_
  refine lv_istore_n (lv' := [(2, .int 0), (1, .int 0), (0, .int st)]) hx hb dL_ones_3 rfl hl (by decide) rfl (fun ls hl => ?_)
  have L_4 : ∀ (nn : Nat) (i : Nat) (t : Int32) (H : Heap) (locs : List Loc) (ls : Array Slot), xS D A9 s9 [] H locs → lv_has ls 3 [(2, .int (nI i)), (1, .int t), (0, .int st)] → (20 < i + nn) → (i ≤ 20) → (t = x_sm (fun j => (st >>> (nI j &&& 31)) &&& 1) i) → W p9 l e9 { frames := 0, cells := 0, slots := 0, locals := 0 } s9 m9 a9 below meth c9 H locs 0 0 Z9 (F0 m9 4 ls []) := by
    intro nn
    induction nn with
    | zero => intro i t H locs ls X hl hfuel hi ht; exact absurd hfuel (by omega)
    | succ nn ih_4 =>
      intro i t H locs ls X hl hfuel hi ht
      refine lv_iload_n hx hb dL_ones_4 rfl (lv_at hl 0 rfl) ?_
      refine lv_bipush (v := 20) hx hb dL_ones_5 (by decide) ?_
      refine lv_icmp_ge (tgt := 24) hx hb dL_ones_7 (by decide) (fun c_7 => ?_) (fun c_7 => ?_)
      · have c_7 : 20 ≤ i := (nI_leI (a := 20) (b := i) (by omega) (by omega)).mp c_7
        refine lv_iload_n hx hb dL_ones_24 rfl (lv_at hl 1 rfl) ?_
        refine hret _ _ _ _ _ _ ?_ X dL_ones_25
        obtain rfl : i = 20 := by omega
        exact ⟨rfl, ht⟩
      · have c_7 : i < 20 := Nat.not_le.mp (fun h => c_7 ((nI_leI (a := 20) (b := i) (by omega) (by omega)).mpr h))
        refine lv_iload_n hx hb dL_ones_10 rfl (lv_at hl 1 rfl) ?_
        refine lv_iload_n hx hb dL_ones_11 rfl (lv_at hl 2 rfl) ?_
        refine lv_iload_n hx hb dL_ones_12 rfl (lv_at hl 0 rfl) ?_
        refine lv_ishr hx hb dL_ones_13 ?_
        refine lv_iconst (v := 1) hx hb dL_ones_14 (by decide) ?_
        refine lv_iand hx hb dL_ones_15 ?_
        refine lv_iadd hx hb dL_ones_16 ?_
        refine lv_istore_n (lv' := [(1, .int (t + ((st >>> ((nI i) &&& 31)) &&& 1))), (2, .int (nI i)), (0, .int st)]) hx hb dL_ones_17 rfl hl (by decide) rfl (fun ls hl => ?_)
        refine lv_iinc (v := (nI (i + 1))) (lv' := [(2, .int (nI (i + 1))), (1, .int (t + ((st >>> ((nI i) &&& 31)) &&& 1))), (0, .int st)]) hx hb dL_ones_18 hl (k := 1) rfl (nI_add i 1) (by decide) rfl (fun ls hl => ?_)
        refine lv_goto (tgt := 4) hx hb dL_ones_21 (by decide) ?_
        exact ih_4 (i + 1) _ _ _ _ X (lv_sub hl [0, 1, 2] rfl) (by omega) (by omega) (by rw [ht, x_sm])
  exact L_4 (21) 0 0 _ _ _ X (lv_sub hl [0, 1, 2] rfl) (by omega) (by omega) (by rfl)

set_option maxRecDepth 100000 in
theorem c_L_cell (l : Launch) (D : va_G) (q : xQ) (b L : Nat) (xs : Nat → Int32) (k : Nat) (hL : L ≤ 260) (hk : k < 2 ^ 31) : xMiE l yL_cell wsL_cell { frames := 0, cells := 0, slots := 0, locals := 0 } D q [.ref b, .int (nI k)] [] (xScr b L xs) (fun _ gw => gw = []) := by
  refine xMiE_of (cc := cL_cell) (maxL := 2) (rt := .int) (by decide) rfl (Nat.le_of_ble_eq_true rfl) (fun _ _ _ => rfl) ?_
  intro p9 e9 s9 m9 a9 below meth c9 A9 Z9 ls H locs hA hE F X hl hret
  have hx := F.1.1
  have hb := F.1.2.1
  have hbA : ¬ A9 b := fun h => by
    rcases hA b h with ⟨j, e, hj⟩ | h
    · simp at hj
    · exact absurd hE.2 (Nat.not_lt.mpr h)
  have hl : lv_has ls 2 [(0, .ref b), (1, .int (nI k))] := hl
  refine lv_iload_n hx hb dL_cell_0 rfl (lv_at hl 1 rfl) ?_
  refine lv_aload_n hx hb dL_cell_1 rfl (lv_at hl 0 rfl) ?_
  refine va_slen hx hb hE.1 hE.2 hbA X.2.2.1 dL_cell_2 ?_
  refine x_i (y := nI L) rfl ?_
  refine lv_icmp_ge (tgt := 12) hx hb dL_cell_3 (by decide) (fun _ => ?_) (fun hc => ?_)
  · refine lv_sipush (v := 7919) hx hb dL_cell_12 (by decide) ?_
    refine lv_iload_n hx hb dL_cell_15 rfl (lv_at hl 1 rfl) ?_
    refine lv_iconst (v := 3) hx hb dL_cell_16 (by decide) ?_
    refine lv_iadd hx hb dL_cell_17 ?_
    refine lv_imul hx hb dL_cell_18 ?_
    refine lv_iload_n hx hb dL_cell_19 rfl (lv_at hl 1 rfl) ?_
    refine lv_bipush (v := 11) hx hb dL_cell_20 (by decide) ?_
    refine lv_iadd hx hb dL_cell_22 ?_
    refine lv_imul hx hb dL_cell_23 ?_
    exact hret _ _ _ _ _ _ rfl X dL_cell_24
  · have hkL : k < L := Nat.not_le.mp (fun h => hc (nI_le h (by omega)))
    refine lv_aload_n hx hb dL_cell_6 rfl (lv_at hl 0 rfl) ?_
    refine lv_iload_n hx hb dL_cell_7 rfl (lv_at hl 1 rfl) ?_
    refine va_sld hx hb hE.1 hE.2 hbA X.2.2.1 (vp_in_nI (by omega) (by omega)) dL_cell_8 ?_
    refine lv_goto (tgt := 24) hx hb dL_cell_9 (by decide) ?_
    exact hret _ _ _ _ _ _ rfl X dL_cell_24
