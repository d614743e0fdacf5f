set_option maxHeartbeats 1000000 in
set_option maxRecDepth 100000 in
theorem c_X8_in (l : Launch) (D : va_G) (q : xQ) (v : Int32) (lo : Int32) (hi : Int32) : xMi l yX8_in wsX8_in { frames := 0, cells := 0, slots := 0, locals := 0 } D q [.int v, .int lo, .int hi] [] (fun r gw => gw = [] ∧ ((r = 1 ∧ (lo ≤ v ∧ v ≤ hi)) ∨ (r = 0 ∧ ¬ (lo ≤ v ∧ v ≤ hi)))) := by
  refine xMi_of (cc := cX8_in) (maxL := 3) (rt := .boolean) (by decide) rfl (Nat.le_of_ble_eq_true rfl) (fun v w h => by obtain ⟨_, (⟨rfl, _⟩ | ⟨rfl, _⟩)⟩ := h <;> rfl) ?_
  intro p9 e9 s9 m9 a9 below meth c9 A9 Z9 ls H locs F X hl hret
  have hx := F.1.1
  have hb := F.1.2.1
  have hl : lv_has ls 3 [(0, .int v), (1, .int lo), (2, .int hi)] := hl
  refine lv_iload_n hx hb dX8_in_0 rfl (lv_at hl 0 rfl) ?_
  refine lv_iload_n hx hb dX8_in_1 rfl (lv_at hl 1 rfl) ?_
  refine lv_icmp_lt (tgt := 14) hx hb dX8_in_2 (by decide) (fun c_2 => ?_) (fun c_2 => ?_)
  · refine lv_iconst (v := 0) hx hb dX8_in_14 (by decide) ?_
    exact hret _ _ _ _ _ _ (by exact ⟨rfl, Or.inr ⟨rfl, fun h => absurd c_2 (Int32.not_lt.mpr h.1)⟩⟩) X dX8_in_15
  · refine lv_iload_n hx hb dX8_in_5 rfl (lv_at hl 0 rfl) ?_
    refine lv_iload_n hx hb dX8_in_6 rfl (lv_at hl 2 rfl) ?_
    refine lv_icmp_gt (tgt := 14) hx hb dX8_in_7 (by decide) (fun c_7 => ?_) (fun c_7 => ?_)
    · refine lv_iconst (v := 0) hx hb dX8_in_14 (by decide) ?_
      exact hret _ _ _ _ _ _ (by exact ⟨rfl, Or.inr ⟨rfl, fun h => absurd c_7 (Int32.not_lt.mpr h.2)⟩⟩) X dX8_in_15
    · refine lv_iconst (v := 1) hx hb dX8_in_10 (by decide) ?_
      refine lv_goto (tgt := 15) hx hb dX8_in_11 (by decide) ?_
      exact hret _ _ _ _ _ _ (by exact ⟨rfl, Or.inl ⟨rfl, Int32.not_lt.mp c_2, Int32.not_lt.mp c_7⟩⟩) X dX8_in_15

set_option maxHeartbeats 1000000 in
set_option maxRecDepth 100000 in
theorem c_X8_inN (l : Launch) (D : va_G) (q : xQ) (v : Nat) (lo : Nat) (hi : Nat) (hv : v < 2 ^ 31) (hlo : lo < 2 ^ 31) (hhi : hi < 2 ^ 31) : xMi l yX8_in wsX8_in { frames := 0, cells := 0, slots := 0, locals := 0 } D q [.int (nI v), .int (nI lo), .int (nI hi)] [] (fun r gw => gw = [] ∧ ((r = 1 ∧ (lo ≤ v ∧ v ≤ hi)) ∨ (r = 0 ∧ ¬ (lo ≤ v ∧ v ≤ hi)))) := by
  refine xMi_of (cc := cX8_in) (maxL := 3) (rt := .boolean) (by decide) rfl (Nat.le_of_ble_eq_true rfl) (fun v w h => by obtain ⟨_, (⟨rfl, _⟩ | ⟨rfl, _⟩)⟩ := h <;> rfl) ?_
  intro p9 e9 s9 m9 a9 below meth c9 A9 Z9 ls H locs F X hl hret
  have hx := F.1.1
  have hb := F.1.2.1
  have hl : lv_has ls 3 [(0, .int (nI v)), (1, .int (nI lo)), (2, .int (nI hi))] := hl
  refine lv_iload_n hx hb dX8_in_0 rfl (lv_at hl 0 rfl) ?_
  refine lv_iload_n hx hb dX8_in_1 rfl (lv_at hl 1 rfl) ?_
  refine lv_icmp_lt (tgt := 14) hx hb dX8_in_2 (by decide) (fun c_2 => ?_) (fun c_2 => ?_)
  · have c_2 : v < lo := (nI_ltI (a := v) (b := lo) (by omega) (by omega)).mp c_2
    refine lv_iconst (v := 0) hx hb dX8_in_14 (by decide) ?_
    exact hret _ _ _ _ _ _ (by exact ⟨rfl, Or.inr ⟨rfl, fun h => by omega⟩⟩) X dX8_in_15
  · have c_2 : lo ≤ v := Nat.not_lt.mp (fun h => c_2 ((nI_ltI (a := v) (b := lo) (by omega) (by omega)).mpr h))
    refine lv_iload_n hx hb dX8_in_5 rfl (lv_at hl 0 rfl) ?_
    refine lv_iload_n hx hb dX8_in_6 rfl (lv_at hl 2 rfl) ?_
    refine lv_icmp_gt (tgt := 14) hx hb dX8_in_7 (by decide) (fun c_7 => ?_) (fun c_7 => ?_)
    · have c_7 : hi < v := (nI_ltI (a := hi) (b := v) (by omega) (by omega)).mp c_7
      refine lv_iconst (v := 0) hx hb dX8_in_14 (by decide) ?_
      exact hret _ _ _ _ _ _ (by exact ⟨rfl, Or.inr ⟨rfl, fun h => by omega⟩⟩) X dX8_in_15
    · have c_7 : v ≤ hi := Nat.not_lt.mp (fun h => c_7 ((nI_ltI (a := hi) (b := v) (by omega) (by omega)).mpr h))
      refine lv_iconst (v := 1) hx hb dX8_in_10 (by decide) ?_
      refine lv_goto (tgt := 15) hx hb dX8_in_11 (by decide) ?_
      exact hret _ _ _ _ _ _ (by exact ⟨rfl, Or.inl ⟨rfl, c_2, c_7⟩⟩) X dX8_in_15

set_option maxHeartbeats 1000000 in
set_option maxRecDepth 100000 in
theorem c_X8_less (l : Launch) (D : va_G) (q : xQ) (a : Int32) (b : Int32) : xMi l yX8_less wsX8_less { frames := 0, cells := 0, slots := 0, locals := 0 } D q [.int a, .int b] [] (fun r gw => gw = [] ∧ r = x_mn b a) := by
  refine xMi_of (cc := cX8_less) (maxL := 2) (rt := .int) (by decide) rfl (Nat.le_of_ble_eq_true rfl) (fun _ _ _ => rfl) ?_
  intro p9 e9 s9 m9 a9 below meth c9 A9 Z9 ls H locs F X hl hret
  have hx := F.1.1
  have hb := F.1.2.1
  have hl : lv_has ls 2 [(0, .int a), (1, .int b)] := hl
  refine lv_iload_n hx hb dX8_less_0 rfl (lv_at hl 0 rfl) ?_
  refine lv_iload_n hx hb dX8_less_1 rfl (lv_at hl 1 rfl) ?_
  refine lv_icmp_ge (tgt := 9) hx hb dX8_less_2 (by decide) (fun c_2 => ?_) (fun c_2 => ?_)
  · refine lv_iload_n hx hb dX8_less_9 rfl (lv_at hl 1 rfl) ?_
    exact hret _ _ _ _ _ _ (by exact ⟨rfl, (if_neg (Int32.not_lt.mpr c_2)).symm⟩) X dX8_less_10
  · refine lv_iload_n hx hb dX8_less_5 rfl (lv_at hl 0 rfl) ?_
    refine lv_goto (tgt := 10) hx hb dX8_less_6 (by decide) ?_
    exact hret _ _ _ _ _ _ (by exact ⟨rfl, (if_pos (Int32.not_le.mp c_2)).symm⟩) X dX8_less_10

set_option maxHeartbeats 1000000 in
set_option maxRecDepth 100000 in
theorem c_X8_at (l : Launch) (D : va_G) (q : xQ) (k : Nat) (w : Nat) (hk : k < 20) (hw : w < 5) : xMi l yX8_at wsX8_at { frames := 0, cells := 0, slots := 0, locals := 0 } D q [.int (nI k), .int (nI w)] [] (fun r gw => gw = [] ∧ r = nI (33 + 5 * k + w)) := by
  refine xMi_of (cc := cX8_at) (maxL := 2) (rt := .int) (by decide) rfl (Nat.le_of_ble_eq_true rfl) (fun _ _ _ => rfl) ?_
  intro p9 e9 s9 m9 a9 below meth c9 A9 Z9 ls H locs F X hl hret
  have hx := F.1.1
  have hb := F.1.2.1
  have hl : lv_has ls 2 [(0, .int (nI k)), (1, .int (nI w))] := hl
  refine lv_bipush (v := 33) hx hb dX8_at_0 (by decide) ?_
  refine lv_iconst (v := 5) hx hb dX8_at_2 (by decide) ?_
  refine lv_iload_n hx hb dX8_at_3 rfl (lv_at hl 0 rfl) ?_
  refine lv_imul hx hb dX8_at_4 ?_
  refine x_i (y := (nI (5 * k))) (pk_mul 5 k) ?_
  refine lv_iadd hx hb dX8_at_5 ?_
  refine x_i (y := (nI (33 + (5 * k)))) (nI_add 33 (5 * k)) ?_
  refine lv_iload_n hx hb dX8_at_6 rfl (lv_at hl 1 rfl) ?_
  refine lv_iadd hx hb dX8_at_7 ?_
  refine x_i (y := (nI (33 + (5 * k) + w))) (nI_add (33 + (5 * k)) w) ?_
  exact hret _ _ _ _ _ _ (by exact ⟨rfl, rfl⟩) X dX8_at_8

set_option maxHeartbeats 1000000 in
set_option maxRecDepth 100000 in
theorem c_X8_its (l : Launch) (D : va_G) (q : xQ) (b0 : Nat) (b1 : Nat) (b2 : Nat) (b3 : Nat) (b4 : Nat) (b5 : Nat) (b6 : Nat) (b7 : Nat) (b8 : Nat) (s : Nat → Int32) (p : Nat → Int32) (sl : Nat → Int32) (sv : Nat → Int32) (pd : Nat → Int32) (fo : Nat → Int32) (to : Nat → Int32) (ou : Nat → Int32) (kn : Int32) (ln : Int32) (mn : Int32) (la : Int32) (op : Int32) (wr : Int32) (k : Nat) (w : Nat) (hk : k < 20) (hw : w < 5) : xMi l yX8_its wsX8_its { frames := 1, cells := 0, slots := 0, locals := 21 } D q [.ref b0, .int (nI k), .int (nI w)] [mW q b0 b1 b2 b3 b4 b5 b6 b7 b8 s p sl sv pd fo to ou kn ln mn la op wr] (fun r gw => gw = [mW q b0 b1 b2 b3 b4 b5 b6 b7 b8 s p sl sv pd fo to ou kn ln mn la op wr] ∧ r = s (33 + 5 * k + w)) := by
  refine xMi_of (cc := cX8_its) (maxL := 3) (rt := .int) (by decide) rfl (Nat.le_of_ble_eq_true rfl) (fun _ _ _ => rfl) ?_
  intro p9 e9 s9 m9 a9 below meth c9 A9 Z9 ls H locs F X hl hret
  have hx := F.1.1
  have hb := F.1.2.1
  have in_X8 : ∀ w ∈ wsX80, w ∈ wsX8_its := by decide +kernel
  have mw_0 : Cond.fieldLink RX8 7 "HatWindsModel" "s" "[I" ∈ wsX8_its := by decide +kernel
  have mw_1 : Cond.initialized RX8 ∈ wsX8_its := by decide +kernel
  have hl : lv_has ls 3 [(0, .ref b0), (1, .int (nI k)), (2, .int (nI w))] := hl
  refine lv_aload_n hx hb dX8_its_0 rfl (lv_at hl 0 rfl) ?_
  refine x_get F X (v := .ref b1) (C := RX8) (T := TX8) (N := 14) (ci := 8) in_X8 0 rfl rfl 0 (by decide) mw_0 rfl dX8_its_1 ?_
  refine lv_iload_n hx hb dX8_its_4 rfl (lv_at hl 1 rfl) ?_
  refine lv_iload_n hx hb dX8_its_5 rfl (lv_at hl 2 rfl) ?_
  refine x_cSi F X (gc := []) (gr := [mW q b0 b1 b2 b3 b4 b5 b6 b7 b8 s p sl sv pd fo to ou kn ln mn la op wr]) (xp_idx (n := 1) [0] (by decide +kernel) rfl rfl) (c_X8_at l D q k w (by first | assumption | omega) (by first | assumption | omega)) (va_cwS 2 F.1.2.2.2.2 gX8_its_X8_at rfl rfl rfl (by decide +kernel) ⟨Nat.le_of_ble_eq_true rfl, Nat.le_of_ble_eq_true rfl⟩) rfl rfl hl.1 ⟨Nat.le_of_ble_eq_true rfl, Nat.le_of_ble_eq_true rfl⟩ (Nat.le_of_ble_eq_true rfl) dX8_its_6 (fun r_6 g1 H locs hp X => ?_)
  obtain ⟨rfl, rfl⟩ := hp
  have X : xS D A9 s9 [mW q b0 b1 b2 b3 b4 b5 b6 b7 b8 s p sl sv pd fo to ou kn ln mn la op wr] H locs := X
  refine x_iald F X (v := (s (33 + 5 * k + w))) (n := 133) (f := s) 1 rfl (vp_in_nI (by omega) (by omega)) (x_cl (by omega)) dX8_its_9 ?_
  exact hret _ _ _ _ _ _ (by exact ⟨rfl, rfl⟩) X dX8_its_10

set_option maxHeartbeats 1000000 in
set_option maxRecDepth 100000 in
theorem c_X8_isStreet (l : Launch) (D : va_G) (q : xQ) (b0 : Nat) (b1 : Nat) (b2 : Nat) (b3 : Nat) (b4 : Nat) (b5 : Nat) (b6 : Nat) (b7 : Nat) (b8 : Nat) (s : Nat → Int32) (p : Nat → Int32) (sl : Nat → Int32) (sv : Nat → Int32) (pd : Nat → Int32) (fo : Nat → Int32) (to : Nat → Int32) (ou : Nat → Int32) (kn : Int32) (ln : Int32) (mn : Int32) (la : Int32) (op : Int32) (wr : Int32) (n : Nat) (st : Int32) (hs5 : s 5 = nI n) (hn : n ≤ 20) (hn1 : 1 ≤ n) : xMi l yX8_isStreet wsX8_isStreet { frames := 1, cells := 0, slots := 0, locals := 22 } D q [.ref b0, .int st] [mW q b0 b1 b2 b3 b4 b5 b6 b7 b8 s p sl sv pd fo to ou kn ln mn la op wr] (fun r gw => gw = [mW q b0 b1 b2 b3 b4 b5 b6 b7 b8 s p sl sv pd fo to ou kn ln mn la op wr] ∧ ((r = 1 ∧ (xIx st n)) ∨ (r = 0 ∧ ¬ (xIx st n)))) := by
  refine xMi_of (cc := cX8_isStreet) (maxL := 2) (rt := .boolean) (by decide) rfl (Nat.le_of_ble_eq_true rfl) (fun v w h => by obtain ⟨_, (⟨rfl, _⟩ | ⟨rfl, _⟩)⟩ := h <;> rfl) ?_
  intro p9 e9 s9 m9 a9 below meth c9 A9 Z9 ls H locs F X hl hret
  have hx := F.1.1
  have hb := F.1.2.1
  have in_X8 : ∀ w ∈ wsX80, w ∈ wsX8_isStreet := by decide +kernel
  have mw_0 : Cond.fieldLink RX8 7 "HatWindsModel" "s" "[I" ∈ wsX8_isStreet := by decide +kernel
  have mw_1 : Cond.initialized RX8 ∈ wsX8_isStreet := by decide +kernel
  have hl : lv_has ls 2 [(0, .ref b0), (1, .int st)] := hl
  refine lv_iload_n hx hb dX8_isStreet_0 rfl (lv_at hl 1 rfl) ?_
  refine lv_iconst (v := 0) hx hb dX8_isStreet_1 (by decide) ?_
  refine lv_aload_n hx hb dX8_isStreet_2 rfl (lv_at hl 0 rfl) ?_
  refine x_get F X (v := .ref b1) (C := RX8) (T := TX8) (N := 14) (ci := 8) in_X8 0 rfl rfl 0 (by decide) mw_0 rfl dX8_isStreet_3 ?_
  refine lv_iconst (v := 5) hx hb dX8_isStreet_6 (by decide) ?_
  refine x_iald F X (v := (s 5)) (n := 133) (f := s) 1 rfl (show vp_in (nI 5) _ from vp_in_nI (by omega) (by omega)) rfl dX8_isStreet_7 ?_
  refine x_i (y := (nI n)) (hs5) ?_
  refine lv_iconst (v := 1) hx hb dX8_isStreet_8 (by decide) ?_
  refine lv_isub hx hb dX8_isStreet_9 ?_
  refine x_i (y := (nI (n - 1))) (pk_sub (a := n) (b := 1) (by omega)) ?_
  refine x_cSi F X (gc := []) (gr := [mW q b0 b1 b2 b3 b4 b5 b6 b7 b8 s p sl sv pd fo to ou kn ln mn la op wr]) (xp_idx (n := 1) [0] (by decide +kernel) rfl rfl) (c_X8_in l D q st 0 (nI (n - 1)) ) (va_cwS 3 F.1.2.2.2.2 gX8_isStreet_X8_in rfl rfl rfl (by decide +kernel) ⟨Nat.le_of_ble_eq_true rfl, Nat.le_of_ble_eq_true rfl⟩) rfl rfl hl.1 ⟨Nat.le_of_ble_eq_true rfl, Nat.le_of_ble_eq_true rfl⟩ (Nat.le_of_ble_eq_true rfl) dX8_isStreet_10 (fun r_10 g1 H locs hp X => ?_)
  obtain ⟨rfl, hz⟩ := hp
  have X : xS D A9 s9 [mW q b0 b1 b2 b3 b4 b5 b6 b7 b8 s p sl sv pd fo to ou kn ln mn la op wr] H locs := X
  rcases hz with ⟨rfl, b_10⟩ | ⟨rfl, b_10⟩
  · exact hret _ _ _ _ _ _ (by exact ⟨rfl, Or.inl ⟨rfl, (x_ix2 (by omega) hn1).mp b_10⟩⟩) X dX8_isStreet_13
  · exact hret _ _ _ _ _ _ (by exact ⟨rfl, Or.inr ⟨rfl, fun h => b_10 ((x_ix2 (by omega) hn1).mpr h)⟩⟩) X dX8_isStreet_13

set_option maxHeartbeats 1000000 in
set_option maxRecDepth 100000 in
theorem c_X8_remembers (l : Launch) (D : va_G) (q : xQ) (b0 : Nat) (b1 : Nat) (b2 : Nat) (b3 : Nat) (b4 : Nat) (b5 : Nat) (b6 : Nat) (b7 : Nat) (b8 : Nat) (s : Nat → Int32) (p : Nat → Int32) (sl : Nat → Int32) (sv : Nat → Int32) (pd : Nat → Int32) (fo : Nat → Int32) (to : Nat → Int32) (ou : Nat → Int32) (kn : Nat) (ln : Int32) (mn : Int32) (la : Int32) (op : Int32) (wr : Int32) (hk : kn ≤ 6) : xMv l yX8_remembers wsX8_remembers { frames := 0, cells := 0, slots := 0, locals := 0 } D q [.ref b0] [mW q b0 b1 b2 b3 b4 b5 b6 b7 b8 s p sl sv pd fo to ou (nI kn) ln mn la op wr] (fun gw => ∃ (p2 : Nat → Int32), ∃ (kn2 : Nat), gw = [mW q b0 b1 b2 b3 b4 b5 b6 b7 b8 s p2 sl sv pd fo to ou (nI kn2) ln mn la op wr] ∧ (kn2 = min (kn + 1) 6) ∧ (∀ i j, i < kn2 → j < 133 → p2 (133 * i + j) = if i + 1 = kn2 then s j else p (133 * (i + (if kn = 6 then 1 else 0)) + j))) := by
  refine xMv_of (cc := cX8_remembers) (maxL := 2) (by decide) rfl (Nat.le_of_ble_eq_true rfl) ?_
  intro p9 e9 s9 m9 a9 below meth c9 A9 Z9 ls H locs F hini X hl hret
  have hx := F.1.1
  have hb := F.1.2.1
  have in_X8 : ∀ w ∈ wsX80, w ∈ wsX8_remembers := by decide +kernel
  have mw_0 : Cond.fieldLink RX8 43 "HatWindsModel" "known" "I" ∈ wsX8_remembers := by decide +kernel
  have mw_1 : Cond.fieldLink RX8 13 "HatWindsModel" "past" "[I" ∈ wsX8_remembers := by decide +kernel
  have mw_2 : Cond.fieldLink RX8 7 "HatWindsModel" "s" "[I" ∈ wsX8_remembers := by decide +kernel
  have hl : lv_has ls 2 [(0, .ref b0)] := hl
  have J_50 : ∀ (k1 : Nat) (w1 : Nat → Int32) (H : Heap) (locs : List Loc) (ls : Array Slot), xS D A9 s9 [mW q b0 b1 b2 b3 b4 b5 b6 b7 b8 s w1 sl sv pd fo to ou (nI k1) ln mn la op wr] H locs → lv_has ls 2 [(0, .ref b0)] → (k1 = min kn 5) → (∀ i j, i < k1 → j < 133 → w1 (133 * i + j) = p (133 * (i + (if kn = 6 then 1 else 0)) + j)) → W p9 l e9 { frames := 0, cells := 0, slots := 0, locals := 0 } s9 m9 a9 below meth c9 H locs 0 0 Z9 (F0 m9 50 ls []) := by
    intro k1 w1 H locs ls X hl h5 h1
    refine lv_iconst (v := 0) hx hb dX8_remembers_50 (by decide) ?_
    refine lv_istore_n (lv' := [(1, .int 0), (0, .ref b0)]) hx hb dX8_remembers_51 rfl hl (by decide) rfl (fun ls hl => ?_)
    have L_52 : ∀ (nn : Nat) (i : Nat) (w : Nat → Int32) (H : Heap) (locs : List Loc) (ls : Array Slot), xS D A9 s9 [mW q b0 b1 b2 b3 b4 b5 b6 b7 b8 s w sl sv pd fo to ou (nI k1) ln mn la op wr] H locs → lv_has ls 2 [(1, .int (nI i)), (0, .ref b0)] → (133 < i + nn) → (i ≤ 133) → (∀ j, j < i → w (133 * k1 + j) = s j) → (∀ j, j < 133 * k1 → w j = w1 j) → W p9 l e9 { frames := 0, cells := 0, slots := 0, locals := 0 } s9 m9 a9 below meth c9 H locs 0 0 Z9 (F0 m9 52 ls []) := by
      intro nn
      induction nn with
      | zero => intro i w H locs ls X hl hfuel hi h2 h3; exact absurd hfuel (by omega)
      | succ nn ih_52 =>
        intro i w H locs ls X hl hfuel hi h2 h3
        refine lv_iload_n hx hb dX8_remembers_52 rfl (lv_at hl 0 rfl) ?_
        refine lv_sipush (v := 133) hx hb dX8_remembers_53 (by decide) ?_
        refine lv_icmp_ge (tgt := 86) hx hb dX8_remembers_56 (by decide) (fun c_56 => ?_) (fun c_56 => ?_)
        · have c_56 : 133 ≤ i := (nI_leI (a := 133) (b := i) (by omega) (by omega)).mp c_56
          refine lv_aload_n hx hb dX8_remembers_86 rfl (lv_at hl 1 rfl) ?_
          refine lv_dup hx hb dX8_remembers_87 rfl ?_
          refine x_get F X (v := .int (nI k1)) (C := RX8) (T := TX8) (N := 14) (ci := 8) in_X8 0 rfl rfl 2 (by decide) mw_0 rfl dX8_remembers_88 ?_
          refine lv_iconst (v := 1) hx hb dX8_remembers_91 (by decide) ?_
          refine lv_iadd hx hb dX8_remembers_92 ?_
          refine x_i (y := (nI (k1 + 1))) (nI_add k1 1) ?_
          refine x_put F X (gs' := [mW q b0 b1 b2 b3 b4 b5 b6 b7 b8 s w sl sv pd fo to ou (nI (k1 + 1)) ln mn la op wr]) (v := .int (nI (k1 + 1))) (C := RX8) (T := TX8) (N := 14) (ci := 8) in_X8 tyX8 tyX8_ok nmX8 0 rfl rfl 2 (by decide) mw_0 rfl rfl rfl (Nat.le_of_ble_eq_true rfl) dX8_remembers_93 rfl (fun H locs X => ?_)
          refine hret _ _ _ _ _ ?_ X dX8_remembers_96
          refine ⟨_, k1 + 1, rfl, by omega, fun a j ha hj => ?_⟩
          by_cases e : a + 1 = k1 + 1
          · rw [if_pos e]
            obtain rfl : a = k1 := by omega
            exact h2 j (by omega)
          · rw [if_neg e, h3 _ (by omega)]; exact h1 a j (by omega) hj
        · have c_56 : i < 133 := Nat.not_le.mp (fun h => c_56 ((nI_leI (a := 133) (b := i) (by omega) (by omega)).mpr h))
          refine lv_aload_n hx hb dX8_remembers_59 rfl (lv_at hl 1 rfl) ?_
          refine x_get F X (v := .ref b2) (C := RX8) (T := TX8) (N := 14) (ci := 8) in_X8 0 rfl rfl 1 (by decide) mw_1 rfl dX8_remembers_60 ?_
          refine lv_sipush (v := 133) hx hb dX8_remembers_63 (by decide) ?_
          refine lv_aload_n hx hb dX8_remembers_66 rfl (lv_at hl 1 rfl) ?_
          refine x_get F X (v := .int (nI k1)) (C := RX8) (T := TX8) (N := 14) (ci := 8) in_X8 0 rfl rfl 2 (by decide) mw_0 rfl dX8_remembers_67 ?_
          refine lv_imul hx hb dX8_remembers_70 ?_
          refine x_i (y := (nI (133 * k1))) (pk_mul 133 k1) ?_
          refine lv_iload_n hx hb dX8_remembers_71 rfl (lv_at hl 0 rfl) ?_
          refine lv_iadd hx hb dX8_remembers_72 ?_
          refine x_i (y := (nI (133 * k1 + i))) (nI_add (133 * k1) i) ?_
          refine lv_aload_n hx hb dX8_remembers_73 rfl (lv_at hl 1 rfl) ?_
          refine x_get F X (v := .ref b1) (C := RX8) (T := TX8) (N := 14) (ci := 8) in_X8 0 rfl rfl 0 (by decide) mw_2 rfl dX8_remembers_74 ?_
          refine lv_iload_n hx hb dX8_remembers_77 rfl (lv_at hl 0 rfl) ?_
          refine x_iald F X (v := (s i)) (n := 133) (f := s) 1 rfl (vp_in_nI (by omega) (by omega)) (x_cl (by omega)) dX8_remembers_78 ?_
          refine x_iast F X (gs' := [mW q b0 b1 b2 b3 b4 b5 b6 b7 b8 s (upd w (133 * k1 + i) (s i)) sl sv pd fo to ou (nI k1) ln mn la op wr]) (n := 798) (f := w) (k := (133 * k1 + i)) 2 rfl (vp_in_nI (by omega) (by omega)) (nI_clamp (by omega)) dX8_remembers_79 rfl (fun H locs X => ?_)
          refine lv_iinc (v := (nI (i + 1))) (lv' := [(1, .int (nI (i + 1))), (0, .ref b0)]) hx hb dX8_remembers_80 hl (k := 0) rfl (nI_add i 1) (by decide) rfl (fun ls hl => ?_)
          refine lv_goto (tgt := 52) hx hb dX8_remembers_83 (by decide) ?_
          exact ih_52 (i + 1) _ _ _ _ X (lv_sub hl [0, 1] rfl) (by omega) (by omega) (by
              intro j h
              by_cases e : j = i
              · subst e; rw [pk_us]
              · rw [pk_un (by omega)]; exact h2 j (by omega)) (by intro j h; rw [pk_un (by omega)]; exact h3 j h)
    exact L_52 (134) 0 w1 _ _ _ X (lv_sub hl [0, 1] rfl) (by omega) (by omega) (by exact fun j h => absurd h (Nat.not_lt_zero j)) (by exact fun _ _ => rfl)
  refine lv_aload_n hx hb dX8_remembers_0 rfl (lv_at hl 0 rfl) ?_
  refine x_get F X (v := .int (nI kn)) (C := RX8) (T := TX8) (N := 14) (ci := 8) in_X8 0 rfl rfl 2 (by decide) mw_0 rfl dX8_remembers_1 ?_
  refine lv_bipush (v := 6) hx hb dX8_remembers_4 (by decide) ?_
  refine lv_icmp_ne (tgt := 50) hx hb dX8_remembers_6 (by decide) (fun c_6 => ?_) (fun c_6 => ?_)
  · have c_6 : ¬ (kn = 6) := fun h => c_6 ((nI_eq (a := kn) (b := 6) (by omega) (by omega)).mpr h)
    exact J_50 kn p _ _ _ X (lv_sub hl [0] rfl) (by omega) (by intro i j h2 h3; rw [if_neg c_6]; rfl)
  · have c_6 : kn = 6 := (nI_eq (a := kn) (b := 6) (by omega) (by omega)).mp c_6
    refine lv_iconst (v := 0) hx hb dX8_remembers_9 (by decide) ?_
    refine lv_istore_n (lv' := [(1, .int 0), (0, .ref b0)]) hx hb dX8_remembers_10 rfl hl (by decide) rfl (fun ls hl => ?_)
    have L_11 : ∀ (nn : Nat) (i : Nat) (w : Nat → Int32) (H : Heap) (locs : List Loc) (ls : Array Slot), xS D A9 s9 [mW q b0 b1 b2 b3 b4 b5 b6 b7 b8 s w sl sv pd fo to ou (nI kn) ln mn la op wr] H locs → lv_has ls 2 [(1, .int (nI i)), (0, .ref b0)] → (665 < i + nn) → (i ≤ 665) → (∀ j, j < i → w j = p (133 + j)) → (∀ j, i ≤ j → w j = p j) → W p9 l e9 { frames := 0, cells := 0, slots := 0, locals := 0 } s9 m9 a9 below meth c9 H locs 0 0 Z9 (F0 m9 11 ls []) := by
      intro nn
      induction nn with
      | zero => intro i w H locs ls X hl hfuel hi h1 h2; exact absurd hfuel (by omega)
      | succ nn ih_11 =>
        intro i w H locs ls X hl hfuel hi h1 h2
        refine lv_iload_n hx hb dX8_remembers_11 rfl (lv_at hl 0 rfl) ?_
        refine lv_sipush (v := 665) hx hb dX8_remembers_12 (by decide) ?_
        refine lv_icmp_ge (tgt := 40) hx hb dX8_remembers_15 (by decide) (fun c_15 => ?_) (fun c_15 => ?_)
        · have c_15 : 665 ≤ i := (nI_leI (a := 665) (b := i) (by omega) (by omega)).mp c_15
          refine lv_aload_n hx hb dX8_remembers_40 rfl (lv_at hl 1 rfl) ?_
          refine lv_dup hx hb dX8_remembers_41 rfl ?_
          refine x_get F X (v := .int (nI kn)) (C := RX8) (T := TX8) (N := 14) (ci := 8) in_X8 0 rfl rfl 2 (by decide) mw_0 rfl dX8_remembers_42 ?_
          refine lv_iconst (v := 1) hx hb dX8_remembers_45 (by decide) ?_
          refine lv_isub hx hb dX8_remembers_46 ?_
          refine x_i (y := (nI (kn - 1))) (pk_sub (a := kn) (b := 1) (by omega)) ?_
          refine x_put F X (gs' := [mW q b0 b1 b2 b3 b4 b5 b6 b7 b8 s w sl sv pd fo to ou (nI (kn - 1)) ln mn la op wr]) (v := .int (nI (kn - 1))) (C := RX8) (T := TX8) (N := 14) (ci := 8) in_X8 tyX8 tyX8_ok nmX8 0 rfl rfl 2 (by decide) mw_0 rfl rfl rfl (Nat.le_of_ble_eq_true rfl) dX8_remembers_47 rfl (fun H locs X => ?_)
          exact J_50 (kn - 1) w _ _ _ X (lv_sub hl [1] rfl) (by omega) (by
              intro i j h2 h3
              rw [if_pos c_6, h1 _ (by omega)]
              exact congrArg p (by omega))
        · have c_15 : i < 665 := Nat.not_le.mp (fun h => c_15 ((nI_leI (a := 665) (b := i) (by omega) (by omega)).mpr h))
          refine lv_aload_n hx hb dX8_remembers_18 rfl (lv_at hl 1 rfl) ?_
          refine x_get F X (v := .ref b2) (C := RX8) (T := TX8) (N := 14) (ci := 8) in_X8 0 rfl rfl 1 (by decide) mw_1 rfl dX8_remembers_19 ?_
          refine lv_iload_n hx hb dX8_remembers_22 rfl (lv_at hl 0 rfl) ?_
          refine lv_aload_n hx hb dX8_remembers_23 rfl (lv_at hl 1 rfl) ?_
          refine x_get F X (v := .ref b2) (C := RX8) (T := TX8) (N := 14) (ci := 8) in_X8 0 rfl rfl 1 (by decide) mw_1 rfl dX8_remembers_24 ?_
          refine lv_sipush (v := 133) hx hb dX8_remembers_27 (by decide) ?_
          refine lv_iload_n hx hb dX8_remembers_30 rfl (lv_at hl 0 rfl) ?_
          refine lv_iadd hx hb dX8_remembers_31 ?_
          refine x_i (y := (nI (133 + i))) (nI_add 133 i) ?_
          refine x_iald F X (v := (w (133 + i))) (n := 798) (f := w) 2 rfl (vp_in_nI (by omega) (by omega)) (x_cl (by omega)) dX8_remembers_32 ?_
          refine x_iast F X (gs' := [mW q b0 b1 b2 b3 b4 b5 b6 b7 b8 s (upd w i (w (133 + i))) sl sv pd fo to ou (nI kn) ln mn la op wr]) (n := 798) (f := w) (k := i) 2 rfl (vp_in_nI (by omega) (by omega)) (nI_clamp (by omega)) dX8_remembers_33 rfl (fun H locs X => ?_)
          refine lv_iinc (v := (nI (i + 1))) (lv' := [(1, .int (nI (i + 1))), (0, .ref b0)]) hx hb dX8_remembers_34 hl (k := 0) rfl (nI_add i 1) (by decide) rfl (fun ls hl => ?_)
          refine lv_goto (tgt := 11) hx hb dX8_remembers_37 (by decide) ?_
          exact ih_11 (i + 1) _ _ _ _ X (lv_sub hl [0, 1] rfl) (by omega) (by omega) (by
              intro j h
              by_cases e : j = i
              · subst e; rw [pk_us, h2 _ (by omega)]
              · rw [pk_un e]; exact h1 j (by omega)) (by intro j h; rw [pk_un (by omega)]; exact h2 j (by omega))
    exact L_11 (666) 0 p _ _ _ X (lv_sub hl [0, 1] rfl) (by omega) (by omega) (by exact fun j h => absurd h (Nat.not_lt_zero j)) (by exact fun _ _ => rfl)

set_option maxHeartbeats 1000000 in
set_option maxRecDepth 100000 in
theorem c_X8_parted (l : Launch) (D : va_G) (q : xQ) (b0 : Nat) (b1 : Nat) (b2 : Nat) (b3 : Nat) (b4 : Nat) (b5 : Nat) (b6 : Nat) (b7 : Nat) (b8 : Nat) (s : Nat → Int32) (p : Nat → Int32) (sl : Nat → Int32) (sv : Nat → Int32) (pd : Nat → Int32) (fo : Nat → Int32) (to : Nat → Int32) (ou : Nat → Int32) (kn : Int32) (ln : Int32) (mn : Int32) (la : Int32) (op : Int32) (wr : Int32) (n : Nat) (pr : Nat → Nat) (k : Nat) (m : Int32) (hok : x_ok s n pr) (hk1 : 1 ≤ k) (hk : k < n) (hm : ¬ nI k = m) : xMi l yX8_parted wsX8_parted { frames := 2, cells := 0, slots := 0, locals := 43 } D q [.ref b0, .int (nI k), .int m] [mW q b0 b1 b2 b3 b4 b5 b6 b7 b8 s p sl sv pd fo to ou kn ln mn la op wr] (fun r gw => gw = [mW q b0 b1 b2 b3 b4 b5 b6 b7 b8 s p sl sv pd fo to ou kn ln mn la op wr] ∧ r = x_sh (fun k => x_sm (x_tg (x_tF s) (x_tW s) m k) n) (fun k => x_sm (x_nr (x_tF s) (x_tW s) m k) n) (x_tW s) k (fo (pr k))) := by
  refine xMi_of (cc := cX8_parted) (maxL := 8) (rt := .int) (by decide) rfl (Nat.le_of_ble_eq_true rfl) (fun _ _ _ => rfl) ?_
  intro p9 e9 s9 m9 a9 below meth c9 A9 Z9 ls H locs F X hl hret
  have hx := F.1.1
  have hb := F.1.2.1
  have in_X8 : ∀ w ∈ wsX80, w ∈ wsX8_parted := by decide +kernel
  have mw_0 : Cond.initialized RX8 ∈ wsX8_parted := by decide +kernel
  have mw_1 : Cond.fieldLink RX8 7 "HatWindsModel" "s" "[I" ∈ wsX8_parted := by decide +kernel
  have mw_2 : Cond.fieldLink RX8 26 "HatWindsModel" "forces" "[I" ∈ wsX8_parted := by decide +kernel
  have hl : lv_has ls 8 [(0, .ref b0), (1, .int (nI k)), (2, .int m)] := hl
  have hok0 := hok
  obtain ⟨hn, hn1, hs5, hs33, hpr, hwd, hcl, hsm, hpe, hst, hle, hhr, hcn⟩ := hok0
  have hpk : pr k < k := (hpr k hk1 hk).2
  refine lv_aload_n hx hb dX8_parted_0 rfl (lv_at hl 0 rfl) ?_
  refine lv_iload_n hx hb dX8_parted_1 rfl (lv_at hl 1 rfl) ?_
  refine lv_iconst (v := 0) hx hb dX8_parted_2 (by decide) ?_
  refine x_cVi F X (gc := [mW q b0 b1 b2 b3 b4 b5 b6 b7 b8 s p sl sv pd fo to ou kn ln mn la op wr]) (gr := []) (xp_idx (n := 1) [0] (by decide +kernel) rfl rfl) (c_X8_its l D q b0 b1 b2 b3 b4 b5 b6 b7 b8 s p sl sv pd fo to ou kn ln mn la op wr k 0 (by first | assumption | omega) (by first | assumption | omega)) (cwV 2 F.1.2.2.2.2 gX8_parted_X8_its rfl rfl rfl (by decide +kernel) ⟨Nat.le_of_ble_eq_true rfl, Nat.le_of_ble_eq_true rfl⟩) rfl rfl (r0 := 0) (ci := 8) (T := TX8) (N := 14) rfl rfl hl.1 ⟨Nat.le_of_ble_eq_true rfl, Nat.le_of_ble_eq_true rfl⟩ (Nat.le_of_ble_eq_true rfl) dX8_parted_3 (fun r_3 g1 H locs hp X => ?_)
  obtain ⟨rfl, rfl⟩ := hp
  have X : xS D A9 s9 [mW q b0 b1 b2 b3 b4 b5 b6 b7 b8 s p sl sv pd fo to ou kn ln mn la op wr] H locs := X
  refine x_i (y := (nI (pr k))) ((hpr k hk1 hk).1) ?_
  refine lv_istore_n (lv' := [(3, .int (nI (pr k))), (0, .ref b0), (1, .int (nI k)), (2, .int m)]) hx hb dX8_parted_6 rfl hl (by decide) rfl (fun ls hl => ?_)
  refine lv_aload_n hx hb dX8_parted_7 rfl (lv_at hl 1 rfl) ?_
  refine lv_iload_n hx hb dX8_parted_8 rfl (lv_at hl 2 rfl) ?_
  refine lv_iconst (v := 1) hx hb dX8_parted_9 (by decide) ?_
  refine x_cVi F X (gc := [mW q b0 b1 b2 b3 b4 b5 b6 b7 b8 s p sl sv pd fo to ou kn ln mn la op wr]) (gr := []) (xp_idx (n := 1) [0] (by decide +kernel) rfl rfl) (c_X8_its l D q b0 b1 b2 b3 b4 b5 b6 b7 b8 s p sl sv pd fo to ou kn ln mn la op wr k 1 (by first | assumption | omega) (by first | assumption | omega)) (cwV 2 F.1.2.2.2.2 gX8_parted_X8_its rfl rfl rfl (by decide +kernel) ⟨Nat.le_of_ble_eq_true rfl, Nat.le_of_ble_eq_true rfl⟩) rfl rfl (r0 := 0) (ci := 8) (T := TX8) (N := 14) rfl rfl hl.1 ⟨Nat.le_of_ble_eq_true rfl, Nat.le_of_ble_eq_true rfl⟩ (Nat.le_of_ble_eq_true rfl) dX8_parted_10 (fun r_10 g1 H locs hp X => ?_)
  obtain ⟨rfl, rfl⟩ := hp
  have X : xS D A9 s9 [mW q b0 b1 b2 b3 b4 b5 b6 b7 b8 s p sl sv pd fo to ou kn ln mn la op wr] H locs := X
  refine lv_istore (lv' := [(4, .int (s (33 + 5 * k + 1))), (3, .int (nI (pr k))), (0, .ref b0), (1, .int (nI k)), (2, .int m)]) hx hb dX8_parted_13 hl (by decide) rfl (fun ls hl => ?_)
  refine lv_iconst (v := 0) hx hb dX8_parted_15 (by decide) ?_
  refine lv_istore (lv' := [(5, .int 0), (4, .int (s (33 + 5 * k + 1))), (3, .int (nI (pr k))), (0, .ref b0), (1, .int (nI k)), (2, .int m)]) hx hb dX8_parted_16 hl (by decide) rfl (fun ls hl => ?_)
  refine lv_iconst (v := 0) hx hb dX8_parted_18 (by decide) ?_
  refine lv_istore (lv' := [(6, .int 0), (5, .int 0), (4, .int (s (33 + 5 * k + 1))), (3, .int (nI (pr k))), (0, .ref b0), (1, .int (nI k)), (2, .int m)]) hx hb dX8_parted_19 hl (by decide) rfl (fun ls hl => ?_)
  refine lv_iconst (v := 1) hx hb dX8_parted_21 (by decide) ?_
  refine lv_istore (lv' := [(7, .int 1), (6, .int 0), (5, .int 0), (4, .int (s (33 + 5 * k + 1))), (3, .int (nI (pr k))), (0, .ref b0), (1, .int (nI k)), (2, .int m)]) hx hb dX8_parted_22 hl (by decide) rfl (fun ls hl => ?_)
  have L_24 : ∀ (nn : Nat) (j : Nat) (al mo : Int32) (H : Heap) (locs : List Loc) (ls : Array Slot), xS D A9 s9 [mW q b0 b1 b2 b3 b4 b5 b6 b7 b8 s p sl sv pd fo to ou kn ln mn la op wr] H locs → lv_has ls 8 [(7, .int (nI j)), (6, .int mo), (5, .int al), (4, .int (s (33 + 5 * k + 1))), (3, .int (nI (pr k))), (0, .ref b0), (1, .int (nI k)), (2, .int m)] → (n < j + nn) → (j ≤ n) → (1 ≤ j) → (al = x_sm (x_tg (x_tF s) (x_tW s) m k) j) → (mo = 5 * x_sm (x_nr (x_tF s) (x_tW s) m k) j) → W p9 l e9 { frames := 2, cells := 0, slots := 0, locals := 43 } s9 m9 a9 below meth c9 H locs 0 0 Z9 (F0 m9 24 ls []) := by
    intro nn
    induction nn with
    | zero => intro j al mo H locs ls X hl hfuel hj hj1 hal hmo; exact absurd hfuel (by omega)
    | succ nn ih_24 =>
      intro j al mo H locs ls X hl hfuel hj hj1 hal hmo
      refine lv_iload hx hb dX8_parted_24 (lv_at hl 0 rfl) ?_
      refine lv_aload_n hx hb dX8_parted_26 rfl (lv_at hl 5 rfl) ?_
      refine x_get F X (v := .ref b1) (C := RX8) (T := TX8) (N := 14) (ci := 8) in_X8 0 rfl rfl 0 (by decide) mw_1 rfl dX8_parted_27 ?_
      refine lv_iconst (v := 5) hx hb dX8_parted_30 (by decide) ?_
      refine x_iald F X (v := (s 5)) (n := 133) (f := s) 1 rfl (show vp_in (nI 5) _ from vp_in_nI (by omega) (by omega)) rfl dX8_parted_31 ?_
      refine x_i (y := (nI n)) (hs5) ?_
      refine lv_icmp_ge (tgt := 92) hx hb dX8_parted_32 (by decide) (fun c_32 => ?_) (fun c_32 => ?_)
      · have c_32 : n ≤ j := (nI_leI (a := n) (b := j) (by omega) (by omega)).mp c_32
        refine lv_aload_n hx hb dX8_parted_92 rfl (lv_at hl 5 rfl) ?_
        refine x_get F X (v := .ref b6) (C := RX8) (T := TX8) (N := 14) (ci := 8) in_X8 0 rfl rfl 7 (by decide) mw_2 rfl dX8_parted_93 ?_
        refine lv_iload_n hx hb dX8_parted_96 rfl (lv_at hl 4 rfl) ?_
        refine x_iald F X (v := (fo (pr k))) (n := 20) (f := fo) 6 rfl (vp_in_nI (by omega) (by omega)) (x_cl (by omega)) dX8_parted_97 ?_
        refine lv_iload hx hb dX8_parted_98 (lv_at hl 3 rfl) ?_
        refine lv_imul hx hb dX8_parted_100 ?_
        refine lv_iload hx hb dX8_parted_101 (lv_at hl 2 rfl) ?_
        refine lv_idiv hx hb dX8_parted_103 (by
            obtain ⟨a, a1, a2, a3⟩ := x_tg_pos (F := x_tF s) (m := m) hwd hm n (Nat.le_refl n)
            obtain rfl : j = n := by omega
            rw [hal, show x_sm (x_tg (x_tF s) (x_tW s) m k) j = nI a from a2]
            exact nI_ne0 (a3 hk) (by omega)) ?_
        refine lv_iload hx hb dX8_parted_104 (lv_at hl 1 rfl) ?_
        refine lv_iadd hx hb dX8_parted_106 ?_
        refine lv_aload_n hx hb dX8_parted_107 rfl (lv_at hl 5 rfl) ?_
        refine x_get F X (v := .ref b6) (C := RX8) (T := TX8) (N := 14) (ci := 8) in_X8 0 rfl rfl 7 (by decide) mw_2 rfl dX8_parted_108 ?_
        refine lv_iload_n hx hb dX8_parted_111 rfl (lv_at hl 4 rfl) ?_
        refine x_iald F X (v := (fo (pr k))) (n := 20) (f := fo) 6 rfl (vp_in_nI (by omega) (by omega)) (x_cl (by omega)) dX8_parted_112 ?_
        refine x_cSi F X (gc := []) (gr := [mW q b0 b1 b2 b3 b4 b5 b6 b7 b8 s p sl sv pd fo to ou kn ln mn la op wr]) (xp_idx (n := 1) [0] (by decide +kernel) rfl rfl) (c_X8_less l D q ((((fo (pr k)) * (s (33 + 5 * k + 1))) / al) + mo) (fo (pr k)) ) (va_cwS 2 F.1.2.2.2.2 gX8_parted_X8_less rfl rfl rfl (by decide +kernel) ⟨Nat.le_of_ble_eq_true rfl, Nat.le_of_ble_eq_true rfl⟩) rfl rfl hl.1 ⟨Nat.le_of_ble_eq_true rfl, Nat.le_of_ble_eq_true rfl⟩ (Nat.le_of_ble_eq_true rfl) dX8_parted_113 (fun r_113 g1 H locs hp X => ?_)
        obtain ⟨rfl, rfl⟩ := hp
        have X : xS D A9 s9 [mW q b0 b1 b2 b3 b4 b5 b6 b7 b8 s p sl sv pd fo to ou kn ln mn la op wr] H locs := X
        refine hret _ _ _ _ _ _ ?_ X dX8_parted_116
        obtain ⟨a, a1, a2, a3⟩ := x_tg_pos (F := x_tF s) (m := m) hwd hm n (Nat.le_refl n)
        obtain rfl : j = n := by omega
        have e2 : al = nI a := hal.trans a2
        refine ⟨rfl, ?_⟩
        unfold x_sh
        dsimp only
        rw [← hal, ← hmo, e2, x_quo_n _ (a3 hk) (by omega)]
        rfl
      · have c_32 : j < n := Nat.not_le.mp (fun h => c_32 ((nI_leI (a := n) (b := j) (by omega) (by omega)).mpr h))
        refine lv_aload_n hx hb dX8_parted_35 rfl (lv_at hl 5 rfl) ?_
        refine lv_iload hx hb dX8_parted_36 (lv_at hl 0 rfl) ?_
        refine lv_iconst (v := 0) hx hb dX8_parted_38 (by decide) ?_
        refine x_cVi F X (gc := [mW q b0 b1 b2 b3 b4 b5 b6 b7 b8 s p sl sv pd fo to ou kn ln mn la op wr]) (gr := []) (xp_idx (n := 1) [0] (by decide +kernel) rfl rfl) (c_X8_its l D q b0 b1 b2 b3 b4 b5 b6 b7 b8 s p sl sv pd fo to ou kn ln mn la op wr j 0 (by first | assumption | omega) (by first | assumption | omega)) (cwV 2 F.1.2.2.2.2 gX8_parted_X8_its rfl rfl rfl (by decide +kernel) ⟨Nat.le_of_ble_eq_true rfl, Nat.le_of_ble_eq_true rfl⟩) rfl rfl (r0 := 0) (ci := 8) (T := TX8) (N := 14) rfl rfl hl.1 ⟨Nat.le_of_ble_eq_true rfl, Nat.le_of_ble_eq_true rfl⟩ (Nat.le_of_ble_eq_true rfl) dX8_parted_39 (fun r_39 g1 H locs hp X => ?_)
        obtain ⟨rfl, rfl⟩ := hp
        have X : xS D A9 s9 [mW q b0 b1 b2 b3 b4 b5 b6 b7 b8 s p sl sv pd fo to ou kn ln mn la op wr] H locs := X
        refine lv_iload_n hx hb dX8_parted_42 rfl (lv_at hl 4 rfl) ?_
        refine lv_icmp_ne (tgt := 86) hx hb dX8_parted_43 (by decide) (fun c_43 => ?_) (fun c_43 => ?_)
        · refine lv_iinc (v := (nI (j + 1))) (lv' := [(7, .int (nI (j + 1))), (6, .int mo), (5, .int al), (4, .int (s (33 + 5 * k + 1))), (3, .int (nI (pr k))), (0, .ref b0), (1, .int (nI k)), (2, .int m)]) hx hb dX8_parted_86 hl (k := 0) rfl (nI_add j 1) (by decide) rfl (fun ls hl => ?_)
          refine lv_goto (tgt := 24) hx hb dX8_parted_89 (by decide) ?_
          exact ih_24 (j + 1) _ _ _ _ _ X (lv_sub hl [0, 1, 2, 3, 4, 5, 6, 7] rfl) (by omega) (by omega) (by omega) (by rw [hal]; exact (x_sm_z (if_neg (fun h => c_43 (h.2.trans (hpr k hk1 hk).1)))).symm) (by exact x_sm5_z hmo (if_neg (fun h => c_43 (h.1.2.trans (hpr k hk1 hk).1))))
        · refine lv_iload hx hb dX8_parted_46 (lv_at hl 0 rfl) ?_
          refine lv_iload_n hx hb dX8_parted_48 rfl (lv_at hl 7 rfl) ?_
          refine lv_icmp_eq (tgt := 86) hx hb dX8_parted_49 (by decide) (fun c_49 => ?_) (fun c_49 => ?_)
          · refine lv_iinc (v := (nI (j + 1))) (lv' := [(7, .int (nI (j + 1))), (6, .int mo), (5, .int al), (4, .int (s (33 + 5 * k + 1))), (3, .int (nI (pr k))), (0, .ref b0), (1, .int (nI k)), (2, .int m)]) hx hb dX8_parted_86 hl (k := 0) rfl (nI_add j 1) (by decide) rfl (fun ls hl => ?_)
            refine lv_goto (tgt := 24) hx hb dX8_parted_89 (by decide) ?_
            exact ih_24 (j + 1) _ _ _ _ _ X (lv_sub hl [0, 1, 2, 3, 4, 5, 6, 7] rfl) (by omega) (by omega) (by omega) (by rw [hal]; exact (x_sm_z (if_neg (fun h => h.1 c_49))).symm) (by exact x_sm5_z hmo (if_neg (fun h => h.1.1 c_49)))
          · refine lv_iload hx hb dX8_parted_52 (lv_at hl 2 rfl) ?_
            refine lv_aload_n hx hb dX8_parted_54 rfl (lv_at hl 5 rfl) ?_
            refine lv_iload hx hb dX8_parted_55 (lv_at hl 0 rfl) ?_
            refine lv_iconst (v := 1) hx hb dX8_parted_57 (by decide) ?_
            refine x_cVi F X (gc := [mW q b0 b1 b2 b3 b4 b5 b6 b7 b8 s p sl sv pd fo to ou kn ln mn la op wr]) (gr := []) (xp_idx (n := 1) [0] (by decide +kernel) rfl rfl) (c_X8_its l D q b0 b1 b2 b3 b4 b5 b6 b7 b8 s p sl sv pd fo to ou kn ln mn la op wr j 1 (by first | assumption | omega) (by first | assumption | omega)) (cwV 2 F.1.2.2.2.2 gX8_parted_X8_its rfl rfl rfl (by decide +kernel) ⟨Nat.le_of_ble_eq_true rfl, Nat.le_of_ble_eq_true rfl⟩) rfl rfl (r0 := 0) (ci := 8) (T := TX8) (N := 14) rfl rfl hl.1 ⟨Nat.le_of_ble_eq_true rfl, Nat.le_of_ble_eq_true rfl⟩ (Nat.le_of_ble_eq_true rfl) dX8_parted_58 (fun r_58 g1 H locs hp X => ?_)
            obtain ⟨rfl, rfl⟩ := hp
            have X : xS D A9 s9 [mW q b0 b1 b2 b3 b4 b5 b6 b7 b8 s p sl sv pd fo to ou kn ln mn la op wr] H locs := X
            refine lv_iadd hx hb dX8_parted_61 ?_
            refine lv_istore (lv' := [(5, .int (al + (s (33 + 5 * j + 1)))), (7, .int (nI j)), (6, .int mo), (4, .int (s (33 + 5 * k + 1))), (3, .int (nI (pr k))), (0, .ref b0), (1, .int (nI k)), (2, .int m)]) hx hb dX8_parted_62 hl (by decide) rfl (fun ls hl => ?_)
            refine lv_iload hx hb dX8_parted_64 (lv_at hl 2 rfl) ?_
            refine lv_aload_n hx hb dX8_parted_66 rfl (lv_at hl 5 rfl) ?_
            refine lv_iload hx hb dX8_parted_67 (lv_at hl 1 rfl) ?_
            refine lv_iconst (v := 1) hx hb dX8_parted_69 (by decide) ?_
            refine x_cVi F X (gc := [mW q b0 b1 b2 b3 b4 b5 b6 b7 b8 s p sl sv pd fo to ou kn ln mn la op wr]) (gr := []) (xp_idx (n := 1) [0] (by decide +kernel) rfl rfl) (c_X8_its l D q b0 b1 b2 b3 b4 b5 b6 b7 b8 s p sl sv pd fo to ou kn ln mn la op wr j 1 (by first | assumption | omega) (by first | assumption | omega)) (cwV 2 F.1.2.2.2.2 gX8_parted_X8_its rfl rfl rfl (by decide +kernel) ⟨Nat.le_of_ble_eq_true rfl, Nat.le_of_ble_eq_true rfl⟩) rfl rfl (r0 := 0) (ci := 8) (T := TX8) (N := 14) rfl rfl hl.1 ⟨Nat.le_of_ble_eq_true rfl, Nat.le_of_ble_eq_true rfl⟩ (Nat.le_of_ble_eq_true rfl) dX8_parted_70 (fun r_70 g1 H locs hp X => ?_)
            obtain ⟨rfl, rfl⟩ := hp
            have X : xS D A9 s9 [mW q b0 b1 b2 b3 b4 b5 b6 b7 b8 s p sl sv pd fo to ou kn ln mn la op wr] H locs := X
            refine lv_iload hx hb dX8_parted_73 (lv_at hl 3 rfl) ?_
            refine lv_icmp_ge (tgt := 82) hx hb dX8_parted_75 (by decide) (fun c_75 => ?_) (fun c_75 => ?_)
            · refine lv_iconst (v := 0) hx hb dX8_parted_82 (by decide) ?_
              refine lv_iadd hx hb dX8_parted_83 ?_
              refine lv_istore (lv' := [(6, .int (mo + 0)), (5, .int (al + (s (33 + 5 * j + 1)))), (7, .int (nI j)), (4, .int (s (33 + 5 * k + 1))), (3, .int (nI (pr k))), (0, .ref b0), (1, .int (nI k)), (2, .int m)]) hx hb dX8_parted_84 hl (by decide) rfl (fun ls hl => ?_)
              refine lv_iinc (v := (nI (j + 1))) (lv' := [(7, .int (nI (j + 1))), (6, .int (mo + 0)), (5, .int (al + (s (33 + 5 * j + 1)))), (4, .int (s (33 + 5 * k + 1))), (3, .int (nI (pr k))), (0, .ref b0), (1, .int (nI k)), (2, .int m)]) hx hb dX8_parted_86 hl (k := 2) rfl (nI_add j 1) (by decide) rfl (fun ls hl => ?_)
              refine lv_goto (tgt := 24) hx hb dX8_parted_89 (by decide) ?_
              exact ih_24 (j + 1) _ _ _ _ _ X (lv_sub hl [0, 1, 2, 3, 4, 5, 6, 7] rfl) (by omega) (by omega) (by omega) (by rw [hal]; exact (x_sm_p (if_pos ⟨c_49, c_43.trans (hpr k hk1 hk).1.symm⟩)).symm) (by rw [x_add0]; exact x_sm5_z hmo (if_neg (fun h => absurd c_75 (Int32.not_le.mpr h.2))))
            · refine lv_iconst (v := 5) hx hb dX8_parted_78 (by decide) ?_
              refine lv_goto (tgt := 83) hx hb dX8_parted_79 (by decide) ?_
              refine lv_iadd hx hb dX8_parted_83 ?_
              refine lv_istore (lv' := [(6, .int (mo + 5)), (5, .int (al + (s (33 + 5 * j + 1)))), (7, .int (nI j)), (4, .int (s (33 + 5 * k + 1))), (3, .int (nI (pr k))), (0, .ref b0), (1, .int (nI k)), (2, .int m)]) hx hb dX8_parted_84 hl (by decide) rfl (fun ls hl => ?_)
              refine lv_iinc (v := (nI (j + 1))) (lv' := [(7, .int (nI (j + 1))), (6, .int (mo + 5)), (5, .int (al + (s (33 + 5 * j + 1)))), (4, .int (s (33 + 5 * k + 1))), (3, .int (nI (pr k))), (0, .ref b0), (1, .int (nI k)), (2, .int m)]) hx hb dX8_parted_86 hl (k := 2) rfl (nI_add j 1) (by decide) rfl (fun ls hl => ?_)
              refine lv_goto (tgt := 24) hx hb dX8_parted_89 (by decide) ?_
              exact ih_24 (j + 1) _ _ _ _ _ X (lv_sub hl [0, 1, 2, 3, 4, 5, 6, 7] rfl) (by omega) (by omega) (by omega) (by rw [hal]; exact (x_sm_p (if_pos ⟨c_49, c_43.trans (hpr k hk1 hk).1.symm⟩)).symm) (by exact x_sm5_p hmo (if_pos ⟨⟨c_49, c_43.trans (hpr k hk1 hk).1.symm⟩, Int32.not_le.mp c_75⟩))
  exact L_24 (n) 1 _ _ _ _ _ X (lv_sub hl [0, 1, 2, 3, 4, 5, 6, 7] rfl) (by omega) (by omega) (by omega) (by exact (x_sm_1 (if_neg (fun h => absurd h.2 (by unfold x_tF; rw [show 33 + 5 * 0 + 0 = 33 from rfl, hs33, (hpr k hk1 hk).1]; exact x_m1 _ (by have := (hpr k hk1 hk).2; omega))))).symm) (by rw [x_sm_1 (if_neg (fun h => absurd h.1.2 (by unfold x_tF; rw [show 33 + 5 * 0 + 0 = 33 from rfl, hs33, (hpr k hk1 hk).1]; exact x_m1 _ (by have := (hpr k hk1 hk).2; omega))))]; rfl)

set_option maxHeartbeats 1000000 in
set_option maxRecDepth 100000 in
theorem c_X8_blows (l : Launch) (D : va_G) (q : xQ) (b0 : Nat) (b1 : Nat) (b2 : Nat) (b3 : Nat) (b4 : Nat) (b5 : Nat) (b6 : Nat) (b7 : Nat) (b8 : Nat) (s : Nat → Int32) (p : Nat → Int32) (sl : Nat → Int32) (sv : Nat → Int32) (pd : Nat → Int32) (fo : Nat → Int32) (to : Nat → Int32) (ou : Nat → Int32) (kn : Int32) (ln : Int32) (mn : Int32) (la : Int32) (op : Int32) (wr : Int32) (n : Nat) (pr : Nat → Nat) (f : Int32) (hok : x_ok s n pr) : xMv l yX8_blows wsX8_blows { frames := 3, cells := 0, slots := 0, locals := 70 } D q [.ref b0, .int f] [mW q b0 b1 b2 b3 b4 b5 b6 b7 b8 s p sl sv pd fo to ou kn ln mn la op wr] (fun gw => ∃ (fo2 : Nat → Int32), gw = [mW q b0 b1 b2 b3 b4 b5 b6 b7 b8 s p sl sv pd fo2 to ou kn ln mn la op wr] ∧ (∀ k, k < n → fo2 k = x_FT s pr n (-6) f k)) := by
  refine xMv_of (cc := cX8_blows) (maxL := 3) (by decide) rfl (Nat.le_of_ble_eq_true rfl) ?_
  intro p9 e9 s9 m9 a9 below meth c9 A9 Z9 ls H locs F hini X hl hret
  have hx := F.1.1
  have hb := F.1.2.1
  have in_X8 : ∀ w ∈ wsX80, w ∈ wsX8_blows := by decide +kernel
  have mw_0 : Cond.fieldLink RX8 26 "HatWindsModel" "forces" "[I" ∈ wsX8_blows := by decide +kernel
  have mw_1 : Cond.fieldLink RX8 7 "HatWindsModel" "s" "[I" ∈ wsX8_blows := by decide +kernel
  have mw_2 : Cond.initialized RX8 ∈ wsX8_blows := by decide +kernel
  have hl : lv_has ls 3 [(0, .ref b0), (1, .int f)] := hl
  have hok0 := hok
  obtain ⟨hn, hn1, hs5, hs33, hpr, hwd, hcl, hsm, hpe, hst, hle, hhr, hcn⟩ := hok0
  refine lv_aload_n hx hb dX8_blows_0 rfl (lv_at hl 0 rfl) ?_
  refine x_get F X (v := .ref b6) (C := RX8) (T := TX8) (N := 14) (ci := 8) in_X8 0 rfl rfl 7 (by decide) mw_0 rfl dX8_blows_1 ?_
  refine lv_iconst (v := 0) hx hb dX8_blows_4 (by decide) ?_
  refine lv_iload_n hx hb dX8_blows_5 rfl (lv_at hl 1 rfl) ?_
  refine x_iast F X (gs' := [mW q b0 b1 b2 b3 b4 b5 b6 b7 b8 s p sl sv pd (upd fo 0 f) to ou kn ln mn la op wr]) (n := 20) (f := fo) (k := 0) 6 rfl (show vp_in (nI 0) _ from vp_in_nI (by omega) (by omega)) rfl dX8_blows_6 rfl (fun H locs X => ?_)
  refine lv_iconst (v := 1) hx hb dX8_blows_7 (by decide) ?_
  refine lv_istore_n (lv' := [(2, .int 1), (0, .ref b0), (1, .int f)]) hx hb dX8_blows_8 rfl hl (by decide) rfl (fun ls hl => ?_)
  have L_9 : ∀ (nn : Nat) (i : Nat) (w : Nat → Int32) (H : Heap) (locs : List Loc) (ls : Array Slot), xS D A9 s9 [mW q b0 b1 b2 b3 b4 b5 b6 b7 b8 s p sl sv pd w to ou kn ln mn la op wr] H locs → lv_has ls 3 [(2, .int (nI i)), (0, .ref b0), (1, .int f)] → (n < i + nn) → (i ≤ n) → (1 ≤ i) → (∀ k, k < i → w k = x_FT s pr n (-6) f k) → W p9 l e9 { frames := 3, cells := 0, slots := 0, locals := 70 } s9 m9 a9 below meth c9 H locs 0 0 Z9 (F0 m9 9 ls []) := by
    intro nn
    induction nn with
    | zero => intro i w H locs ls X hl hfuel hi hi1 hw; exact absurd hfuel (by omega)
    | succ nn ih_9 =>
      intro i w H locs ls X hl hfuel hi hi1 hw
      refine lv_iload_n hx hb dX8_blows_9 rfl (lv_at hl 0 rfl) ?_
      refine lv_aload_n hx hb dX8_blows_10 rfl (lv_at hl 1 rfl) ?_
      refine x_get F X (v := .ref b1) (C := RX8) (T := TX8) (N := 14) (ci := 8) in_X8 0 rfl rfl 0 (by decide) mw_1 rfl dX8_blows_11 ?_
      refine lv_iconst (v := 5) hx hb dX8_blows_14 (by decide) ?_
      refine x_iald F X (v := (s 5)) (n := 133) (f := s) 1 rfl (show vp_in (nI 5) _ from vp_in_nI (by omega) (by omega)) rfl dX8_blows_15 ?_
      refine x_i (y := (nI n)) (hs5) ?_
      refine lv_icmp_ge (tgt := 38) hx hb dX8_blows_16 (by decide) (fun c_16 => ?_) (fun c_16 => ?_)
      · have c_16 : n ≤ i := (nI_leI (a := n) (b := i) (by omega) (by omega)).mp c_16
        refine hret _ _ _ _ _ ?_ X dX8_blows_38
        obtain rfl : i = n := by omega
        exact ⟨_, rfl, hw⟩
      · have c_16 : i < n := Nat.not_le.mp (fun h => c_16 ((nI_leI (a := n) (b := i) (by omega) (by omega)).mpr h))
        refine lv_aload_n hx hb dX8_blows_19 rfl (lv_at hl 1 rfl) ?_
        refine x_get F X (v := .ref b6) (C := RX8) (T := TX8) (N := 14) (ci := 8) in_X8 0 rfl rfl 7 (by decide) mw_0 rfl dX8_blows_20 ?_
        refine lv_iload_n hx hb dX8_blows_23 rfl (lv_at hl 0 rfl) ?_
        refine lv_aload_n hx hb dX8_blows_24 rfl (lv_at hl 1 rfl) ?_
        refine lv_iload_n hx hb dX8_blows_25 rfl (lv_at hl 0 rfl) ?_
        refine lv_bipush (v := (-6)) hx hb dX8_blows_26 (by decide) ?_
        refine x_cVi F X (gc := [mW q b0 b1 b2 b3 b4 b5 b6 b7 b8 s p sl sv pd w to ou kn ln mn la op wr]) (gr := []) (xp_idx (n := 1) [0] (by decide +kernel) rfl rfl) (c_X8_parted l D q b0 b1 b2 b3 b4 b5 b6 b7 b8 s p sl sv pd w to ou kn ln mn la op wr n pr i (-6) (by first | assumption | omega) (by first | assumption | omega) (by first | assumption | omega) (by exact fun e => x_m6 i (by omega) e.symm)) (cwV 2 F.1.2.2.2.2 gX8_blows_X8_parted rfl rfl rfl (by decide +kernel) ⟨Nat.le_of_ble_eq_true rfl, Nat.le_of_ble_eq_true rfl⟩) rfl rfl (r0 := 0) (ci := 8) (T := TX8) (N := 14) rfl rfl hl.1 ⟨Nat.le_of_ble_eq_true rfl, Nat.le_of_ble_eq_true rfl⟩ (Nat.le_of_ble_eq_true rfl) dX8_blows_28 (fun r_28 g1 H locs hp X => ?_)
        obtain ⟨rfl, rfl⟩ := hp
        have X : xS D A9 s9 [mW q b0 b1 b2 b3 b4 b5 b6 b7 b8 s p sl sv pd w to ou kn ln mn la op wr] H locs := X
        refine x_iast F X (gs' := [mW q b0 b1 b2 b3 b4 b5 b6 b7 b8 s p sl sv pd (upd w i (x_sh (fun i => x_sm (x_tg (x_tF s) (x_tW s) (-6) i) n) (fun i => x_sm (x_nr (x_tF s) (x_tW s) (-6) i) n) (x_tW s) i (w (pr i)))) to ou kn ln mn la op wr]) (n := 20) (f := w) (k := i) 6 rfl (vp_in_nI (by omega) (by omega)) (nI_clamp (by omega)) dX8_blows_31 rfl (fun H locs X => ?_)
        refine lv_iinc (v := (nI (i + 1))) (lv' := [(2, .int (nI (i + 1))), (0, .ref b0), (1, .int f)]) hx hb dX8_blows_32 hl (k := 0) rfl (nI_add i 1) (by decide) rfl (fun ls hl => ?_)
        refine lv_goto (tgt := 9) hx hb dX8_blows_35 (by decide) ?_
        exact ih_9 (i + 1) _ _ _ _ X (lv_sub hl [0, 1, 2] rfl) (by omega) (by omega) (by omega) (by
            have hpi := (hpr i hi1 (by omega)).2
            intro k hk
            by_cases e : k = i
            · subst e
              rw [pk_us, hw _ hpi]
              exact (x_FT_s s pr n (-6) f hi1 hpi).symm
            · rw [pk_un e]; exact hw k (by omega))
  exact L_9 (n) 1 _ _ _ _ X (lv_sub hl [0, 1, 2] rfl) (by omega) (by omega) (by omega) (by
      intro k hk
      obtain rfl : k = 0 := by omega
      rw [pk_us]
      exact (x_FT_0 s pr n (-6) f).symm)

set_option maxHeartbeats 1000000 in
set_option maxRecDepth 100000 in
theorem c_X8_gustOf (l : Launch) (D : va_G) (q : xQ) (b0 : Nat) (b1 : Nat) (b2 : Nat) (b3 : Nat) (b4 : Nat) (b5 : Nat) (b6 : Nat) (b7 : Nat) (b8 : Nat) (s : Nat → Int32) (p : Nat → Int32) (sl : Nat → Int32) (sv : Nat → Int32) (pd : Nat → Int32) (fo : Nat → Int32) (to : Nat → Int32) (ou : Nat → Int32) (kn : Int32) (ln : Int32) (mn : Int32) (la : Int32) (op : Int32) (wr : Int32) (k : Nat) (hk : k < 20) : xMi l yX8_gustOf wsX8_gustOf { frames := 0, cells := 0, slots := 0, locals := 0 } D q [.ref b0, .int (nI k)] [mW q b0 b1 b2 b3 b4 b5 b6 b7 b8 s p sl sv pd fo to ou kn ln mn la op wr] (fun r gw => gw = [mW q b0 b1 b2 b3 b4 b5 b6 b7 b8 s p sl sv pd fo to ou kn ln mn la op wr] ∧ r = x_gu s (fo k)) := by
  refine xMi_of (cc := cX8_gustOf) (maxL := 2) (rt := .int) (by decide) rfl (Nat.le_of_ble_eq_true rfl) (fun _ _ _ => rfl) ?_
  intro p9 e9 s9 m9 a9 below meth c9 A9 Z9 ls H locs F X hl hret
  have hx := F.1.1
  have hb := F.1.2.1
  have in_X8 : ∀ w ∈ wsX80, w ∈ wsX8_gustOf := by decide +kernel
  have mw_0 : Cond.fieldLink RX8 26 "HatWindsModel" "forces" "[I" ∈ wsX8_gustOf := by decide +kernel
  have mw_1 : Cond.fieldLink RX8 7 "HatWindsModel" "s" "[I" ∈ wsX8_gustOf := by decide +kernel
  have hl : lv_has ls 2 [(0, .ref b0), (1, .int (nI k))] := hl
  refine lv_aload_n hx hb dX8_gustOf_0 rfl (lv_at hl 0 rfl) ?_
  refine x_get F X (v := .ref b6) (C := RX8) (T := TX8) (N := 14) (ci := 8) in_X8 0 rfl rfl 7 (by decide) mw_0 rfl dX8_gustOf_1 ?_
  refine lv_iload_n hx hb dX8_gustOf_4 rfl (lv_at hl 1 rfl) ?_
  refine x_iald F X (v := (fo k)) (n := 20) (f := fo) 6 rfl (vp_in_nI (by omega) (by omega)) (x_cl (by omega)) dX8_gustOf_5 ?_
  refine lv_aload_n hx hb dX8_gustOf_6 rfl (lv_at hl 0 rfl) ?_
  refine x_get F X (v := .ref b6) (C := RX8) (T := TX8) (N := 14) (ci := 8) in_X8 0 rfl rfl 7 (by decide) mw_0 rfl dX8_gustOf_7 ?_
  refine lv_iload_n hx hb dX8_gustOf_10 rfl (lv_at hl 1 rfl) ?_
  refine x_iald F X (v := (fo k)) (n := 20) (f := fo) 6 rfl (vp_in_nI (by omega) (by omega)) (x_cl (by omega)) dX8_gustOf_11 ?_
  refine lv_aload_n hx hb dX8_gustOf_12 rfl (lv_at hl 0 rfl) ?_
  refine x_get F X (v := .ref b1) (C := RX8) (T := TX8) (N := 14) (ci := 8) in_X8 0 rfl rfl 0 (by decide) mw_1 rfl dX8_gustOf_13 ?_
  refine lv_iconst (v := 2) hx hb dX8_gustOf_16 (by decide) ?_
  refine x_iald F X (v := (s 2)) (n := 133) (f := s) 1 rfl (show vp_in (nI 2) _ from vp_in_nI (by omega) (by omega)) rfl dX8_gustOf_17 ?_
  refine lv_imul hx hb dX8_gustOf_18 ?_
  refine lv_bipush (v := 100) hx hb dX8_gustOf_19 (by decide) ?_
  refine lv_idiv hx hb dX8_gustOf_21 (by decide) ?_
  refine lv_iadd hx hb dX8_gustOf_22 ?_
  exact hret _ _ _ _ _ _ (by exact ⟨rfl, rfl⟩) X dX8_gustOf_23

set_option maxHeartbeats 1000000 in
set_option maxRecDepth 100000 in
theorem c_X8_hatsOf (l : Launch) (D : va_G) (q : xQ) (b0 : Nat) (b1 : Nat) (b2 : Nat) (b3 : Nat) (b4 : Nat) (b5 : Nat) (b6 : Nat) (b7 : Nat) (b8 : Nat) (s : Nat → Int32) (p : Nat → Int32) (sl : Nat → Int32) (sv : Nat → Int32) (pd : Nat → Int32) (fo : Nat → Int32) (to : Nat → Int32) (ou : Nat → Int32) (kn : Int32) (ln : Int32) (mn : Int32) (la : Int32) (op : Int32) (wr : Int32) (k : Nat) (hk : k < 20) : xMi l yX8_hatsOf wsX8_hatsOf { frames := 2, cells := 0, slots := 0, locals := 43 } D q [.ref b0, .int (nI k)] [mW q b0 b1 b2 b3 b4 b5 b6 b7 b8 s p sl sv pd fo to ou kn ln mn la op wr] (fun r gw => gw = [mW q b0 b1 b2 b3 b4 b5 b6 b7 b8 s p sl sv pd fo to ou kn ln mn la op wr] ∧ r = x_hc s fo k) := by
  refine xMi_of (cc := cX8_hatsOf) (maxL := 3) (rt := .int) (by decide) rfl (Nat.le_of_ble_eq_true rfl) (fun _ _ _ => rfl) ?_
  intro p9 e9 s9 m9 a9 below meth c9 A9 Z9 ls H locs F X hl hret
  have hx := F.1.1
  have hb := F.1.2.1
  have in_X8 : ∀ w ∈ wsX80, w ∈ wsX8_hatsOf := by decide +kernel
  have mw_0 : Cond.initialized RX8 ∈ wsX8_hatsOf := by decide +kernel
  have mw_1 : Cond.fieldLink RX8 7 "HatWindsModel" "s" "[I" ∈ wsX8_hatsOf := by decide +kernel
  have hl : lv_has ls 3 [(0, .ref b0), (1, .int (nI k))] := hl
  refine lv_aload_n hx hb dX8_hatsOf_0 rfl (lv_at hl 0 rfl) ?_
  refine lv_iload_n hx hb dX8_hatsOf_1 rfl (lv_at hl 1 rfl) ?_
  refine x_cVi F X (gc := [mW q b0 b1 b2 b3 b4 b5 b6 b7 b8 s p sl sv pd fo to ou kn ln mn la op wr]) (gr := []) (xp_idx (n := 1) [0] (by decide +kernel) rfl rfl) (c_X8_gustOf l D q b0 b1 b2 b3 b4 b5 b6 b7 b8 s p sl sv pd fo to ou kn ln mn la op wr k (by first | assumption | omega)) (cwV 1 F.1.2.2.2.2 gX8_hatsOf_X8_gustOf rfl rfl rfl (by decide +kernel) ⟨Nat.le_of_ble_eq_true rfl, Nat.le_of_ble_eq_true rfl⟩) rfl rfl (r0 := 0) (ci := 8) (T := TX8) (N := 14) rfl rfl hl.1 ⟨Nat.le_of_ble_eq_true rfl, Nat.le_of_ble_eq_true rfl⟩ (Nat.le_of_ble_eq_true rfl) dX8_hatsOf_2 (fun r_2 g1 H locs hp X => ?_)
  obtain ⟨rfl, rfl⟩ := hp
  have X : xS D A9 s9 [mW q b0 b1 b2 b3 b4 b5 b6 b7 b8 s p sl sv pd fo to ou kn ln mn la op wr] H locs := X
  refine lv_aload_n hx hb dX8_hatsOf_5 rfl (lv_at hl 0 rfl) ?_
  refine x_get F X (v := .ref b1) (C := RX8) (T := TX8) (N := 14) (ci := 8) in_X8 0 rfl rfl 0 (by decide) mw_1 rfl dX8_hatsOf_6 ?_
  refine lv_iconst (v := 1) hx hb dX8_hatsOf_9 (by decide) ?_
  refine x_iald F X (v := (s 1)) (n := 133) (f := s) 1 rfl (show vp_in (nI 1) _ from vp_in_nI (by omega) (by omega)) rfl dX8_hatsOf_10 ?_
  refine lv_isub hx hb dX8_hatsOf_11 ?_
  refine lv_istore_n (lv' := [(2, .int ((x_gu s (fo k)) - (s 1))), (0, .ref b0), (1, .int (nI k))]) hx hb dX8_hatsOf_12 rfl hl (by decide) rfl (fun ls hl => ?_)
  refine lv_iload_n hx hb dX8_hatsOf_13 rfl (lv_at hl 0 rfl) ?_
  refine lv_if_le (tgt := 34) hx hb dX8_hatsOf_14 (by decide) (fun c_14 => ?_) (fun c_14 => ?_)
  · refine lv_iconst (v := 0) hx hb dX8_hatsOf_34 (by decide) ?_
    exact hret _ _ _ _ _ _ (by exact ⟨rfl, (if_neg (Int32.not_lt.mpr c_14)).symm⟩) X dX8_hatsOf_35
  · refine lv_iload_n hx hb dX8_hatsOf_17 rfl (lv_at hl 0 rfl) ?_
    refine lv_iconst (v := 4) hx hb dX8_hatsOf_18 (by decide) ?_
    refine lv_idiv hx hb dX8_hatsOf_19 (by decide) ?_
    refine lv_iconst (v := 1) hx hb dX8_hatsOf_20 (by decide) ?_
    refine lv_iadd hx hb dX8_hatsOf_21 ?_
    refine lv_aload_n hx hb dX8_hatsOf_22 rfl (lv_at hl 1 rfl) ?_
    refine lv_iload_n hx hb dX8_hatsOf_23 rfl (lv_at hl 2 rfl) ?_
    refine lv_iconst (v := 4) hx hb dX8_hatsOf_24 (by decide) ?_
    refine x_cVi F X (gc := [mW q b0 b1 b2 b3 b4 b5 b6 b7 b8 s p sl sv pd fo to ou kn ln mn la op wr]) (gr := []) (xp_idx (n := 1) [0] (by decide +kernel) rfl rfl) (c_X8_its l D q b0 b1 b2 b3 b4 b5 b6 b7 b8 s p sl sv pd fo to ou kn ln mn la op wr k 4 (by first | assumption | omega) (by first | assumption | omega)) (cwV 2 F.1.2.2.2.2 gX8_hatsOf_X8_its rfl rfl rfl (by decide +kernel) ⟨Nat.le_of_ble_eq_true rfl, Nat.le_of_ble_eq_true rfl⟩) rfl rfl (r0 := 0) (ci := 8) (T := TX8) (N := 14) rfl rfl hl.1 ⟨Nat.le_of_ble_eq_true rfl, Nat.le_of_ble_eq_true rfl⟩ (Nat.le_of_ble_eq_true rfl) dX8_hatsOf_25 (fun r_25 g1 H locs hp X => ?_)
    obtain ⟨rfl, rfl⟩ := hp
    have X : xS D A9 s9 [mW q b0 b1 b2 b3 b4 b5 b6 b7 b8 s p sl sv pd fo to ou kn ln mn la op wr] H locs := X
    refine x_cSi F X (gc := []) (gr := [mW q b0 b1 b2 b3 b4 b5 b6 b7 b8 s p sl sv pd fo to ou kn ln mn la op wr]) (xp_idx (n := 1) [0] (by decide +kernel) rfl rfl) (c_X8_less l D q ((((x_gu s (fo k)) - (s 1)) / 4) + 1) (s (33 + 5 * k + 4)) ) (va_cwS 2 F.1.2.2.2.2 gX8_hatsOf_X8_less rfl rfl rfl (by decide +kernel) ⟨Nat.le_of_ble_eq_true rfl, Nat.le_of_ble_eq_true rfl⟩) rfl rfl hl.1 ⟨Nat.le_of_ble_eq_true rfl, Nat.le_of_ble_eq_true rfl⟩ (Nat.le_of_ble_eq_true rfl) dX8_hatsOf_28 (fun r_28 g1 H locs hp X => ?_)
    obtain ⟨rfl, rfl⟩ := hp
    have X : xS D A9 s9 [mW q b0 b1 b2 b3 b4 b5 b6 b7 b8 s p sl sv pd fo to ou kn ln mn la op wr] H locs := X
    refine lv_goto (tgt := 35) hx hb dX8_hatsOf_31 (by decide) ?_
    exact hret _ _ _ _ _ _ (by exact ⟨rfl, (if_pos (Int32.not_le.mp c_14)).symm⟩) X dX8_hatsOf_35

set_option maxHeartbeats 1000000 in
set_option maxRecDepth 100000 in
theorem c_X8_hatsBy (l : Launch) (D : va_G) (q : xQ) (b0 : Nat) (b1 : Nat) (b2 : Nat) (b3 : Nat) (b4 : Nat) (b5 : Nat) (b6 : Nat) (b7 : Nat) (b8 : Nat) (s : Nat → Int32) (p : Nat → Int32) (sl : Nat → Int32) (sv : Nat → Int32) (pd : Nat → Int32) (fo : Nat → Int32) (to : Nat → Int32) (ou : Nat → Int32) (kn : Int32) (ln : Int32) (mn : Int32) (la : Int32) (op : Int32) (wr : Int32) (n : Nat) (pr : Nat → Nat) (f : Int32) (hok : x_ok s n pr) : xMi l yX8_hatsBy wsX8_hatsBy { frames := 4, cells := 0, slots := 0, locals := 92 } D q [.ref b0, .int f] [mW q b0 b1 b2 b3 b4 b5 b6 b7 b8 s p sl sv pd fo to ou kn ln mn la op wr] (fun r gw => ∃ (fo2 : Nat → Int32), gw = [mW q b0 b1 b2 b3 b4 b5 b6 b7 b8 s p sl sv pd fo2 to ou kn ln mn la op wr] ∧ r = x_hb s pr n f ∧ (∀ k, k < n → fo2 k = x_FT s pr n (-6) f k)) := by
  refine xMi_of (cc := cX8_hatsBy) (maxL := 4) (rt := .int) (by decide) rfl (Nat.le_of_ble_eq_true rfl) (fun _ _ _ => rfl) ?_
  intro p9 e9 s9 m9 a9 below meth c9 A9 Z9 ls H locs F X hl hret
  have hx := F.1.1
  have hb := F.1.2.1
  have in_X8 : ∀ w ∈ wsX80, w ∈ wsX8_hatsBy := by decide +kernel
  have mw_0 : Cond.initialized RX8 ∈ wsX8_hatsBy := by decide +kernel
  have mw_1 : Cond.fieldLink RX8 7 "HatWindsModel" "s" "[I" ∈ wsX8_hatsBy := by decide +kernel
  have hl : lv_has ls 4 [(0, .ref b0), (1, .int f)] := hl
  have hok0 := hok
  obtain ⟨hn, hn1, hs5, hs33, hpr, hwd, hcl, hsm, hpe, hst, hle, hhr, hcn⟩ := hok0
  refine lv_aload_n hx hb dX8_hatsBy_0 rfl (lv_at hl 0 rfl) ?_
  refine lv_iload_n hx hb dX8_hatsBy_1 rfl (lv_at hl 1 rfl) ?_
  refine x_cVv F X (gc := [mW q b0 b1 b2 b3 b4 b5 b6 b7 b8 s p sl sv pd fo to ou kn ln mn la op wr]) (gr := []) (xp_idx (n := 1) [0] (by decide +kernel) rfl rfl) (c_X8_blows l D q b0 b1 b2 b3 b4 b5 b6 b7 b8 s p sl sv pd fo to ou kn ln mn la op wr n pr f (by first | assumption | omega)) (cwV 1 F.1.2.2.2.2 gX8_hatsBy_X8_blows rfl rfl rfl (by decide +kernel) ⟨Nat.le_of_ble_eq_true rfl, Nat.le_of_ble_eq_true rfl⟩) rfl rfl (r0 := 0) (ci := 8) (T := TX8) (N := 14) rfl rfl hl.1 ⟨Nat.le_of_ble_eq_true rfl, Nat.le_of_ble_eq_true rfl⟩ (Nat.le_of_ble_eq_true rfl) dX8_hatsBy_2 (fun g1 H locs hp X => ?_)
  obtain ⟨fo2, rfl, hfo2⟩ := hp
  have X : xS D A9 s9 [mW q b0 b1 b2 b3 b4 b5 b6 b7 b8 s p sl sv pd fo2 to ou kn ln mn la op wr] H locs := X
  refine lv_iconst (v := 0) hx hb dX8_hatsBy_5 (by decide) ?_
  refine lv_istore_n (lv' := [(2, .int 0), (0, .ref b0), (1, .int f)]) hx hb dX8_hatsBy_6 rfl hl (by decide) rfl (fun ls hl => ?_)
  refine lv_iconst (v := 0) hx hb dX8_hatsBy_7 (by decide) ?_
  refine lv_istore_n (lv' := [(3, .int 0), (2, .int 0), (0, .ref b0), (1, .int f)]) hx hb dX8_hatsBy_8 rfl hl (by decide) rfl (fun ls hl => ?_)
  have L_9 : ∀ (nn : Nat) (j : Nat) (t : Int32) (H : Heap) (locs : List Loc) (ls : Array Slot), xS D A9 s9 [mW q b0 b1 b2 b3 b4 b5 b6 b7 b8 s p sl sv pd fo2 to ou kn ln mn la op wr] H locs → lv_has ls 4 [(3, .int (nI j)), (2, .int t), (0, .ref b0), (1, .int f)] → (n < j + nn) → (j ≤ n) → (t = x_sm (x_hc s fo2) j) → W p9 l e9 { frames := 4, cells := 0, slots := 0, locals := 92 } s9 m9 a9 below meth c9 H locs 0 0 Z9 (F0 m9 9 ls []) := by
    intro nn
    induction nn with
    | zero => intro j t H locs ls X hl hfuel hj ht; exact absurd hfuel (by omega)
    | succ nn ih_9 =>
      intro j t H locs ls X hl hfuel hj ht
      refine lv_iload_n hx hb dX8_hatsBy_9 rfl (lv_at hl 0 rfl) ?_
      refine lv_aload_n hx hb dX8_hatsBy_10 rfl (lv_at hl 2 rfl) ?_
      refine x_get F X (v := .ref b1) (C := RX8) (T := TX8) (N := 14) (ci := 8) in_X8 0 rfl rfl 0 (by decide) mw_1 rfl dX8_hatsBy_11 ?_
      refine lv_iconst (v := 5) hx hb dX8_hatsBy_14 (by decide) ?_
      refine x_iald F X (v := (s 5)) (n := 133) (f := s) 1 rfl (show vp_in (nI 5) _ from vp_in_nI (by omega) (by omega)) rfl dX8_hatsBy_15 ?_
      refine x_i (y := (nI n)) (hs5) ?_
      refine lv_icmp_ge (tgt := 33) hx hb dX8_hatsBy_16 (by decide) (fun c_16 => ?_) (fun c_16 => ?_)
      · have c_16 : n ≤ j := (nI_leI (a := n) (b := j) (by omega) (by omega)).mp c_16
        refine lv_iload_n hx hb dX8_hatsBy_33 rfl (lv_at hl 1 rfl) ?_
        refine hret _ _ _ _ _ _ ?_ X dX8_hatsBy_34
        obtain rfl : j = n := by omega
        exact ⟨_, rfl, ht.trans (x_sm_cong (fun k hk => by unfold x_hc; rw [hfo2 k hk])), hfo2⟩
      · have c_16 : j < n := Nat.not_le.mp (fun h => c_16 ((nI_leI (a := n) (b := j) (by omega) (by omega)).mpr h))
        refine lv_iload_n hx hb dX8_hatsBy_19 rfl (lv_at hl 1 rfl) ?_
        refine lv_aload_n hx hb dX8_hatsBy_20 rfl (lv_at hl 2 rfl) ?_
        refine lv_iload_n hx hb dX8_hatsBy_21 rfl (lv_at hl 0 rfl) ?_
        refine x_cVi F X (gc := [mW q b0 b1 b2 b3 b4 b5 b6 b7 b8 s p sl sv pd fo2 to ou kn ln mn la op wr]) (gr := []) (xp_idx (n := 1) [0] (by decide +kernel) rfl rfl) (c_X8_hatsOf l D q b0 b1 b2 b3 b4 b5 b6 b7 b8 s p sl sv pd fo2 to ou kn ln mn la op wr j (by first | assumption | omega)) (cwV 1 F.1.2.2.2.2 gX8_hatsBy_X8_hatsOf rfl rfl rfl (by decide +kernel) ⟨Nat.le_of_ble_eq_true rfl, Nat.le_of_ble_eq_true rfl⟩) rfl rfl (r0 := 0) (ci := 8) (T := TX8) (N := 14) rfl rfl hl.1 ⟨Nat.le_of_ble_eq_true rfl, Nat.le_of_ble_eq_true rfl⟩ (Nat.le_of_ble_eq_true rfl) dX8_hatsBy_22 (fun r_22 g1 H locs hp X => ?_)
        obtain ⟨rfl, rfl⟩ := hp
        have X : xS D A9 s9 [mW q b0 b1 b2 b3 b4 b5 b6 b7 b8 s p sl sv pd fo2 to ou kn ln mn la op wr] H locs := X
        refine lv_iadd hx hb dX8_hatsBy_25 ?_
        refine lv_istore_n (lv' := [(2, .int (t + (x_hc s fo2 j))), (3, .int (nI j)), (0, .ref b0), (1, .int f)]) hx hb dX8_hatsBy_26 rfl hl (by decide) rfl (fun ls hl => ?_)
        refine lv_iinc (v := (nI (j + 1))) (lv' := [(3, .int (nI (j + 1))), (2, .int (t + (x_hc s fo2 j))), (0, .ref b0), (1, .int f)]) hx hb dX8_hatsBy_27 hl (k := 1) rfl (nI_add j 1) (by decide) rfl (fun ls hl => ?_)
        refine lv_goto (tgt := 9) hx hb dX8_hatsBy_30 (by decide) ?_
        exact ih_9 (j + 1) _ _ _ _ X (lv_sub hl [0, 1, 2, 3] rfl) (by omega) (by omega) (by rw [ht]; rfl)
  exact L_9 (n + 1) 0 _ _ _ _ X (lv_sub hl [0, 1, 2, 3] rfl) (by omega) (by omega) (by rfl)

set_option maxHeartbeats 1000000 in
set_option maxRecDepth 100000 in
theorem c_X8_stepsOf (l : Launch) (D : va_G) (q : xQ) (b0 : Nat) (b1 : Nat) (b2 : Nat) (b3 : Nat) (b4 : Nat) (b5 : Nat) (b6 : Nat) (b7 : Nat) (b8 : Nat) (s : Nat → Int32) (p : Nat → Int32) (sl : Nat → Int32) (sv : Nat → Int32) (pd : Nat → Int32) (fo : Nat → Int32) (to : Nat → Int32) (ou : Nat → Int32) (kn : Int32) (ln : Int32) (mn : Int32) (la : Int32) (op : Int32) (wr : Int32) (k : Nat) (hk : k < 20) (hz : 0 < s 0 * s (33 + 5 * k + 2)) : xMi l yX8_stepsOf wsX8_stepsOf { frames := 2, cells := 0, slots := 0, locals := 43 } D q [.ref b0, .int (nI k)] [mW q b0 b1 b2 b3 b4 b5 b6 b7 b8 s p sl sv pd fo to ou kn ln mn la op wr] (fun r gw => gw = [mW q b0 b1 b2 b3 b4 b5 b6 b7 b8 s p sl sv pd fo to ou kn ln mn la op wr] ∧ r = x_mn 12 (x_quo (fo k) (s 0 * x_tC s k))) := by
  refine xMi_of (cc := cX8_stepsOf) (maxL := 2) (rt := .int) (by decide) rfl (Nat.le_of_ble_eq_true rfl) (fun _ _ _ => rfl) ?_
  intro p9 e9 s9 m9 a9 below meth c9 A9 Z9 ls H locs F X hl hret
  have hx := F.1.1
  have hb := F.1.2.1
  have in_X8 : ∀ w ∈ wsX80, w ∈ wsX8_stepsOf := by decide +kernel
  have mw_0 : Cond.fieldLink RX8 26 "HatWindsModel" "forces" "[I" ∈ wsX8_stepsOf := by decide +kernel
  have mw_1 : Cond.fieldLink RX8 7 "HatWindsModel" "s" "[I" ∈ wsX8_stepsOf := by decide +kernel
  have mw_2 : Cond.initialized RX8 ∈ wsX8_stepsOf := by decide +kernel
  have hl : lv_has ls 2 [(0, .ref b0), (1, .int (nI k))] := hl
  refine lv_aload_n hx hb dX8_stepsOf_0 rfl (lv_at hl 0 rfl) ?_
  refine x_get F X (v := .ref b6) (C := RX8) (T := TX8) (N := 14) (ci := 8) in_X8 0 rfl rfl 7 (by decide) mw_0 rfl dX8_stepsOf_1 ?_
  refine lv_iload_n hx hb dX8_stepsOf_4 rfl (lv_at hl 1 rfl) ?_
  refine x_iald F X (v := (fo k)) (n := 20) (f := fo) 6 rfl (vp_in_nI (by omega) (by omega)) (x_cl (by omega)) dX8_stepsOf_5 ?_
  refine lv_aload_n hx hb dX8_stepsOf_6 rfl (lv_at hl 0 rfl) ?_
  refine x_get F X (v := .ref b1) (C := RX8) (T := TX8) (N := 14) (ci := 8) in_X8 0 rfl rfl 0 (by decide) mw_1 rfl dX8_stepsOf_7 ?_
  refine lv_iconst (v := 0) hx hb dX8_stepsOf_10 (by decide) ?_
  refine x_iald F X (v := (s 0)) (n := 133) (f := s) 1 rfl (show vp_in (nI 0) _ from vp_in_nI (by omega) (by omega)) rfl dX8_stepsOf_11 ?_
  refine lv_aload_n hx hb dX8_stepsOf_12 rfl (lv_at hl 0 rfl) ?_
  refine lv_iload_n hx hb dX8_stepsOf_13 rfl (lv_at hl 1 rfl) ?_
  refine lv_iconst (v := 2) hx hb dX8_stepsOf_14 (by decide) ?_
  refine x_cVi F X (gc := [mW q b0 b1 b2 b3 b4 b5 b6 b7 b8 s p sl sv pd fo to ou kn ln mn la op wr]) (gr := []) (xp_idx (n := 1) [0] (by decide +kernel) rfl rfl) (c_X8_its l D q b0 b1 b2 b3 b4 b5 b6 b7 b8 s p sl sv pd fo to ou kn ln mn la op wr k 2 (by first | assumption | omega) (by first | assumption | omega)) (cwV 2 F.1.2.2.2.2 gX8_stepsOf_X8_its rfl rfl rfl (by decide +kernel) ⟨Nat.le_of_ble_eq_true rfl, Nat.le_of_ble_eq_true rfl⟩) rfl rfl (r0 := 0) (ci := 8) (T := TX8) (N := 14) rfl rfl hl.1 ⟨Nat.le_of_ble_eq_true rfl, Nat.le_of_ble_eq_true rfl⟩ (Nat.le_of_ble_eq_true rfl) dX8_stepsOf_15 (fun r_15 g1 H locs hp X => ?_)
  obtain ⟨rfl, rfl⟩ := hp
  have X : xS D A9 s9 [mW q b0 b1 b2 b3 b4 b5 b6 b7 b8 s p sl sv pd fo to ou kn ln mn la op wr] H locs := X
  refine lv_imul hx hb dX8_stepsOf_18 ?_
  refine lv_idiv hx hb dX8_stepsOf_19 (by intro e; rw [e] at hz; exact absurd hz (by decide)) ?_
  refine lv_bipush (v := 12) hx hb dX8_stepsOf_20 (by decide) ?_
  refine x_cSi F X (gc := []) (gr := [mW q b0 b1 b2 b3 b4 b5 b6 b7 b8 s p sl sv pd fo to ou kn ln mn la op wr]) (xp_idx (n := 1) [0] (by decide +kernel) rfl rfl) (c_X8_less l D q ((fo k) / ((s 0) * (s (33 + 5 * k + 2)))) 12 ) (va_cwS 2 F.1.2.2.2.2 gX8_stepsOf_X8_less rfl rfl rfl (by decide +kernel) ⟨Nat.le_of_ble_eq_true rfl, Nat.le_of_ble_eq_true rfl⟩) rfl rfl hl.1 ⟨Nat.le_of_ble_eq_true rfl, Nat.le_of_ble_eq_true rfl⟩ (Nat.le_of_ble_eq_true rfl) dX8_stepsOf_22 (fun r_22 g1 H locs hp X => ?_)
  obtain ⟨rfl, rfl⟩ := hp
  have X : xS D A9 s9 [mW q b0 b1 b2 b3 b4 b5 b6 b7 b8 s p sl sv pd fo to ou kn ln mn la op wr] H locs := X
  refine hret _ _ _ _ _ _ ?_ X dX8_stepsOf_25
  refine ⟨rfl, ?_⟩
  unfold x_quo x_tC
  rw [if_pos hz]

