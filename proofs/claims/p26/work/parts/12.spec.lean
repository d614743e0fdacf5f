/-! Pure words: sums, sets, forces. -/
def x_orf (g : Nat → Int32) : Nat → Int32 | 0 => 0 | n + 1 => x_orf g n ||| g n
def x_sm (g : Nat → Int32) : Nat → Int32 | 0 => 0 | n + 1 => x_sm g n + g n
def x_bo (f : Nat → Int32) (st : Int32) (o : Nat) : Int32 := if f o = st then 1 <<< (nI o &&& 31) else 0
theorem x_or0 (x : Int32) : x ||| 0 = x := by
  apply Int32.toBitVec_inj.mp
  show x.toBitVec ||| 0#32 = x.toBitVec
  exact BitVec.or_zero
theorem x_add0 (x : Int32) : x + 0 = x := by
  apply Int32.toBitVec_inj.mp
  show x.toBitVec + 0#32 = x.toBitVec
  exact BitVec.add_zero _
theorem x_orf_z {g : Nat → Int32} {n : Nat} (h : g n = 0) : x_orf g (n + 1) = x_orf g n := by rw [x_orf, h, x_or0]
theorem x_sm_z {g : Nat → Int32} {n : Nat} (h : g n = 0) : x_sm g (n + 1) = x_sm g n := by rw [x_sm, h, x_add0]
theorem x_orf_cong {g h : Nat → Int32} : ∀ {n : Nat}, (∀ k, k < n → g k = h k) → x_orf g n = x_orf h n
  | 0, _ => rfl
  | n + 1, e => by rw [x_orf, x_orf, x_orf_cong (fun k hk => e k (by omega)), e n (by omega)]
theorem x_sm_cong {g h : Nat → Int32} : ∀ {n : Nat}, (∀ k, k < n → g k = h k) → x_sm g n = x_sm h n
  | 0, _ => rfl
  | n + 1, e => by rw [x_sm, x_sm, x_sm_cong (fun k hk => e k (by omega)), e n (by omega)]
/-- the streets behind a street, as bits: i of the streets k + 1, k + 2 .. are looked at -/
def x_bh (pr : Nat → Nat) (k : Nat) : Nat → Nat
  | 0 => 2 ^ k
  | i + 1 => if (x_bh pr k i).testBit (pr (k + 1 + i)) then x_bh pr k i ||| 2 ^ (k + 1 + i) else x_bh pr k i
theorem x_bh_no {pr : Nat → Nat} {k j b : Nat} (hb : b = x_bh pr k (j - (k + 1))) (h : k + 1 ≤ j) (ht : b.testBit (pr j) = false) : b = x_bh pr k (j + 1 - (k + 1)) := by
  obtain ⟨i, rfl⟩ : ∃ i, j = k + 1 + i := ⟨j - (k + 1), by omega⟩
  rw [show k + 1 + i - (k + 1) = i by omega] at hb
  rw [show k + 1 + i + 1 - (k + 1) = i + 1 by omega, x_bh, ← hb, ht]
  rfl
theorem x_bh_yes {pr : Nat → Nat} {k j b : Nat} (hb : b = x_bh pr k (j - (k + 1))) (h : k + 1 ≤ j) (ht : ¬ b.testBit (pr j) = false) : b ||| 2 ^ j = x_bh pr k (j + 1 - (k + 1)) := by
  obtain ⟨i, rfl⟩ : ∃ i, j = k + 1 + i := ⟨j - (k + 1), by omega⟩
  rw [show k + 1 + i - (k + 1) = i by omega] at hb
  rw [show k + 1 + i + 1 - (k + 1) = i + 1 by omega, x_bh, ← hb, if_pos (by simpa using ht)]
theorem x_shl1 {p : Nat} (h : p < 31) : (1 : Int32) <<< (nI p &&& 31) = nI (2 ^ p) := by
  have e : ∀ p, p < 32 → ((nI p &&& 31).toBitVec.smod 32).toNat = p := by decide
  have h2 : (2 : Nat) ^ p < 2 ^ 31 := Nat.pow_lt_pow_right (by decide) h
  have := pk_shlN (n := 1) (nI p &&& 31) p (e p (by omega)) (by omega)
  rw [Nat.one_mul] at this
  exact this
/-- how many streets off the top -/
def x_dep (pr : Nat → Nat) : Nat → Nat → Nat
  | 0, _ => 0
  | f + 1, c => if c = 0 then 0 else x_dep pr f (pr c) + 1
theorem x_dep_any (pr : Nat → Nat) (n : Nat) (hp : ∀ o, 1 ≤ o → o < n → pr o < o) : ∀ (f g c : Nat), c < n → c ≤ f → c ≤ g → x_dep pr f c = x_dep pr g c
  | 0, g, c, hc, hf, hg => by
    obtain rfl : c = 0 := by omega
    cases g <;> rfl
  | f + 1, 0, c, hc, hf, hg => by
    obtain rfl : c = 0 := by omega
    rfl
  | f + 1, g + 1, c, hc, hf, hg => by
    rw [x_dep, x_dep]
    by_cases h0 : c = 0
    · rw [if_pos h0, if_pos h0]
    · have h1 := hp c (by omega) hc
      rw [if_neg h0, if_neg h0, x_dep_any pr n hp f g (pr c) (by omega) (by omega) (by omega)]
theorem x_dep_step (pr : Nat → Nat) (n : Nat) (hp : ∀ o, 1 ≤ o → o < n → pr o < o) {c : Nat} (h0 : 1 ≤ c) (hc : c < n) : x_dep pr c c = x_dep pr (pr c) (pr c) + 1 := by
  obtain ⟨d, rfl⟩ : ∃ d, c = d + 1 := ⟨c - 1, by omega⟩
  have h1 := hp (d + 1) h0 hc
  rw [x_dep, if_neg (by omega), x_dep_any pr n hp d (pr (d + 1)) (pr (d + 1)) (by omega) (by omega) (by omega)]
theorem x_dep_le (pr : Nat → Nat) : ∀ f c, x_dep pr f c ≤ f
  | 0, _ => Nat.le_refl 0
  | f + 1, c => by
    rw [x_dep]
    split
    · omega
    · have := x_dep_le pr f (pr c); omega
/-- the JDK's bitCount -/
def x_us (x : Int32) (k : Int32) : Int32 := (x.toUInt32 >>> (Int32.toUInt32 k &&& Int32.toUInt32 31)).toInt32
def x_b1 (x : Int32) : Int32 := x - (x_us x 1 &&& 1431655765)
def x_b2 (x : Int32) : Int32 := (x &&& 858993459) + (x_us x 2 &&& 858993459)
def x_b3 (x : Int32) : Int32 := (x + x_us x 4) &&& 252645135
def x_b4 (x : Int32) : Int32 := x + x_us x 8
def x_b5 (x : Int32) : Int32 := x + x_us x 16
def x_bc (x : Int32) : Int32 := x_b5 (x_b4 (x_b3 (x_b2 (x_b1 x)))) &&& 63
def x_quo (a b : Int32) : Int32 := if 0 < b then a / b else 0
def x_mn (x y : Int32) : Int32 := if y < x then y else x
/-- together, narrower: over the streets that branch off the same one -/
def x_tg (f w : Nat → Int32) (m : Int32) (k o : Nat) : Int32 := if nI o ≠ m ∧ f o = f k then w o else 0
def x_nr (f w : Nat → Int32) (m : Int32) (k o : Nat) : Int32 := if (nI o ≠ m ∧ f o = f k) ∧ w o < w k then 1 else 0
/-- forces: street 0 has the top's, each other one what g makes of the force of the one off which it branches -/
def x_fs (pr : Nat → Nat) (g : Nat → Int32 → Int32) (top : Int32) : Nat → Nat → Int32
  | 0 => fun _ => 0
  | k + 1 => upd (x_fs pr g top k) k (if k = 0 then top else g k (x_fs pr g top k (pr k)))
def x_fc (pr : Nat → Nat) (g : Nat → Int32 → Int32) (top : Int32) (k : Nat) : Int32 := x_fs pr g top (k + 1) k
theorem x_fs_lt (pr : Nat → Nat) (g : Nat → Int32 → Int32) (top : Int32) {j : Nat} : ∀ {k : Nat}, j < k → x_fs pr g top k j = x_fc pr g top j
  | 0, h => absurd h (Nat.not_lt_zero j)
  | k + 1, h => by
    by_cases e : j = k
    · subst e; rfl
    · rw [x_fs, pk_un e, x_fs_lt pr g top (by omega)]
theorem x_fc_0 (pr : Nat → Nat) (g : Nat → Int32 → Int32) (top : Int32) : x_fc pr g top 0 = top := by
  unfold x_fc
  rw [x_fs, pk_us, if_pos rfl]
theorem x_fc_s (pr : Nat → Nat) (g : Nat → Int32 → Int32) (top : Int32) {k : Nat} (h1 : 1 ≤ k) (hp : pr k < k) : x_fc pr g top k = g k (x_fc pr g top (pr k)) := by
  show x_fs pr g top (k + 1) k = _
  rw [x_fs, pk_us, if_neg (by omega), x_fs_lt pr g top hp]
def x_sh (t1 t2 w : Nat → Int32) (k : Nat) (x : Int32) : Int32 := x_mn x (x_quo (x * w k) (t1 k) + 5 * t2 k)
/-- a pad that holds the signs of S, as far as they go in -/
def xPad (S : List Nat) (cs : Nat → Int32) (k : Nat) (ov : Int32) : Prop :=
  k = min S.length 80 ∧ (∀ j, j < k → cs j = nI (S.getD j 0)) ∧ ov = (if 80 < S.length then 1 else 0) ∧ ∀ j, j < 80 → fits .char (.int (cs j)) = true
/-- a town's rows and numbers in one -/
def x_tR (r0 f1 f2 f3 f4 f5 g1 g2 g3 : Nat → Int32) (nb ps lo fc : Int32) : Nat → Nat → Int32
  | 0 => r0 | 1 => f1 | 2 => f2 | 3 => f3 | 4 => f4 | 5 => f5 | 6 => g1 | 7 => g2 | 8 => g3
  | _ => fun j => match j with
    | 0 => nb | 1 => ps | 2 => lo | _ => fc
theorem x_gd1 {S T : List Nat} {j : Nat} (h : j < S.length) : (S ++ T).getD j 0 = S.getD j 0 := by
  rw [List.getD_eq_getElem?_getD, List.getD_eq_getElem?_getD, List.getElem?_append_left h]
theorem x_gd2 {S T : List Nat} {j : Nat} : (S ++ T).getD (S.length + j) 0 = T.getD j 0 := by
  rw [List.getD_eq_getElem?_getD, List.getD_eq_getElem?_getD, List.getElem?_append_right (Nat.le_add_right _ _), Nat.add_sub_cancel_left]
theorem xPad.put {S : List Nat} {cs : Nat → Int32} {k : Nat} {ov : Int32} (h : xPad S cs k ov) {x : Nat} (hx : x < 65536) (hk : k < 80) : xPad (S ++ [x]) (upd cs k (nI x)) (k + 1) ov := by
  obtain ⟨h1, h2, h3, h4⟩ := h
  have hl : k = S.length := by omega
  refine ⟨by rw [List.length_append, List.length_singleton]; omega, fun j hj => ?_, ?_, fun j hj => ?_⟩
  · by_cases e : j = k
    · subst e
      have e2 := x_gd2 (S := S) (T := [x]) (j := 0)
      rw [pk_us, hl, show S.length = S.length + 0 from rfl, e2]
      rfl
    · rw [pk_un e, h2 j (by omega), x_gd1 (by omega)]
  · rw [h3, List.length_append, List.length_singleton, if_neg (by omega), if_neg (by omega)]
  · by_cases e : j = k
    · subst e; rw [pk_us]; exact (pk_charN hx).2
    · rw [pk_un e]; exact h4 j hj
theorem xPad.full {S : List Nat} {cs : Nat → Int32} {k : Nat} {ov : Int32} (h : xPad S cs k ov) {x : Nat} (hk : 80 ≤ k) : xPad (S ++ [x]) cs k 1 := by
  obtain ⟨h1, h2, h3, h4⟩ := h
  refine ⟨by rw [List.length_append, List.length_singleton]; omega, fun j hj => ?_, ?_, h4⟩
  · rw [h2 j hj, x_gd1 (by omega)]
  · rw [List.length_append, List.length_singleton, if_pos (by omega)]
theorem x_chr {x : Nat} (h : x < 65536) : ((nI x).toUInt32 % 65536).toInt32 = nI x := by
  rw [pk_char, pk_tn (by omega), Nat.mod_eq_of_lt h]
theorem x_nar {x : Nat} (h : x < 65536) : vp_nar .char (nI x) = nI x := by
  have := (pk_charN h).1
  unfold vp_nar
  rw [this]
theorem x_m6 (z : Nat) (h : z < 2 ^ 31) : ¬ (-6 : Int32) = nI z := by
  intro e
  have e2 : (-6 : Int32).toInt = (nI z).toInt := by rw [e]
  rw [nI_toInt h] at e2
  have e3 : (-6 : Int32).toInt = -6 := by decide
  omega
theorem x_nz {v : Int32} (h : v = 0 ∨ v = 1) : narrow .boolean (.int v) = .int v := by rcases h with rfl | rfl <;> rfl
theorem x_fz {v : Int32} (h : v = 0 ∨ v = 1) : fits .boolean (.int v) = true := by rcases h with rfl | rfl <;> rfl
theorem xPad.ov {S : List Nat} {cs : Nat → Int32} {k : Nat} {ov : Int32} (h : xPad S cs k ov) : ov = 0 ∨ ov = 1 := by
  rw [h.2.2.1]
  split
  · exact Or.inr rfl
  · exact Or.inl rfl
theorem x_sm_p {g : Nat → Int32} {n : Nat} {v : Int32} (h : g n = v) : x_sm g (n + 1) = x_sm g n + v := by rw [x_sm, h]
theorem x_fc_cong {pr : Nat → Nat} {g g' : Nat → Int32 → Int32} {top : Int32} (n : Nat) (hg : ∀ k, 1 ≤ k → k < n → ∀ x, g k x = g' k x) (hp : ∀ o, 1 ≤ o → o < n → pr o < o) (k : Nat) (hk : k < n) : x_fc pr g top k = x_fc pr g' top k := by
  induction k using Nat.strongRecOn with
  | _ k ih =>
    rcases Nat.eq_zero_or_pos k with rfl | h
    · rw [x_fc_0, x_fc_0]
    · have h2 := hp k h hk
      rw [x_fc_s _ _ _ h h2, x_fc_s _ _ _ h h2, hg k h hk, ih (pr k) h2 (by omega)]
/-- the forces in the streets, with the widths f2 and the branches f1, one street left out (m) -/
def x_F (f1 f2 : Nat → Int32) (pr : Nat → Nat) (n : Nat) (m top : Int32) (k : Nat) : Int32 := x_fc pr (x_sh (fun k => x_sm (x_tg f1 f2 m k) n) (fun k => x_sm (x_nr f1 f2 m k) n) f2) top k
def x_gu (r0 : Nat → Int32) (F : Int32) : Int32 := F + F * r0 2 / 100
def x_ha (r0 : Nat → Int32) (F p : Int32) : Int32 := if 0 < x_gu r0 F - r0 1 then x_mn p ((x_gu r0 F - r0 1) / 4 + 1) else 0
def x_hk (r0 t3 f5 : Nat → Int32) (k : Nat) : Int32 := x_ha r0 (t3 k) (f5 k)
def x_wo (h : Nat → Int32) : Nat → Int32 × Int32
  | 0 => (-6, 0)
  | k + 1 => if (x_wo h k).2 < h k then (nI k, h k) else x_wo h k
theorem x_pred {n : Nat} (h : 1 ≤ n) : nI n - 1 = nI (n - 1) := pk_sub h
