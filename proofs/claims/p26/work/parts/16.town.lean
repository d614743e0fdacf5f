/-! A town as the reference's row of numbers; what a wind does in it. -/
def x_tF (T : Nat → Int32) (o : Nat) : Int32 := T (33 + 5 * o + 0)
def x_tW (T : Nat → Int32) (o : Nat) : Int32 := T (33 + 5 * o + 1)
def x_tC (T : Nat → Int32) (o : Nat) : Int32 := T (33 + 5 * o + 2)
def x_tM (T : Nat → Int32) (o : Nat) : Int32 := T (33 + 5 * o + 3)
def x_tP (T : Nat → Int32) (o : Nat) : Int32 := T (33 + 5 * o + 4)
def x_FT (T : Nat → Int32) (pr : Nat → Nat) (n : Nat) (m top : Int32) (k : Nat) : Int32 := x_F (x_tF T) (x_tW T) pr n m top k
def x_hc (T : Nat → Int32) (F : Nat → Int32) (k : Nat) : Int32 := x_ha T (F k) (x_tP T k)
def x_hb (T : Nat → Int32) (pr : Nat → Nat) (n : Nat) (top : Int32) : Int32 := x_sm (x_hc T (x_FT T pr n (-6) top)) n
/-- a town that can be -/
def x_ok (T : Nat → Int32) (n : Nat) (pr : Nat → Nat) : Prop :=
  n ≤ 20 ∧ 1 ≤ n ∧ T 5 = nI n ∧ T 33 = -1 ∧ (∀ o, 1 ≤ o → o < n → T (33 + 5 * o + 0) = nI (pr o) ∧ pr o < o) ∧ (∀ o, o < n → ∃ w, 1 ≤ w ∧ w ≤ 9 ∧ T (33 + 5 * o + 1) = nI w) ∧ (∀ o, o < n → ∃ v, v ≤ 5 ∧ T (33 + 5 * o + 2) = nI v) ∧ (∀ o, o < n → ∃ v, v ≤ 1 ∧ T (33 + 5 * o + 3) = nI v) ∧ (∀ o, o < n → ∃ v, v ≤ 99 ∧ T (33 + 5 * o + 4) = nI v)
  ∧ (∃ v, 1 ≤ v ∧ v ≤ 20 ∧ T 0 = nI v) ∧ (∃ v, 1 ≤ v ∧ v ≤ 30 ∧ T 3 = nI v) ∧ (∃ v, v ≤ 999 ∧ T 6 = nI v ∧ T 8 = nI (min v 8)) ∧ ∀ k, k < n → x_ct (x_tF T) (nI k) n ≤ 4
theorem x_tg_pos {F W : Nat → Int32} {m : Int32} {k n : Nat} (hw : ∀ o, o < n → ∃ w, 1 ≤ w ∧ w ≤ 9 ∧ W o = nI w) (hm : ¬ nI k = m) : ∀ j, j ≤ n → ∃ a, a ≤ 9 * j ∧ x_sm (x_tg F W m k) j = nI a ∧ (k < j → 1 ≤ a)
  | 0, _ => ⟨0, by omega, rfl, fun h => absurd h (Nat.not_lt_zero k)⟩
  | j + 1, hj => by
    obtain ⟨a, h1, h2, h3⟩ := x_tg_pos hw hm j (by omega)
    obtain ⟨w, w1, w2, w3⟩ := hw j (by omega)
    by_cases c : nI j ≠ m ∧ F j = F k
    · refine ⟨a + w, by omega, ?_, fun _ => by omega⟩
      rw [x_sm_p (if_pos c), h2, w3, nI_add]
    · refine ⟨a, by omega, ?_, fun h => h3 ?_⟩
      · rw [x_sm_z (if_neg c), h2]
      · by_cases e : k = j
        · subst e; exact absurd ⟨hm, rfl⟩ c
        · omega
theorem x_quo_n (x : Int32) {a : Nat} (h1 : 1 ≤ a) (h2 : a < 2 ^ 31) : x_quo x (nI a) = x / nI a := by
  have e : (0 : Int32) < nI a := nI_lt (a := 0) (by omega) h2
  exact if_pos e
theorem x_mul0 (x : Int32) : x * 0 = 0 := Int32.mul_zero
theorem x_sm5_z {g : Nat → Int32} {n : Nat} {t : Int32} (ht : t = 5 * x_sm g n) (h : g n = 0) : t = 5 * x_sm g (n + 1) := by rw [ht, x_sm_z h]
theorem x_sm5_p {g : Nat → Int32} {n : Nat} {t : Int32} (ht : t = 5 * x_sm g n) (h : g n = 1) : t + 5 = 5 * x_sm g (n + 1) := by
  rw [ht, x_sm_p h, Int32.mul_add]
  rfl
/-- what a set and a sum say of a road's first place, where nothing is -/
theorem x_sm_1 {g : Nat → Int32} (h : g 0 = 0) : x_sm g 1 = 0 := by rw [x_sm_z h]; rfl
theorem x_orf_1 {g : Nat → Int32} (h : g 0 = 0) : x_orf g 1 = 0 := by rw [x_orf_z h]; rfl
theorem x_ix2 {v : Int32} {n : Nat} (hn : n < 2 ^ 31) (h1 : 1 ≤ n) : (0 ≤ v ∧ v ≤ nI (n - 1)) ↔ xIx v n := by
  rw [show (0 : Int32) = nI 0 from rfl, x_rng (by omega) (by omega)]
  constructor
  · rintro ⟨k, -, h, e⟩
    exact ⟨k, by omega, e⟩
  · rintro ⟨k, h, e⟩
    exact ⟨k, by omega, by omega, e⟩
theorem x_FT_0 (T : Nat → Int32) (pr : Nat → Nat) (n : Nat) (m top : Int32) : x_FT T pr n m top 0 = top := by
  unfold x_FT x_F
  rw [x_fc_0]
theorem x_FT_s (T : Nat → Int32) (pr : Nat → Nat) (n : Nat) (m top : Int32) {k : Nat} (h : 1 ≤ k) (hp : pr k < k) : x_FT T pr n m top k = x_sh (fun k => x_sm (x_tg (x_tF T) (x_tW T) m k) n) (fun k => x_sm (x_nr (x_tF T) (x_tW T) m k) n) (x_tW T) k (x_FT T pr n m top (pr k)) := by
  unfold x_FT x_F
  rw [x_fc_s _ _ _ h hp]
