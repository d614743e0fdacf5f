/-! The tree: by way of which branch of k a street hangs below k (0: it does not). -/
section
variable {pr : Nat → Nat} {n : Nat}
theorem xt_any (hp : ∀ o, 1 ≤ o → o < n → pr o < o) (k : Nat) : ∀ (f g o : Nat), o < n → o ≤ f → o ≤ g → x_tp pr k f o = x_tp pr k g o
  | 0, g, o, ho, hf, hg => by
    obtain rfl : o = 0 := by omega
    cases g <;> simp [x_tp]
  | f + 1, 0, o, ho, hf, hg => by
    obtain rfl : o = 0 := by omega
    simp [x_tp]
  | f + 1, g + 1, o, ho, hf, hg => by
    rw [x_tp, x_tp]
    by_cases h0 : o = 0
    · rw [if_pos h0, if_pos h0]
    · have h1 := hp o (by omega) ho
      rw [if_neg h0, if_neg h0, xt_any hp k f g (pr o) (by omega) (by omega) (by omega)]
theorem xt_0 (k : Nat) : x_tp pr k n 0 = 0 := by cases n <;> simp [x_tp]
theorem xt_s (hp : ∀ o, 1 ≤ o → o < n → pr o < o) (k : Nat) {o : Nat} (h1 : 1 ≤ o) (ho : o < n) : x_tp pr k n o = if pr o = k then o else x_tp pr k n (pr o) := by
  have h2 := hp o h1 ho
  have e : x_tp pr k n o = x_tp pr k (n + 1) o := xt_any hp k n (n + 1) o ho (by omega) (by omega)
  rw [e, x_tp, if_neg (by omega)]
theorem xt_ch (hp : ∀ o, 1 ≤ o → o < n → pr o < o) (k : Nat) : ∀ o, o < n → x_tp pr k n o ≠ 0 → x_tp pr k n o ≤ o ∧ pr (x_tp pr k n o) = k ∧ k < x_tp pr k n o := by
  intro o
  induction o using Nat.strongRecOn with
  | _ o ih =>
    intro ho h
    rcases Nat.eq_zero_or_pos o with rfl | h1
    · exact absurd (xt_0 k) h
    · have h2 := hp o h1 ho
      rw [xt_s hp k h1 ho] at h ⊢
      by_cases c : pr o = k
      · rw [if_pos c]
        exact ⟨Nat.le_refl o, c, by omega⟩
      · rw [if_neg c] at h ⊢
        obtain ⟨a, b, d⟩ := ih (pr o) h2 (by omega) h
        exact ⟨by omega, b, d⟩
theorem xt_low (hp : ∀ o, 1 ≤ o → o < n → pr o < o) {k o : Nat} (h : o ≤ k) (ho : o < n) : x_tp pr k n o = 0 := by
  apply Decidable.byContradiction
  intro c
  have := xt_ch hp k o ho c
  omega
theorem xt_iff (hp : ∀ o, 1 ≤ o → o < n → pr o < o) {k m : Nat} (hm1 : 1 ≤ m) (hm : m < n) (hk : pr m = k) : ∀ o, o < n → (x_tp pr k n o = m ↔ o = m ∨ x_tp pr m n o ≠ 0) := by
  have hkm := hp m hm1 hm
  intro o
  induction o using Nat.strongRecOn with
  | _ o ih =>
    intro ho
    rcases Nat.eq_zero_or_pos o with rfl | h1
    · rw [xt_0, xt_0]
      omega
    · have h2 := hp o h1 ho
      rw [xt_s hp k h1 ho, xt_s hp m h1 ho]
      by_cases c : pr o = k
      · have e1 : pr o ≠ m := by omega
        have e2 : x_tp pr m n (pr o) = 0 := xt_low hp (by omega) (by omega)
        rw [if_pos c, if_neg e1, e2]
        omega
      · have e1 : o ≠ m := fun e => c (by rw [e]; exact hk)
        rw [if_neg c]
        by_cases d : pr o = m
        · rw [if_pos d]
          have := (ih (pr o) h2 (by omega)).mpr (Or.inl d)
          omega
        · rw [if_neg d, ih (pr o) h2 (by omega)]
          omega
theorem xt_all (hp : ∀ o, 1 ≤ o → o < n → pr o < o) : ∀ o, 1 ≤ o → o < n → x_tp pr 0 n o ≠ 0 := by
  intro o
  induction o using Nat.strongRecOn with
  | _ o ih =>
    intro h1 ho
    have h2 := hp o h1 ho
    rw [xt_s hp 0 h1 ho]
    by_cases c : pr o = 0
    · rw [if_pos c]; omega
    · rw [if_neg c]; exact ih (pr o) h2 (by omega) (by omega)
/-! Sums over the streets. -/
theorem x_kn_cong {a b : Nat → Nat} : ∀ {n}, (∀ o, o < n → a o = b o) → x_kn a n = x_kn b n
  | 0, _ => rfl
  | n + 1, h => by rw [x_kn, x_kn, x_kn_cong (fun o ho => h o (by omega)), h n (by omega)]
theorem x_kn_sum {a b d : Nat → Nat} : ∀ {n}, (∀ o, o < n → a o + b o = d o) → x_kn a n + x_kn b n = x_kn d n
  | 0, _ => rfl
  | n + 1, h => by
    have h1 := x_kn_sum (n := n) (fun o ho => h o (by omega))
    have h2 := h n (by omega)
    simp only [x_kn]
    omega
theorem x_kn_z {g : Nat → Nat} : ∀ {n}, (∀ o, o < n → g o = 0) → x_kn g n = 0
  | 0, _ => rfl
  | n + 1, h => by rw [x_kn, x_kn_z (fun o ho => h o (by omega)), h n (by omega)]
theorem x_kn_eq {b : Nat} : ∀ {n}, b < n → x_kn (fun o => if o = b then 1 else 0) n = 1
  | 0, h => by omega
  | n + 1, h => by
    simp only [x_kn]
    by_cases e : n = b
    · rw [if_pos e, x_kn_z (fun o ho => if_neg (by omega))]
    · rw [if_neg e, x_kn_eq (by omega)]
/-- how many are below k by way of branches under m -/
def xt_b (pr : Nat → Nat) (n k m : Nat) : Nat := x_kn (fun o => if x_tp pr k n o ≠ 0 ∧ x_tp pr k n o < m then 1 else 0) n
theorem xt_b_0 (k : Nat) : xt_b pr n k 0 = 0 := x_kn_z (fun o _ => if_neg (by omega))
theorem xt_b_y (hp : ∀ o, 1 ≤ o → o < n → pr o < o) {k m : Nat} (hm1 : 1 ≤ m) (hm : m < n) (hk : pr m = k) : xt_b pr n k (m + 1) = xt_b pr n k m + (1 + xt_b pr n m n) := by
  have h0 : x_kn (fun o => if o = m then 1 else 0) n + xt_b pr n m n = x_kn (fun o => if x_tp pr k n o = m then 1 else 0) n := by
    unfold xt_b
    refine x_kn_sum (fun o ho => ?_)
    have e := xt_iff hp hm1 hm hk o ho
    by_cases c : o = m
    · have e2 : x_tp pr m n o = 0 := xt_low hp (by omega) ho
      rw [if_pos c, if_neg (by omega), if_pos (e.mpr (Or.inl c))]
    · rw [if_neg c]
      by_cases d : x_tp pr m n o = 0
      · rw [if_neg (by omega), if_neg (fun q => (e.mp q).elim c (fun z => z d))]
      · have := xt_ch hp m o ho d
        rw [if_pos ⟨d, by omega⟩, if_pos (e.mpr (Or.inr d))]
  have h1 : 1 + xt_b pr n m n = x_kn (fun o => if x_tp pr k n o = m then 1 else 0) n := by
    rw [x_kn_eq hm] at h0
    exact h0
  rw [h1]
  unfold xt_b
  refine (x_kn_sum (fun o ho => ?_)).symm
  by_cases c : x_tp pr k n o = m
  · rw [if_neg (by omega), if_pos c, if_pos (by omega)]
  · rw [if_neg c]
    by_cases d : x_tp pr k n o ≠ 0 ∧ x_tp pr k n o < m
    · rw [if_pos d, if_pos (by omega)]
    · rw [if_neg d, if_neg (by omega)]
theorem xt_b_n (hp : ∀ o, 1 ≤ o → o < n → pr o < o) {k m : Nat} (hk : ¬ (1 ≤ m ∧ pr m = k)) : xt_b pr n k (m + 1) = xt_b pr n k m := by
  unfold xt_b
  refine x_kn_cong (fun o ho => ?_)
  by_cases c : x_tp pr k n o ≠ 0 ∧ x_tp pr k n o < m
  · rw [if_pos (by omega), if_pos c]
  · by_cases d : x_tp pr k n o ≠ 0 ∧ x_tp pr k n o < m + 1
    · have e : x_tp pr k n o = m := by omega
      have h := xt_ch hp k o ho d.1
      rw [e] at h
      exact absurd ⟨by omega, h.2.1⟩ hk
    · rw [if_neg c, if_neg d]
/-- the bits of what is behind a street are what is below it -/
theorem xt_bits (hp : ∀ o, 1 ≤ o → o < n → pr o < o) (k : Nat) : ∀ i, k + 1 + i ≤ n → (∀ o, o < k + 1 + i → ((x_bh pr k i).testBit o = true ↔ o = k ∨ x_tp pr k n o ≠ 0)) ∧ x_bn pr k i = x_kn (fun o => if x_tp pr k n o ≠ 0 ∧ x_tp pr k n o < n then 1 else 0) (k + 1 + i)
  | 0, h => by
    refine ⟨fun o ho => ?_, ?_⟩
    · rw [x_bh, Nat.testBit_two_pow, decide_eq_true_eq, xt_low hp (by omega) (by omega)]
      omega
    · rw [x_bn]
      refine (x_kn_z (fun o ho => ?_)).symm
      rw [xt_low hp (show o ≤ k by omega) (by omega)]
      rfl
  | i + 1, h => by
    obtain ⟨h1, h2⟩ := xt_bits hp k i (by omega)
    have hlt := x_bh_lt pr k i
    have ho1 := hp (k + 1 + i) (by omega) (by omega)
    have hc : (x_bh pr k i).testBit (pr (k + 1 + i)) = true ↔ x_tp pr k n (k + 1 + i) ≠ 0 := by
      rw [h1 _ ho1, xt_s hp k (o := k + 1 + i) (by omega) (by omega)]
      by_cases c : pr (k + 1 + i) = k
      · rw [if_pos c]; omega
      · rw [if_neg c]; omega
    have htop : (x_bh pr k i).testBit (k + 1 + i) = false := Nat.testBit_lt_two_pow hlt
    refine ⟨fun o ho => ?_, ?_⟩
    · by_cases e : o = k + 1 + i
      · subst e
        rw [x_bh]
        by_cases c : (x_bh pr k i).testBit (pr (k + 1 + i)) = true
        · rw [if_pos c, Nat.testBit_or, Nat.testBit_two_pow_self, Bool.or_true]
          exact ⟨fun _ => Or.inr (hc.mp c), fun _ => rfl⟩
        · rw [if_neg c, htop]
          constructor
          · intro q; cases q
          · rintro (q | q)
            · omega
            · exact absurd (hc.mpr q) c
      · rw [x_bh]
        by_cases c : (x_bh pr k i).testBit (pr (k + 1 + i)) = true
        · rw [if_pos c, Nat.testBit_or, Nat.testBit_two_pow, decide_eq_false (show ¬ k + 1 + i = o by omega), Bool.or_false]
          exact h1 o (by omega)
        · rw [if_neg c]
          exact h1 o (by omega)
    · rw [x_bn, h2, show k + 1 + (i + 1) = (k + 1 + i) + 1 by omega, x_kn]
      congr 1
      by_cases c : (x_bh pr k i).testBit (pr (k + 1 + i)) = true
      · have d := hc.mp c
        have := xt_ch hp k (k + 1 + i) (by omega) d
        rw [if_pos c, if_pos ⟨d, by omega⟩]
      · rw [if_neg c, if_neg (fun q => c (hc.mpr q.1))]
theorem xt_bn (hp : ∀ o, 1 ≤ o → o < n → pr o < o) {k : Nat} (hk : k < n) : x_bn pr k (n - (k + 1)) = xt_b pr n k n := by
  obtain ⟨-, h2⟩ := xt_bits hp k (n - (k + 1)) (by omega)
  rw [h2, show k + 1 + (n - (k + 1)) = n by omega]
  rfl
theorem xt_root (hp : ∀ o, 1 ≤ o → o < n → pr o < o) (hn : 1 ≤ n) : x_bn pr 0 (n - 1) = n - 1 := by
  have h := xt_bn hp (k := 0) (by omega)
  rw [show n - (0 + 1) = n - 1 by omega] at h
  rw [h]
  have e : xt_b pr n 0 n + x_kn (fun o => if o = 0 then 1 else 0) n = x_kn (fun _ => 1) n := by
    unfold xt_b
    refine x_kn_sum (fun o ho => ?_)
    by_cases c : o = 0
    · rw [if_pos c, c, xt_0]
      rfl
    · have h1 := xt_all hp o (by omega) ho
      have h2 := xt_ch hp 0 o ho h1
      rw [if_neg c, if_pos ⟨h1, by omega⟩]
  have e2 : ∀ m, x_kn (fun _ => 1) m = m := by
    intro m
    induction m with
    | zero => rfl
    | succ m ih => rw [x_kn, ih]
  rw [x_kn_eq (by omega), e2] at e
  omega
end
