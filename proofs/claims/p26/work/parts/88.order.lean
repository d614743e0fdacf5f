/-! The order in which the streets are told: a street, then all that is behind each of its branches. -/
def xd_l (pr : Nat → Nat) (n : Nat) : Nat → Nat → Nat → List Nat
  | 0, _, _ => []
  | f + 1, k, j => if x_nb pr n k j < n then x_nb pr n k j :: (xd_l pr n f (x_nb pr n k j) (x_nb pr n k j) ++ xd_l pr n f k (x_nb pr n k j)) else []
section
variable {pr : Nat → Nat} {n : Nat}
theorem xd_mem (hp : ∀ o, 1 ≤ o → o < n → pr o < o) : ∀ f k j, j < n → k ≤ j → n - j ≤ f → ∀ o, o ∈ xd_l pr n f k j ↔ o < n ∧ j < x_tp pr k n o
  | 0, k, j, hj, hk, hf, o => by omega
  | f + 1, k, j, hj, hk, hf, o => by
    obtain ⟨⟨b1, b2⟩, b3, b4⟩ := x_nb_ok pr (n := n) (k := k) hj
    rw [xd_l]
    generalize x_nb pr n k j = b at b1 b2 b3 b4
    by_cases c : b < n
    · have hb := b3 c
      rw [if_pos c, List.mem_cons, List.mem_append, xd_mem hp f b b c (Nat.le_refl b) (by omega) o, xd_mem hp f k b c (by omega) (by omega) o]
      by_cases ho : o < n
      · have e := xt_iff hp (k := k) (m := b) (by omega) c hb o ho
        by_cases z : x_tp pr b n o = 0
        · rw [z] at e ⊢
          by_cases w : x_tp pr k n o = 0
          · rw [w] at e ⊢
            constructor
            · rintro (q | q | q)
              · have := e.mpr (Or.inl q); omega
              · omega
              · omega
            · intro q; omega
          · have h := xt_ch hp k o ho w
            have h4 := b4 (x_tp pr k n o)
            constructor
            · rintro (q | q | q)
              · have := e.mpr (Or.inl q); omega
              · omega
              · omega
            · rintro ⟨-, q⟩
              by_cases y : x_tp pr k n o = b
              · rcases e.mp y with q2 | q2
                · exact Or.inl q2
                · omega
              · refine Or.inr (Or.inr ⟨ho, ?_⟩)
                apply Decidable.byContradiction
                intro x
                exact h4 q (by omega) h.2.1
        · have h1 := xt_ch hp b o ho z
          have h2 := e.mpr (Or.inr z)
          rw [h2]
          constructor
          · intro _; exact ⟨ho, b1⟩
          · intro _; exact Or.inr (Or.inl ⟨ho, h1.2.2⟩)
      · constructor
        · rintro (q | q | q) <;> omega
        · intro q; omega
    · rw [if_neg c]
      constructor
      · intro q; cases q
      · rintro ⟨ho, q⟩
        have h := xt_ch hp k o ho (by omega)
        exact absurd h.2.1 (b4 _ q (by omega))
theorem xd_nd (hp : ∀ o, 1 ≤ o → o < n → pr o < o) : ∀ f k j, j < n → k ≤ j → n - j ≤ f → (xd_l pr n f k j).Nodup
  | 0, k, j, hj, hk, hf => by omega
  | f + 1, k, j, hj, hk, hf => by
    obtain ⟨⟨b1, b2⟩, b3, b4⟩ := x_nb_ok pr (n := n) (k := k) hj
    rw [xd_l]
    generalize x_nb pr n k j = b at b1 b2 b3 b4
    by_cases c : b < n
    · have hb := b3 c
      rw [if_pos c, List.nodup_cons, List.mem_append, xd_mem hp f b b c (Nat.le_refl b) (by omega) b, xd_mem hp f k b c (by omega) (by omega) b]
      refine ⟨?_, List.nodup_append.mpr ⟨xd_nd hp f b b c (Nat.le_refl b) (by omega), xd_nd hp f k b c (by omega) (by omega), fun x hx y hy e => ?_⟩⟩
      · rintro (⟨-, q⟩ | ⟨-, q⟩)
        · rw [xt_low hp (Nat.le_refl b) c] at q
          omega
        · have := xt_ch hp k b c (by omega)
          omega
      · subst e
        obtain ⟨hx1, hx2⟩ := (xd_mem hp f b b c (Nat.le_refl b) (by omega) x).mp hx
        obtain ⟨hy1, hy2⟩ := (xd_mem hp f k b c (by omega) (by omega) x).mp hy
        have := (xt_iff hp (k := k) (m := b) (by omega) c hb x hx1).mpr (Or.inr (by omega))
        omega
    · rw [if_neg c]
      exact List.nodup_nil
def xd_o (pr : Nat → Nat) (n : Nat) : List Nat := 0 :: xd_l pr n n 0 0
theorem xd_perm (hp : ∀ o, 1 ≤ o → o < n → pr o < o) (hn : 1 ≤ n) : (xd_o pr n).Perm (List.range n) := by
  have h0 := xd_mem hp n 0 0 (by omega) (Nat.le_refl 0) (by omega)
  refine (List.perm_ext_iff_of_nodup ?_ List.nodup_range).mpr (fun a => ?_)
  · unfold xd_o
    refine List.nodup_cons.mpr ⟨fun q => ?_, xd_nd hp n 0 0 (by omega) (Nat.le_refl 0) (by omega)⟩
    have := ((h0 0).mp q).2
    rw [xt_0] at this
    omega
  · unfold xd_o
    rw [List.mem_cons, h0 a, List.mem_range]
    constructor
    · rintro (rfl | q) <;> omega
    · intro q
      rcases Nat.eq_zero_or_pos a with e | e
      · exact Or.inl e
      · have := xt_all hp a e q
        exact Or.inr ⟨q, by omega⟩
end
/-! Sums, in another order. -/
def x_ls (g : Nat → Int32) : List Nat → Int32
  | [] => 0
  | a :: l => g a + x_ls g l
theorem x_add0l (x : Int32) : 0 + x = x := by rw [Int32.add_comm]; exact x_add0 x
theorem x_sm_sh (g : Nat → Int32) : ∀ m, x_sm g (m + 1) = g 0 + x_sm (fun i => g (i + 1)) m
  | 0 => by
    show x_sm g 0 + g 0 = g 0 + 0
    rw [x_add0]
    exact x_add0l _
  | m + 1 => by
    rw [x_sm, x_sm_sh g m, x_sm, Int32.add_assoc]
theorem x_ls_ix (g : Nat → Int32) : ∀ l : List Nat, x_sm (fun i => g (l.getD i 0)) l.length = x_ls g l
  | [] => rfl
  | a :: l => by
    rw [List.length_cons, x_sm_sh, x_ls, ← x_ls_ix g l]
    rfl
theorem x_ls_perm (g : Nat → Int32) {l l' : List Nat} (h : l.Perm l') : x_ls g l = x_ls g l' := by
  induction h with
  | nil => rfl
  | cons a _ ih => rw [x_ls, x_ls, ih]
  | swap a b l =>
    simp only [x_ls]
    rw [← Int32.add_assoc, ← Int32.add_assoc, Int32.add_comm (g b) (g a)]
  | trans _ _ ih1 ih2 => exact ih1.trans ih2
theorem x_ls_app (g : Nat → Int32) : ∀ l l' : List Nat, x_ls g (l ++ l') = x_ls g l + x_ls g l'
  | [], l' => (x_add0l _).symm
  | a :: l, l' => by
    rw [List.cons_append, x_ls, x_ls, x_ls_app g l l', Int32.add_assoc]
theorem x_ls_rg (g : Nat → Int32) : ∀ n, x_ls g (List.range n) = x_sm g n
  | 0 => rfl
  | n + 1 => by
    rw [List.range_succ, x_ls_app, x_ls_rg g n, x_sm]
    show x_sm g n + (g n + 0) = _
    rw [x_add0]
theorem x_sm_ord (g : Nat → Int32) {l : List Nat} {n : Nat} (h : l.Perm (List.range n)) : x_sm (fun i => g (l.getD i 0)) n = x_sm g n := by
  have e : l.length = n := by rw [h.length_eq, List.length_range]
  have h1 := x_ls_ix g l
  rw [e] at h1
  rw [h1, x_ls_perm g h, x_ls_rg]
def x_lk (g : Nat → Nat) : List Nat → Nat
  | [] => 0
  | a :: l => g a + x_lk g l
theorem x_kn_sh (g : Nat → Nat) : ∀ m, x_kn g (m + 1) = g 0 + x_kn (fun i => g (i + 1)) m
  | 0 => by simp [x_kn]
  | m + 1 => by
    rw [x_kn, x_kn_sh g m, x_kn, Nat.add_assoc]
theorem x_lk_ix (g : Nat → Nat) : ∀ l : List Nat, x_kn (fun i => g (l.getD i 0)) l.length = x_lk g l
  | [] => rfl
  | a :: l => by
    rw [List.length_cons, x_kn_sh, x_lk, ← x_lk_ix g l]
    rfl
theorem x_lk_perm (g : Nat → Nat) {l l' : List Nat} (h : l.Perm l') : x_lk g l = x_lk g l' := by
  induction h with
  | nil => rfl
  | cons a _ ih => rw [x_lk, x_lk, ih]
  | swap a b l => simp only [x_lk]; omega
  | trans _ _ ih1 ih2 => exact ih1.trans ih2
theorem x_lk_app (g : Nat → Nat) : ∀ l l' : List Nat, x_lk g (l ++ l') = x_lk g l + x_lk g l'
  | [], l' => by simp [x_lk]
  | a :: l, l' => by
    rw [List.cons_append, x_lk, x_lk, x_lk_app g l l', Nat.add_assoc]
theorem x_lk_rg (g : Nat → Nat) : ∀ n, x_lk g (List.range n) = x_kn g n
  | 0 => rfl
  | n + 1 => by
    rw [List.range_succ, x_lk_app, x_lk_rg g n, x_kn]
    rfl
theorem x_kn_ord (g : Nat → Nat) {l : List Nat} {n : Nat} (h : l.Perm (List.range n)) : x_kn (fun i => g (l.getD i 0)) n = x_kn g n := by
  have e : l.length = n := by rw [h.length_eq, List.length_range]
  have h1 := x_lk_ix g l
  rw [e] at h1
  rw [h1, x_lk_perm g h, x_lk_rg]
theorem x_kn_mono {g : Nat → Nat} : ∀ {m n : Nat}, m ≤ n → x_kn g m ≤ x_kn g n
  | m, 0, h => by
    obtain rfl : m = 0 := by omega
    exact Nat.le_refl _
  | m, n + 1, h => by
    by_cases e : m = n + 1
    · rw [e]; exact Nat.le_refl _
    · have := x_kn_mono (g := g) (m := m) (n := n) (by omega)
      rw [x_kn]
      omega
/-- the order and its places: e(i) comes at the place i, the place of o is fi(o) -/
def xq_ord (n : Nat) (e fi : Nat → Nat) : Prop := (∀ i, i < n → e i < n ∧ fi (e i) = i) ∧ (∀ o, o < n → fi o < n ∧ e (fi o) = o) ∧ (∀ g : Nat → Int32, x_sm (fun i => g (e i)) n = x_sm g n) ∧ ∀ g : Nat → Nat, x_kn (fun i => g (e i)) n = x_kn g n
theorem xq_of {l : List Nat} {n : Nat} (h : l.Perm (List.range n)) : xq_ord n (fun i => l.getD i 0) (fun o => l.idxOf o) := by
  have e : l.length = n := by rw [h.length_eq, List.length_range]
  have hnd : l.Nodup := h.symm.nodup List.nodup_range
  have h2 : ∀ o, o < n → l.idxOf o < n ∧ l.getD (l.idxOf o) 0 = o := fun o ho => by
    have hm : o ∈ l := h.mem_iff.mpr (List.mem_range.mpr ho)
    have hl := List.idxOf_lt_length_of_mem hm
    refine ⟨by omega, ?_⟩
    rw [List.getD_eq_getElem?_getD, List.getElem?_eq_getElem hl, List.getElem_idxOf hl]
    rfl
  refine ⟨fun i hi => ?_, h2, fun g => x_sm_ord g h, fun g => x_kn_ord g h⟩
  have hl : i < l.length := by omega
  have e1 : l.getD i 0 = l[i] := by
    rw [List.getD_eq_getElem?_getD, List.getElem?_eq_getElem hl]
    rfl
  have h3 : l.getD i 0 < n := by
    rw [e1]
    exact List.mem_range.mp (h.mem_iff.mp (List.getElem_mem hl))
  refine ⟨h3, ?_⟩
  obtain ⟨h4, h5⟩ := h2 (l.getD i 0) h3
  have h6 : l[l.idxOf (l.getD i 0)]? = l[i]? := by
    rw [List.getElem?_eq_getElem (by omega), List.getElem?_eq_getElem hl]
    rw [List.getD_eq_getElem?_getD, List.getElem?_eq_getElem (show l.idxOf (l.getD i 0) < l.length by omega)] at h5
    have h7 : l[l.idxOf (l.getD i 0)] = l.getD i 0 := h5
    rw [h7, e1]
  exact (List.getElem?_inj (show l.idxOf (l.getD i 0) < l.length by omega) hnd).mp h6
