/-! The text of a town: streets one after another, the branches of a street behind it in brackets. -/
def x_nx (pr : Nat → Nat) (k : Nat) : Nat → Nat → Nat
  | 0, o => o
  | d + 1, o => if pr o = k then o else x_nx pr k d (o + 1)
theorem x_nx_ok (pr : Nat → Nat) (k : Nat) : ∀ d a, (a ≤ x_nx pr k d a ∧ x_nx pr k d a ≤ a + d) ∧ (x_nx pr k d a < a + d → pr (x_nx pr k d a) = k) ∧ ∀ i, a ≤ i → i < x_nx pr k d a → pr i ≠ k
  | 0, a => ⟨⟨Nat.le_refl a, Nat.le_refl a⟩, fun h => absurd h (Nat.lt_irrefl a), fun i h1 h2 => absurd h2 (Nat.not_lt.mpr h1)⟩
  | d + 1, a => by
    obtain ⟨⟨h1, h2⟩, h3, h4⟩ := x_nx_ok pr k d (a + 1)
    rw [x_nx]
    by_cases c : pr a = k
    · rw [if_pos c]
      exact ⟨⟨Nat.le_refl a, by omega⟩, fun _ => c, fun i q1 q2 => absurd q2 (Nat.not_lt.mpr q1)⟩
    · rw [if_neg c]
      refine ⟨⟨by omega, by omega⟩, fun q => h3 (by omega), fun i q1 q2 => ?_⟩
      by_cases e : i = a
      · rw [e]; exact c
      · exact h4 i (by omega) q2
/-- the next branch of k behind j, n if there is none -/
def x_nb (pr : Nat → Nat) (n k j : Nat) : Nat := x_nx pr k (n - (j + 1)) (j + 1)
theorem x_nb_ok (pr : Nat → Nat) {n k j : Nat} (hj : j < n) : (j < x_nb pr n k j ∧ x_nb pr n k j ≤ n) ∧ (x_nb pr n k j < n → pr (x_nb pr n k j) = k) ∧ ∀ i, j < i → i < x_nb pr n k j → pr i ≠ k := by
  obtain ⟨⟨h1, h2⟩, h3, h4⟩ := x_nx_ok pr k (n - (j + 1)) (j + 1)
  exact ⟨⟨h1, by unfold x_nb; omega⟩, fun q => h3 (by unfold x_nb at q; omega), fun i q1 q2 => h4 i q1 q2⟩
theorem x_nb_is {pr : Nat → Nat} {n k j o : Nat} (hj : j < o) (ho : o ≤ n) (h : o < n → pr o = k) (hl : ∀ i, j < i → i < o → pr i ≠ k) : x_nb pr n k j = o := by
  obtain ⟨⟨h1, h2⟩, h3, h4⟩ := x_nb_ok pr (n := n) (k := k) (j := j) (by omega)
  rcases Nat.lt_trichotomy (x_nb pr n k j) o with q | q | q
  · exact absurd (h3 (by omega)) (hl _ h1 q)
  · exact q
  · exact absurd (h (by omega)) (h4 o hj q)
/-- what comes behind the branch j of k (j = k: behind k itself) -/
def x_tl (ws : Nat → List Nat) (pr : Nat → Nat) (n : Nat) : Nat → Nat → Nat → List Nat
  | 0, _, _ => []
  | f + 1, k, j => if x_nb pr n k j < n then (if j = k then 40 else 44) :: (ws (x_nb pr n k j) ++ (x_tl ws pr n f (x_nb pr n k j) (x_nb pr n k j) ++ x_tl ws pr n f k (x_nb pr n k j))) else if j = k then [] else [41]
theorem x_tl_any (ws : Nat → List Nat) (pr : Nat → Nat) (n : Nat) : ∀ f g k j, j < n → n - j ≤ f → n - j ≤ g → x_tl ws pr n f k j = x_tl ws pr n g k j
  | 0, g, k, j, h, h1, h2 => by omega
  | f + 1, 0, k, j, h, h1, h2 => by omega
  | f + 1, g + 1, k, j, h, h1, h2 => by
    obtain ⟨⟨b1, b2⟩, -, -⟩ := x_nb_ok pr (n := n) (k := k) h
    rw [x_tl, x_tl]
    by_cases c : x_nb pr n k j < n
    · rw [if_pos c, if_pos c, x_tl_any ws pr n f g (x_nb pr n k j) (x_nb pr n k j) c (by omega) (by omega), x_tl_any ws pr n f g k (x_nb pr n k j) c (by omega) (by omega)]
    · rw [if_neg c, if_neg c]
def x_tt (ws : Nat → List Nat) (pr : Nat → Nat) (n k j : Nat) : List Nat := x_tl ws pr n n k j
theorem x_tt_s (ws : Nat → List Nat) (pr : Nat → Nat) {n k j : Nat} (h : j < n) (c : x_nb pr n k j < n) : x_tt ws pr n k j = (if j = k then 40 else 44) :: (ws (x_nb pr n k j) ++ (x_tt ws pr n (x_nb pr n k j) (x_nb pr n k j) ++ x_tt ws pr n k (x_nb pr n k j))) := by
  obtain ⟨⟨b1, b2⟩, -, -⟩ := x_nb_ok pr (n := n) (k := k) h
  unfold x_tt
  rw [x_tl_any ws pr n n (n - 1 + 1) k j h (by omega) (by omega), x_tl, if_pos c, x_tl_any ws pr n (n - 1) n _ _ c (by omega) (by omega), x_tl_any ws pr n (n - 1) n k _ c (by omega) (by omega)]
theorem x_tt_n (ws : Nat → List Nat) (pr : Nat → Nat) {n k j : Nat} (h : j < n) (c : ¬ x_nb pr n k j < n) : x_tt ws pr n k j = if j = k then [] else [41] := by
  unfold x_tt
  rw [x_tl_any ws pr n n (n - 1 + 1) k j h (by omega) (by omega), x_tl, if_neg c]
/-- what comes behind all that is behind j -/
def x_upf (ws : Nat → List Nat) (pr : Nat → Nat) (n : Nat) : Nat → Nat → List Nat
  | 0, _ => []
  | f + 1, j => if j = 0 then [] else x_tt ws pr n (pr j) j ++ x_upf ws pr n f (pr j)
theorem x_upf_any (ws : Nat → List Nat) (pr : Nat → Nat) (n : Nat) (hp : ∀ o, 1 ≤ o → o < n → pr o < o) : ∀ (f g c : Nat), c < n → c ≤ f → c ≤ g → x_upf ws pr n f c = x_upf ws pr n g c
  | 0, g, c, hc, hf, hg => by
    obtain rfl : c = 0 := by omega
    cases g <;> rfl
  | f + 1, 0, c, hc, hf, hg => by
    obtain rfl : c = 0 := by omega
    rfl
  | f + 1, g + 1, c, hc, hf, hg => by
    rw [x_upf, x_upf]
    by_cases h0 : c = 0
    · rw [if_pos h0, if_pos h0]
    · have h1 := hp c (by omega) hc
      rw [if_neg h0, if_neg h0, x_upf_any ws pr n hp f g (pr c) (by omega) (by omega) (by omega)]
def x_up (ws : Nat → List Nat) (pr : Nat → Nat) (n j : Nat) : List Nat := x_upf ws pr n j j
theorem x_up_0 (ws : Nat → List Nat) (pr : Nat → Nat) (n : Nat) : x_up ws pr n 0 = [] := rfl
theorem x_up_s (ws : Nat → List Nat) {pr : Nat → Nat} {n : Nat} (hp : ∀ o, 1 ≤ o → o < n → pr o < o) {j : Nat} (h1 : 1 ≤ j) (hj : j < n) : x_up ws pr n j = x_tt ws pr n (pr j) j ++ x_up ws pr n (pr j) := by
  obtain ⟨d, rfl⟩ : ∃ d, j = d + 1 := ⟨j - 1, by omega⟩
  have h2 := hp (d + 1) h1 hj
  unfold x_up
  rw [x_upf, if_neg (by omega), x_upf_any ws pr n hp d (pr (d + 1)) (pr (d + 1)) (by omega) (by omega) (by omega)]
/-! How long it is. -/
def x_tp (pr : Nat → Nat) (k : Nat) : Nat → Nat → Nat
  | 0, _ => 0
  | f + 1, o => if o = 0 then 0 else if pr o = k then o else x_tp pr k f (pr o)
theorem x_tp_le {pr : Nat → Nat} {n : Nat} (hp : ∀ o, 1 ≤ o → o < n → pr o < o) (k : Nat) : ∀ f o, o < n → x_tp pr k f o ≤ o
  | 0, o, _ => Nat.zero_le o
  | f + 1, o, h => by
    rw [x_tp]
    by_cases h0 : o = 0
    · rw [if_pos h0]; exact Nat.zero_le o
    · have h1 := hp o (by omega) h
      rw [if_neg h0]
      by_cases c : pr o = k
      · rw [if_pos c]; exact Nat.le_refl o
      · rw [if_neg c]
        have := x_tp_le hp k f (pr o) (by omega)
        omega
theorem x_tp_in {pr : Nat → Nat} {n : Nat} (hp : ∀ o, 1 ≤ o → o < n → pr o < o) {b : Nat} (h1 : 1 ≤ b) (hb : b < n) : ∀ f o, o < n → o ≤ f → b < x_tp pr b f o → x_tp pr (pr b) f o = b
  | 0, o, _, _, h => absurd h (Nat.not_lt_zero b)
  | f + 1, o, ho, hf, h => by
    have hpb := hp b h1 hb
    rw [x_tp] at h ⊢
    by_cases h0 : o = 0
    · rw [if_pos h0] at h; omega
    · have hpo := hp o (by omega) ho
      rw [if_neg h0] at h ⊢
      by_cases c : pr o = b
      · obtain ⟨g, rfl⟩ : ∃ g, f = g + 1 := ⟨f - 1, by omega⟩
        rw [if_neg (by omega), c, x_tp, if_neg (by omega), if_pos rfl]
      · rw [if_neg c] at h
        have ih := x_tp_in hp h1 hb f (pr o) (by omega) (by omega) h
        by_cases e : pr o = pr b
        · have := x_tp_le hp (pr b) f (pr o) (by omega)
          omega
        · rw [if_neg e, ih]
def x_kn (g : Nat → Nat) : Nat → Nat | 0 => 0 | n + 1 => x_kn g n + g n
theorem x_kn_add {a b d : Nat → Nat} : ∀ {n}, (∀ o, o < n → a o + b o ≤ d o) → x_kn a n + x_kn b n ≤ x_kn d n
  | 0, _ => Nat.le_refl 0
  | n + 1, h => by
    have h1 := x_kn_add (n := n) (fun o ho => h o (by omega))
    have h2 := h n (by omega)
    simp only [x_kn]
    omega
theorem x_kn_one {b : Nat} : ∀ {n}, b < n → 1 ≤ x_kn (fun o => if o = b then 1 else 0) n
  | 0, h => by omega
  | n + 1, h => by
    simp only [x_kn]
    by_cases e : n = b
    · rw [if_pos e]; omega
    · have := x_kn_one (b := b) (n := n) (by omega); omega
theorem x_kn_le {g : Nat → Nat} (h0 : g 0 = 0) (h : ∀ o, g o ≤ 1) : ∀ n, x_kn g n ≤ n - 1
  | 0 => Nat.le_refl 0
  | 1 => by simp only [x_kn]; omega
  | n + 2 => by
    have := x_kn_le h0 h (n + 1)
    have := h (n + 1)
    rw [x_kn]
    omega
def x_cg (pr : Nat → Nat) (n k j : Nat) : Nat := x_kn (fun o => if j < x_tp pr k n o then 1 else 0) n
theorem x_cg_s {pr : Nat → Nat} {n : Nat} (hp : ∀ o, 1 ≤ o → o < n → pr o < o) {b j : Nat} (hj : j < b) (hb : b < n) : 1 + (x_cg pr n b b + x_cg pr n (pr b) b) ≤ x_cg pr n (pr b) j := by
  have h3 := x_kn_one hb
  have h1 : x_cg pr n b b + x_cg pr n (pr b) b ≤ x_kn (fun o => if b < x_tp pr b n o then 1 else if b < x_tp pr (pr b) n o then 1 else 0) n := x_kn_add (fun o ho => by
    by_cases q : b < x_tp pr b n o
    · have := x_tp_in hp (by omega) hb n o ho (by omega) q
      rw [if_pos q, if_pos q, if_neg (by omega)]
      omega
    · rw [if_neg q, if_neg q]
      omega)
  have h2 : x_kn (fun o => if o = b then 1 else 0) n + x_kn (fun o => if b < x_tp pr b n o then 1 else if b < x_tp pr (pr b) n o then 1 else 0) n ≤ x_cg pr n (pr b) j := x_kn_add (fun o ho => by
    by_cases e : o = b
    · subst e
      have a1 := x_tp_le hp o n o hb
      have a2 : x_tp pr (pr o) n o = o := by
        obtain ⟨g, rfl⟩ : ∃ g, n = g + 1 := ⟨n - 1, by omega⟩
        rw [x_tp, if_neg (by omega), if_pos rfl]
      rw [if_pos rfl, if_neg (by omega), if_neg (by omega), if_pos (by omega)]
      omega
    · rw [if_neg e]
      by_cases q : b < x_tp pr b n o
      · have := x_tp_in hp (by omega) hb n o ho (by omega) q
        rw [if_pos q, if_pos (by omega)]
        omega
      · rw [if_neg q]
        by_cases q2 : b < x_tp pr (pr b) n o
        · rw [if_pos q2, if_pos (by omega)]
          omega
        · rw [if_neg q2]
          omega)
  omega
theorem x_tl_len {ws : Nat → List Nat} {pr : Nat → Nat} {n : Nat} (hp : ∀ o, 1 ≤ o → o < n → pr o < o) (hws : ∀ o, o < n → (ws o).length ≤ 6) : ∀ f k j, k ≤ j → j < n → (x_tl ws pr n f k j).length ≤ 8 * x_cg pr n k j + if j = k then 0 else 1
  | 0, k, j, _, _ => Nat.zero_le _
  | f + 1, k, j, hk, h => by
    obtain ⟨⟨b1, b2⟩, b3, -⟩ := x_nb_ok pr (n := n) (k := k) h
    rw [x_tl]
    by_cases c : x_nb pr n k j < n
    · have e := b3 c
      have hc := x_cg_s hp b1 c
      rw [e] at hc
      have h1 := x_tl_len hp hws f (x_nb pr n k j) (x_nb pr n k j) (Nat.le_refl _) c
      have h2 := x_tl_len hp hws f k (x_nb pr n k j) (by omega) c
      have h3 := hws _ c
      rw [if_pos rfl] at h1
      rw [if_neg (show ¬ x_nb pr n k j = k by omega)] at h2
      rw [if_pos c, List.length_cons, List.length_append, List.length_append]
      omega
    · rw [if_neg c]
      by_cases q : j = k
      · rw [if_pos q]; exact Nat.zero_le _
      · rw [if_neg q, if_neg q]
        show 1 ≤ _
        omega
/-- the whole text is not too long -/
theorem x_tt_len {ws : Nat → List Nat} {pr : Nat → Nat} {n : Nat} (hp : ∀ o, 1 ≤ o → o < n → pr o < o) (hws : ∀ o, o < n → (ws o).length ≤ 6) (hn1 : 1 ≤ n) (hn : n ≤ 20) : (ws 0 ++ x_tt ws pr n 0 0).length ≤ 160 := by
  have h1 := x_tl_len hp hws n 0 0 (Nat.le_refl 0) (by omega)
  have h2 := hws 0 (by omega)
  have h3 : x_cg pr n 0 0 ≤ n - 1 := x_kn_le (by cases n with
    | zero => rfl
    | succ m => rw [x_tp, if_pos rfl]; rfl) (fun o => by split <;> omega) n
  rw [if_pos rfl] at h1
  rw [List.length_append]
  unfold x_tt
  omega
/-- a street's own text -/
def x_wsf (w c s p : Nat) : List Nat := (48 + w) :: ((if 0 < c then [97 + c - 1] else []) ++ ((if s = 1 then [33] else []) ++ ((if 0 < p then [42] else []) ++ ((if 9 < p then [48 + p / 10] else []) ++ if 0 < p then [48 + p % 10] else []))))
theorem x_wsf_len (w c s p : Nat) : (x_wsf w c s p).length ≤ 6 := by
  unfold x_wsf
  simp only [List.length_cons, List.length_append]
  have : ∀ (P : Prop) [Decidable P] (z : Nat), (if P then [z] else []).length ≤ 1 := fun P _ z => by split <;> simp
  have h1 := this (0 < c) (97 + c - 1)
  have h2 := this (s = 1) 33
  have h3 := this (0 < p) 42
  have h4 := this (9 < p) (48 + p / 10)
  have h5 := this (0 < p) (48 + p % 10)
  omega
def x_ws (W C M P : Nat → Int32) (o : Nat) : List Nat := x_wsf (W o).toNatClampNeg (C o).toNatClampNeg (M o).toNatClampNeg (P o).toNatClampNeg
/-- what is written out so far -/
def xOu (S : List Nat) (ou : Nat → Int32) (k : Nat) : Prop := k = S.length ∧ ∀ j, j < k → ou j = nI (S.getD j 0)
theorem xOu_put {S : List Nat} {ou : Nat → Int32} {k : Nat} (h : xOu S ou k) (x : Nat) : xOu (S ++ [x]) (upd ou k (nI x)) (k + 1) := by
  obtain ⟨h1, h2⟩ := h
  subst h1
  refine ⟨by rw [List.length_append, List.length_singleton], fun j hj => ?_⟩
  by_cases e : j = S.length
  · subst e
    have e2 := x_gd2 (S := S) (T := [x]) (j := 0)
    rw [pk_us, show S.length = S.length + 0 from rfl, e2]
    rfl
  · rw [pk_un e, h2 j (by omega), x_gd1 (by omega)]
theorem x_ws_pos (W C M P : Nat → Int32) (o : Nat) : 1 ≤ (x_ws W C M P o).length := by
  unfold x_ws x_wsf
  rw [List.length_cons]
  omega
theorem x_ws_len (W C M P : Nat → Int32) (o : Nat) : (x_ws W C M P o).length ≤ 6 := x_wsf_len _ _ _ _
/-- the streets of a town, each with its text -/
abbrev x_wT (T : Nat → Int32) : Nat → List Nat := x_ws (x_tW T) (x_tC T) (x_tM T) (x_tP T)
def x_tx (T : Nat → Int32) (pr : Nat → Nat) (n : Nat) : List Nat := x_wT T 0 ++ x_tt (x_wT T) pr n 0 0
