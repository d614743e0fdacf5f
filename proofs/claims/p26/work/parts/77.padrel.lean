/-! Pads, on both sides. -/
theorem x_fitc {v : Int32} (h : fits .char (.int v) = true) : ∃ x, x < 65536 ∧ v = nI x := by
  have h3 : (decide ((0 : Int32) ≤ v) && decide (v ≤ 65535)) = true := h
  rw [Bool.and_eq_true, decide_eq_true_eq, decide_eq_true_eq] at h3
  obtain ⟨k, -, hk, e⟩ := x_rngE (a := 0) (b := 65535) (by omega) (by omega) h3
  exact ⟨k, by omega, e⟩
section
variable {cs cs2 pd pd2 : Nat → Int32} {ov ov2 : Int32} {ln : Nat}
theorem xPR.mpd (h : xPR cs ov pd ln) : ∀ j, j < ln → pd j = nI ((pd j).toNatClampNeg) ∧ (pd j).toNatClampNeg < 65536 := by
  intro j hj
  obtain ⟨x, hx, e⟩ := x_fitc (h.2.2.1 j (by have := h.1; omega))
  rw [h.2.2.2 j hj] at e
  rw [e, nI_clamp (by omega)]
  exact ⟨rfl, hx⟩
theorem xPR.csd (h : xPR cs ov pd ln) : ∀ j, j < ln → cs j = nI ((pd j).toNatClampNeg) ∧ (pd j).toNatClampNeg < 65536 := by
  intro j hj
  rw [h.2.2.2 j hj]
  exact h.mpd j hj
def x_chs (cs : Nat → Int32) (ln : Nat) : List Nat := (List.range ln).map (fun j => (cs j).toNatClampNeg)
theorem x_chs_len : (x_chs cs ln).length = ln := by unfold x_chs; rw [List.length_map, List.length_range]
theorem x_chs_at {j : Nat} (h : j < ln) : (x_chs cs ln).getD j 0 = (cs j).toNatClampNeg := by
  unfold x_chs
  rw [List.getD_eq_getElem?_getD, List.getElem?_map, List.getElem?_range h]
  rfl
theorem xPR.pad (h : xPR cs ov pd ln) : xPad (x_chs cs ln) cs ln ov := by
  have h1 := h.1
  refine ⟨by rw [x_chs_len]; omega, fun j hj => ?_, ?_, h.2.2.1⟩
  · rw [x_chs_at hj]
    obtain ⟨x, hx, e⟩ := x_fitc (h.2.2.1 j (by omega))
    rw [e, nI_clamp (by omega)]
  · rw [h.2.1, x_chs_len, if_neg (by omega)]
theorem x_pv_u {x : Int64} {n m : Nat} (h1 : x_pv x n) (h2 : x_pv x m) : n = m := by
  rcases Nat.lt_trichotomy n m with q | q | q
  · have a := h2.2.1 n q
    have b := h1.2.2 n (Nat.le_refl n) (by have := h2.1; omega)
    omega
  · exact q
  · have a := h1.2.1 m q
    have b := h2.2.2 m (Nat.le_refl m) (by have := h1.1; omega)
    omega
theorem xPR.put (h : xPR cs ov pd ln) {ch : Int64} {n z : Nat} (hn : ln + n ≤ 80) (hc : xPad (x_chs cs ln ++ x_sg ch n n) cs2 z ov2) (hp : pd2 = x_pt pd (fun i => nI (x_by ch (n - 1 - i))) ln n) : z = ln + n ∧ xPR cs2 ov2 pd2 (ln + n) := by
  obtain ⟨h1, h2, h3, h4⟩ := hc
  rw [List.length_append, x_chs_len, x_sg_len] at h1 h3
  have hz : z = ln + n := by omega
  refine ⟨hz, hn, by rw [h3, if_neg (by omega)], h4, fun j hj => ?_⟩
  rw [h2 j (by omega), hp]
  by_cases c : j < ln
  · rw [x_gd1 (by rw [x_chs_len]; exact c), x_chs_at c, x_pt_out (Or.inl c)]
    rw [h.2.2.2 j c]
    exact (h.mpd j c).1.symm
  · obtain ⟨i, rfl⟩ : ∃ i, j = ln + i := ⟨j - ln, by omega⟩
    have e := x_gd2 (S := x_chs cs ln) (T := x_sg ch n n) (j := i)
    rw [x_chs_len] at e
    rw [e, x_sg_at ch n n i (by omega), x_pt_in (by omega) (by omega), Nat.add_sub_cancel_left]
/-- a whole text in the pad -/
theorem xPR.text {U : List Nat} (hU : U.length ≤ 80) (hc : xPad U cs2 U.length ov2) (hp : ∀ j, j < U.length → pd2 j = nI (U.getD j 0)) : xPR cs2 ov2 pd2 U.length := by
  obtain ⟨h1, h2, h3, h4⟩ := hc
  exact ⟨hU, by rw [h3, if_neg (by omega)], h4, fun j hj => by rw [h2 j hj, hp j hj]⟩
theorem xPR.nil (h : xPR cs ov pd ln) : xPR cs 0 pd 0 := ⟨by omega, rfl, h.2.2.1, fun j hj => absurd hj (Nat.not_lt_zero j)⟩
end
theorem x_tl_cong {ws ws' : Nat → List Nat} {pr : Nat → Nat} {n : Nat} (h : ∀ o, o < n → ws o = ws' o) : ∀ f k j, x_tl ws pr n f k j = x_tl ws' pr n f k j
  | 0, _, _ => rfl
  | f + 1, k, j => by
    rw [x_tl, x_tl]
    by_cases c : x_nb pr n k j < n
    · rw [if_pos c, if_pos c, h _ c, x_tl_cong h f _ _, x_tl_cong h f k _]
    · rw [if_neg c, if_neg c]
theorem xSR.tx {T : Nat → Int32} {n : Nat} {pr : Nat → Nat} {f1 f2 f3 f4 f5 : Nat → Int32} (h : xSR T n f1 f2 f3 f4 f5) (hn1 : 1 ≤ n) : x_ws f2 f3 f4 f5 0 ++ x_tt (x_ws f2 f3 f4 f5) pr n 0 0 = x_tx T pr n := by
  have e : ∀ o, o < n → x_ws f2 f3 f4 f5 o = x_wT T o := fun o ho => by
    obtain ⟨e1, e2, e3, e4⟩ := h.2.2 o ho
    unfold x_wT x_ws
    rw [e1, e2, e3, e4]
  unfold x_tx x_tt
  rw [e 0 (by omega), x_tl_cong e n 0 0]
