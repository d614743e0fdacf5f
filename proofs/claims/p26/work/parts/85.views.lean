/-! What the law tells of a street, step by step, against what the class answers. -/
section
variable {s : Nat → Int32} {n k i : Nat} {pr : Nat → Nat}
theorem xv_np (hok : x_ok s n pr) (hi : i < n) (hk : k < n) : x_np (x_tF s i) = nI k ↔ x_tF s i = nI k := by
  have hn := hok.1
  rcases Nat.eq_zero_or_pos i with rfl | h1
  · have e : x_tF s 0 = -1 := hok.2.2.2.1
    rw [e]
    exact ⟨fun z => absurd z (x_m6 k (by omega)), fun z => absurd z (x_m1 k (by omega))⟩
  · have e : x_tF s i = nI (pr i) := (hok.2.2.2.2.1 i h1 hi).1
    have := (hok.2.2.2.2.1 i h1 hi).2
    rw [e, x_npI (by omega)]
theorem xv_np0 (hok : x_ok s n pr) : x_np (x_tF s 0) = -6 := by
  have e : x_tF s 0 = -1 := hok.2.2.2.1
  rw [e]
  rfl
theorem xv_npk (hok : x_ok s n pr) (h1 : 1 ≤ k) (hk : k < n) : x_np (x_tF s k) = nI (pr k) := by
  have hn := hok.1
  have e : x_tF s k = nI (pr k) := (hok.2.2.2.2.1 k h1 hk).1
  have := (hok.2.2.2.2.1 k h1 hk).2
  rw [e, x_npI (by omega)]
theorem xv_np2 (hok : x_ok s n pr) (h1 : 1 ≤ i) (hi : i < n) (h2 : 1 ≤ k) (hk : k < n) : x_np (x_tF s i) = x_np (x_tF s k) ↔ x_tF s i = x_tF s k := by
  have hn := hok.1
  have e1 : x_tF s k = nI (pr k) := (hok.2.2.2.2.1 k h2 hk).1
  have := (hok.2.2.2.2.1 k h2 hk).2
  rw [xv_npk hok h2 hk, xv_np hok hi (by omega), e1]
/-- the branches -/
theorem xv_br1 {br : Int32} (hok : x_ok s n pr) (hi : i < n) (hk : k < n) (hb : br = x_orf (x_bo (x_tF s) (nI k)) i) (c : x_np (x_tF s i) = nI k) : br ||| (1 <<< (nI i &&& 31)) = x_orf (x_bo (x_tF s) (nI k)) (i + 1) := by
  rw [x_orf, hb, x_bo, if_pos ((xv_np hok hi hk).mp c)]
theorem xv_br0 {br : Int32} (hok : x_ok s n pr) (hi : i < n) (hk : k < n) (hb : br = x_orf (x_bo (x_tF s) (nI k)) i) (c : ¬ x_np (x_tF s i) = nI k) : br ||| 0 = x_orf (x_bo (x_tF s) (nI k)) (i + 1) := by
  rw [x_orf, hb, x_bo, if_neg (fun q => c ((xv_np hok hi hk).mpr q))]
/-- those behind -/
def xv_bg (s : Nat → Int32) (pr : Nat → Nat) (n k j : Nat) : Int32 := if x_tF s j = nI k then nI (1 + x_bn pr j (n - (j + 1))) else 0
theorem xv_be1 {be : Int32} (hok : x_ok s n pr) (hi : i < n) (hk : k < n) (hb : be = x_sm (xv_bg s pr n k) i) (c : x_np (x_tF s i) = nI k) : be + nI (1 + x_bn pr i (n - (i + 1))) = x_sm (xv_bg s pr n k) (i + 1) := by
  rw [x_sm, hb, xv_bg, if_pos ((xv_np hok hi hk).mp c)]
theorem xv_be0 {be : Int32} (hok : x_ok s n pr) (hi : i < n) (hk : k < n) (hb : be = x_sm (xv_bg s pr n k) i) (c : ¬ x_np (x_tF s i) = nI k) : be + 0 = x_sm (xv_bg s pr n k) (i + 1) := by
  rw [x_sm, hb, xv_bg, if_neg (fun q => c ((xv_np hok hi hk).mpr q))]
theorem xv_hp (hok : x_ok s n pr) : ∀ o, 1 ≤ o → o < n → pr o < o := fun o h1 h2 => (hok.2.2.2.2.1 o h1 h2).2
theorem xv_be (hok : x_ok s n pr) (hk : k < n) : x_sm (xv_bg s pr n k) n = nI (x_bn pr k (n - (k + 1))) := by
  have hp := xv_hp hok
  have hn := hok.1
  have key : ∀ m, m ≤ n → x_sm (xv_bg s pr n k) m = nI (xt_b pr n k m) := by
    intro m
    induction m with
    | zero => intro _; rw [xt_b_0]; rfl
    | succ m ih =>
      intro hm
      rw [x_sm, ih (by omega), xv_bg]
      by_cases c : x_tF s m = nI k
      · have h1 : 1 ≤ m := by
          rcases Nat.eq_zero_or_pos m with rfl | h1
          · have e : x_tF s 0 = -1 := hok.2.2.2.1
            rw [e] at c
            exact absurd c (x_m1 k (by omega))
          · exact h1
        have e : x_tF s m = nI (pr m) := (hok.2.2.2.2.1 m h1 (by omega)).1
        have h2 := hp m h1 (by omega)
        have e2 : pr m = k := (nI_eq (by omega) (by omega)).mp (e.symm.trans c)
        rw [if_pos c, nI_add, xt_b_y hp h1 (by omega) e2, xt_bn hp (by omega)]
      · have hno : ¬ (1 ≤ m ∧ pr m = k) := fun q => c (by
          have e : x_tF s m = nI (pr m) := (hok.2.2.2.2.1 m q.1 (by omega)).1
          rw [e, q.2])
        rw [if_neg c, x_add0, xt_b_n hp hno]
  rw [key n (Nat.le_refl n), xt_bn hp hk]
/-- widths and narrower ones beside a street -/
theorem xv_wd1 {wd : Int32} (hok : x_ok s n pr) (hi : i < n) (hk : k < n) (h1 : 1 ≤ i) (h2 : 1 ≤ k) (hw : wd = x_sm (x_tg (x_tF s) (x_tW s) (-6) k) i) (c : x_np (x_tF s i) = x_np (x_tF s k)) : wd + x_tW s i = x_sm (x_tg (x_tF s) (x_tW s) (-6) k) (i + 1) := by
  have hn := hok.1
  rw [x_sm, hw, x_tg, if_pos ⟨fun z => x_m6 i (by omega) z.symm, (xv_np2 hok h1 hi h2 hk).mp c⟩]
theorem xv_tz (hok : x_ok s n pr) (hi : i < n) (hk : k < n) (h2 : 1 ≤ k) (c : i ≤ 0 ∨ ¬ x_np (x_tF s i) = x_np (x_tF s k)) : ¬ x_tF s i = x_tF s k := by
  have hn := hok.1
  have hp := xv_hp hok k h2 hk
  have ek : x_tF s k = nI (pr k) := (hok.2.2.2.2.1 k h2 hk).1
  rcases Nat.eq_zero_or_pos i with rfl | h1
  · have e : x_tF s 0 = -1 := hok.2.2.2.1
    rw [e, ek]
    exact x_m1 _ (by omega)
  · exact fun z => (c.resolve_left (by omega)) ((xv_np2 hok h1 hi h2 hk).mpr z)
theorem xv_wd0 {wd : Int32} (hok : x_ok s n pr) (hi : i < n) (hk : k < n) (h2 : 1 ≤ k) (hw : wd = x_sm (x_tg (x_tF s) (x_tW s) (-6) k) i) (c : i ≤ 0 ∨ ¬ x_np (x_tF s i) = x_np (x_tF s k)) : wd + 0 = x_sm (x_tg (x_tF s) (x_tW s) (-6) k) (i + 1) := by
  rw [x_sm, hw, x_tg, if_neg (fun q => xv_tz hok hi hk h2 c q.2)]
theorem xv_na1 {na : Int32} (hok : x_ok s n pr) (hi : i < n) (hk : k < n) (h1 : 1 ≤ i) (h2 : 1 ≤ k) (hw : na = x_sm (x_nr (x_tF s) (x_tW s) (-6) k) i) (c : x_np (x_tF s i) = x_np (x_tF s k)) (d : ¬ x_tW s k ≤ x_tW s i) : na + 1 = x_sm (x_nr (x_tF s) (x_tW s) (-6) k) (i + 1) := by
  have hn := hok.1
  rw [x_sm, hw, x_nr, if_pos ⟨⟨fun z => x_m6 i (by omega) z.symm, (xv_np2 hok h1 hi h2 hk).mp c⟩, Int32.not_le.mp d⟩]
theorem xv_na2 {na : Int32} (hw : na = x_sm (x_nr (x_tF s) (x_tW s) (-6) k) i) (d : x_tW s k ≤ x_tW s i) : na + 0 = x_sm (x_nr (x_tF s) (x_tW s) (-6) k) (i + 1) := by
  rw [x_sm, hw, x_nr, if_neg (fun q => (Int32.not_lt.mpr d) q.2)]
theorem xv_na0 {na : Int32} (hok : x_ok s n pr) (hi : i < n) (hk : k < n) (h2 : 1 ≤ k) (hw : na = x_sm (x_nr (x_tF s) (x_tW s) (-6) k) i) (c : i ≤ 0 ∨ ¬ x_np (x_tF s i) = x_np (x_tF s k)) : na + 0 = x_sm (x_nr (x_tF s) (x_tW s) (-6) k) (i + 1) := by
  rw [x_sm, hw, x_nr, if_neg (fun q => xv_tz hok hi hk h2 c q.1.2)]
end
/-! Minima. -/
theorem x_mn_le {x y : Int32} (h : y ≤ x) : x_mn x y = y := by
  unfold x_mn
  by_cases c : y < x
  · rw [if_pos c]
  · rw [if_neg c]
    exact Int32.le_antisymm (Int32.not_lt.mp c) h
theorem x_mn_ge {x y : Int32} (h : x ≤ y) : x_mn x y = x := by
  unfold x_mn
  rw [if_neg (Int32.not_lt.mpr h)]
/-- a street's force, by the one off which it branches -/
theorem xv_fk {s : Nat → Int32} {k a : Nat} {wd na : Int32} (hok : x_ok s (tN s) (tR s)) (h1 : 1 ≤ k) (hk : k < tN s) (ha : 1 ≤ a) (ha2 : a < 2 ^ 31) (hwd : wd = x_sm (x_tg (x_tF s) (x_tW s) (-6) k) (tN s)) (hwa : wd = nI a) (hna : na = x_sm (x_nr (x_tF s) (x_tW s) (-6) k) (tN s)) : tF s k = x_mn (tF s (tR s k)) (tF s (tR s k) * x_tW s k / nI a + 5 * na) := by
  unfold tF
  rw [x_FT_s _ _ _ _ _ h1 (xv_hp hok k h1 hk)]
  unfold x_sh
  dsimp only
  rw [← hwd, ← hna, hwa, x_quo_n _ ha ha2]
theorem xv_f0 (s : Nat → Int32) : tF s 0 = s 4 := x_FT_0 _ _ _ _ _
/-- hats -/
theorem xv_h0 {s : Nat → Int32} {F p : Int32} (h : ¬ 0 < F + F * s 2 / 100 - s 1) : 0 = x_ha s F p := by
  unfold x_ha x_gu
  rw [if_neg h]
theorem xv_h1 {s : Nat → Int32} {F p : Int32} (h : 0 < F + F * s 2 / 100 - s 1) (h2 : ¬ p ≤ (F + F * s 2 / 100 - s 1) / 4 + 1) : (F + F * s 2 / 100 - s 1) / 4 + 1 = x_ha s F p := by
  unfold x_ha x_gu
  rw [if_pos h, x_mn_le (Int32.le_of_lt (Int32.not_le.mp h2))]
theorem xv_h2 {s : Nat → Int32} {F p : Int32} (h : 0 < F + F * s 2 / 100 - s 1) (h2 : p ≤ (F + F * s 2 / 100 - s 1) / 4 + 1) : p = x_ha s F p := by
  unfold x_ha x_gu
  rw [if_pos h, x_mn_ge h2]
/-- a flag's steps, smoke's -/
theorem xv_q1 {F d m : Int32} (hd : 0 < d) (h : F / d ≤ m) : x_mn m (x_quo F d) = F / d := by
  unfold x_quo
  rw [if_pos hd, x_mn_le h]
theorem xv_q2 {F d m : Int32} (hd : 0 < d) (h : ¬ F / d ≤ m) : x_mn m (x_quo F d) = m := by
  unfold x_quo
  rw [if_pos hd, x_mn_ge (Int32.le_of_lt (Int32.not_le.mp h))]
theorem xv_pos {v : Int32} {a b : Nat} (h : ∃ x, a ≤ x ∧ x ≤ b ∧ v = nI x) (ha : 1 ≤ a) (hb : b < 2 ^ 31) : 0 < v := by
  obtain ⟨x, h1, h2, rfl⟩ := h
  exact nI_lt (a := 0) (by omega) (by omega)
theorem xv_ne {v : Int32} (h : 0 < v) : ¬ v = 0 := fun e => absurd h (by rw [e]; decide)
/-- the depth -/
theorem xv_dep {s : Nat → Int32} {k : Nat} (hok : x_ok s (tN s) (tR s)) (h1 : 1 ≤ k) (hk : k < tN s) : x_dep (tR s) k k = x_dep (tR s) (tR s k) (tR s k) + 1 := x_dep_step (tR s) (tN s) (xv_hp hok) h1 hk
