/-! All streets: the street where the wind is the strongest of those that end there; hats and people. -/
def xw_I (e F : Nat → Int32) (n : Nat) (wi : Int32) (i : Nat) : Prop := (x_wd e F i = -6 ∧ wi = -1) ∨ ∃ j, j < n ∧ x_wd e F i = nI j ∧ wi = nI j
section
variable {e F : Nat → Int32} {n i j : Nat} {wi : Int32}
theorem xw_n (h : xw_I e F n wi i) (c : ¬ e i = 0) : xw_I e F n wi (i + 1) := by
  have e1 : x_wd e F (i + 1) = x_wd e F i := by rw [x_wd, if_neg (fun q => c q.1)]
  unfold xw_I
  rw [e1]
  exact h
theorem xw_f (h : xw_I e F n wi i) (c : e i = 0) (d : wi < 0) (hi : i < n) (hn : n < 2 ^ 31) : xw_I e F n (nI i) (i + 1) := by
  rcases h with ⟨h1, h2⟩ | ⟨j, h1, h2, h3⟩
  · exact Or.inr ⟨i, hi, by rw [x_wd, if_pos ⟨c, Or.inl h1⟩], rfl⟩
  · rw [h3] at d
    exact absurd d (nI_pos (by omega))
theorem xw_y (h1 : x_wd e F i = nI j) (hj : j < n) (c : e i = 0) (d : ¬ F i ≤ F j) (hi : i < n) (hn : n < 2 ^ 31) : xw_I e F n (nI i) (i + 1) := by
  have hlt : F (x_wd e F i).toNatClampNeg < F i := by
    rw [h1, nI_clamp (by omega)]
    exact Int32.not_le.mp d
  exact Or.inr ⟨i, hi, by rw [x_wd, if_pos ⟨c, Or.inr hlt⟩], rfl⟩
theorem xw_k (h1 : x_wd e F i = nI j) (hj : j < n) (d : F i ≤ F j) (hn : n < 2 ^ 31) : xw_I e F n (nI j) (i + 1) := by
  refine Or.inr ⟨j, hj, ?_, rfl⟩
  rw [x_wd, if_neg, h1]
  rintro ⟨-, q | q⟩
  · rw [h1] at q
    exact x_m6 j (by omega) q.symm
  · rw [h1, nI_clamp (by omega)] at q
    exact (Int32.not_lt.mpr d) q
theorem xw_s (hn : n < 2 ^ 31) : ∀ m, m ≤ n → (∃ k, k < m ∧ e k = 0) → ¬ x_wd e F m = -6
  | 0, _, ⟨k, hk, _⟩ => absurd hk (Nat.not_lt_zero k)
  | m + 1, hm, ⟨k, hk, h⟩ => by
    rw [x_wd]
    by_cases c : e m = 0 ∧ (x_wd e F m = -6 ∨ F (x_wd e F m).toNatClampNeg < F m)
    · rw [if_pos c]
      exact fun z => x_m6 m (by omega) z.symm
    · rw [if_neg c]
      intro z
      by_cases q : k = m
      · subst q
        exact c ⟨h, Or.inl z⟩
      · exact xw_s hn m (by omega) ⟨k, by omega, h⟩ z
end
theorem x_orf_0 {g : Nat → Int32} : ∀ {n : Nat}, (∀ k, k < n → g k = 0) → x_orf g n = 0
  | 0, _ => rfl
  | n + 1, h => by rw [x_orf_z (h n (by omega)), x_orf_0 (fun k hk => h k (by omega))]
theorem xw_e {s F : Nat → Int32} {n : Nat} {pr : Nat → Nat} {wi : Int32} (hok : x_ok s n pr) (h : xw_I (x_bs s n) F n wi n) : x_wd (x_bs s n) F n = wi := by
  have hn := hok.1
  have hn1 := hok.2.1
  rcases h with ⟨h1, -⟩ | ⟨j, -, h2, h3⟩
  · refine absurd h1 (xw_s (by omega) n (Nat.le_refl n) ⟨n - 1, by omega, ?_⟩)
    unfold x_bs
    refine x_orf_0 (fun k hk => ?_)
    unfold x_bo
    refine if_neg (fun q => ?_)
    rcases Nat.eq_zero_or_pos k with rfl | h1
    · have e0 : x_tF s 0 = -1 := hok.2.2.2.1
      rw [e0] at q
      exact x_m1 _ (by omega) q
    · have e1 : x_tF s k = nI (pr k) := (hok.2.2.2.2.1 k h1 hk).1
      have h4 := (hok.2.2.2.2.1 k h1 hk).2
      rw [e1] at q
      have := (nI_eq (by omega) (by omega)).mp q
      omega
  · exact h2.trans h3.symm
theorem xv_l1 {F : Nat → Int32} {le i : Nat} (h : le = x_lst F i) (c : F le ≤ F i) : le = x_lst F (i + 1) := by
  rw [x_lst, ← h, if_neg (Int32.not_lt.mpr c)]
theorem xv_l2 {F : Nat → Int32} {le i : Nat} (h : le = x_lst F i) (c : ¬ F le ≤ F i) : i = x_lst F (i + 1) := by
  rw [x_lst, ← h, if_pos (Int32.not_le.mp c)]
theorem xv_s1 {s F : Nat → Int32} {se : Int32} {i : Nat} (h : se = x_orf (x_shk s F) i) (c : x_hc s F i = 0) : se ||| (1 <<< (nI i &&& 31)) = x_orf (x_shk s F) (i + 1) := by
  rw [x_orf, h, x_shk, if_pos c]
theorem xv_s0 {s F : Nat → Int32} {se : Int32} {i : Nat} (h : se = x_orf (x_shk s F) i) (c : ¬ x_hc s F i = 0) : se ||| 0 = x_orf (x_shk s F) (i + 1) := by
  rw [x_orf, h, x_shk, if_neg c]
theorem x_posn {x : Int32} (h : 0 < x) : ∃ k, k < 2 ^ 31 ∧ x = nI k := by
  have h1 : nI 0 ≤ x ∧ x ≤ nI 2147483647 := by
    refine ⟨Int32.le_of_lt h, ?_⟩
    rw [x_toInt_le, nI_toInt (by omega)]
    have := Int32.toInt_lt x
    omega
  obtain ⟨k, -, hk, e⟩ := (x_rng (a := 0) (b := 2147483647) (by omega) (by omega)).mp h1
  exact ⟨k, by omega, e⟩
theorem x_ha_le {s : Nat → Int32} {F : Int32} {v : Nat} (hv : v < 2 ^ 31) : ∃ h, h ≤ v ∧ x_ha s F (nI v) = nI h := by
  unfold x_ha
  by_cases c : 0 < x_gu s F - s 1
  · obtain ⟨k, hk, e⟩ := x_posn c
    rw [if_pos c, e, show (4 : Int32) = nI 4 from rfl, pk_div (a := k) (d := 4) (by omega) (by omega) (by omega), show (1 : Int32) = nI 1 from rfl, nI_add]
    unfold x_mn
    by_cases d : nI (k / 4 + 1) < nI v
    · rw [if_pos d]
      have := (nI_ltI (a := k / 4 + 1) (b := v) (by omega) (by omega)).mp d
      exact ⟨k / 4 + 1, by omega, rfl⟩
    · rw [if_neg d]
      exact ⟨v, Nat.le_refl v, rfl⟩
  · rw [if_neg c]
    exact ⟨0, Nat.zero_le v, rfl⟩
theorem xv_hp2 {s F : Nat → Int32} {n : Nat} {pr : Nat → Nat} (hok : x_ok s n pr) : ¬ x_sm (x_tP s) n < x_sm (x_hc s F) n := by
  have hn := hok.1
  have key : ∀ m, m ≤ n → ∃ a b, a ≤ b ∧ b ≤ 99 * m ∧ x_sm (x_hc s F) m = nI a ∧ x_sm (x_tP s) m = nI b := by
    intro m
    induction m with
    | zero => intro _; exact ⟨0, 0, by omega, by omega, rfl, rfl⟩
    | succ m ih =>
      intro hm
      obtain ⟨a, b, h1, h2, h3, h4⟩ := ih (by omega)
      obtain ⟨v, v1, v2⟩ := hok.2.2.2.2.2.2.2.2.1 m (by omega)
      have v2 : x_tP s m = nI v := v2
      obtain ⟨h, hh1, hh2⟩ := x_ha_le (s := s) (F := F m) (v := v) (by omega)
      refine ⟨a + h, b + v, by omega, by omega, ?_, ?_⟩
      · rw [x_sm, h3, x_hc, v2, hh2, nI_add]
      · rw [x_sm, h4, v2, nI_add]
  obtain ⟨a, b, h1, h2, h3, h4⟩ := key n (Nat.le_refl n)
  rw [h3, h4]
  exact nI_nlt (by omega) (by omega)
/-! Hours. -/
def xh_v (T : Nat → Int32) (su wh : Int32) (w : Nat) : Int32 := if w = 0 then T 4 else if w = 1 then su else wh
theorem xh_rec {T : Nat → Int32} {su wh : Int32} {w : Nat} (hw : w ≤ 2) : ∀ i k, k < 8 → x_hrs T su wh i (9 + 3 * k + w) = if k < i then xh_v T su wh w else T (9 + 3 * (k - i) + w)
  | 0, k, hk => by
    rw [if_neg (Nat.not_lt_zero k)]
    rfl
  | i + 1, k, hk => by
    rw [x_hrs, x_hour, if_neg (by omega), if_neg (by omega), if_neg (by omega)]
    rcases Nat.eq_zero_or_pos k with rfl | h1
    · rw [if_pos (Nat.succ_pos i)]
      rcases (show w = 0 ∨ w = 1 ∨ w = 2 by omega) with rfl | rfl | rfl
      · rw [if_neg (by omega), if_neg (by omega), if_pos rfl, x_hrs_out (by omega)]
        rfl
      · rw [if_neg (by omega), if_pos rfl]
        rfl
      · rw [if_pos rfl]
        rfl
    · rw [if_neg (by omega), if_neg (by omega), if_neg (by omega), x_sft, if_pos (by omega), show 9 + 3 * k + w - 3 = 9 + 3 * (k - 1) + w by omega, xh_rec hw i (k - 1) (by omega)]
      by_cases c : k - 1 < i
      · rw [if_pos c, if_pos (by omega)]
      · rw [if_neg c, if_neg (by omega), show k - 1 - i = k - (i + 1) by omega]
theorem xh_7 {T : Nat → Int32} {su wh : Int32} : ∀ i, x_hrs T su wh i 7 = T 7 + x_rep su i
  | 0 => (x_add0 _).symm
  | i + 1 => by
    rw [x_hrs, x_hour, if_pos rfl, xh_7 i, x_rep, Int32.add_assoc]
theorem xh_N {T : Nat → Int32} {su wh : Int32} (i : Nat) : tN (x_hrs T su wh i) = tN T := tN_eq (x_hrs_out (by omega) i)
theorem xh_R {T : Nat → Int32} {su wh : Int32} (i : Nat) : tR (x_hrs T su wh i) = tR T := by
  funext o
  unfold tR
  rw [x_hrs_out (by omega) i]
theorem xh_su {T : Nat → Int32} {su wh : Int32} (hok : x_ok T (tN T) (tR T)) (i : Nat) : x_sm (x_hc (x_hrs T su wh i) (tF (x_hrs T su wh i))) (tN (x_hrs T su wh i)) = x_sm (x_hc T (tF T)) (tN T) := by
  have h := x_hrs_hb (T := T) (su := su) (wh := wh) hok.1 (xv_hp hok) i
  rw [xh_N i]
  unfold tF
  rw [xh_R i, xh_N i]
  exact h
theorem xv_w1 {h : Nat → Int32} {wh mo : Int32} {i : Nat} (hm : mo = (x_wo h i).2) (c : ¬ h i ≤ mo) : nI i = (x_wo h (i + 1)).1 ∧ h i = (x_wo h (i + 1)).2 := by
  rw [x_wo, ← hm, if_pos (Int32.not_le.mp c)]
  exact ⟨rfl, rfl⟩
theorem xv_w0 {h : Nat → Int32} {wh mo : Int32} {i : Nat} (hw : wh = (x_wo h i).1) (hm : mo = (x_wo h i).2) (c : h i ≤ mo) : wh = (x_wo h (i + 1)).1 ∧ mo = (x_wo h (i + 1)).2 := by
  rw [x_wo, ← hm, if_neg (Int32.not_lt.mpr c)]
  exact ⟨hw, hm⟩
/-! The least winds. -/
theorem x_fnd_all {g : Int32 → Int32} {h : Int32} : ∀ f i, (x_fnd g h i f = -6 ∧ ∀ j, i ≤ j → j < i + f → ¬ h ≤ g (nI j)) ∨ ∃ t, i ≤ t ∧ t < i + f ∧ x_fnd g h i f = nI t ∧ h ≤ g (nI t) ∧ ∀ j, i ≤ j → j < t → ¬ h ≤ g (nI j)
  | 0, i => Or.inl ⟨rfl, fun j h1 h2 => by omega⟩
  | f + 1, i => by
    by_cases c : h ≤ g (nI i)
    · exact Or.inr ⟨i, by omega, by omega, x_fnd_yes c, c, fun j h1 h2 => by omega⟩
    · rw [x_fnd_no c]
      rcases x_fnd_all f (i + 1) with ⟨h1, h2⟩ | ⟨t, h1, h2, h3, h4, h5⟩
      · refine Or.inl ⟨h1, fun j j1 j2 => ?_⟩
        by_cases e : j = i
        · rw [e]; exact c
        · exact h2 j (by omega) (by omega)
      · refine Or.inr ⟨t, by omega, by omega, h3, h4, fun j j1 j2 => ?_⟩
        by_cases e : j = i
        · rw [e]; exact c
        · exact h5 j (by omega) j2
theorem xf_y {g : Int32 → Int32} {h : Int32} {i : Nat} (h1 : 1 ≤ i) (hi : i ≤ 201) (c : ¬ g (nI (i - 1)) < h) : nI (i - 1) = x_fnd g h (i - 1) (201 - (i - 1)) := by
  rw [show 201 - (i - 1) = (201 - i) + 1 by omega, x_fnd_yes (Int32.not_lt.mp c)]
theorem xf_n {g : Int32 → Int32} {h fi : Int32} {i : Nat} (h1 : 1 ≤ i) (hi : i ≤ 201) (hf : fi = x_fnd g h i (201 - i)) (c : g (nI (i - 1)) < h) : fi = x_fnd g h (i - 1) (201 - (i - 1)) := by
  rw [show 201 - (i - 1) = (201 - i) + 1 by omega, x_fnd_no (Int32.not_le.mpr c), show i - 1 + 1 = i by omega]
  exact hf
/-- a flag in another wind -/
theorem xf_now {s s1 : Nat → Int32} {k : Nat} {f : Int32} (hok : x_ok s (tN s) (tR s)) (hk : k < tN s) (hs : ∀ j, j ≠ 4 → s1 j = s j) (h4 : s1 4 = f) (hc : ¬ x_tC s k = 0) : (if x_tC s1 k = 0 then (-6 : Int32) else x_fst s1 (tF s1) k) = x_fst s (x_FT s (tR s) (tN s) (-6) f) k := by
  have eN : tN s1 = tN s := tN_eq (hs 5 (by omega))
  have eR : tR s1 = tR s := by
    funext o
    unfold tR
    rw [hs _ (by omega)]
  have eC : x_tC s1 k = x_tC s k := hs _ (by omega)
  have eF : tF s1 k = x_FT s (tR s) (tN s) (-6) f k := by
    unfold tF
    rw [eN, eR, h4]
    exact x_FT_cong hok.1 (xv_hp hok) (fun j h1 _ => hs j (by omega)) hk
  rw [eC, if_neg hc]
  unfold x_fst
  rw [eC, eF, hs 0 (by omega)]
/-! A street without another one. -/
theorem xo_1 {s : Nat → Int32} {n k o i : Nat} {pr : Nat → Nat} {wd : Int32} (hok : x_ok s n pr) (hi : i < n) (hk : k < n) (h1 : 1 ≤ i) (h2 : 1 ≤ k) (ho : o < n) (hw : wd = x_sm (x_tg (x_tF s) (x_tW s) (nI o) k) i) (d : ¬ i = o) (c : x_np (x_tF s i) = x_np (x_tF s k)) : wd + x_tW s i = x_sm (x_tg (x_tF s) (x_tW s) (nI o) k) (i + 1) := by
  have hn := hok.1
  rw [x_sm, hw, x_tg, if_pos ⟨fun z => d ((nI_eq (by omega) (by omega)).mp z), (xv_np2 hok h1 hi h2 hk).mp c⟩]
theorem xo_0 {s : Nat → Int32} {n k o i : Nat} {pr : Nat → Nat} {wd : Int32} (hok : x_ok s n pr) (hi : i < n) (hk : k < n) (h1 : 1 ≤ i) (h2 : 1 ≤ k) (hw : wd = x_sm (x_tg (x_tF s) (x_tW s) (nI o) k) i) (d : i = o ∨ ¬ x_np (x_tF s i) = x_np (x_tF s k)) : wd + 0 = x_sm (x_tg (x_tF s) (x_tW s) (nI o) k) (i + 1) := by
  rw [x_sm, hw, x_tg, if_neg]
  rintro ⟨q1, q2⟩
  rcases d with d | d
  · exact q1 (congrArg nI d)
  · exact d ((xv_np2 hok h1 hi h2 hk).mpr q2)
theorem xo_n1 {s : Nat → Int32} {n k o i : Nat} {pr : Nat → Nat} {na : Int32} (hok : x_ok s n pr) (hi : i < n) (hk : k < n) (h1 : 1 ≤ i) (h2 : 1 ≤ k) (ho : o < n) (hw : na = x_sm (x_nr (x_tF s) (x_tW s) (nI o) k) i) (d : ¬ i = o) (c : x_np (x_tF s i) = x_np (x_tF s k)) (w : ¬ x_tW s k ≤ x_tW s i) : na + 1 = x_sm (x_nr (x_tF s) (x_tW s) (nI o) k) (i + 1) := by
  have hn := hok.1
  rw [x_sm, hw, x_nr, if_pos ⟨⟨fun z => d ((nI_eq (by omega) (by omega)).mp z), (xv_np2 hok h1 hi h2 hk).mp c⟩, Int32.not_le.mp w⟩]
theorem xo_n2 {s : Nat → Int32} {k o i : Nat} {na : Int32} (hw : na = x_sm (x_nr (x_tF s) (x_tW s) (nI o) k) i) (w : x_tW s k ≤ x_tW s i) : na + 0 = x_sm (x_nr (x_tF s) (x_tW s) (nI o) k) (i + 1) := by
  rw [x_sm, hw, x_nr, if_neg (fun q => (Int32.not_lt.mpr w) q.2)]
theorem xo_n0 {s : Nat → Int32} {n k o i : Nat} {pr : Nat → Nat} {na : Int32} (hok : x_ok s n pr) (hi : i < n) (hk : k < n) (h1 : 1 ≤ i) (h2 : 1 ≤ k) (hw : na = x_sm (x_nr (x_tF s) (x_tW s) (nI o) k) i) (d : i = o ∨ ¬ x_np (x_tF s i) = x_np (x_tF s k)) : na + 0 = x_sm (x_nr (x_tF s) (x_tW s) (nI o) k) (i + 1) := by
  rw [x_sm, hw, x_nr, if_neg]
  rintro ⟨⟨q1, q2⟩, -⟩
  rcases d with d | d
  · exact q1 (congrArg nI d)
  · exact d ((xv_np2 hok h1 hi h2 hk).mpr q2)
theorem xo_z {s : Nat → Int32} {n k o : Nat} {pr : Nat → Nat} (hok : x_ok s n pr) (hk : k < n) (h2 : 1 ≤ k) : (0 : Int32) = x_sm (x_tg (x_tF s) (x_tW s) (nI o) k) 1 ∧ (0 : Int32) = x_sm (x_nr (x_tF s) (x_tW s) (nI o) k) 1 := by
  have hz := xv_tz hok (i := 0) (by omega) hk h2 (Or.inl (Nat.le_refl 0))
  exact ⟨(x_sm_1 (if_neg (fun q => hz q.2))).symm, (x_sm_1 (if_neg (fun q => hz q.1.2))).symm⟩
theorem xo_fk {s : Nat → Int32} {k o a : Nat} {na : Int32} (hok : x_ok s (tN s) (tR s)) (h1 : 1 ≤ k) (hk : k < tN s) (ho1 : 1 ≤ o) (ho : o < tN s) (hko : ¬ k = o) (hF : x_tF s k = x_tF s o) (ha : 1 ≤ a) (ha2 : a < 2 ^ 31) (hwa : nI a = x_sm (x_tg (x_tF s) (x_tW s) (nI o) k) (tN s)) (hna : na = x_sm (x_nr (x_tF s) (x_tW s) (nI o) k) (tN s)) : x_wok s (tR s) (tN s) k o = x_mn (tF s (tR s k)) (tF s (tR s k) * x_tW s k / nI a + 5 * na) - tF s k + 500 := by
  have hn := hok.1
  have hp := xv_hp hok
  have e1 : x_tF s k = nI (tR s k) := (hok.2.2.2.2.1 k h1 hk).1
  have e2 : x_tF s o = nI (tR s o) := (hok.2.2.2.2.1 o ho1 ho).1
  have h3 := hp k h1 hk
  have h4 := hp o ho1 ho
  have e3 : tR s k = tR s o := (nI_eq (by omega) (by omega)).mp (by rw [← e1, ← e2, hF])
  unfold x_wok
  rw [if_neg (by rintro (q | q | q | q) <;> first | omega | exact q hF), x_FT_s _ _ _ _ _ h1 h3, x_FT_wo hn hok.2.2.2.2.1 ho1 ho (tR s k) (by omega)]
  unfold x_sh
  dsimp only
  rw [← hwa, ← hna, x_quo_n _ ha ha2]
  rfl
theorem xo_no {s : Nat → Int32} {pr : Nat → Nat} {n k o : Nat} (h : k = o ∨ k = 0 ∨ o = 0 ∨ x_tF s k ≠ x_tF s o) : x_wok s pr n k o = -5 := if_pos h
/-! Numbers. -/
theorem x_m4 (z : Nat) (h : z < 2 ^ 31) : ¬ nI z = -4 := by
  intro e
  have e2 : (-4 : Int32).toInt = (nI z).toInt := by rw [e]
  rw [nI_toInt h] at e2
  have e3 : (-4 : Int32).toInt = -4 := by decide
  omega
def x_bt (v : Int32) : Nat := v.toBitVec.toNat % 2
theorem x_bt_lt (v : Int32) : x_bt v < 2 := Nat.mod_lt _ (by decide)
theorem x_bt_eq (v : Int32) : v &&& 1 = nI (x_bt v) := by
  have e : v = nI v.toBitVec.toNat := by
    apply Int32.toBitVec_inj.mp
    show v.toBitVec = BitVec.ofNat 32 v.toBitVec.toNat
    rw [BitVec.ofNat_toNat, BitVec.setWidth_eq]
  have h : nI v.toBitVec.toNat &&& nI 1 = nI (x_bt v) := by
    rw [fa_and]
    exact congrArg nI (Nat.and_two_pow_sub_one_eq_mod _ 1)
  rw [← e] at h
  exact h
theorem x_le999 {a b : Nat} (ha : a ≤ 999) (hb : b ≤ 999) : (999 : Int32) < nI a + nI b ↔ 999 < a + b := by
  rw [nI_add]
  exact nI_ltI (a := 999) (b := a + b) (by omega) (by omega)
/-! What is written has signs alone. -/
theorem x_ws_ch {T : Nat → Int32} {o : Nat} (hok : x_ok T (tN T) (tR T)) (ho : o < tN T) : ∀ x ∈ x_wT T o, x < 256 := by
  obtain ⟨w, c, s, p, hw, hc, hs, hp, -, -, -, -, ew⟩ := x_rows_w hok ho
  rw [ew]
  unfold x_wsf
  have one : ∀ (P : Prop) [Decidable P] (z : Nat), z < 256 → ∀ x ∈ (if P then [z] else []), x < 256 := by
    intro P _ z hz x hx
    by_cases q : P
    · rw [if_pos q] at hx
      rw [List.mem_singleton.mp hx]
      exact hz
    · rw [if_neg q] at hx
      cases hx
  intro x hx
  rcases List.mem_cons.mp hx with rfl | hx
  · omega
  rcases List.mem_append.mp hx with hx | hx
  · exact one _ _ (by omega) x hx
  rcases List.mem_append.mp hx with hx | hx
  · exact one _ _ (by omega) x hx
  rcases List.mem_append.mp hx with hx | hx
  · exact one _ _ (by omega) x hx
  rcases List.mem_append.mp hx with hx | hx
  · exact one _ _ (by omega) x hx
  · exact one _ _ (by omega) x hx
theorem x_tl_ch {T : Nat → Int32} (hok : x_ok T (tN T) (tR T)) : ∀ f k j, j < tN T → ∀ x ∈ x_tl (x_wT T) (tR T) (tN T) f k j, x < 256
  | 0, k, j, hj, x, hx => by
    rw [x_tl] at hx
    cases hx
  | f + 1, k, j, hj, x, hx => by
    rw [x_tl] at hx
    by_cases c : x_nb (tR T) (tN T) k j < tN T
    · rw [if_pos c] at hx
      rcases List.mem_cons.mp hx with rfl | hx
      · split <;> omega
      rcases List.mem_append.mp hx with hx | hx
      · exact x_ws_ch hok c x hx
      rcases List.mem_append.mp hx with hx | hx
      · exact x_tl_ch hok f _ _ c x hx
      · exact x_tl_ch hok f _ _ c x hx
    · rw [if_neg c] at hx
      by_cases z : j = k
      · rw [if_pos z] at hx
        cases hx
      · rw [if_neg z] at hx
        rw [List.mem_singleton.mp hx]
        omega
theorem x_tx_ch {T : Nat → Int32} (hok : x_ok T (tN T) (tR T)) (j : Nat) : (x_tx T (tR T) (tN T)).getD j 0 < 256 := by
  have hn1 := hok.2.1
  rw [List.getD_eq_getElem?_getD]
  cases e : (x_tx T (tR T) (tN T))[j]? with
  | none => show 0 < 256; omega
  | some x =>
    have hx := List.mem_of_getElem? e
    unfold x_tx x_tt at hx
    show x < 256
    rcases List.mem_append.mp hx with hx | hx
    · exact x_ws_ch hok (by omega) x hx
    · exact x_tl_ch hok _ _ _ (by omega) x hx
theorem x_tx_0 {T : Nat → Int32} (hok : x_ok T (tN T) (tR T)) : nI ((x_tx T (tR T) (tN T)).getD 0 0) = 48 + x_tW T 0 ∧ 1 ≤ (x_tx T (tR T) (tN T)).length := by
  have hn1 := hok.2.1
  obtain ⟨w, c, s, p, hw, hc, hs, hp, w3, -, -, -, ew⟩ := x_rows_w hok (o := 0) (by omega)
  unfold x_tx
  rw [ew]
  unfold x_wsf
  rw [w3, show (48 : Int32) = nI 48 from rfl, nI_add]
  exact ⟨rfl, by rw [List.length_append, List.length_cons]; omega⟩
/-- a street more -/
theorem xa_all (T : Nat → Int32) {n kk : Nat} {w : Int32} (hn : n ≤ 20) (hk : kk < 2 ^ 31) : tN (x_addS T n (nI kk) w) = n + 1 ∧ x_np (x_tF (x_addS T n (nI kk) w) n) = nI kk ∧ x_tW (x_addS T n (nI kk) w) n = w ∧ x_tC (x_addS T n (nI kk) w) n + x_tM (x_addS T n (nI kk) w) n + x_tP (x_addS T n (nI kk) w) n = 0 ∧ x_addS T n (nI kk) w 4 = T 4 := by
  have e0 : x_tF (x_addS T n (nI kk) w) n = nI kk := by
    unfold x_tF x_addS
    rw [pk_un (by omega), pk_un (by omega), pk_un (by omega), pk_un (by omega), pk_un (by omega), pk_us]
  have e1 : x_tW (x_addS T n (nI kk) w) n = w := by
    unfold x_tW x_addS
    rw [pk_un (by omega), pk_un (by omega), pk_un (by omega), pk_un (by omega), pk_us]
  have e2 : x_tC (x_addS T n (nI kk) w) n = 0 := by
    unfold x_tC x_addS
    rw [pk_un (by omega), pk_un (by omega), pk_un (by omega), pk_us]
  have e3 : x_tM (x_addS T n (nI kk) w) n = 0 := by
    unfold x_tM x_addS
    rw [pk_un (by omega), pk_un (by omega), pk_us]
  have e4 : x_tP (x_addS T n (nI kk) w) n = 0 := by
    unfold x_tP x_addS
    rw [pk_un (by omega), pk_us]
  refine ⟨?_, ?_, e1, ?_, ?_⟩
  · unfold tN x_addS
    rw [pk_us, nI_clamp (by omega)]
  · rw [e0, x_npI hk]
  · rw [e2, e3, e4]
    rfl
  · unfold x_addS
    rw [pk_un (by omega), pk_un (by omega), pk_un (by omega), pk_un (by omega), pk_un (by omega), pk_un (by omega)]
