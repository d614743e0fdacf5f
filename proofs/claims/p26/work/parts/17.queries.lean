/-! What is answered, purely. -/
def x_st (n : Nat) (st : Int32) (f : Nat → Int32) : Int32 := if ¬ st < 0 ∧ st < nI n then f st.toNatClampNeg else -1
theorem x_st_in {n k : Nat} (hn : n < 2 ^ 31) (h : k < n) (f : Nat → Int32) : x_st n (nI k) f = f k := by
  unfold x_st
  rw [if_pos ((x_ix hn).mpr ⟨k, h, rfl⟩), nI_clamp (by omega)]
theorem x_st_out {n : Nat} {st : Int32} (hn : n < 2 ^ 31) (h : ¬ xIx st n) (f : Nat → Int32) : x_st n st f = -1 := if_neg (fun q => h ((x_ix hn).mp q))
def x_bs (T : Nat → Int32) (n k : Nat) : Int32 := x_orf (x_bo (x_tF T) (nI k)) n
def x_ofk (T : Nat → Int32) (n : Nat) (pr : Nat → Nat) (wh : Int32) (k : Nat) : Int32 :=
  if wh.toInt = 0 then x_np (x_tF T k) else if wh.toInt = 1 then x_tW T k else if wh.toInt = 2 then x_tC T k else if wh.toInt = 3 then x_tM T k else if wh.toInt = 4 then x_tP T k else if wh.toInt = 5 then x_bs T n k else if wh.toInt = 6 then nI (x_bn pr k (n - (k + 1))) else if wh.toInt = 7 then nI (x_dep pr k k) else -2
theorem x_ofk_d {T : Nat → Int32} {n : Nat} {pr : Nat → Nat} {wh : Int32} {k : Nat} (h : wh.toInt < 0 ∨ 7 < wh.toInt) : x_ofk T n pr wh k = -2 := by
  unfold x_ofk
  rw [if_neg (by omega), if_neg (by omega), if_neg (by omega), if_neg (by omega), if_neg (by omega), if_neg (by omega), if_neg (by omega), if_neg (by omega)]
def x_fst (T F : Nat → Int32) (k : Nat) : Int32 := x_mn 12 (x_quo (F k) (T 0 * x_tC T k))
def x_nowk (T F : Nat → Int32) (wh : Int32) (k : Nat) : Int32 :=
  if wh.toInt = 0 then F k else if wh.toInt = 1 then x_gu T (F k) else if wh.toInt = 2 then (if x_tC T k = 0 then -6 else x_fst T F k) else if wh.toInt = 3 then (if x_tM T k = 0 then -6 else x_mn 9 (x_quo (F k) (T 3))) else if wh.toInt = 4 then x_hc T F k else -2
theorem x_nowk_d {T F : Nat → Int32} {wh : Int32} {k : Nat} (h : wh.toInt < 0 ∨ 4 < wh.toInt) : x_nowk T F wh k = -2 := by
  unfold x_nowk
  rw [if_neg (by omega), if_neg (by omega), if_neg (by omega), if_neg (by omega), if_neg (by omega)]
def x_reck (T : Nat → Int32) (wh : Int32) (k : Nat) : Int32 :=
  if wh.toInt = 0 then T (9 + 3 * k + 0) else if wh.toInt = 1 then T (9 + 3 * k + 1) else if wh.toInt = 2 then T (9 + 3 * k + 2) else -2
theorem x_reck_d {T : Nat → Int32} {wh : Int32} {k : Nat} (h : wh.toInt < 0 ∨ 2 < wh.toInt) : x_reck T wh k = -2 := by
  unfold x_reck
  rw [if_neg (by omega), if_neg (by omega), if_neg (by omega)]
theorem x_reck_i {T : Nat → Int32} {w k : Nat} (h : w ≤ 2) : x_reck T (nI w) k = T (9 + 3 * k + w) := by
  rcases (show w = 0 ∨ w = 1 ∨ w = 2 by omega) with rfl | rfl | rfl <;> rfl
def x_shk (T F : Nat → Int32) (k : Nat) : Int32 := if x_hc T F k = 0 then 1 <<< (nI k &&& 31) else 0
def x_lst (F : Nat → Int32) : Nat → Nat
  | 0 => 0
  | k + 1 => if F k < F (x_lst F k) then k else x_lst F k
theorem x_lst_lt (F : Nat → Int32) : ∀ k, 1 ≤ k → x_lst F k < k
  | 0, h => absurd h (by omega)
  | 1, _ => by rw [x_lst]; split <;> exact Nat.zero_lt_one
  | k + 2, _ => by
    have := x_lst_lt F (k + 1) (by omega)
    rw [x_lst]
    split <;> omega
theorem x_lst_cong {F G : Nat → Int32} {n : Nat} (h : ∀ k, k < n → F k = G k) : ∀ k, k ≤ n → x_lst F k = x_lst G k
  | 0, _ => rfl
  | k + 1, hk => by
    rw [x_lst, x_lst, x_lst_cong h k (by omega)]
    rcases Nat.eq_zero_or_pos k with rfl | q
    · rw [h 0 (by omega), h (x_lst G 0) (by show 0 < n; omega)]
    · rw [h k (by omega), h _ (by have := x_lst_lt G k q; omega)]
def x_cnt (T : Nat → Int32) (n : Nat) (pr : Nat → Nat) (ln kn : Nat) (wh : Int32) : Int32 :=
  if wh.toInt = 0 then T 5 else if wh.toInt = 1 then T 4 else if wh.toInt = 2 then T 6 else if wh.toInt = 3 then T 7 else if wh.toInt = 4 then x_sm (x_tP T) n else if wh.toInt = 5 then x_hb T pr n (T 4) else if wh.toInt = 6 then x_orf (x_shk T (x_FT T pr n (-6) (T 4))) n else if wh.toInt = 7 then nI (x_lst (x_FT T pr n (-6) (T 4)) n)
  else if wh.toInt = 8 then T 0 else if wh.toInt = 9 then T 1 else if wh.toInt = 10 then T 2 else if wh.toInt = 11 then T 3 else if wh.toInt = 12 then nI ln else if wh.toInt = 13 then nI kn else -2
theorem x_cnt_d {T : Nat → Int32} {n : Nat} {pr : Nat → Nat} {ln kn : Nat} {wh : Int32} (h : wh.toInt < 0 ∨ 13 < wh.toInt) : x_cnt T n pr ln kn wh = -2 := by
  unfold x_cnt
  rw [if_neg (by omega), if_neg (by omega), if_neg (by omega), if_neg (by omega), if_neg (by omega), if_neg (by omega), if_neg (by omega), if_neg (by omega), if_neg (by omega), if_neg (by omega), if_neg (by omega), if_neg (by omega), if_neg (by omega), if_neg (by omega)]
def x_fnd (g : Int32 → Int32) (h : Int32) : Nat → Nat → Int32
  | _, 0 => -6
  | i, f + 1 => if h ≤ g (nI i) then nI i else x_fnd g h (i + 1) f
theorem x_fnd_no {g : Int32 → Int32} {h : Int32} {i f : Nat} (c : ¬ h ≤ g (nI i)) : x_fnd g h i (f + 1) = x_fnd g h (i + 1) f := by rw [x_fnd, if_neg c]
theorem x_fnd_yes {g : Int32 → Int32} {h : Int32} {i f : Nat} (c : h ≤ g (nI i)) : x_fnd g h i (f + 1) = nI i := by rw [x_fnd, if_pos c]
def x_wd (e F : Nat → Int32) : Nat → Int32
  | 0 => -6
  | k + 1 => if e k = 0 ∧ (x_wd e F k = -6 ∨ F (x_wd e F k).toNatClampNeg < F k) then nI k else x_wd e F k
theorem x_wd_in (e F : Nat → Int32) : ∀ k, x_wd e F k = -6 ∨ ∃ j, j < k ∧ x_wd e F k = nI j
  | 0 => Or.inl rfl
  | k + 1 => by
    rw [x_wd]
    split
    · exact Or.inr ⟨k, by omega, rfl⟩
    · rcases x_wd_in e F k with h | ⟨j, hj, h⟩
      · exact Or.inl h
      · exact Or.inr ⟨j, by omega, h⟩
theorem x_wd_cong {e F G : Nat → Int32} {n : Nat} (hn : n < 2 ^ 31) (h : ∀ k, k < n → F k = G k) : ∀ k, k ≤ n → x_wd e F k = x_wd e G k
  | 0, _ => rfl
  | k + 1, hk => by
    rw [x_wd, x_wd, x_wd_cong hn h k (by omega), h k (by omega)]
    rcases x_wd_in e G k with q | ⟨j, hj, q⟩
    · rw [q]; simp
    · rw [q, nI_clamp (by omega), h j (by omega)]
/-- a wind's forces with a street left out: up to where it branches off, nothing is different -/
theorem x_FT_wo {T : Nat → Int32} {pr : Nat → Nat} {n : Nat} {top : Int32} (hn : n ≤ 20) (hpr : ∀ o, 1 ≤ o → o < n → T (33 + 5 * o + 0) = nI (pr o) ∧ pr o < o) {o : Nat} (ho1 : 1 ≤ o) (ho : o < n) : ∀ j, j ≤ pr o → x_FT T pr n (nI o) top j = x_FT T pr n (-6) top j := by
  intro j
  induction j using Nat.strongRecOn with
  | _ j ih =>
    intro hj
    have h2 := (hpr o ho1 ho).2
    rcases Nat.eq_zero_or_pos j with rfl | h
    · rw [x_FT_0, x_FT_0]
    · have hpj := (hpr j h (by omega)).2
      rw [x_FT_s _ _ _ _ _ h hpj, x_FT_s _ _ _ _ _ h hpj, ih (pr j) hpj (by omega)]
      have e : ∀ i, i < n → ((nI i ≠ nI o ∧ x_tF T i = x_tF T j) ↔ (nI i ≠ -6 ∧ x_tF T i = x_tF T j)) := by
        intro i hi
        constructor
        · rintro ⟨-, q⟩
          exact ⟨fun z => x_m6 i (by omega) z.symm, q⟩
        · rintro ⟨-, q⟩
          refine ⟨fun z => ?_, q⟩
          have := (nI_eq (by omega) (by omega)).mp z
          subst this
          unfold x_tF at q
          rw [(hpr i ho1 hi).1, (hpr j h (by omega)).1] at q
          have := (nI_eq (by omega) (by omega)).mp q
          omega
      have e1 : x_sm (x_tg (x_tF T) (x_tW T) (nI o) j) n = x_sm (x_tg (x_tF T) (x_tW T) (-6) j) n := x_sm_cong (fun i hi => by
        unfold x_tg
        by_cases q : nI i ≠ nI o ∧ x_tF T i = x_tF T j
        · rw [if_pos q, if_pos ((e i hi).mp q)]
        · rw [if_neg q, if_neg (fun z => q ((e i hi).mpr z))])
      have e2 : x_sm (x_nr (x_tF T) (x_tW T) (nI o) j) n = x_sm (x_nr (x_tF T) (x_tW T) (-6) j) n := x_sm_cong (fun i hi => by
        unfold x_nr
        by_cases q : (nI i ≠ nI o ∧ x_tF T i = x_tF T j) ∧ x_tW T i < x_tW T j
        · rw [if_pos q, if_pos ⟨(e i hi).mp q.1, q.2⟩]
        · rw [if_neg q, if_neg (fun z => q ⟨(e i hi).mpr z.1, z.2⟩)])
      unfold x_sh
      dsimp only
      rw [e1, e2]
def x_wok (T : Nat → Int32) (pr : Nat → Nat) (n k o : Nat) : Int32 :=
  if k = o ∨ k = 0 ∨ o = 0 ∨ x_tF T k ≠ x_tF T o then -5 else x_FT T pr n (nI o) (T 4) k - x_FT T pr n (-6) (T 4) k + 500
def x_wo2 (T : Nat → Int32) (pr : Nat → Nat) (n : Nat) (st ot : Int32) : Int32 := x_st n st (fun k => x_st n ot (fun o => x_wok T pr n k o))
/-- settings and places that can be changed -/
def x_cs (a v : Int32) : Prop := (a = 0 ∧ 1 ≤ v ∧ v ≤ 20) ∨ (a = 1 ∧ 1 ≤ v ∧ v ≤ 60) ∨ (a = 2 ∧ 0 ≤ v ∧ v ≤ 100) ∨ (a = 3 ∧ 1 ≤ v ∧ v ≤ 30)
def x_cc (a v : Int32) : Prop := (a = 0 ∧ 0 ≤ v ∧ v ≤ 5) ∨ (a = 1 ∧ 0 ≤ v ∧ v ≤ 1) ∨ (a = 2 ∧ 0 ≤ v ∧ v ≤ 99) ∨ (a = 3 ∧ 1 ≤ v ∧ v ≤ 9)
def x_kp (w : Nat) : Nat := if w = 0 then 2 else if w = 1 then 3 else if w = 2 then 4 else 1
theorem x_shr1 {b p : Nat} (hb : b < 2 ^ 31) (hp : p < 31) : (nI b >>> (nI p &&& 31)) &&& 1 = nI (b / 2 ^ p % 2) := by
  have e : ∀ p, p < 32 → ((nI p &&& 31).toBitVec.smod 32).toNat = p := by decide
  rw [pk_shrN hb _ p (e p (by omega)), pk_andN (by have := Nat.div_le_self b (2 ^ p); omega) 1 (by decide)]
theorem x_tb (b p : Nat) : b.testBit p = true ↔ b / 2 ^ p % 2 = 1 := by
  rw [Nat.testBit_eq_decide_div_mod_eq]
  exact decide_eq_true_iff
theorem x_bn_no {pr : Nat → Nat} {k j b t : Nat} (hb : b = x_bh pr k (j - (k + 1))) (ht : t = x_bn pr k (j - (k + 1))) (h : k + 1 ≤ j) (hf : b.testBit (pr j) = false) : t + 0 = x_bn pr k (j + 1 - (k + 1)) := by
  obtain ⟨i, rfl⟩ : ∃ i, j = k + 1 + i := ⟨j - (k + 1), by omega⟩
  rw [show k + 1 + i - (k + 1) = i by omega] at hb ht
  rw [show k + 1 + i + 1 - (k + 1) = i + 1 by omega, x_bn, ← hb, ← ht, hf]
  rfl
theorem x_bn_yes {pr : Nat → Nat} {k j b t : Nat} (hb : b = x_bh pr k (j - (k + 1))) (ht : t = x_bn pr k (j - (k + 1))) (h : k + 1 ≤ j) (hf : b.testBit (pr j) = true) : t + 1 = x_bn pr k (j + 1 - (k + 1)) := by
  obtain ⟨i, rfl⟩ : ∃ i, j = k + 1 + i := ⟨j - (k + 1), by omega⟩
  rw [show k + 1 + i - (k + 1) = i by omega] at hb ht
  rw [show k + 1 + i + 1 - (k + 1) = i + 1 by omega, x_bn, ← hb, ← ht, if_pos hf]
theorem x_stp_pos {a b : Int32} (ha : ∃ v, 1 ≤ v ∧ v ≤ 20 ∧ a = nI v) (hb : ∃ v, v ≤ 5 ∧ b = nI v) (h0 : ¬ b = 0) : 0 < a * b := by
  obtain ⟨v, v1, v2, rfl⟩ := ha
  obtain ⟨w, w1, rfl⟩ := hb
  rw [pk_mul]
  have hw : 1 ≤ w := by
    rcases Nat.eq_zero_or_pos w with rfl | h
    · exact absurd rfl h0
    · exact h
  have h1 : 1 ≤ v * w := Nat.mul_le_mul v1 hw
  have h2 : v * w ≤ 20 * 5 := Nat.mul_le_mul v2 w1
  exact nI_lt (a := 0) (by omega) (by omega)
theorem x_ix3 {v : Int32} {n : Nat} (hn : n < 2 ^ 31) : (0 ≤ v ∧ v ≤ nI n - 1) ↔ xIx v n := by
  rcases Nat.eq_zero_or_pos n with rfl | h
  · constructor
    · rintro ⟨h1, h2⟩
      have e : nI 0 - 1 = -1 := by decide
      rw [e] at h2
      rw [x_toInt_le] at h1 h2
      have e0 : (0 : Int32).toInt = 0 := by decide
      have e1 : (-1 : Int32).toInt = -1 := by decide
      omega
    · rintro ⟨k, hk, -⟩
      omega
  · rw [x_pred h]
    exact x_ix2 hn h
theorem x_rng_d {v : Int32} {b : Nat} {b' : Int} (h : ¬ (0 ≤ v ∧ v ≤ nI b)) (hb : b < 2 ^ 31 := by omega) (e : (b : Int) = b' := by rfl) : v.toInt < 0 ∨ b' < v.toInt := by
  rw [x_toInt_le, x_toInt_le, nI_toInt hb] at h
  have e0 : (0 : Int32).toInt = 0 := by decide
  omega
theorem x_rng_dn {v : Int32} (h : v.toInt < 0 ∨ 13 < v.toInt) : ¬ (8 ≤ v ∧ v ≤ 11) := by
  rw [x_toInt_le, x_toInt_le]
  have e0 : (8 : Int32).toInt = 8 := by decide
  have e1 : (11 : Int32).toInt = 11 := by decide
  omega
def x_ifw (T : Nat → Int32) (pr : Nat → Nat) (n : Nat) (f : Int32) : Int32 := if 0 ≤ f ∧ f ≤ 200 then x_hb T pr n f else -2
def x_wf (T : Nat → Int32) (pr : Nat → Nat) (n : Nat) (h : Int32) : Int32 := if 1 ≤ h ∧ h ≤ 999 then x_fnd (x_hb T pr n) h 0 201 else -2
def x_wofk (T : Nat → Int32) (pr : Nat → Nat) (n : Nat) (h : Int32) (k : Nat) : Int32 := if 1 ≤ h ∧ h ≤ 12 then (if x_tC T k = 0 then -5 else x_fnd (fun f => x_fst T (x_FT T pr n (-6) f) k) h 0 201) else -2
