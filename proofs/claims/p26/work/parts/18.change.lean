/-! Changes, purely. -/
def x_pt (f g : Nat → Int32) (a n : Nat) (z : Nat) : Int32 := if a ≤ z ∧ z < a + n then g (z - a) else f z
theorem x_pt_0 (f g : Nat → Int32) (a : Nat) : x_pt f g a 0 = f := by
  funext z
  exact if_neg (by omega)
theorem x_pt_s (f g : Nat → Int32) (a n : Nat) : upd (x_pt f g a n) (a + n) (g n) = x_pt f g a (n + 1) := by
  funext z
  by_cases e : z = a + n
  · subst e
    rw [pk_us, x_pt, if_pos (by omega), Nat.add_sub_cancel_left]
  · rw [pk_un e, x_pt, x_pt]
    by_cases c : a ≤ z ∧ z < a + n
    · rw [if_pos c, if_pos (by omega)]
    · rw [if_neg c, if_neg (by omega)]
theorem x_pt_in {f g : Nat → Int32} {a n z : Nat} (h1 : a ≤ z) (h2 : z < a + n) : x_pt f g a n z = g (z - a) := if_pos ⟨h1, h2⟩
theorem x_pt_out {f g : Nat → Int32} {a n z : Nat} (h : z < a ∨ a + n ≤ z) : x_pt f g a n z = f z := if_neg (by omega)
/-- what is recorded before a change -/
def x_push (kn : Nat) (p s p2 : Nat → Int32) (kn2 : Nat) : Prop := kn2 = min (kn + 1) 6 ∧ ∀ i j, i < kn2 → j < 133 → p2 (133 * i + j) = if i + 1 = kn2 then s j else p (133 * (i + (if kn = 6 then 1 else 0)) + j)
/-- a change: done (c), with the answer a; or not, with the answer b -/
def xCh (c : Prop) (r a b : Int32) (s s' s2 : Nat → Int32) (kn : Nat) (p p2 : Nat → Int32) (kn2 : Nat) : Prop := (c ∧ r = a ∧ s2 = s' ∧ x_push kn p s p2 kn2) ∨ (¬ c ∧ r = b ∧ s2 = s ∧ p2 = p ∧ kn2 = kn)
theorem x_ok_cong {T T' : Nat → Int32} {n : Nat} {pr : Nat → Nat} (h : ∀ j, j < 133 → j ≠ 4 → T' j = T j) (hok : x_ok T n pr) : x_ok T' n pr := by
  obtain ⟨hn, hn1, hs5, hs33, hpr, hwd, hcl, hsm, hpe, hst, hle, hhr, hcn⟩ := hok
  refine ⟨hn, hn1, by rw [h 5 (by omega) (by omega)]; exact hs5, by rw [h 33 (by omega) (by omega)]; exact hs33, fun o h1 h2 => ?_, fun o h2 => ?_, fun o h2 => ?_, fun o h2 => ?_, fun o h2 => ?_, ?_, ?_, ?_, fun k hk => ?_⟩
  · rw [h _ (by omega) (by omega)]; exact hpr o h1 h2
  · rw [h _ (by omega) (by omega)]; exact hwd o h2
  · rw [h _ (by omega) (by omega)]; exact hcl o h2
  · rw [h _ (by omega) (by omega)]; exact hsm o h2
  · rw [h _ (by omega) (by omega)]; exact hpe o h2
  · rw [h 0 (by omega) (by omega)]; exact hst
  · rw [h 3 (by omega) (by omega)]; exact hle
  · rw [h 6 (by omega) (by omega), h 8 (by omega) (by omega)]; exact hhr
  · have e : ∀ j, j ≤ n → x_ct (x_tF T') (nI k) j = x_ct (x_tF T) (nI k) j := by
      intro j
      induction j with
      | zero => intro _; rfl
      | succ j ih =>
        intro hj
        rw [x_ct, x_ct, ih (by omega)]
        unfold x_tF
        rw [h _ (by omega) (by omega)]
    rw [e n (Nat.le_refl n)]
    exact hcn k hk
theorem x_ct_cong {f g : Nat → Int32} {st : Int32} : ∀ {n : Nat}, (∀ k, k < n → f k = g k) → x_ct f st n = x_ct g st n
  | 0, _ => rfl
  | n + 1, h => by rw [x_ct, x_ct, x_ct_cong (fun k hk => h k (by omega)), h n (by omega)]
theorem x_ct_F {T T' : Nat → Int32} {st : Int32} {n : Nat} (h : ∀ k, k < n → T' (33 + 5 * k + 0) = T (33 + 5 * k + 0)) : x_ct (x_tF T') st n = x_ct (x_tF T) st n := x_ct_cong h
theorem x_rngE {v : Int32} {a b : Nat} (ha : a < 2 ^ 31) (hb : b < 2 ^ 31) (h : nI a ≤ v ∧ v ≤ nI b) : ∃ k, a ≤ k ∧ k ≤ b ∧ v = nI k := (x_rng hb ha).mp h
theorem x_ok_set {T : Nat → Int32} {n : Nat} {pr : Nat → Nat} {a v : Int32} (hok : x_ok T n pr) (hc : x_cs a v) : x_ok (upd T a.toNatClampNeg v) n pr := by
  have hok0 := hok
  obtain ⟨hn, hn1, hs5, hs33, hpr, hwd, hcl, hsm, hpe, hst, hle, hhr, hcn⟩ := hok
  have key : ∀ i w, i < 4 → (i = 0 → ∃ x, 1 ≤ x ∧ x ≤ 20 ∧ w = nI x) → (i = 3 → ∃ x, 1 ≤ x ∧ x ≤ 30 ∧ w = nI x) → x_ok (upd T i w) n pr := by
    intro i w hi h0 h3
    refine ⟨hn, hn1, by rw [pk_un (by omega)]; exact hs5, by rw [pk_un (by omega)]; exact hs33, fun o h1 h2 => ?_, fun o h2 => ?_, fun o h2 => ?_, fun o h2 => ?_, fun o h2 => ?_, ?_, ?_, ?_, fun k hk => ?_⟩
    · rw [pk_un (by omega)]; exact hpr o h1 h2
    · rw [pk_un (by omega)]; exact hwd o h2
    · rw [pk_un (by omega)]; exact hcl o h2
    · rw [pk_un (by omega)]; exact hsm o h2
    · rw [pk_un (by omega)]; exact hpe o h2
    · by_cases e : 0 = i
      · rw [e, pk_us]; exact h0 e.symm
      · rw [pk_un e]; exact hst
    · by_cases e : 3 = i
      · rw [e, pk_us]; exact h3 e.symm
      · rw [pk_un e]; exact hle
    · rw [pk_un (by omega), pk_un (by omega)]; exact hhr
    · rw [x_ct_cong (g := x_tF T) (fun j hj => by unfold x_tF; rw [pk_un (by omega)])]
      exact hcn k hk
  rcases hc with ⟨rfl, h1, h2⟩ | ⟨rfl, h1, h2⟩ | ⟨rfl, h1, h2⟩ | ⟨rfl, h1, h2⟩
  · exact key 0 v (by omega) (fun _ => x_rngE (a := 1) (b := 20) (by omega) (by omega) ⟨h1, h2⟩) (fun e => by omega)
  · exact key 1 v (by omega) (fun e => by omega) (fun e => by omega)
  · exact key 2 v (by omega) (fun e => by omega) (fun e => by omega)
  · exact key 3 v (by omega) (fun e => by omega) (fun _ => x_rngE (a := 1) (b := 30) (by omega) (by omega) ⟨h1, h2⟩)
theorem x_ok_wind {T : Nat → Int32} {n : Nat} {pr : Nat → Nat} {f : Int32} (hok : x_ok T n pr) : x_ok (upd T 4 f) n pr := x_ok_cong (fun j _ h => pk_un h) hok
/-- the place of what can be changed of a street -/
theorem x_cc_in {a v : Int32} (h : x_cc a v) : ∃ w, w ≤ 3 ∧ a = nI w ∧ ((w = 0 ∧ ∃ x, x ≤ 5 ∧ v = nI x) ∨ (w = 1 ∧ ∃ x, x ≤ 1 ∧ v = nI x) ∨ (w = 2 ∧ ∃ x, x ≤ 99 ∧ v = nI x) ∨ (w = 3 ∧ ∃ x, 1 ≤ x ∧ x ≤ 9 ∧ v = nI x)) := by
  rcases h with ⟨rfl, h1, h2⟩ | ⟨rfl, h1, h2⟩ | ⟨rfl, h1, h2⟩ | ⟨rfl, h1, h2⟩
  · obtain ⟨x, -, a, b⟩ := x_rngE (a := 0) (b := 5) (by omega) (by omega) ⟨h1, h2⟩
    exact ⟨0, by omega, rfl, Or.inl ⟨rfl, x, a, b⟩⟩
  · obtain ⟨x, -, a, b⟩ := x_rngE (a := 0) (b := 1) (by omega) (by omega) ⟨h1, h2⟩
    exact ⟨1, by omega, rfl, Or.inr (Or.inl ⟨rfl, x, a, b⟩)⟩
  · obtain ⟨x, -, a, b⟩ := x_rngE (a := 0) (b := 99) (by omega) (by omega) ⟨h1, h2⟩
    exact ⟨2, by omega, rfl, Or.inr (Or.inr (Or.inl ⟨rfl, x, a, b⟩))⟩
  · obtain ⟨x, a0, a, b⟩ := x_rngE (a := 1) (b := 9) (by omega) (by omega) ⟨h1, h2⟩
    exact ⟨3, by omega, rfl, Or.inr (Or.inr (Or.inr ⟨rfl, x, a0, a, b⟩))⟩
theorem x_kp_le (w : Nat) : 1 ≤ x_kp w ∧ x_kp w ≤ 4 := by unfold x_kp; split <;> (try split) <;> (try split) <;> omega
theorem x_ok_change {T : Nat → Int32} {n : Nat} {pr : Nat → Nat} {k w : Nat} {v : Int32} (hok : x_ok T n pr) (hk : k < n) (hc : x_cc (nI w) v) (hw : w ≤ 3) : x_ok (upd T (33 + 5 * k + x_kp w) v) n pr := by
  obtain ⟨hn, hn1, hs5, hs33, hpr, hwd, hcl, hsm, hpe, hst, hle, hhr, hcn⟩ := hok
  obtain ⟨w', hw', e, hv⟩ := x_cc_in hc
  obtain rfl := (nI_eq (by omega) (by omega)).mp e
  have hkp := x_kp_le w
  have e0 : w = 0 → x_kp w = 2 := fun e => by subst e; rfl
  have e1 : w = 1 → x_kp w = 3 := fun e => by subst e; rfl
  have e2 : w = 2 → x_kp w = 4 := fun e => by subst e; rfl
  have e3 : w = 3 → x_kp w = 1 := fun e => by subst e; rfl
  have loc : ∀ o i, o < n → i < 5 → ¬ (o = k ∧ i = x_kp w) → upd T (33 + 5 * k + x_kp w) v (33 + 5 * o + i) = T (33 + 5 * o + i) := fun o i _ _ q => pk_un (by omega)
  refine ⟨hn, hn1, by rw [pk_un (by omega)]; exact hs5, by rw [pk_un (by omega)]; exact hs33, fun o h1 h2 => ?_, fun o h2 => ?_, fun o h2 => ?_, fun o h2 => ?_, fun o h2 => ?_, ?_, ?_, ?_, fun j hj => ?_⟩
  · rw [loc o 0 h2 (by omega) (by omega)]; exact hpr o h1 h2
  · by_cases q : o = k ∧ 1 = x_kp w
    · obtain ⟨rfl, q⟩ := q
      rw [show 33 + 5 * o + 1 = 33 + 5 * o + x_kp w by omega, pk_us]
      rcases hv with ⟨z, -⟩ | ⟨z, -⟩ | ⟨z, -⟩ | ⟨z, h⟩
      · have := e0 z; omega
      · have := e1 z; omega
      · have := e2 z; omega
      · exact h
    · rw [loc o 1 h2 (by omega) q]; exact hwd o h2
  · by_cases q : o = k ∧ 2 = x_kp w
    · obtain ⟨rfl, q⟩ := q
      rw [q, pk_us]
      rcases hv with ⟨z, h⟩ | ⟨z, -⟩ | ⟨z, -⟩ | ⟨z, -⟩
      · exact h
      · have := e1 z; omega
      · have := e2 z; omega
      · have := e3 z; omega
    · rw [loc o 2 h2 (by omega) q]; exact hcl o h2
  · by_cases q : o = k ∧ 3 = x_kp w
    · obtain ⟨rfl, q⟩ := q
      rw [q, pk_us]
      rcases hv with ⟨z, -⟩ | ⟨z, h⟩ | ⟨z, -⟩ | ⟨z, -⟩
      · have := e0 z; omega
      · exact h
      · have := e2 z; omega
      · have := e3 z; omega
    · rw [loc o 3 h2 (by omega) q]; exact hsm o h2
  · by_cases q : o = k ∧ 4 = x_kp w
    · obtain ⟨rfl, q⟩ := q
      rw [q, pk_us]
      rcases hv with ⟨z, -⟩ | ⟨z, -⟩ | ⟨z, h⟩ | ⟨z, -⟩
      · have := e0 z; omega
      · have := e1 z; omega
      · exact h
      · have := e3 z; omega
    · rw [loc o 4 h2 (by omega) q]; exact hpe o h2
  · rw [pk_un (by omega)]; exact hst
  · rw [pk_un (by omega)]; exact hle
  · rw [pk_un (by omega), pk_un (by omega)]; exact hhr
  · rw [x_ct_F (T := T) (fun i hi => loc i 0 hi (by omega) (by omega))]
    exact hcn j hj
/-- a street more -/
def x_addS (T : Nat → Int32) (n : Nat) (st wi : Int32) : Nat → Int32 := upd (upd (upd (upd (upd (upd T (33 + 5 * n + 0) st) (33 + 5 * n + 1) wi) (33 + 5 * n + 2) 0) (33 + 5 * n + 3) 0) (33 + 5 * n + 4) 0) 5 (nI (n + 1))
theorem x_ct_none {T : Nat → Int32} {n : Nat} {pr : Nat → Nat} (hok : x_ok T n pr) {z : Nat} (hz : n ≤ z) (hz2 : z < 2 ^ 31) : ∀ j, j ≤ n → x_ct (x_tF T) (nI z) j = 0
  | 0, _ => rfl
  | j + 1, h => by
    obtain ⟨hn, hn1, hs5, hs33, hpr, -⟩ := id hok
    rw [x_ct, x_ct_none hok hz hz2 j (by omega), if_neg]
    intro e
    unfold x_tF at e
    rcases Nat.eq_zero_or_pos j with rfl | hj
    · rw [show 33 + 5 * 0 + 0 = 33 from rfl, hs33] at e
      exact x_m1 z hz2 e
    · obtain ⟨e2, hp⟩ := hpr j hj (by omega)
      rw [e2] at e
      have := (nI_eq (by omega) hz2).mp e
      omega
theorem x_ok_street {T : Nat → Int32} {n k w : Nat} {pr : Nat → Nat} (hok : x_ok T n pr) (hk : k < n) (hw : 1 ≤ w ∧ w ≤ 9) (h20 : n < 20) (h4 : x_ct (x_tF T) (nI k) n ≠ 4) : x_ok (x_addS T n (nI k) (nI w)) (n + 1) (fun o => if o = n then k else pr o) := by
  have hok0 := hok
  obtain ⟨hn, hn1, hs5, hs33, hpr, hwd, hcl, hsm, hpe, hst, hle, hhr, hcn⟩ := hok
  have old : ∀ i, i < 33 + 5 * n → i ≠ 5 → x_addS T n (nI k) (nI w) i = T i := fun i hi h5 => by
    unfold x_addS
    rw [pk_un h5, pk_un (by omega), pk_un (by omega), pk_un (by omega), pk_un (by omega), pk_un (by omega)]
  have n0 : x_addS T n (nI k) (nI w) (33 + 5 * n + 0) = nI k := by
    unfold x_addS
    rw [pk_un (by omega), pk_un (by omega), pk_un (by omega), pk_un (by omega), pk_un (by omega), pk_us]
  have n1 : x_addS T n (nI k) (nI w) (33 + 5 * n + 1) = nI w := by
    unfold x_addS
    rw [pk_un (by omega), pk_un (by omega), pk_un (by omega), pk_un (by omega), pk_us]
  have n2 : x_addS T n (nI k) (nI w) (33 + 5 * n + 2) = 0 := by
    unfold x_addS
    rw [pk_un (by omega), pk_un (by omega), pk_un (by omega), pk_us]
  have n3 : x_addS T n (nI k) (nI w) (33 + 5 * n + 3) = 0 := by
    unfold x_addS
    rw [pk_un (by omega), pk_un (by omega), pk_us]
  have n4 : x_addS T n (nI k) (nI w) (33 + 5 * n + 4) = 0 := by
    unfold x_addS
    rw [pk_un (by omega), pk_us]
  refine ⟨by omega, by omega, by unfold x_addS; rw [pk_us], by rw [old 33 (by omega) (by omega)]; exact hs33, fun o h1 h2 => ?_, fun o h2 => ?_, fun o h2 => ?_, fun o h2 => ?_, fun o h2 => ?_, ?_, ?_, ?_, fun j hj => ?_⟩
  · by_cases e : o = n
    · subst e; rw [n0]; dsimp only; rw [if_pos rfl]; exact ⟨rfl, hk⟩
    · rw [old _ (by omega) (by omega)]; dsimp only; rw [if_neg e]; exact hpr o h1 (by omega)
  · by_cases e : o = n
    · subst e; rw [n1]; exact ⟨w, hw.1, hw.2, rfl⟩
    · rw [old _ (by omega) (by omega)]; exact hwd o (by omega)
  · by_cases e : o = n
    · subst e; rw [n2]; exact ⟨0, by omega, rfl⟩
    · rw [old _ (by omega) (by omega)]; exact hcl o (by omega)
  · by_cases e : o = n
    · subst e; rw [n3]; exact ⟨0, by omega, rfl⟩
    · rw [old _ (by omega) (by omega)]; exact hsm o (by omega)
  · by_cases e : o = n
    · subst e; rw [n4]; exact ⟨0, by omega, rfl⟩
    · rw [old _ (by omega) (by omega)]; exact hpe o (by omega)
  · rw [old 0 (by omega) (by omega)]; exact hst
  · rw [old 3 (by omega) (by omega)]; exact hle
  · rw [old 6 (by omega) (by omega), old 8 (by omega) (by omega)]; exact hhr
  · rw [x_ct, x_ct_F (T := T) (fun i hi => old _ (by omega) (by omega))]
    have ek : x_tF (x_addS T n (nI k) (nI w)) n = nI k := n0
    rw [ek]
    by_cases e : j = n
    · subst e
      rw [x_ct_none hok0 (Nat.le_refl _) (by omega) j (Nat.le_refl _), if_neg]
      · omega
      · intro q
        have := (nI_eq (by omega) (by omega)).mp q
        omega
    · have h := hcn j (by omega)
      by_cases q : nI k = nI j
      · rw [if_pos q]
        rw [q] at h4
        omega
      · rw [if_neg q]; omega
/-- an hour -/
def x_sft (T : Nat → Int32) (k z : Nat) : Int32 := if 9 + k < z ∧ z < 33 then T (z - 3) else T z
theorem x_sft_0 (T : Nat → Int32) : x_sft T 23 = T := by
  funext z
  exact if_neg (by omega)
theorem x_sft_s (T : Nat → Int32) {k : Nat} (h : 3 ≤ k) (h2 : k ≤ 23) : upd (x_sft T k) (9 + k) (x_sft T k (9 + k - 3)) = x_sft T (k - 1) := by
  funext z
  by_cases e : z = 9 + k
  · subst e
    rw [pk_us, x_sft, x_sft, if_neg (by omega), if_pos (by omega)]
  · rw [pk_un e, x_sft, x_sft]
    by_cases c : 9 + k < z ∧ z < 33
    · rw [if_pos c, if_pos (by omega)]
    · rw [if_neg c, if_neg (by omega)]
def x_hour (T : Nat → Int32) (su wh : Int32) (z : Nat) : Int32 :=
  if z = 7 then T 7 + su else if z = 6 then T 6 + 1 else if z = 8 then T 8 + (if T 8 < 8 then 1 else 0) else if z = 11 then wh else if z = 10 then su else if z = 9 then T 4 else x_sft T 2 z
theorem x_hour_out {T : Nat → Int32} {su wh : Int32} {z : Nat} (h : z < 6 ∨ 33 ≤ z) : x_hour T su wh z = T z := by
  unfold x_hour x_sft
  rw [if_neg (by omega), if_neg (by omega), if_neg (by omega), if_neg (by omega), if_neg (by omega), if_neg (by omega), if_neg (by omega)]
theorem x_hour_eq {T : Nat → Int32} {su wh : Int32} (a : Int32) (ha : a = if T 8 < 8 then 1 else 0) : upd (upd (upd (upd (upd (upd (x_sft T 2) 9 (T 4)) 10 su) 11 wh) 8 (T 8 + a)) 6 (T 6 + 1)) 7 (T 7 + su) = x_hour T su wh := by
  funext z
  unfold x_hour
  by_cases e7 : z = 7
  · subst e7; rw [pk_us, if_pos rfl]
  rw [pk_un e7, if_neg e7]
  by_cases e6 : z = 6
  · subst e6; rw [pk_us, if_pos rfl]
  rw [pk_un e6, if_neg e6]
  by_cases e8 : z = 8
  · subst e8; rw [pk_us, if_pos rfl, ha]
  rw [pk_un e8, if_neg e8]
  by_cases e11 : z = 11
  · subst e11; rw [pk_us, if_pos rfl]
  rw [pk_un e11, if_neg e11]
  by_cases e10 : z = 10
  · subst e10; rw [pk_us, if_pos rfl]
  rw [pk_un e10, if_neg e10]
  by_cases e9 : z = 9
  · subst e9; rw [pk_us, if_pos rfl]
  rw [pk_un e9, if_neg e9]
theorem x_ok_hour {T : Nat → Int32} {n : Nat} {pr : Nat → Nat} {su wh : Int32} (hok : x_ok T n pr) (h6 : ∃ v, v ≤ 998 ∧ T 6 = nI v) : x_ok (x_hour T su wh) n pr := by
  obtain ⟨hn, hn1, hs5, hs33, hpr, hwd, hcl, hsm, hpe, hst, hle, ⟨v, v1, v2, v3⟩, hcn⟩ := hok
  obtain ⟨v', w1, w2⟩ := h6
  obtain rfl : v = v' := (nI_eq (by omega) (by omega)).mp (v2.symm.trans w2)
  refine ⟨hn, hn1, by rw [x_hour_out (by omega)]; exact hs5, by rw [x_hour_out (by omega)]; exact hs33, fun o h1 h2 => ?_, fun o h2 => ?_, fun o h2 => ?_, fun o h2 => ?_, fun o h2 => ?_, ?_, ?_, ⟨v + 1, by omega, ?_, ?_⟩, fun k hk => ?_⟩
  · rw [x_hour_out (by omega)]; exact hpr o h1 h2
  · rw [x_hour_out (by omega)]; exact hwd o h2
  · rw [x_hour_out (by omega)]; exact hcl o h2
  · rw [x_hour_out (by omega)]; exact hsm o h2
  · rw [x_hour_out (by omega)]; exact hpe o h2
  · rw [x_hour_out (by omega)]; exact hst
  · rw [x_hour_out (by omega)]; exact hle
  · unfold x_hour
    rw [if_neg (by omega), if_pos rfl, v2, nI_1]
  · unfold x_hour
    rw [if_neg (by omega), if_neg (by omega), if_pos rfl, v3]
    by_cases c : v < 8
    · rw [if_pos (show nI (min v 8) < 8 from nI_lt (b := 8) (by omega) (by omega)), nI_1]
      exact congrArg nI (by omega)
    · rw [if_neg (show ¬ nI (min v 8) < 8 from nI_nlt (b := 8) (by omega) (by omega)), x_add0]
      exact congrArg nI (by omega)
  · rw [x_ct_F (T := T) (fun i hi => x_hour_out (by omega))]
    exact hcn k hk
def x_hrs (T : Nat → Int32) (su wh : Int32) : Nat → Nat → Int32
  | 0 => T
  | i + 1 => x_hour (x_hrs T su wh i) su wh
theorem x_hrs_out {T : Nat → Int32} {su wh : Int32} {z : Nat} (h : z < 6 ∨ 33 ≤ z) : ∀ i, x_hrs T su wh i z = T z
  | 0 => rfl
  | i + 1 => by rw [x_hrs, x_hour_out h, x_hrs_out h i]
theorem x_hrs_6 {T : Nat → Int32} {su wh : Int32} {v : Nat} (h : T 6 = nI v) : ∀ i, x_hrs T su wh i 6 = nI (v + i)
  | 0 => h
  | i + 1 => by
    rw [x_hrs, x_hour, if_neg (by omega), if_pos rfl, x_hrs_6 h i, nI_1]
    rfl
theorem x_hrs_ok {T : Nat → Int32} {n : Nat} {pr : Nat → Nat} {su wh : Int32} {v : Nat} (hok : x_ok T n pr) (h : T 6 = nI v) : ∀ i, v + i ≤ 999 → x_ok (x_hrs T su wh i) n pr
  | 0, _ => hok
  | i + 1, hi => x_ok_hour (x_hrs_ok hok h i (by omega)) ⟨v + i, by omega, x_hrs_6 h i⟩
def x_rep (a : Int32) : Nat → Int32
  | 0 => 0
  | i + 1 => x_rep a i + a
theorem x_rep_mul (a : Int32) : ∀ i, nI i * a = x_rep a i
  | 0 => by rw [x_rep, show nI 0 = 0 from rfl, Int32.zero_mul]
  | i + 1 => by rw [x_rep, ← x_rep_mul a i, ← nI_1, Int32.add_mul, Int32.one_mul]
/-- the wind does not look at the hours -/
theorem x_FT_cong {T T' : Nat → Int32} {pr : Nat → Nat} {n : Nat} {m top : Int32} (hn : n ≤ 20) (hpr : ∀ o, 1 ≤ o → o < n → pr o < o) (h : ∀ j, 33 ≤ j → j < 133 → T' j = T j) {k : Nat} (hk : k < n) : x_FT T' pr n m top k = x_FT T pr n m top k := by
  have hF : ∀ o, o < n → x_tF T' o = x_tF T o := fun o ho => h _ (by omega) (by omega)
  have hW : ∀ o, o < n → x_tW T' o = x_tW T o := fun o ho => h _ (by omega) (by omega)
  unfold x_FT x_F
  refine x_fc_cong n (fun k h1 h2 x => ?_) hpr k hk
  unfold x_sh
  dsimp only
  have e1 : x_sm (x_tg (x_tF T') (x_tW T') m k) n = x_sm (x_tg (x_tF T) (x_tW T) m k) n := x_sm_cong (fun o ho => by unfold x_tg; rw [hF o ho, hF k h2, hW o ho])
  have e2 : x_sm (x_nr (x_tF T') (x_tW T') m k) n = x_sm (x_nr (x_tF T) (x_tW T) m k) n := x_sm_cong (fun o ho => by unfold x_nr; rw [hF o ho, hF k h2, hW o ho, hW k h2])
  rw [e1, e2, hW k h2]
theorem x_hc_cong {T T' F F' : Nat → Int32} {k : Nat} (hk : k < 20) (h : ∀ j, j < 133 → (j < 6 ∨ 33 ≤ j) → T' j = T j) (hF : F' k = F k) : x_hc T' F' k = x_hc T F k := by
  unfold x_hc x_ha x_gu x_tP
  rw [hF, h 2 (by omega) (by omega), h 1 (by omega) (by omega), h _ (by omega) (by omega)]
theorem x_hb_cong {T T' : Nat → Int32} {pr : Nat → Nat} {n : Nat} {top : Int32} (hn : n ≤ 20) (hpr : ∀ o, 1 ≤ o → o < n → pr o < o) (h : ∀ j, j < 133 → (j < 6 ∨ 33 ≤ j) → T' j = T j) : x_hb T' pr n top = x_hb T pr n top :=
  x_sm_cong (fun k hk => x_hc_cong (by omega) h (x_FT_cong hn hpr (fun j h1 h2 => h j h2 (by omega)) hk))
theorem x_wo_cong {g h : Nat → Int32} : ∀ {n : Nat}, (∀ k, k < n → g k = h k) → x_wo g n = x_wo h n
  | 0, _ => rfl
  | n + 1, e => by rw [x_wo, x_wo, x_wo_cong (fun k hk => e k (by omega)), e n (by omega)]
def x_wh (T : Nat → Int32) (pr : Nat → Nat) (n : Nat) : Int32 := (x_wo (x_hc T (x_FT T pr n (-6) (T 4))) n).1
theorem x_wh_cong {T T' : Nat → Int32} {pr : Nat → Nat} {n : Nat} (hn : n ≤ 20) (hpr : ∀ o, 1 ≤ o → o < n → pr o < o) (h : ∀ j, j < 133 → (j < 6 ∨ 33 ≤ j) → T' j = T j) : x_wh T' pr n = x_wh T pr n := by
  unfold x_wh
  rw [h 4 (by omega) (by omega), x_wo_cong (fun k hk => x_hc_cong (by omega) h (x_FT_cong hn hpr (fun j h1 h2 => h j h2 (by omega)) hk))]
/-- the streets of a text, in a town -/
def x_bld (T to : Nat → Int32) (mn : Nat) : Nat → Int32 := upd (x_pt T to 33 (5 * mn)) 5 (nI mn)
theorem x_ok_build {T to : Nat → Int32} {n mn la : Nat} {op : Int32} {pr : Nat → Nat} (hok : x_ok T n pr) (hpk : x_pk mn la op to) (h1 : 1 ≤ mn) : x_ok (x_bld T to mn) mn (fun o => (to (5 * o)).toNatClampNeg) := by
  obtain ⟨-, -, -, -, -, -, -, -, -, hst, hle, hhr, -⟩ := hok
  obtain ⟨hm, -, -, hD, hE, -, -⟩ := hpk
  have new : ∀ o i, o < mn → i < 5 → x_bld T to mn (33 + 5 * o + i) = to (5 * o + i) := fun o i ho hi => by
    unfold x_bld
    rw [pk_un (by omega), x_pt_in (by omega) (by omega)]
    exact congrArg to (by omega)
  have old : ∀ i, i < 33 → i ≠ 5 → x_bld T to mn i = T i := fun i hi h5 => by
    unfold x_bld
    rw [pk_un h5, x_pt_out (by omega)]
  have e33 : x_bld T to mn 33 = -1 := by
    have := new 0 0 (by omega) (by omega)
    rw [show 33 + 5 * 0 + 0 = 33 from rfl] at this
    rw [this]
    exact (hD 0 (by omega)).1 rfl
  refine ⟨hm, h1, by unfold x_bld; rw [pk_us], e33, fun o h1 h2 => ?_, fun o h2 => ?_, fun o h2 => ?_, fun o h2 => ?_, fun o h2 => ?_, ?_, ?_, ?_, fun k hk => ?_⟩
  · obtain ⟨p, hp, e⟩ := (hD o h2).2.1 h1
    have ec : (to (5 * o)).toNatClampNeg = p := by rw [e]; exact nI_clamp (by omega)
    dsimp only
    rw [new o 0 h2 (by omega), ec]
    exact ⟨e, hp⟩
  · rw [new o 1 h2 (by omega)]; exact (hD o h2).2.2.1
  · rw [new o 2 h2 (by omega)]; exact (hD o h2).2.2.2.1
  · rw [new o 3 h2 (by omega)]; exact (hD o h2).2.2.2.2.1
  · rw [new o 4 h2 (by omega)]; exact (hD o h2).2.2.2.2.2
  · rw [old 0 (by omega) (by omega)]; exact hst
  · rw [old 3 (by omega) (by omega)]; exact hle
  · rw [old 6 (by omega) (by omega), old 8 (by omega) (by omega)]; exact hhr
  · have e : ∀ j, j ≤ mn → x_ct (x_tF (x_bld T to mn)) (nI k) j = x_cn to (nI k) j := by
      intro j
      induction j with
      | zero => intro _; rfl
      | succ j ih =>
        intro hj
        rw [x_ct, x_cn, ih (by omega)]
        unfold x_tF
        rw [new j 0 (by omega) (by omega), Nat.add_zero]
    rw [e mn (Nat.le_refl _)]
    exact hE k hk
theorem x_cs_in {a v : Int32} (h : x_cs a v) : ∃ i, i < 4 ∧ a = nI i := by
  rcases h with ⟨rfl, -⟩ | ⟨rfl, -⟩ | ⟨rfl, -⟩ | ⟨rfl, -⟩
  · exact ⟨0, by omega, rfl⟩
  · exact ⟨1, by omega, rfl⟩
  · exact ⟨2, by omega, rfl⟩
  · exact ⟨3, by omega, rfl⟩
def x_stE (n : Nat) (st w : Int32) : Int32 := if ¬ st < 0 ∧ st < nI n then (if 1 ≤ w ∧ w ≤ 9 then -4 else -2) else -1
theorem x_stE_1 {n : Nat} {st w : Int32} (hn : n < 2 ^ 31) (h : ¬ xIx st n) : x_stE n st w = -1 := if_neg (fun q => h ((x_ix hn).mp q))
theorem x_stE_2 {n : Nat} {st w : Int32} (hn : n < 2 ^ 31) (h : xIx st n) (hw : ¬ (1 ≤ w ∧ w ≤ 9)) : x_stE n st w = -2 := by
  unfold x_stE
  rw [if_pos ((x_ix hn).mpr h), if_neg hw]
theorem x_stE_3 {n : Nat} {st w : Int32} (hn : n < 2 ^ 31) (h : xIx st n) (hw : 1 ≤ w ∧ w ≤ 9) : x_stE n st w = -4 := by
  unfold x_stE
  rw [if_pos ((x_ix hn).mpr h), if_pos hw]
theorem x_s5 {s : Nat → Int32} {n : Nat} (h : s 5 = nI n) (hn : n ≤ 20) {a b d e f : Nat} {u v w x y : Int32} (ha : 5 ≠ a := by omega) (hb : 5 ≠ b := by omega) (hd : 5 ≠ d := by omega) (he : 5 ≠ e := by omega) (hf : 5 ≠ f := by omega) : upd (upd (upd (upd (upd s a u) b v) d w) e x) f y 5 = nI n := by
  rw [pk_un hf, pk_un he, pk_un hd, pk_un hb, pk_un ha]
  exact h
