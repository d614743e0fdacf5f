/-! Reading a text, sign by sign: how many streets (mn), what was read last (la), the street in whose brackets we are (op), the rows (to). -/
def x_cn (to : Nat → Int32) (op : Int32) : Nat → Nat
  | 0 => 0
  | j + 1 => x_cn to op j + if to (5 * j) = op then 1 else 0
def x_new (to : Nat → Int32) (mn : Nat) (op wi : Int32) : Nat → Int32 := upd (upd (upd (upd (upd to (5 * mn + 0) op) (5 * mn + 1) wi) (5 * mn + 2) 0) (5 * mn + 3) 0) (5 * mn + 4) 0
abbrev xPS : Type := Nat × Nat × Int32 × (Nat → Int32)
def x_step (c mn la : Nat) (op : Int32) (to : Nat → Int32) : Option xPS :=
  if la = 0 then
    if (49 ≤ c ∧ c ≤ 57) ∧ mn < 20 ∧ (op < 0 ∨ x_cn to op mn ≠ 4) then some (mn + 1, 1, op, x_new to mn op (nI (c - 48))) else none
  else if (97 ≤ c ∧ c ≤ 101) ∧ la = 1 then some (mn, 2, op, upd to (5 * mn - 5 + 2) (nI (c - 97 + 1)))
  else if c = 33 ∧ (la = 1 ∨ la = 2) then some (mn, 3, op, upd to (5 * mn - 5 + 3) 1)
  else if c = 42 ∧ 1 ≤ la ∧ la ≤ 3 then some (mn, 4, op, to)
  else if c = 40 then if la = 4 ∨ la = 7 then none else some (mn, 0, nI (mn - 1), to)
  else if c = 44 then if la = 4 ∨ op < 0 then none else some (mn, 0, op, to)
  else if c = 41 then if la = 4 ∨ op < 0 then none else some (mn, 7, to (5 * op.toNatClampNeg + 0), to)
  else if (48 ≤ c ∧ c ≤ 57) ∧ (la = 4 ∨ la = 5) then some (mn, if la = 5 ∨ c = 48 then 6 else 5, op, upd to (5 * mn - 5 + 4) (10 * to (5 * mn - 5 + 4) + nI (c - 48)))
  else none
/-- a street's row is one -/
def x_ps (to : Nat → Int32) (k : Nat) : Prop :=
  (k = 0 → to 0 = -1) ∧ (1 ≤ k → ∃ p, p < k ∧ to (5 * k) = nI p) ∧ (∃ w, 1 ≤ w ∧ w ≤ 9 ∧ to (5 * k + 1) = nI w) ∧ (∃ v, v ≤ 5 ∧ to (5 * k + 2) = nI v) ∧ (∃ v, v ≤ 1 ∧ to (5 * k + 3) = nI v) ∧ ∃ v, v ≤ 99 ∧ to (5 * k + 4) = nI v
def x_pk (mn la : Nat) (op : Int32) (to : Nat → Int32) : Prop :=
  mn ≤ 20 ∧ la ≤ 7 ∧ ((mn = 0 ∧ la = 0 ∧ op = -1) ∨ (1 ≤ mn ∧ ((op = -1 ∧ la ≠ 0) ∨ ∃ o, o < mn ∧ op = nI o))) ∧ (∀ k, k < mn → x_ps to k) ∧ (∀ k, k < mn → x_cn to (nI k) mn ≤ 4) ∧ (1 ≤ la → la ≤ 4 → to (5 * mn - 5 + 4) = 0) ∧ (la = 5 → ∃ d, d ≤ 9 ∧ to (5 * mn - 5 + 4) = nI d)
theorem x_m1 (z : Nat) (h : z < 2 ^ 31) : ¬ (-1 : Int32) = nI z := by
  intro e
  have e2 : (-1 : Int32).toInt = (nI z).toInt := by rw [e]
  rw [nI_toInt h] at e2
  have e3 : (-1 : Int32).toInt = -1 := by decide
  omega
theorem x_cn_cong {to to' : Nat → Int32} {op : Int32} : ∀ {j : Nat}, (∀ k, k < j → to (5 * k) = to' (5 * k)) → x_cn to op j = x_cn to' op j
  | 0, _ => rfl
  | j + 1, h => by rw [x_cn, x_cn, x_cn_cong (fun k hk => h k (by omega)), h j (by omega)]
theorem x_ps_cong {to to' : Nat → Int32} {k : Nat} (h : ∀ i, 5 * k ≤ i → i < 5 * k + 5 → to' i = to i) (hp : x_ps to k) : x_ps to' k := by
  obtain ⟨h1, h2, h3, h4, h5, h6⟩ := hp
  refine ⟨fun e => ?_, fun e => ?_, ?_, ?_, ?_, ?_⟩
  · rw [← h1 e]; exact h 0 (by omega) (by omega)
  · rw [h _ (by omega) (by omega)]; exact h2 e
  · rw [h _ (by omega) (by omega)]; exact h3
  · rw [h _ (by omega) (by omega)]; exact h4
  · rw [h _ (by omega) (by omega)]; exact h5
  · rw [h _ (by omega) (by omega)]; exact h6
theorem x_cn_none {to : Nat → Int32} {mn : Nat} (hD : ∀ k, k < mn → x_ps to k) (hm : mn ≤ 20) {z : Nat} (hz : mn ≤ z) (hz2 : z < 2 ^ 31) : ∀ j, j ≤ mn → x_cn to (nI z) j = 0
  | 0, _ => rfl
  | j + 1, h => by
    rw [x_cn, x_cn_none hD hm hz hz2 j (by omega), if_neg]
    intro e
    rcases Nat.eq_zero_or_pos j with rfl | hj
    · rw [show 5 * 0 = 0 from rfl, (hD 0 (by omega)).1 rfl] at e
      exact x_m1 z hz2 e
    · obtain ⟨p, hp, e2⟩ := (hD j (by omega)).2.1 hj
      rw [e2] at e
      have := (nI_eq (by omega) hz2).mp e
      omega
/-- a change of one place of the latest street's row -/
theorem x_pk_upd {mn la la' : Nat} {op : Int32} {to : Nat → Int32} {i : Nat} {v : Int32} (h : x_pk mn la op to) (h0 : la ≠ 0) (hl : la' ≤ 7) (hl0 : la' ≠ 0) (hi : 1 ≤ i) (hi2 : i ≤ 4)
    (hv : (i = 1 → ∃ w, 1 ≤ w ∧ w ≤ 9 ∧ v = nI w) ∧ (i = 2 → ∃ w, w ≤ 5 ∧ v = nI w) ∧ (i = 3 → ∃ w, w ≤ 1 ∧ v = nI w) ∧ (i = 4 → ∃ w, w ≤ 99 ∧ v = nI w))
    (hG : 1 ≤ la' → la' ≤ 4 → (upd to (5 * mn - 5 + i) v) (5 * mn - 5 + 4) = 0) (hG5 : la' = 5 → ∃ d, d ≤ 9 ∧ (upd to (5 * mn - 5 + i) v) (5 * mn - 5 + 4) = nI d) : x_pk mn la' op (upd to (5 * mn - 5 + i) v) := by
  obtain ⟨h1, h2, h3, h4, h5, h6, h7⟩ := h
  have hmn : 1 ≤ mn := by
    rcases h3 with ⟨-, e, -⟩ | ⟨e, -⟩
    · exact absurd e h0
    · exact e
  refine ⟨h1, hl, Or.inr ⟨hmn, ?_⟩, fun k hk => ?_, fun k hk => ?_, hG, hG5⟩
  · rcases h3 with ⟨e, -, -⟩ | ⟨-, ⟨e, -⟩ | e⟩
    · omega
    · exact Or.inl ⟨e, hl0⟩
    · exact Or.inr e
  · by_cases e : k = mn - 1
    · obtain ⟨a1, a2, a3, a4, a5, a6⟩ := h4 k hk
      refine ⟨fun e2 => ?_, fun e2 => ?_, ?_, ?_, ?_, ?_⟩
      · rw [pk_un (by omega)]; exact a1 e2
      · rw [pk_un (by omega)]; exact a2 e2
      · by_cases q : i = 1
        · rw [show 5 * k + 1 = 5 * mn - 5 + i by omega, pk_us]; exact hv.1 q
        · rw [pk_un (by omega)]; exact a3
      · by_cases q : i = 2
        · rw [show 5 * k + 2 = 5 * mn - 5 + i by omega, pk_us]; exact hv.2.1 q
        · rw [pk_un (by omega)]; exact a4
      · by_cases q : i = 3
        · rw [show 5 * k + 3 = 5 * mn - 5 + i by omega, pk_us]; exact hv.2.2.1 q
        · rw [pk_un (by omega)]; exact a5
      · by_cases q : i = 4
        · rw [show 5 * k + 4 = 5 * mn - 5 + i by omega, pk_us]; exact hv.2.2.2 q
        · rw [pk_un (by omega)]; exact a6
    · exact x_ps_cong (fun j hj1 hj2 => pk_un (by omega)) (h4 k hk)
  · rw [x_cn_cong (to' := to) (fun j hj => pk_un (by omega))]
    exact h5 k hk
theorem x_pk_step {c mn la mn' la' : Nat} {op op' : Int32} {to to' : Nat → Int32} (h : x_pk mn la op to) (hs : x_step c mn la op to = some (mn', la', op', to')) : x_pk mn' la' op' to' := by
  have h0 := h
  obtain ⟨h1, h2, h3, h4, h5, h6, h7⟩ := h
  unfold x_step at hs
  by_cases c0 : la = 0
  · rw [if_pos c0] at hs
    by_cases c1 : (49 ≤ c ∧ c ≤ 57) ∧ mn < 20 ∧ (op < 0 ∨ x_cn to op mn ≠ 4)
    · rw [if_pos c1] at hs
      obtain ⟨rfl, rfl, rfl, rfl⟩ : mn + 1 = mn' ∧ 1 = la' ∧ op = op' ∧ x_new to mn op (nI (c - 48)) = to' := by
        have := Option.some.inj hs
        simp only [Prod.mk.injEq] at this
        exact this
      have hop : (mn = 0 ∧ op = -1) ∨ ∃ o, o < mn ∧ op = nI o := by
        rcases h3 with ⟨e, -, e2⟩ | ⟨-, ⟨-, e⟩ | e⟩
        · exact Or.inl ⟨e, e2⟩
        · exact absurd c0 e
        · exact Or.inr e
      have hcong : ∀ i, i < 5 * mn → x_new to mn op (nI (c - 48)) i = to i := fun i hi => by
        unfold x_new
        rw [pk_un (by omega), pk_un (by omega), pk_un (by omega), pk_un (by omega), pk_un (by omega)]
      have e0 : x_new to mn op (nI (c - 48)) (5 * mn) = op := by
        unfold x_new
        rw [pk_un (by omega), pk_un (by omega), pk_un (by omega), pk_un (by omega)]
        exact pk_us
      have e4 : x_new to mn op (nI (c - 48)) (5 * mn + 4) = 0 := by unfold x_new; rw [pk_us]
      refine ⟨by omega, by omega, Or.inr ⟨by omega, ?_⟩, fun k hk => ?_, fun k hk => ?_, fun _ _ => ?_, fun e => by omega⟩
      · rcases hop with ⟨-, e⟩ | ⟨o, ho, e⟩
        · exact Or.inl ⟨e, by omega⟩
        · exact Or.inr ⟨o, by omega, e⟩
      · by_cases e : k = mn
        · subst e
          refine ⟨fun e => ?_, fun e => ?_, ⟨c - 48, by omega, by omega, ?_⟩, ⟨0, by omega, ?_⟩, ⟨0, by omega, ?_⟩, ⟨0, by omega, ?_⟩⟩
          · subst e
            rw [show (0 : Nat) = 5 * 0 from rfl, e0]
            rcases hop with ⟨-, q⟩ | ⟨o, ho, -⟩
            · exact q
            · omega
          · rw [e0]
            rcases hop with ⟨q, -⟩ | ⟨o, ho, q⟩
            · omega
            · exact ⟨o, ho, q⟩
          · unfold x_new
            rw [pk_un (by omega), pk_un (by omega), pk_un (by omega), pk_us]
          · unfold x_new
            rw [pk_un (by omega), pk_un (by omega), pk_us]; rfl
          · unfold x_new
            rw [pk_un (by omega), pk_us]; rfl
          · rw [e4]; rfl
        · exact x_ps_cong (fun i hi1 hi2 => hcong i (by omega)) (h4 k (by omega))
      · rw [x_cn, e0, x_cn_cong (to' := to) (fun j hj => hcong _ (by omega))]
        by_cases e : k = mn
        · subst e
          rw [x_cn_none h4 h1 (Nat.le_refl _) (by omega) k (Nat.le_refl _), if_neg]
          · omega
          · intro q
            rcases hop with ⟨-, q2⟩ | ⟨o, ho, q2⟩
            · rw [q2] at q; exact x_m1 _ (by omega) q
            · rw [q2] at q
              have := (nI_eq (by omega) (by omega)).mp q
              omega
        · have h9 := h5 k (by omega)
          by_cases q : op = nI k
          · rw [if_pos q]
            have : ¬ op < 0 := by rw [q]; exact nI_pos (by omega)
            have h10 : x_cn to op mn ≠ 4 := c1.2.2.resolve_left this
            rw [q] at h10
            omega
          · rw [if_neg q]; omega
      · rw [show 5 * (mn + 1) - 5 + 4 = 5 * mn + 4 by omega]
        exact e4
    · rw [if_neg c1] at hs; cases hs
  · rw [if_neg c0] at hs
    have hmn : 1 ≤ mn := by rcases h3 with ⟨-, e, -⟩ | ⟨e, -⟩ <;> omega
    have h3' : (op = -1 ∧ la ≠ 0) ∨ ∃ o, o < mn ∧ op = nI o := by
      rcases h3 with ⟨e, -, -⟩ | ⟨-, e⟩
      · omega
      · exact e
    have hopn : ¬ op < 0 → ∃ o, o < mn ∧ op = nI o := fun q => by
      rcases h3' with ⟨e, -⟩ | e
      · exact absurd (show op < 0 by rw [e]; decide) q
      · exact e
    split at hs
    next c1 =>
      obtain ⟨rfl, rfl, rfl, rfl⟩ : mn = mn' ∧ 2 = la' ∧ op = op' ∧ upd to (5 * mn - 5 + 2) (nI (c - 97 + 1)) = to' := by
        have := Option.some.inj hs
        simp only [Prod.mk.injEq] at this
        exact this
      refine x_pk_upd h0 c0 (by omega) (by omega) (by omega) (by omega) ⟨fun e => by omega, fun _ => ⟨c - 97 + 1, by omega, rfl⟩, fun e => by omega, fun e => by omega⟩ (fun _ _ => ?_) (fun e => by omega)
      rw [pk_un (by omega)]
      exact h6 (by omega) (by omega)
    next c1 =>
    split at hs
    next c2 =>
      obtain ⟨rfl, rfl, rfl, rfl⟩ : mn = mn' ∧ 3 = la' ∧ op = op' ∧ upd to (5 * mn - 5 + 3) 1 = to' := by
        have := Option.some.inj hs
        simp only [Prod.mk.injEq] at this
        exact this
      refine x_pk_upd h0 c0 (by omega) (by omega) (by omega) (by omega) ⟨fun e => by omega, fun e => by omega, fun _ => ⟨1, by omega, rfl⟩, fun e => by omega⟩ (fun _ _ => ?_) (fun e => by omega)
      rw [pk_un (by omega)]
      exact h6 (by omega) (by omega)
    next c2 =>
    split at hs
    next c3 =>
      obtain ⟨rfl, rfl, rfl, rfl⟩ : mn = mn' ∧ 4 = la' ∧ op = op' ∧ to = to' := by
        have := Option.some.inj hs
        simp only [Prod.mk.injEq] at this
        exact this
      refine ⟨h1, by omega, Or.inr ⟨hmn, ?_⟩, h4, h5, fun _ _ => h6 (by omega) (by omega), fun e => by omega⟩
      rcases h3' with ⟨e, -⟩ | e
      · exact Or.inl ⟨e, by omega⟩
      · exact Or.inr e
    next c3 =>
    split at hs
    next c4 =>
      split at hs
      · cases hs
      · obtain ⟨rfl, rfl, rfl, rfl⟩ : mn = mn' ∧ 0 = la' ∧ nI (mn - 1) = op' ∧ to = to' := by
          have := Option.some.inj hs
          simp only [Prod.mk.injEq] at this
          exact this
        exact ⟨h1, by omega, Or.inr ⟨hmn, Or.inr ⟨mn - 1, by omega, rfl⟩⟩, h4, h5, fun e => by omega, fun e => by omega⟩
    next c4 =>
    split at hs
    next c5 =>
      split at hs
      · cases hs
      next c6 =>
        obtain ⟨rfl, rfl, rfl, rfl⟩ : mn = mn' ∧ 0 = la' ∧ op = op' ∧ to = to' := by
          have := Option.some.inj hs
          simp only [Prod.mk.injEq] at this
          exact this
        exact ⟨h1, by omega, Or.inr ⟨hmn, Or.inr (hopn (fun e => c6 (Or.inr e)))⟩, h4, h5, fun e => by omega, fun e => by omega⟩
    next c5 =>
    split at hs
    next c7 =>
      split at hs
      · cases hs
      next c6 =>
        obtain ⟨o, ho, rfl⟩ := hopn (fun e => c6 (Or.inr e))
        obtain ⟨rfl, rfl, rfl, rfl⟩ : mn = mn' ∧ 7 = la' ∧ to (5 * (nI o).toNatClampNeg + 0) = op' ∧ to = to' := by
          have := Option.some.inj hs
          simp only [Prod.mk.injEq] at this
          exact this
        refine ⟨h1, by omega, Or.inr ⟨hmn, ?_⟩, h4, h5, fun e => by omega, fun e => by omega⟩
        rw [nI_clamp (by omega), Nat.add_zero]
        rcases Nat.eq_zero_or_pos o with rfl | e
        · exact Or.inl ⟨(h4 0 ho).1 rfl, by omega⟩
        · obtain ⟨p, hp, e2⟩ := (h4 o ho).2.1 e
          exact Or.inr ⟨p, by omega, e2⟩
    next c7 =>
    split at hs
    next c8 =>
      obtain ⟨rfl, rfl, rfl, rfl⟩ : mn = mn' ∧ (if la = 5 ∨ c = 48 then 6 else 5) = la' ∧ op = op' ∧ upd to (5 * mn - 5 + 4) (10 * to (5 * mn - 5 + 4) + nI (c - 48)) = to' := by
        have := Option.some.inj hs
        simp only [Prod.mk.injEq] at this
        exact this
      have hd : ∃ d, d ≤ 9 ∧ (la = 4 → d = 0) ∧ to (5 * mn - 5 + 4) = nI d := by
        rcases c8.2 with e | e
        · exact ⟨0, by omega, fun _ => rfl, h6 (by omega) (by omega)⟩
        · obtain ⟨d, hd, e2⟩ := h7 e
          exact ⟨d, hd, fun q => by omega, e2⟩
      obtain ⟨d, hd, hd4, ed⟩ := hd
      have ev : 10 * to (5 * mn - 5 + 4) + nI (c - 48) = nI (10 * d + (c - 48)) := by
        rw [ed, show (10 : Int32) = nI 10 from rfl, pk_mul, nI_add]
      refine x_pk_upd h0 c0 (by split <;> omega) (by split <;> omega) (by omega) (by omega) ⟨fun e => by omega, fun e => by omega, fun e => by omega, fun _ => ⟨10 * d + (c - 48), by omega, ev⟩⟩ (fun _ e => by split at e <;> omega) (fun e => ?_)
      rw [pk_us, ev]
      have hla : ¬ (la = 5 ∨ c = 48) := fun q => by rw [if_pos q] at e; omega
      exact ⟨10 * d + (c - 48), by have := hd4 (by omega); omega, rfl⟩
    · cases hs
/-- the run over the pad -/
def x_run (pd : Nat → Nat) (t0 : Nat → Int32) : Nat → Option xPS
  | 0 => some (0, 0, -1, t0)
  | i + 1 => match x_run pd t0 i with
    | none => none
    | some z => x_step (pd i) z.1 z.2.1 z.2.2.1 z.2.2.2
theorem x_run_pk {pd : Nat → Nat} {t0 : Nat → Int32} : ∀ {i mn la : Nat} {op : Int32} {to : Nat → Int32}, x_run pd t0 i = some (mn, la, op, to) → x_pk mn la op to
  | 0, mn, la, op, to, h => by
    have := Option.some.inj h
    simp only [Prod.mk.injEq] at this
    obtain ⟨rfl, rfl, rfl, rfl⟩ := this
    exact ⟨by omega, by omega, Or.inl ⟨rfl, rfl, rfl⟩, fun k hk => absurd hk (Nat.not_lt_zero k), fun k hk => absurd hk (Nat.not_lt_zero k), fun e => by omega, fun e => by omega⟩
  | i + 1, mn, la, op, to, h => by
    rw [x_run] at h
    cases e : x_run pd t0 i with
    | none => rw [e] at h; cases h
    | some z =>
      obtain ⟨a, b, d, f⟩ := z
      rw [e] at h
      exact x_pk_step (x_run_pk e) h
theorem x_run_s {pd : Nat → Nat} {t0 : Nat → Int32} {i mn la : Nat} {op : Int32} {to : Nat → Int32} (h : x_run pd t0 i = some (mn, la, op, to)) : x_run pd t0 (i + 1) = x_step (pd i) mn la op to := by rw [x_run, h]
theorem x_run_none {pd : Nat → Nat} {t0 : Nat → Int32} {i : Nat} (h : x_run pd t0 i = none) : ∀ j, i ≤ j → x_run pd t0 j = none
  | 0, hj => by
    obtain rfl : i = 0 := by omega
    exact h
  | j + 1, hj => by
    by_cases e : i = j + 1
    · subst e; exact h
    · rw [x_run, x_run_none h j (by omega)]
/-- what the fault is -/
def x_fr (pd : Nat → Nat) (t0 : Nat → Int32) (ln : Nat) (r : Int32) : Prop :=
  (∃ i, i < ln ∧ (∃ z, x_run pd t0 i = some z) ∧ x_run pd t0 (i + 1) = none ∧ r = nI i) ∨ ∃ mn la op to, x_run pd t0 ln = some (mn, la, op, to) ∧ r = if op < 0 ∧ la ≠ 0 ∧ la ≠ 4 then -6 else nI ln
theorem x_fr_one {pd : Nat → Nat} {t0 : Nat → Int32} {ln : Nat} {r r' : Int32} (h : x_fr pd t0 ln r) (h' : x_fr pd t0 ln r') : r = r' := by
  rcases h with ⟨i, hi, ⟨z, hz⟩, hn, rfl⟩ | ⟨mn, la, op, to, hz, rfl⟩ <;> rcases h' with ⟨j, hj, ⟨y, hy⟩, hm, rfl⟩ | ⟨mn', la', op', to', hy, rfl⟩
  · rcases Nat.lt_trichotomy i j with q | q | q
    · rw [x_run_none hn j q] at hy; cases hy
    · rw [q]
    · rw [x_run_none hm i q] at hz; cases hz
  · rw [x_run_none hn ln hi] at hy; cases hy
  · rw [x_run_none hm ln hj] at hz; cases hz
  · rw [hz] at hy
    have := Option.some.inj hy
    simp only [Prod.mk.injEq] at this
    obtain ⟨rfl, rfl, rfl, rfl⟩ := this
    rfl
