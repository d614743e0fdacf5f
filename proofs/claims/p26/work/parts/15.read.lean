/-! The reader's own numbers against the run's. -/
def x_lc (la : Nat) : Nat := if la = 0 then 0 else if la = 4 then 1 else if la ≤ 3 then la + 1 else la
def x_np (op : Int32) : Int32 := if op < 0 then -6 else op
def xRd (mn la : Nat) (op : Int32) (to : Nat → Int32) (lc : Nat) (pa : Int32) (f1 f2 f3 f4 f5 : Nat → Int32) : Prop :=
  lc = x_lc la ∧ pa = x_np op ∧ ∀ k, k < mn → f1 k = x_np (to (5 * k)) ∧ f2 k = to (5 * k + 1) ∧ f3 k = to (5 * k + 2) ∧ f4 k = to (5 * k + 3) ∧ f5 k = to (5 * k + 4)
/-- a sign that stands: the new state; one that doesn't -/
def xRy (c mn la : Nat) (op : Int32) (to : Nat → Int32) (mn2 lc2 : Nat) (pa2 : Int32) (f1 f2 f3 f4 f5 : Nat → Int32) : Prop :=
  ∃ la' op' to', x_step c mn la op to = some (mn2, la', op', to') ∧ xRd mn2 la' op' to' lc2 pa2 f1 f2 f3 f4 f5
theorem x_npI {o : Nat} (h : o < 2 ^ 31) : x_np (nI o) = nI o := if_neg (nI_pos h)
theorem x_np1 : x_np (-1) = -6 := rfl
theorem x_lc0 {la : Nat} : x_lc la = 0 ↔ la = 0 := by unfold x_lc; split <;> (try split) <;> (try split) <;> omega
theorem x_lc1 {la : Nat} : x_lc la = 1 ↔ la = 4 := by unfold x_lc; split <;> (try split) <;> (try split) <;> omega
theorem x_lc2 {la : Nat} : x_lc la = 2 ↔ la = 1 := by unfold x_lc; split <;> (try split) <;> (try split) <;> omega
theorem x_lc23 {la : Nat} : (2 ≤ x_lc la ∧ x_lc la ≤ 3) ↔ la = 1 ∨ la = 2 := by unfold x_lc; split <;> (try split) <;> (try split) <;> omega
theorem x_lc24 {la : Nat} : (2 ≤ x_lc la ∧ x_lc la ≤ 4) ↔ 1 ≤ la ∧ la ≤ 3 := by unfold x_lc; split <;> (try split) <;> (try split) <;> omega
theorem x_lc26 {la : Nat} (h : la ≤ 7) : (2 ≤ x_lc la ∧ x_lc la ≤ 6) ↔ ¬ (la = 0 ∨ la = 4 ∨ la = 7) := by unfold x_lc; split <;> (try split) <;> (try split) <;> omega
theorem x_lc5 {la : Nat} : x_lc la = 5 ↔ la = 5 := by unfold x_lc; split <;> (try split) <;> (try split) <;> omega
theorem x_lcge {la : Nat} : 2 ≤ x_lc la ↔ la ≠ 0 ∧ la ≠ 4 := by unfold x_lc; split <;> (try split) <;> (try split) <;> omega
theorem x_lcle {la : Nat} (h : la ≤ 7) : x_lc la ≤ 7 := by unfold x_lc; split <;> (try split) <;> (try split) <;> omega
theorem x_pk_mn {mn la : Nat} {op : Int32} {to : Nat → Int32} (h : x_pk mn la op to) (h0 : la ≠ 0) : 1 ≤ mn := by
  rcases h.2.2.1 with ⟨-, e, -⟩ | ⟨e, -⟩
  · exact absurd e h0
  · exact e
theorem x_pk_op {mn la : Nat} {op : Int32} {to : Nat → Int32} (h : x_pk mn la op to) : op = -1 ∨ ∃ o, o < mn ∧ op = nI o := by
  rcases h.2.2.1 with ⟨-, -, e⟩ | ⟨-, ⟨e, -⟩ | e⟩
  · exact Or.inl e
  · exact Or.inl e
  · exact Or.inr e
theorem x_pk_in {mn la : Nat} {op : Int32} {to : Nat → Int32} (h : x_pk mn la op to) : xIx (x_np op) mn ↔ ¬ op < 0 := by
  have hm := h.1
  rcases x_pk_op h with rfl | ⟨o, ho, rfl⟩
  · constructor
    · rintro ⟨k, hk, e⟩
      exact absurd e (x_m6 k (by omega))
    · intro q
      exact absurd (by decide) q
  · constructor
    · intro _
      exact nI_pos (by omega)
    · intro _
      exact ⟨o, ho, x_npI (by omega)⟩
theorem x_ct_cn {mn la : Nat} {op : Int32} {to f1 : Nat → Int32} (h : x_pk mn la op to) {o : Nat} (ho : o < mn) (hf : ∀ k, k < mn → f1 k = x_np (to (5 * k))) : ∀ j, j ≤ mn → x_ct f1 (nI o) j = x_cn to (nI o) j
  | 0, _ => rfl
  | j + 1, hj => by
    have hm := h.1
    rw [x_ct, x_cn, x_ct_cn h ho hf j (by omega), hf j (by omega)]
    congr 1
    have e : (x_np (to (5 * j)) = nI o) ↔ (to (5 * j) = nI o) := by
      rcases Nat.eq_zero_or_pos j with rfl | q
      · rw [show 5 * 0 = 0 from rfl, (h.2.2.2.1 0 (by omega)).1 rfl]
        constructor
        · intro e; exact absurd e (x_m6 o (by omega))
        · intro e; exact absurd e (x_m1 o (by omega))
      · obtain ⟨p, hp, e2⟩ := (h.2.2.2.1 j (by omega)).2.1 q
        rw [e2, x_npI (by omega)]
    by_cases q : to (5 * j) = nI o
    · rw [if_pos q, if_pos (e.mpr q)]
    · rw [if_neg q, if_neg (fun z => q (e.mp z))]
section RD
variable {c mn la lc : Nat} {op pa : Int32} {to f1 f2 f3 f4 f5 : Nat → Int32}
theorem rd_room (hrd : xRd mn la op to lc pa f1 f2 f3 f4 f5) (hpk : x_pk mn la op to) (h0 : la = 0) : (mn < 20 ∧ x_bc (x_orf (x_bo f1 pa) mn) < 4) ↔ (mn < 20 ∧ (op < 0 ∨ x_cn to op mn ≠ 4)) := by
  have hm := hpk.1
  rw [x_bc_orf f1 pa hm]
  have hle := x_ct_le f1 pa mn
  rw [show (4 : Int32) = nI 4 from rfl, nI_ltI (by omega) (by omega), hrd.2.1]
  rcases x_pk_op hpk with rfl | ⟨o, ho, rfl⟩
  · have hmn : mn = 0 := by
      rcases hpk.2.2.1 with ⟨e, -, -⟩ | ⟨-, ⟨-, e⟩ | ⟨o, ho, e⟩⟩
      · exact e
      · exact absurd h0 e
      · exact absurd e (x_m1 o (by omega))
    subst hmn
    exact ⟨fun _ => ⟨by omega, Or.inl (by decide)⟩, fun _ => ⟨by omega, show (0 : Nat) < 4 by omega⟩⟩
  · rw [x_npI (by omega), x_ct_cn hpk ho (fun k hk => (hrd.2.2 k hk).1) mn (Nat.le_refl _)]
    have h4 := hpk.2.2.2.2.1 o ho
    have hn : ¬ nI o < 0 := nI_pos (by omega)
    constructor
    · rintro ⟨a, b⟩
      exact ⟨a, Or.inr (by omega)⟩
    · rintro ⟨a, b | b⟩
      · exact absurd b hn
      · exact ⟨a, by omega⟩
theorem rd_width (hrd : xRd mn la op to lc pa f1 f2 f3 f4 f5) (hpk : x_pk mn la op to) (h0 : la = 0) (hc : 49 ≤ c ∧ c ≤ 57) (hr : mn < 20 ∧ x_bc (x_orf (x_bo f1 pa) mn) < 4) : xRy c mn la op to (mn + 1) 2 pa (upd f1 mn pa) (upd f2 mn (nI (c - 48))) (upd f3 mn 0) (upd f4 mn 0) (upd f5 mn 0) := by
  refine ⟨1, op, x_new to mn op (nI (c - 48)), ?_, rfl, hrd.2.1, fun k hk => ?_⟩
  · unfold x_step
    rw [if_pos h0, if_pos ⟨hc, (rd_room hrd hpk h0).mp hr⟩]
  · by_cases e : k = mn
    · subst e
      rw [pk_us, pk_us, pk_us, pk_us, pk_us]
      unfold x_new
      refine ⟨?_, ?_, ?_, ?_, ?_⟩
      · rw [pk_un (by omega), pk_un (by omega), pk_un (by omega), pk_un (by omega), Nat.add_zero, pk_us]; exact hrd.2.1
      · rw [pk_un (by omega), pk_un (by omega), pk_un (by omega), pk_us]
      · rw [pk_un (by omega), pk_un (by omega), pk_us]
      · rw [pk_un (by omega), pk_us]
      · rw [pk_us]
    · rw [pk_un e, pk_un e, pk_un e, pk_un e, pk_un e]
      unfold x_new
      rw [pk_un (by omega), pk_un (by omega), pk_un (by omega), pk_un (by omega), pk_un (by omega)]
      rw [pk_un (by omega), pk_un (by omega), pk_un (by omega), pk_un (by omega), pk_un (by omega)]
      rw [pk_un (by omega), pk_un (by omega), pk_un (by omega), pk_un (by omega), pk_un (by omega)]
      rw [pk_un (by omega), pk_un (by omega), pk_un (by omega), pk_un (by omega), pk_un (by omega)]
      rw [pk_un (by omega), pk_un (by omega), pk_un (by omega), pk_un (by omega), pk_un (by omega)]
      exact hrd.2.2 k (by omega)
theorem rd_widthN (hrd : xRd mn la op to lc pa f1 f2 f3 f4 f5) (hpk : x_pk mn la op to) (h0 : la = 0) (hn : ¬ ((49 ≤ c ∧ c ≤ 57) ∧ (mn < 20 ∧ x_bc (x_orf (x_bo f1 pa) mn) < 4))) : x_step c mn la op to = none := by
  unfold x_step
  rw [if_pos h0, if_neg (fun q => hn ⟨q.1, (rd_room hrd hpk h0).mpr q.2⟩)]
theorem rd_row {i : Nat} {v : Int32} (hmn : 1 ≤ mn) {k : Nat} (hk : k < mn) {j : Nat} (hj : j < 5) (hi : i < 5) : (upd to (5 * mn - 5 + i) v) (5 * k + j) = if k = mn - 1 ∧ j = i then v else to (5 * k + j) := by
  by_cases e : k = mn - 1 ∧ j = i
  · rw [if_pos e, show 5 * k + j = 5 * mn - 5 + i by omega, pk_us]
  · rw [if_neg e, pk_un (by omega)]
theorem rd_upd {f : Nat → Int32} {v : Int32} {k : Nat} : (upd f (mn - 1) v) k = if k = mn - 1 then v else f k := by
  by_cases e : k = mn - 1
  · rw [if_pos e, e, pk_us]
  · rw [if_neg e, pk_un e]
theorem rd_flag (hrd : xRd mn la op to lc pa f1 f2 f3 f4 f5) (hpk : x_pk mn la op to) (hl : lc = 2) (hc : 97 ≤ c ∧ c ≤ 101) : xRy c mn la op to mn 3 pa f1 f2 (upd f3 (mn - 1) (nI (c - 97 + 1))) f4 f5 := by
  have h1 : la = 1 := x_lc2.mp (hrd.1 ▸ hl)
  have hmn := x_pk_mn hpk (by omega)
  refine ⟨2, op, upd to (5 * mn - 5 + 2) (nI (c - 97 + 1)), ?_, rfl, hrd.2.1, fun k hk => ?_⟩
  · unfold x_step
    rw [if_neg (by omega), if_pos ⟨hc, h1⟩]
  · have h := hrd.2.2 k hk
    rw [pk_un (show 5 * k ≠ 5 * mn - 5 + 2 by omega), rd_row (i := 2) (j := 1) hmn hk (by omega) (by omega), rd_row (i := 2) (j := 2) hmn hk (by omega) (by omega), rd_row (i := 2) (j := 3) hmn hk (by omega) (by omega), rd_row (i := 2) (j := 4) hmn hk (by omega) (by omega), rd_upd]
    refine ⟨?_, ?_, ?_, ?_, ?_⟩
    · exact h.1
    · rw [if_neg (by omega)]; exact h.2.1
    · by_cases e : k = mn - 1
      · rw [if_pos e, if_pos ⟨e, rfl⟩]
      · rw [if_neg e, if_neg (fun q => e q.1)]; exact h.2.2.1
    · rw [if_neg (by omega)]; exact h.2.2.2.1
    · rw [if_neg (by omega)]; exact h.2.2.2.2
theorem rd_flagN (hrd : xRd mn la op to lc pa f1 f2 f3 f4 f5) (h0 : la ≠ 0) (h4 : la ≠ 4) (hs : c ≠ 33 ∧ c ≠ 42 ∧ c ≠ 40 ∧ c ≠ 44 ∧ c ≠ 41) (hd : ¬ (48 ≤ c ∧ c ≤ 57)) (hn : ¬ (lc = 2 ∧ 97 ≤ c ∧ c ≤ 101)) : x_step c mn la op to = none := by
  unfold x_step
  rw [if_neg h0, if_neg (fun q => hn ⟨by rw [hrd.1]; exact x_lc2.mpr q.2, q.1⟩), if_neg (fun q => hs.1 q.1), if_neg (fun q => hs.2.1 q.1), if_neg hs.2.2.1, if_neg hs.2.2.2.1, if_neg hs.2.2.2.2, if_neg (fun q => hd q.1)]
theorem rd_smoke (hrd : xRd mn la op to lc pa f1 f2 f3 f4 f5) (hpk : x_pk mn la op to) (hc : c = 33) (hl : 2 ≤ lc ∧ lc ≤ 3) : xRy c mn la op to mn 4 pa f1 f2 f3 (upd f4 (mn - 1) 1) f5 := by
  have h1 : la = 1 ∨ la = 2 := x_lc23.mp (hrd.1 ▸ hl)
  have hmn := x_pk_mn hpk (by omega)
  refine ⟨3, op, upd to (5 * mn - 5 + 3) 1, ?_, rfl, hrd.2.1, fun k hk => ?_⟩
  · unfold x_step
    rw [if_neg (by omega), if_neg (by omega), if_pos ⟨hc, h1⟩]
  · have h := hrd.2.2 k hk
    rw [pk_un (show 5 * k ≠ 5 * mn - 5 + 3 by omega), rd_row (i := 3) (j := 1) hmn hk (by omega) (by omega), rd_row (i := 3) (j := 2) hmn hk (by omega) (by omega), rd_row (i := 3) (j := 3) hmn hk (by omega) (by omega), rd_row (i := 3) (j := 4) hmn hk (by omega) (by omega), rd_upd]
    refine ⟨?_, ?_, ?_, ?_, ?_⟩
    · exact h.1
    · rw [if_neg (by omega)]; exact h.2.1
    · rw [if_neg (by omega)]; exact h.2.2.1
    · by_cases e : k = mn - 1
      · rw [if_pos e, if_pos ⟨e, rfl⟩]
      · rw [if_neg e, if_neg (fun q => e q.1)]; exact h.2.2.2.1
    · rw [if_neg (by omega)]; exact h.2.2.2.2
theorem rd_smokeN (hrd : xRd mn la op to lc pa f1 f2 f3 f4 f5) (h0 : la ≠ 0) (hc : c = 33) (hn : ¬ (2 ≤ lc ∧ lc ≤ 3)) : x_step c mn la op to = none := by
  unfold x_step
  rw [if_neg h0, if_neg (by omega), if_neg (fun q => hn (by rw [hrd.1]; exact x_lc23.mpr q.2)), if_neg (by omega), if_neg (by omega), if_neg (by omega), if_neg (by omega), if_neg (by omega)]
theorem rd_star (hrd : xRd mn la op to lc pa f1 f2 f3 f4 f5) (hc : c = 42) (hl : 2 ≤ lc ∧ lc ≤ 4) : xRy c mn la op to mn 1 pa f1 f2 f3 f4 f5 := by
  have h1 : 1 ≤ la ∧ la ≤ 3 := x_lc24.mp (hrd.1 ▸ hl)
  refine ⟨4, op, to, ?_, rfl, hrd.2.1, hrd.2.2⟩
  unfold x_step
  rw [if_neg (by omega), if_neg (by omega), if_neg (by omega), if_pos ⟨hc, h1⟩]
theorem rd_starN (hrd : xRd mn la op to lc pa f1 f2 f3 f4 f5) (h0 : la ≠ 0) (hc : c = 42) (hn : ¬ (2 ≤ lc ∧ lc ≤ 4)) : x_step c mn la op to = none := by
  unfold x_step
  rw [if_neg h0, if_neg (by omega), if_neg (by omega), if_neg (fun q => hn (by rw [hrd.1]; exact x_lc24.mpr q.2)), if_neg (by omega), if_neg (by omega), if_neg (by omega), if_neg (by omega)]
theorem rd_people {v : Int32} {la' : Nat} (hrd : xRd mn la op to lc pa f1 f2 f3 f4 f5) (hmn : 1 ≤ mn) (hs : x_step c mn la op to = some (mn, la', op, upd to (5 * mn - 5 + 4) v)) : xRy c mn la op to mn (x_lc la') pa f1 f2 f3 f4 (upd f5 (mn - 1) v) := by
  refine ⟨la', op, _, hs, rfl, hrd.2.1, fun k hk => ?_⟩
  have h := hrd.2.2 k hk
  rw [pk_un (show 5 * k ≠ 5 * mn - 5 + 4 by omega), rd_row (i := 4) (j := 1) hmn hk (by omega) (by omega), rd_row (i := 4) (j := 2) hmn hk (by omega) (by omega), rd_row (i := 4) (j := 3) hmn hk (by omega) (by omega), rd_row (i := 4) (j := 4) hmn hk (by omega) (by omega), rd_upd]
  refine ⟨?_, ?_, ?_, ?_, ?_⟩
  · exact h.1
  · rw [if_neg (by omega)]; exact h.2.1
  · rw [if_neg (by omega)]; exact h.2.2.1
  · rw [if_neg (by omega)]; exact h.2.2.2.1
  · by_cases e : k = mn - 1
    · rw [if_pos e, if_pos ⟨e, rfl⟩]
    · rw [if_neg e, if_neg (fun q => e q.1)]; exact h.2.2.2.2
theorem rd_first (hrd : xRd mn la op to lc pa f1 f2 f3 f4 f5) (hpk : x_pk mn la op to) (h4 : la = 4) (hc : 48 ≤ c ∧ c ≤ 57) : xRy c mn la op to mn (if c = 48 then 6 else 5) pa f1 f2 f3 f4 (upd f5 (mn - 1) (nI (c - 48))) := by
  have hmn := x_pk_mn hpk (by omega)
  have e0 := hpk.2.2.2.2.2.1 (by omega) (by omega)
  have ev : (10 : Int32) * to (5 * mn - 5 + 4) + nI (c - 48) = nI (c - 48) := by
    rw [e0, show (0 : Int32) = nI 0 from rfl, show (10 : Int32) = nI 10 from rfl, pk_mul, nI_add]
    exact congrArg nI (by omega)
  have hs : x_step c mn la op to = some (mn, (if c = 48 then 6 else 5), op, upd to (5 * mn - 5 + 4) (nI (c - 48))) := by
    unfold x_step
    rw [if_neg (by omega), if_neg (by omega), if_neg (by omega), if_neg (by omega), if_neg (by omega), if_neg (by omega), if_neg (by omega), if_pos ⟨hc, Or.inl h4⟩, ev]
    by_cases e : c = 48
    · rw [if_pos e, if_pos (Or.inr e)]
    · rw [if_neg e, if_neg (by omega)]
  have := rd_people hrd hmn hs
  rwa [show x_lc (if c = 48 then 6 else 5) = if c = 48 then 6 else 5 by split <;> rfl] at this
theorem rd_firstN (h4 : la = 4) (hn : ¬ (48 ≤ c ∧ c ≤ 57)) : x_step c mn la op to = none := by
  unfold x_step
  rw [if_neg (by omega), if_neg (by omega), if_neg (by omega), if_neg (by omega)]
  by_cases e : c = 40
  · rw [if_pos e, if_pos (Or.inl h4)]
  rw [if_neg e]
  by_cases e : c = 44
  · rw [if_pos e, if_pos (Or.inl h4)]
  rw [if_neg e]
  by_cases e : c = 41
  · rw [if_pos e, if_pos (Or.inl h4)]
  rw [if_neg e, if_neg (fun q => hn q.1)]
theorem x_as (x : Int32) {c : Nat} (h : 48 ≤ c) : x + nI c - 48 = x + nI (c - 48) := by
  have e : nI c = nI (c - 48) + 48 := by
    rw [show (48 : Int32) = nI 48 from rfl, nI_add]
    exact congrArg nI (by omega)
  rw [e, ← Int32.add_assoc, Int32.add_sub_cancel]
theorem rd_second (hrd : xRd mn la op to lc pa f1 f2 f3 f4 f5) (hpk : x_pk mn la op to) (hl : lc = 5) (hc : 48 ≤ c ∧ c ≤ 57) : xRy c mn la op to mn 6 pa f1 f2 f3 f4 (upd f5 (mn - 1) (10 * f5 (mn - 1) + nI c - 48)) := by
  have h5 : la = 5 := x_lc5.mp (hrd.1 ▸ hl)
  have hmn := x_pk_mn hpk (by omega)
  have ef : f5 (mn - 1) = to (5 * mn - 5 + 4) := by
    rw [(hrd.2.2 (mn - 1) (by omega)).2.2.2.2]
    exact congrArg to (by omega)
  rw [x_as _ hc.1, ef]
  have hs : x_step c mn la op to = some (mn, 6, op, upd to (5 * mn - 5 + 4) (10 * to (5 * mn - 5 + 4) + nI (c - 48))) := by
    unfold x_step
    rw [if_neg (by omega), if_neg (by omega), if_neg (by omega), if_neg (by omega), if_neg (by omega), if_neg (by omega), if_neg (by omega), if_pos ⟨hc, Or.inr h5⟩, if_pos (Or.inl h5)]
  exact rd_people hrd hmn hs
theorem rd_secondN (hrd : xRd mn la op to lc pa f1 f2 f3 f4 f5) (h0 : la ≠ 0) (h4 : la ≠ 4) (hc : 48 ≤ c ∧ c ≤ 57) (hn : ¬ lc = 5) : x_step c mn la op to = none := by
  unfold x_step
  rw [if_neg h0, if_neg (by omega), if_neg (by omega), if_neg (by omega), if_neg (by omega), if_neg (by omega), if_neg (by omega), if_neg (fun q => hn (by rw [hrd.1]; exact x_lc5.mpr (q.2.resolve_left h4)))]
theorem rd_open (hrd : xRd mn la op to lc pa f1 f2 f3 f4 f5) (hpk : x_pk mn la op to) (hc : c = 40) (hl : 2 ≤ lc ∧ lc ≤ 6) : xRy c mn la op to mn 0 (nI (mn - 1)) f1 f2 f3 f4 f5 := by
  have h1 := (x_lc26 hpk.2.1).mp (hrd.1 ▸ hl)
  have hm := hpk.1
  refine ⟨0, nI (mn - 1), to, ?_, rfl, (x_npI (by omega)).symm, hrd.2.2⟩
  unfold x_step
  rw [if_neg (by omega), if_neg (by omega), if_neg (by omega), if_neg (by omega), if_pos hc, if_neg (by omega)]
theorem rd_openN (hrd : xRd mn la op to lc pa f1 f2 f3 f4 f5) (hpk : x_pk mn la op to) (h0 : la ≠ 0) (hc : c = 40) (hn : ¬ (2 ≤ lc ∧ lc ≤ 6)) : x_step c mn la op to = none := by
  unfold x_step
  rw [if_neg h0, if_neg (by omega), if_neg (by omega), if_neg (by omega), if_pos hc, if_pos]
  have h9 : ¬ ¬ (la = 0 ∨ la = 4 ∨ la = 7) := fun q => hn (by rw [hrd.1]; exact (x_lc26 hpk.2.1).mpr q)
  have := Decidable.not_not.mp h9
  omega
theorem rd_goes (hrd : xRd mn la op to lc pa f1 f2 f3 f4 f5) (hpk : x_pk mn la op to) (h0 : la ≠ 0) (h4 : la ≠ 4) (hc : c = 44) (hl : xIx pa mn) : xRy c mn la op to mn 0 pa f1 f2 f3 f4 f5 := by
  rw [hrd.2.1] at hl
  have h1 := (x_pk_in hpk).mp hl
  refine ⟨0, op, to, ?_, rfl, hrd.2.1, hrd.2.2⟩
  unfold x_step
  rw [if_neg h0, if_neg (by omega), if_neg (by omega), if_neg (by omega), if_neg (by omega), if_pos hc, if_neg (fun q => q.elim h4 h1)]
theorem rd_goesN (hrd : xRd mn la op to lc pa f1 f2 f3 f4 f5) (hpk : x_pk mn la op to) (h0 : la ≠ 0) (hc : c = 44) (hn : ¬ xIx pa mn) : x_step c mn la op to = none := by
  rw [hrd.2.1, x_pk_in hpk] at hn
  unfold x_step
  rw [if_neg h0, if_neg (by omega), if_neg (by omega), if_neg (by omega), if_neg (by omega), if_pos hc, if_pos (Or.inr (Decidable.not_not.mp hn))]
theorem rd_close {o : Nat} (hrd : xRd mn la op to lc pa f1 f2 f3 f4 f5) (hpk : x_pk mn la op to) (h0 : la ≠ 0) (h4 : la ≠ 4) (hc : c = 41) (ho : o < mn) (hl : pa = nI o) : xRy c mn la op to mn 7 (f1 o) f1 f2 f3 f4 f5 := by
  have hm := hpk.1
  have hop : op = nI o := by
    rcases x_pk_op hpk with e | ⟨z, hz, e⟩
    · rw [hrd.2.1, e, x_np1] at hl
      exact absurd hl (x_m6 o (by omega))
    · rw [hrd.2.1, e, x_npI (by omega)] at hl
      rw [e, hl]
  have h1 : ¬ op < 0 := by rw [hop]; exact nI_pos (by omega)
  refine ⟨7, to (5 * op.toNatClampNeg + 0), to, ?_, rfl, ?_, hrd.2.2⟩
  · unfold x_step
    rw [if_neg h0, if_neg (by omega), if_neg (by omega), if_neg (by omega), if_neg (by omega), if_neg (by omega), if_pos hc, if_neg (fun q => q.elim h4 h1)]
  · rw [hop, nI_clamp (by omega)]
    exact (hrd.2.2 o ho).1
theorem rd_closeN (hrd : xRd mn la op to lc pa f1 f2 f3 f4 f5) (hpk : x_pk mn la op to) (h0 : la ≠ 0) (hc : c = 41) (hn : ¬ xIx pa mn) : x_step c mn la op to = none := by
  rw [hrd.2.1, x_pk_in hpk] at hn
  unfold x_step
  rw [if_neg h0, if_neg (by omega), if_neg (by omega), if_neg (by omega), if_neg (by omega), if_neg (by omega), if_pos hc, if_pos (Or.inr (Decidable.not_not.mp hn))]
end RD
