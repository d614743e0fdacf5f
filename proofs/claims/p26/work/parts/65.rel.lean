/-! The class's rows against the reference's row. -/
def xSR (T : Nat → Int32) (n : Nat) (f1 f2 f3 f4 f5 : Nat → Int32) : Prop :=
  f1 0 = -6 ∧ (∀ o, 1 ≤ o → o < n → f1 o = x_tF T o) ∧ ∀ o, o < n → f2 o = x_tW T o ∧ f3 o = x_tC T o ∧ f4 o = x_tM T o ∧ f5 o = x_tP T o
section
variable {T : Nat → Int32} {n : Nat} {pr : Nat → Nat} {f1 f2 f3 f4 f5 r0 : Nat → Int32}
theorem xSR.prs (h : xSR T n f1 f2 f3 f4 f5) (hok : x_ok T n pr) : ∀ o, 1 ≤ o → o < n → f1 o = nI (pr o) ∧ pr o < o :=
  fun o h1 h2 => ⟨(h.2.1 o h1 h2).trans (hok.2.2.2.2.1 o h1 h2).1, (hok.2.2.2.2.1 o h1 h2).2⟩
theorem xSR.np (h : xSR T n f1 f2 f3 f4 f5) (hok : x_ok T n pr) {k : Nat} (hk : k < n) : f1 k = x_np (x_tF T k) := by
  have hn := hok.1
  rcases Nat.eq_zero_or_pos k with rfl | h1
  · rw [h.1]
    show (-6 : Int32) = x_np (T 33)
    rw [hok.2.2.2.1]
    rfl
  · rw [h.2.1 k h1 hk]
    have e := hok.2.2.2.2.1 k h1 hk
    show T (33 + 5 * k + 0) = x_np (T (33 + 5 * k + 0))
    rw [e.1, x_npI (by omega)]
theorem xSR.eqk (h : xSR T n f1 f2 f3 f4 f5) (hok : x_ok T n pr) {o k : Nat} (ho : o < n) (hk : k < n) : f1 o = nI k ↔ x_tF T o = nI k := by
  have hn := hok.1
  rcases Nat.eq_zero_or_pos o with rfl | h1
  · rw [h.1]
    have e : x_tF T 0 = -1 := hok.2.2.2.1
    rw [e]
    exact ⟨fun z => absurd z (x_m6 k (by omega)), fun z => absurd z (x_m1 k (by omega))⟩
  · rw [h.2.1 o h1 ho]
theorem xSR.eqo (h : xSR T n f1 f2 f3 f4 f5) (hok : x_ok T n pr) {o k : Nat} (ho : o < n) (hk : k < n) : f1 o = f1 k ↔ x_tF T o = x_tF T k := by
  have hn := hok.1
  have e0 : x_tF T 0 = -1 := hok.2.2.2.1
  rcases Nat.eq_zero_or_pos k with rfl | h1
  · rcases Nat.eq_zero_or_pos o with rfl | h2
    · exact ⟨fun _ => rfl, fun _ => rfl⟩
    · rw [h.1, (h.prs hok o h2 ho).1, e0]
      have e : x_tF T o = nI (pr o) := (hok.2.2.2.2.1 o h2 ho).1
      rw [e]
      have := (h.prs hok o h2 ho).2
      exact ⟨fun z => absurd z.symm (x_m6 _ (by omega)), fun z => absurd z.symm (x_m1 _ (by omega))⟩
  · have e : x_tF T k = nI (pr k) := (hok.2.2.2.2.1 k h1 hk).1
    have := (h.prs hok k h1 hk).2
    rw [(h.prs hok k h1 hk).1, e]
    exact h.eqk hok ho (by omega)
theorem xSR.bs (h : xSR T n f1 f2 f3 f4 f5) (hok : x_ok T n pr) {k : Nat} (hk : k < n) : x_orf (x_bo f1 (nI k)) n = x_bs T n k :=
  x_orf_cong (fun o ho => by
    unfold x_bo
    by_cases q : f1 o = nI k
    · rw [if_pos q, if_pos ((h.eqk hok ho hk).mp q)]
    · rw [if_neg q, if_neg (fun z => q ((h.eqk hok ho hk).mpr z))])
theorem xSR.ct (h : xSR T n f1 f2 f3 f4 f5) (hok : x_ok T n pr) {k : Nat} (hk : k < n) : ∀ j, j ≤ n → x_ct f1 (nI k) j = x_ct (x_tF T) (nI k) j
  | 0, _ => rfl
  | j + 1, hj => by
    rw [x_ct, x_ct, h.ct hok hk j (by omega)]
    by_cases q : f1 j = nI k
    · rw [if_pos q, if_pos ((h.eqk hok (by omega) hk).mp q)]
    · rw [if_neg q, if_neg (fun z => q ((h.eqk hok (by omega) hk).mpr z))]
theorem xSR.tg (h : xSR T n f1 f2 f3 f4 f5) (hok : x_ok T n pr) {k : Nat} (hk : k < n) (m : Int32) : x_sm (x_tg f1 f2 m k) n = x_sm (x_tg (x_tF T) (x_tW T) m k) n :=
  x_sm_cong (fun o ho => by
    unfold x_tg
    rw [(h.2.2 o ho).1]
    by_cases q : nI o ≠ m ∧ f1 o = f1 k
    · rw [if_pos q, if_pos ⟨q.1, (h.eqo hok ho hk).mp q.2⟩]
    · rw [if_neg q, if_neg (fun z => q ⟨z.1, (h.eqo hok ho hk).mpr z.2⟩)])
theorem xSR.nr (h : xSR T n f1 f2 f3 f4 f5) (hok : x_ok T n pr) {k : Nat} (hk : k < n) (m : Int32) : x_sm (x_nr f1 f2 m k) n = x_sm (x_nr (x_tF T) (x_tW T) m k) n :=
  x_sm_cong (fun o ho => by
    unfold x_nr
    rw [(h.2.2 o ho).1, (h.2.2 k hk).1]
    by_cases q : (nI o ≠ m ∧ f1 o = f1 k) ∧ x_tW T o < x_tW T k
    · rw [if_pos q, if_pos ⟨⟨q.1.1, (h.eqo hok ho hk).mp q.1.2⟩, q.2⟩]
    · rw [if_neg q, if_neg (fun z => q ⟨⟨z.1.1, (h.eqo hok ho hk).mpr z.1.2⟩, z.2⟩)])
/-- the forces, out of what part() and blow() leave -/
theorem xSR.P (h : xSR T n f1 f2 f3 f4 f5) (hok : x_ok T n pr) {m top : Int32} {w1 w2 : Nat → Int32} (h1 : ∀ k, k < n → w1 k = x_sm (x_tg f1 f2 m k) n) (h2 : ∀ k, k < n → w2 k = x_sm (x_nr f1 f2 m k) n) {k : Nat} (hk : k < n) : x_fc pr (x_sh w1 w2 f2) top k = x_FT T pr n m top k := by
  unfold x_FT x_F
  refine x_fc_cong n (fun j _ hj x => ?_) (fun o a b => (hok.2.2.2.2.1 o a b).2) k hk
  unfold x_sh
  dsimp only
  rw [h1 j hj, h2 j hj, h.tg hok hj, h.nr hok hj, (h.2.2 j hj).1]
theorem xSR.F (h : xSR T n f1 f2 f3 f4 f5) (hok : x_ok T n pr) {m fc top : Int32} (e : fc = top) {k : Nat} (hk : k < n) : x_F f1 f2 pr n m fc k = x_FT T pr n m top k := by
  subst e
  exact h.P hok (fun _ _ => rfl) (fun _ _ => rfl) hk
theorem x_gu_T (hq : ∀ i, i < 4 → r0 i = T i) (F : Int32) : x_gu r0 F = x_gu T F := by
  unfold x_gu
  rw [hq 2 (by omega)]
theorem x_ha_T (hq : ∀ i, i < 4 → r0 i = T i) (F p : Int32) : x_ha r0 F p = x_ha T F p := by
  unfold x_ha
  rw [x_gu_T hq, hq 1 (by omega)]
theorem xSR.hk (h : xSR T n f1 f2 f3 f4 f5) (hq : ∀ i, i < 4 → r0 i = T i) {w F : Nat → Int32} {k : Nat} (hk : k < n) (hw : w k = F k) : x_hk r0 w f5 k = x_hc T F k := by
  unfold x_hk x_hc
  rw [hw, (h.2.2 k hk).2.2.2, x_ha_T hq]
theorem xSR.hb (h : xSR T n f1 f2 f3 f4 f5) (hq : ∀ i, i < 4 → r0 i = T i) {w : Nat → Int32} {top : Int32} (hw : ∀ k, k < n → w k = x_FT T pr n (-6) top k) : x_sm (x_hk r0 w f5) n = x_hb T pr n top :=
  x_sm_cong (fun k hk => h.hk hq hk (hw k hk))
theorem xSR.wo (h : xSR T n f1 f2 f3 f4 f5) (hq : ∀ i, i < 4 → r0 i = T i) {w : Nat → Int32} (hw : ∀ k, k < n → w k = x_FT T pr n (-6) (T 4) k) : (x_wo (x_hk r0 w f5) n).1 = x_wh T pr n := by
  unfold x_wh
  rw [x_wo_cong (fun k hk => h.hk hq hk (hw k hk))]
theorem xSR.fs (h : xSR T n f1 f2 f3 f4 f5) (hq : ∀ i, i < 4 → r0 i = T i) {w F : Nat → Int32} {k : Nat} (hk : k < n) (hw : w k = F k) : (if f3 k = 0 then (-6 : Int32) else x_mn 12 (x_quo (w k) (r0 0 * f3 k))) = if x_tC T k = 0 then -6 else x_fst T F k := by
  rw [(h.2.2 k hk).2.1, hw, hq 0 (by omega)]
  rfl
theorem xSR.sm (h : xSR T n f1 f2 f3 f4 f5) (hq : ∀ i, i < 4 → r0 i = T i) {w F : Nat → Int32} {k : Nat} (hk : k < n) (hw : w k = F k) : (if f4 k = 0 then (-6 : Int32) else x_mn 9 (x_quo (w k) (r0 3))) = if x_tM T k = 0 then -6 else x_mn 9 (x_quo (F k) (T 3)) := by
  rw [(h.2.2 k hk).2.2.1, hw, hq 3 (by omega)]
end
