/-! Reading what was written. -/
def x_rl : List Nat → xPS → Option xPS
  | [], z => some z
  | c :: l, z => match x_step c z.1 z.2.1 z.2.2.1 z.2.2.2 with
    | none => none
    | some y => x_rl l y
theorem x_rl_app : ∀ (a b : List Nat) (z y : xPS), x_rl a z = some y → x_rl (a ++ b) z = x_rl b y
  | [], b, z, y, h => by
    obtain rfl := Option.some.inj h
    rfl
  | c :: l, b, z, y, h => by
    rw [List.cons_append, x_rl]
    rw [x_rl] at h
    cases e : x_step c z.1 z.2.1 z.2.2.1 z.2.2.2 with
    | none => rw [e] at h; cases h
    | some w =>
      rw [e] at h
      exact x_rl_app l b w y h
theorem x_rl_1 {c mn la : Nat} {op : Int32} {to : Nat → Int32} {l : List Nat} {y : xPS} (h : x_step c mn la op to = some y) : x_rl (c :: l) (mn, la, op, to) = x_rl l y := by
  rw [x_rl]
  dsimp only
  rw [h]
theorem x_rl_run {S : List Nat} {pd : Nat → Nat} {t0 : Nat → Int32} (h : ∀ j, j < S.length → pd j = S.getD j 0) {y : xPS} (hy : x_rl S (0, 0, -1, t0) = some y) : x_run pd t0 S.length = some y := by
  have key : ∀ (a b : List Nat) (z : xPS), a ++ b = S → x_run pd t0 a.length = some z → x_rl b z = some y → x_run pd t0 S.length = some y := by
    intro a b
    induction b generalizing a with
    | nil =>
      intro z e h1 h2
      rw [List.append_nil] at e
      subst e
      rw [h1]
      exact h2
    | cons c l ih =>
      intro z e h1 h2
      rw [x_rl] at h2
      cases e1 : x_step c z.1 z.2.1 z.2.2.1 z.2.2.2 with
      | none => rw [e1] at h2; cases h2
      | some w =>
        rw [e1] at h2
        refine ih (a ++ [c]) w (by rw [List.append_assoc]; exact e) ?_ h2
        rw [List.length_append, List.length_singleton, x_run_s (mn := z.1) (la := z.2.1) (op := z.2.2.1) (to := z.2.2.2) h1, h a.length (by rw [← e, List.length_append, List.length_cons]; omega), ← e]
        have e2 := x_gd2 (S := a) (T := c :: l) (j := 0)
        rw [Nat.add_zero] at e2
        rw [e2]
        exact e1
  exact key [] S (0, 0, -1, t0) rfl rfl hy
/-- a street's own text is read -/
theorem x_rl_ws {w c s p mn : Nat} {op : Int32} {to : Nat → Int32} (hw : 1 ≤ w ∧ w ≤ 9) (hc : c ≤ 5) (hs : s ≤ 1) (hp : p ≤ 99) (hmn : mn < 20) (hroom : op < 0 ∨ x_cn to op mn ≠ 4) :
    ∃ la to2, x_rl (x_wsf w c s p) (mn, 0, op, to) = some (mn + 1, la, op, to2) ∧ (la = 1 ∨ la = 2 ∨ la = 3 ∨ la = 5 ∨ la = 6) ∧ (∀ j, j < 5 * mn → to2 j = to j) ∧ to2 (5 * mn) = op ∧ to2 (5 * mn + 1) = nI w ∧ to2 (5 * mn + 2) = nI c ∧ to2 (5 * mn + 3) = nI s ∧ to2 (5 * mn + 4) = nI p := by
  have st1 : x_step (48 + w) mn 0 op to = some (mn + 1, 1, op, x_new to mn op (nI w)) := by
    unfold x_step
    rw [if_pos rfl, if_pos ⟨⟨by omega, by omega⟩, hmn, hroom⟩, show 48 + w - 48 = w by omega]
  generalize hT1 : x_new to mn op (nI w) = t1 at st1
  have a0 : ∀ j, j < 5 * mn → t1 j = to j := fun j hj => by
    rw [← hT1]; unfold x_new
    rw [pk_un (by omega), pk_un (by omega), pk_un (by omega), pk_un (by omega), pk_un (by omega)]
  have a1 : t1 (5 * mn) = op := by
    rw [← hT1]; unfold x_new
    rw [pk_un (by omega), pk_un (by omega), pk_un (by omega), pk_un (by omega), Nat.add_zero, pk_us]
  have a2 : t1 (5 * mn + 1) = nI w := by
    rw [← hT1]; unfold x_new
    rw [pk_un (by omega), pk_un (by omega), pk_un (by omega), pk_us]
  have a3 : t1 (5 * mn + 2) = 0 := by
    rw [← hT1]; unfold x_new
    rw [pk_un (by omega), pk_un (by omega), pk_us]
  have a4 : t1 (5 * mn + 3) = 0 := by
    rw [← hT1]; unfold x_new
    rw [pk_un (by omega), pk_us]
  have a5 : t1 (5 * mn + 4) = 0 := by
    rw [← hT1]; unfold x_new
    rw [pk_us]
  have hb : 5 * (mn + 1) - 5 = 5 * mn := by omega
  -- the flag
  have F2 : ∃ la t2, x_rl (if 0 < c then [97 + c - 1] else []) (mn + 1, 1, op, t1) = some (mn + 1, la, op, t2) ∧ (la = 1 ∨ la = 2) ∧ (∀ j, j ≠ 5 * mn + 2 → t2 j = t1 j) ∧ t2 (5 * mn + 2) = nI c := by
    by_cases q : 0 < c
    · refine ⟨2, upd t1 (5 * mn + 2) (nI c), ?_, Or.inr rfl, fun j hj => pk_un hj, pk_us⟩
      rw [if_pos q, x_rl_1 (y := (mn + 1, 2, op, upd t1 (5 * mn + 2) (nI c)))]
      · rfl
      · unfold x_step
        rw [if_neg (by omega), if_pos ⟨by omega, rfl⟩, hb, show 97 + c - 1 - 97 + 1 = c by omega]
    · obtain rfl : c = 0 := by omega
      exact ⟨1, t1, by rw [if_neg q]; rfl, Or.inl rfl, fun j _ => rfl, a3⟩
  obtain ⟨la2, t2, r2, l2, b1, b2⟩ := F2
  -- smoke
  have F3 : ∃ la t3, x_rl (if s = 1 then [33] else []) (mn + 1, la2, op, t2) = some (mn + 1, la, op, t3) ∧ (la = 1 ∨ la = 2 ∨ la = 3) ∧ (∀ j, j ≠ 5 * mn + 3 → t3 j = t2 j) ∧ t3 (5 * mn + 3) = nI s := by
    by_cases q : s = 1
    · refine ⟨3, upd t2 (5 * mn + 3) 1, ?_, Or.inr (Or.inr rfl), fun j hj => pk_un hj, by rw [pk_us, q]; rfl⟩
      rw [if_pos q, x_rl_1 (y := (mn + 1, 3, op, upd t2 (5 * mn + 3) 1))]
      · rfl
      · unfold x_step
        rw [if_neg (by omega), if_neg (by omega), if_pos ⟨rfl, l2⟩, hb]
    · obtain rfl : s = 0 := by omega
      exact ⟨la2, t2, by rw [if_neg q]; rfl, by omega, fun j _ => rfl, by rw [b1 _ (by omega)]; exact a4⟩
  obtain ⟨la3, t3, r3, l3, d1, d2⟩ := F3
  have e5 : t3 (5 * mn + 4) = 0 := by rw [d1 _ (by omega), b1 _ (by omega)]; exact a5
  -- people
  have F4 : ∃ la t4, x_rl ((if 0 < p then [42] else []) ++ ((if 9 < p then [48 + p / 10] else []) ++ if 0 < p then [48 + p % 10] else [])) (mn + 1, la3, op, t3) = some (mn + 1, la, op, t4) ∧ (la = 1 ∨ la = 2 ∨ la = 3 ∨ la = 5 ∨ la = 6) ∧ (∀ j, j ≠ 5 * mn + 4 → t4 j = t3 j) ∧ t4 (5 * mn + 4) = nI p := by
    by_cases q : 0 < p
    · have s4 : x_step 42 (mn + 1) la3 op t3 = some (mn + 1, 4, op, t3) := by
        unfold x_step
        rw [if_neg (by omega), if_neg (by omega), if_neg (by omega), if_pos ⟨rfl, by omega, by omega⟩]
      have dig : ∀ d, d ≤ 9 → x_step (48 + d) (mn + 1) 4 op t3 = some (mn + 1, if 48 + d = 48 then 6 else 5, op, upd t3 (5 * mn + 4) (nI d)) := fun d hd => by
        unfold x_step
        rw [if_neg (by omega), if_neg (by omega), if_neg (by omega), if_neg (by omega), if_neg (by omega), if_neg (by omega), if_neg (by omega), if_pos ⟨by omega, Or.inl rfl⟩, hb, e5]
        have ev : (10 : Int32) * 0 + nI (48 + d - 48) = nI d := by
          rw [show (0 : Int32) = nI 0 from rfl, show (10 : Int32) = nI 10 from rfl, pk_mul, nI_add]
          exact congrArg nI (by omega)
        rw [ev]
        by_cases z : 48 + d = 48
        · rw [if_pos z, if_pos (Or.inr z)]
        · rw [if_neg z, if_neg (by omega)]
      rw [if_pos q, if_pos q]
      by_cases q9 : 9 < p
      · refine ⟨6, upd (upd t3 (5 * mn + 4) (nI (p / 10))) (5 * mn + 4) (nI p), ?_, by omega, fun j hj => by rw [pk_un hj, pk_un hj], pk_us⟩
        rw [if_pos q9]
        show x_rl (42 :: (48 + p / 10) :: [48 + p % 10]) _ = _
        have h1 := dig (p / 10) (by omega)
        rw [if_neg (by omega)] at h1
        rw [x_rl_1 s4, x_rl_1 h1, x_rl_1 (y := (mn + 1, 6, op, upd (upd t3 (5 * mn + 4) (nI (p / 10))) (5 * mn + 4) (nI p)))]
        · rfl
        · unfold x_step
          rw [if_neg (by omega), if_neg (by omega), if_neg (by omega), if_neg (by omega), if_neg (by omega), if_neg (by omega), if_neg (by omega), if_pos ⟨by omega, Or.inr rfl⟩, hb, if_pos (Or.inl rfl), pk_us]
          have ev : (10 : Int32) * nI (p / 10) + nI (48 + p % 10 - 48) = nI p := by
            rw [show (10 : Int32) = nI 10 from rfl, pk_mul, nI_add]
            exact congrArg nI (by omega)
          rw [ev]
      · refine ⟨5, upd t3 (5 * mn + 4) (nI p), ?_, by omega, fun j hj => pk_un hj, pk_us⟩
        rw [if_neg q9]
        show x_rl (42 :: [48 + p % 10]) _ = _
        have h1 := dig (p % 10) (by omega)
        rw [if_neg (by omega), show p % 10 = p by omega] at h1
        rw [show p % 10 = p by omega, x_rl_1 s4, x_rl_1 h1]
        rfl
    · obtain rfl : p = 0 := by omega
      exact ⟨la3, t3, by rw [if_neg q, if_neg (by omega), if_neg q]; rfl, by omega, fun j _ => rfl, e5⟩
  obtain ⟨la4, t4, r4, l4, f1, f2⟩ := F4
  refine ⟨la4, t4, ?_, l4, fun j hj => ?_, ?_, ?_, ?_, ?_, f2⟩
  · unfold x_wsf
    rw [x_rl_1 st1, x_rl_app _ _ _ _ r2, x_rl_app _ _ _ _ r3]
    exact r4
  · rw [f1 _ (by omega), d1 _ (by omega), b1 _ (by omega), a0 j hj]
  · rw [f1 _ (by omega), d1 _ (by omega), b1 _ (by omega), a1]
  · rw [f1 _ (by omega), d1 _ (by omega), b1 _ (by omega), a2]
  · rw [f1 _ (by omega), d1 _ (by omega), b2]
  · rw [f1 _ (by omega), d2]
/-- the row that stands at the place of a street -/
def x_par (T : Nat → Int32) (fi : Nat → Nat) (o : Nat) : Int32 := if o = 0 then -1 else nI (fi (tR T o))
def x_ri (T : Nat → Int32) (e fi : Nat → Nat) (m : Nat) (to : Nat → Int32) : Prop := ∀ i, i < m → to (5 * i) = x_par T fi (e i) ∧ to (5 * i + 1) = x_tW T (e i) ∧ to (5 * i + 2) = x_tC T (e i) ∧ to (5 * i + 3) = x_tM T (e i) ∧ to (5 * i + 4) = x_tP T (e i)
/-- the branches of k -/
def x_bk (T : Nat → Int32) (k o : Nat) : Nat := if x_tF T o = nI k then 1 else 0
theorem x_ct_kn (T : Nat → Int32) (k : Nat) : ∀ n, x_ct (x_tF T) (nI k) n = x_kn (x_bk T k) n
  | 0 => rfl
  | n + 1 => by rw [x_ct, x_kn, x_ct_kn T k n]; rfl
section
variable {T : Nat → Int32} {e fi : Nat → Nat}
theorem x_par_k (hok : x_ok T (tN T) (tR T)) (hq : xq_ord (tN T) e fi) {o k : Nat} (ho : o < tN T) (hk : k < tN T) : x_par T fi o = nI (fi k) ↔ x_tF T o = nI k := by
  have hn := hok.1
  have hfk := hq.2.1 k hk
  unfold x_par
  rcases Nat.eq_zero_or_pos o with rfl | h1
  · have e0 : x_tF T 0 = -1 := hok.2.2.2.1
    rw [if_pos rfl, e0]
    exact ⟨fun z => absurd z (x_m1 _ (by omega)), fun z => absurd z (x_m1 _ (by omega))⟩
  · obtain ⟨e1, h2⟩ := hok.2.2.2.2.1 o h1 ho
    have e1 : x_tF T o = nI (tR T o) := e1
    have hfr := hq.2.1 (tR T o) (by omega)
    rw [if_neg (by omega), e1, nI_eq (by omega) (by omega), nI_eq (by omega) (by omega)]
    constructor
    · intro z
      rw [← hfr.2, z, hfk.2]
    · intro z
      rw [z]
theorem x_cn_kn (hok : x_ok T (tN T) (tR T)) (hq : xq_ord (tN T) e fi) {to : Nat → Int32} {k m : Nat} (hk : k < tN T) (hr : x_ri T e fi m to) (hm : m ≤ tN T) : ∀ j, j ≤ m → x_cn to (nI (fi k)) j = x_kn (fun i => x_bk T k (e i)) j
  | 0, _ => rfl
  | j + 1, h => by
    rw [x_cn, x_kn, x_cn_kn hok hq hk hr hm j (by omega), (hr j (by omega)).1]
    congr 1
    unfold x_bk
    have h2 := x_par_k hok hq (hq.1 j (by omega)).1 hk
    by_cases c : x_tF T (e j) = nI k
    · rw [if_pos c, if_pos (h2.mpr c)]
    · rw [if_neg c, if_neg (fun z => c (h2.mp z))]
/-- room for one more branch -/
theorem x_cn_room (hok : x_ok T (tN T) (tR T)) (hq : xq_ord (tN T) e fi) {to : Nat → Int32} {k m : Nat} (hk : k < tN T) (hr : x_ri T e fi m to) (hm : m < tN T) (hb : x_tF T (e m) = nI k) : x_cn to (nI (fi k)) m ≠ 4 := by
  have h1 := x_cn_kn hok hq hk hr (by omega) m (Nat.le_refl m)
  have h2 : x_kn (fun i => x_bk T k (e i)) (m + 1) ≤ x_kn (fun i => x_bk T k (e i)) (tN T) := x_kn_mono (by omega)
  rw [hq.2.2.2 (x_bk T k), ← x_ct_kn] at h2
  have h3 := hok.2.2.2.2.2.2.2.2.2.2.2.2 k hk
  rw [x_kn, ← h1] at h2
  have h4 : x_bk T k (e m) = 1 := if_pos hb
  omega
theorem x_rows_w (hok : x_ok T (tN T) (tR T)) {o : Nat} (ho : o < tN T) : ∃ w c s p, (1 ≤ w ∧ w ≤ 9) ∧ c ≤ 5 ∧ s ≤ 1 ∧ p ≤ 99 ∧ x_tW T o = nI w ∧ x_tC T o = nI c ∧ x_tM T o = nI s ∧ x_tP T o = nI p ∧ x_wT T o = x_wsf w c s p := by
  obtain ⟨-, -, -, -, -, hwd, hcl, hsm, hpe, -⟩ := hok
  obtain ⟨w, w1, w2, w3⟩ := hwd o ho
  obtain ⟨c, c1, c2⟩ := hcl o ho
  obtain ⟨s, s1, s2⟩ := hsm o ho
  obtain ⟨p, p1, p2⟩ := hpe o ho
  have w3 : x_tW T o = nI w := w3
  have c2 : x_tC T o = nI c := c2
  have s2 : x_tM T o = nI s := s2
  have p2 : x_tP T o = nI p := p2
  refine ⟨w, c, s, p, ⟨w1, w2⟩, c1, s1, p1, w3, c2, s2, p2, ?_⟩
  show x_wsf (x_tW T o).toNatClampNeg (x_tC T o).toNatClampNeg (x_tM T o).toNatClampNeg (x_tP T o).toNatClampNeg = _
  rw [w3, c2, s2, p2, nI_clamp (by omega), nI_clamp (by omega), nI_clamp (by omega), nI_clamp (by omega)]
/-- a street is read -/
theorem x_rl_st (hok : x_ok T (tN T) (tR T)) (hq : xq_ord (tN T) e fi) {m : Nat} {op : Int32} {to : Nat → Int32} (hm : m < tN T) (hr : x_ri T e fi m to) (hop : op = x_par T fi (e m)) (hroom : op < 0 ∨ x_cn to op m ≠ 4) : ∃ la to2, x_rl (x_wT T (e m)) (m, 0, op, to) = some (m + 1, la, op, to2) ∧ (la = 1 ∨ la = 2 ∨ la = 3 ∨ la = 5 ∨ la = 6) ∧ x_ri T e fi (m + 1) to2 := by
  have hn := hok.1
  obtain ⟨w, c, s, p, hw, hc, hs, hp, w3, c2, s2, p2, ew⟩ := x_rows_w hok (hq.1 m hm).1
  obtain ⟨la, to2, r1, r2, r3, r4, r5, r6, r7, r8⟩ := x_rl_ws (to := to) (op := op) hw hc hs hp (show m < 20 by omega) hroom
  rw [ew]
  refine ⟨la, to2, r1, r2, fun i hi => ?_⟩
  by_cases q : i = m
  · subst q
    rw [w3, c2, s2, p2]
    exact ⟨r4.trans hop, r5, r6, r7, r8⟩
  · have h := hr i (by omega)
    rw [r3 _ (by omega), r3 _ (by omega), r3 _ (by omega), r3 _ (by omega), r3 _ (by omega)]
    exact h
/-- all that is behind the branch j of k is read -/
theorem x_rl_tl (hok : x_ok T (tN T) (tR T)) (hq : xq_ord (tN T) e fi) {ord : List Nat} (he : ∀ i, e i = ord.getD i 0) (hlen : ord.length = tN T) : ∀ (f k j m la : Nat) (op : Int32) (to : Nat → Int32) (rest : List Nat), k ≤ j → j < tN T → tN T - j ≤ f → ord.drop m = xd_l (tR T) (tN T) f k j ++ rest → x_ri T e fi m to → m ≤ tN T → fi k < m → (la = 1 ∨ la = 2 ∨ la = 3 ∨ la = 5 ∨ la = 6 ∨ la = 7) → (j = k → la ≠ 7 ∧ fi k = m - 1 ∧ op = x_par T fi k) → (j ≠ k → op = nI (fi k)) →
    ∃ m2 la2 to2, x_rl (x_tl (x_wT T) (tR T) (tN T) f k j) (m, la, op, to) = some (m2, la2, x_par T fi k, to2) ∧ ord.drop m2 = rest ∧ x_ri T e fi m2 to2 ∧ m2 ≤ tN T ∧ m ≤ m2 ∧ (la2 = 1 ∨ la2 = 2 ∨ la2 = 3 ∨ la2 = 5 ∨ la2 = 6 ∨ la2 = 7)
  | 0, k, j, m, la, op, to, rest, hkj, hj, hf, _, _, _, _, _, _, _ => by omega
  | f + 1, k, j, m, la, op, to, rest, hkj, hj, hf, hd, hr, hm, hfk, hla, h1, h2 => by
    have hn := hok.1
    obtain ⟨⟨b1, b2⟩, b3, b4⟩ := x_nb_ok (tR T) (n := tN T) (k := k) hj
    rw [xd_l] at hd
    rw [x_tl]
    generalize x_nb (tR T) (tN T) k j = b at b1 b2 b3 b4 hd
    have hfm : fi k < 2 ^ 31 := by omega
    by_cases c : b < tN T
    · have hb := b3 c
      rw [if_pos c] at hd ⊢
      have hml : m < tN T := by
        apply Decidable.byContradiction
        intro q
        have : ord.drop m = [] := List.drop_eq_nil_of_le (by omega)
        rw [this] at hd
        cases hd
      have hem : e m = b := by
        have h3 : (ord.drop m)[0]? = some b := by rw [hd]; rfl
        rw [List.getElem?_drop, Nat.add_zero] at h3
        rw [he m, List.getD_eq_getElem?_getD, h3]
        rfl
      have hd2 : ord.drop (m + 1) = xd_l (tR T) (tN T) f b b ++ (xd_l (tR T) (tN T) f k b ++ rest) := by
        have h3 : (ord.drop m).drop 1 = ord.drop (m + 1) := List.drop_drop
        rw [← h3, hd, ← List.append_assoc]
        rfl
      have hpb : x_par T fi b = nI (fi k) := by
        unfold x_par
        rw [if_neg (by omega), hb]
      have hFb : x_tF T b = nI k := by
        rw [← hb]
        exact (hok.2.2.2.2.1 b (by omega) c).1
      have s1 : x_step (if j = k then 40 else 44) m la op to = some (m, 0, nI (fi k), to) := by
        by_cases z : j = k
        · obtain ⟨z1, z2, z3⟩ := h1 z
          rw [if_pos z]
          unfold x_step
          rw [if_neg (by omega), if_neg (by omega), if_neg (by omega), if_neg (by omega), if_pos rfl, if_neg (by omega), z2]
        · rw [if_neg z, h2 z]
          unfold x_step
          rw [if_neg (by omega), if_neg (by omega), if_neg (by omega), if_neg (by omega), if_neg (by omega), if_pos rfl, if_neg (fun q => q.elim (by omega) (nI_pos hfm))]
      obtain ⟨la3, t3, r1, r2, r3⟩ := x_rl_st hok hq (op := nI (fi k)) hml hr (by rw [hem, hpb]) (Or.inr (x_cn_room hok hq (by omega) hr hml (by rw [hem]; exact hFb)))
      rw [hem] at r1
      have hfb : fi b = m := by rw [← hem]; exact (hq.1 m hml).2
      obtain ⟨m4, la4, t4, q1, q2, q3, q4, q5, q6⟩ := x_rl_tl hok hq he hlen f b b (m + 1) la3 (nI (fi k)) t3 _ (Nat.le_refl b) c (by omega) hd2 r3 (by omega) (by omega) (by omega) (fun _ => ⟨by omega, by omega, hpb.symm⟩) (fun z => absurd rfl z)
      rw [hpb] at q1
      obtain ⟨m5, la5, t5, p1, p2, p3, p4, p5, p6⟩ := x_rl_tl hok hq he hlen f k b m4 la4 (nI (fi k)) t4 rest (by omega) c (by omega) q2 q3 q4 (by omega) q6 (fun z => absurd z (by omega)) (fun _ => rfl)
      refine ⟨m5, la5, t5, ?_, p2, p3, p4, by omega, p6⟩
      rw [x_rl_1 s1, x_rl_app _ _ _ _ r1, x_rl_app _ _ _ _ q1]
      exact p1
    · rw [if_neg c] at hd ⊢
      have hd : ord.drop m = rest := hd
      by_cases z : j = k
      · obtain ⟨z1, z2, z3⟩ := h1 z
        rw [if_pos z, z3]
        exact ⟨m, la, to, rfl, hd, hr, hm, Nat.le_refl m, hla⟩
      · rw [if_neg z, h2 z]
        have hk : k < tN T := by omega
        have hrow := (hr (fi k) hfk).1
        rw [(hq.2.1 k hk).2] at hrow
        have s1 : x_step 41 m la (nI (fi k)) to = some (m, 7, x_par T fi k, to) := by
          unfold x_step
          rw [if_neg (by omega), if_neg (by omega), if_neg (by omega), if_neg (by omega), if_neg (by omega), if_neg (by omega), if_pos rfl, if_neg (fun q => q.elim (by omega) (nI_pos hfm)), nI_clamp hfm, Nat.add_zero, hrow]
        refine ⟨m, 7, to, ?_, hd, hr, hm, Nat.le_refl m, by omega⟩
        rw [x_rl_1 s1]
        rfl
/-- the whole text is read -/
theorem x_rl_tx (hok : x_ok T (tN T) (tR T)) (t0 : Nat → Int32) : ∃ la to2, x_rl (x_tx T (tR T) (tN T)) (0, 0, -1, t0) = some (tN T, la, -1, to2) ∧ la ≠ 0 ∧ la ≠ 4 ∧ x_ri T (fun i => (xd_o (tR T) (tN T)).getD i 0) (fun o => (xd_o (tR T) (tN T)).idxOf o) (tN T) to2 := by
  have hn := hok.1
  have hn1 := hok.2.1
  have hp := xv_hp hok
  have hperm := xd_perm hp hn1
  have hq := xq_of hperm
  have hlen : (xd_o (tR T) (tN T)).length = tN T := by rw [hperm.length_eq, List.length_range]
  have he0 : (xd_o (tR T) (tN T)).getD 0 0 = 0 := rfl
  have hf0 : (xd_o (tR T) (tN T)).idxOf 0 = 0 := by
    have := (hq.1 0 (by omega)).2
    try dsimp only at this
    rw [he0] at this
    exact this
  obtain ⟨la3, t3, r1, r2, r3⟩ := x_rl_st hok hq (m := 0) (op := -1) (to := t0) (by omega) (fun i hi => absurd hi (Nat.not_lt_zero i)) (by (try dsimp only); rw [he0]; rfl) (Or.inl (by decide))
  try dsimp only at r1
  rw [he0] at r1
  obtain ⟨m2, la2, t2, q1, q2, q3, q4, q5, q6⟩ := x_rl_tl hok hq (ord := xd_o (tR T) (tN T)) (fun _ => rfl) hlen (tN T) 0 0 1 la3 (-1) t3 [] (Nat.le_refl 0) (by omega) (by omega) (by rw [List.append_nil]; rfl) r3 (by omega) (by (try dsimp only); rw [hf0]; exact Nat.zero_lt_one) (by omega) (fun _ => ⟨by omega, hf0, rfl⟩) (fun z => absurd rfl z)
  have hm2 : m2 = tN T := by
    have h : ((xd_o (tR T) (tN T)).drop m2).length = 0 := by rw [q2]; rfl
    rw [List.length_drop, hlen] at h
    omega
  subst hm2
  refine ⟨la2, t2, ?_, by omega, by omega, q3⟩
  unfold x_tx x_tt
  rw [x_rl_app _ _ _ _ r1]
  exact q1
end
