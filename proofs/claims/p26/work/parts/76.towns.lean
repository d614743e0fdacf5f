/-! Towns that change, on both sides. -/
section
variable {T T' : Nat → Int32} {n : Nat} {pr : Nat → Nat} {f1 f2 f3 f4 f5 g1 g2 g3 : Nat → Int32} {ps lo : Int32} {R : Nat → Nat → Int32}
theorem xSR.sameT (h : xSR T n f1 f2 f3 f4 f5) (hn : n ≤ 20) (hT : ∀ j, 33 ≤ j → j < 133 → T' j = T j) : xSR T' n f1 f2 f3 f4 f5 :=
  ⟨h.1, fun o a b => (h.2.1 o a b).trans (hT (33 + 5 * o + 0) (by omega) (by omega)).symm, fun o ho => ⟨(h.2.2 o ho).1.trans (hT (33 + 5 * o + 1) (by omega) (by omega)).symm, (h.2.2 o ho).2.1.trans (hT (33 + 5 * o + 2) (by omega) (by omega)).symm, (h.2.2 o ho).2.2.1.trans (hT (33 + 5 * o + 3) (by omega) (by omega)).symm, (h.2.2 o ho).2.2.2.trans (hT (33 + 5 * o + 4) (by omega) (by omega)).symm⟩⟩
theorem xHR.sameT (h : xHR T g1 g2 g3 ps lo) (hT : ∀ j, 6 ≤ j → j < 33 → T' j = T j) : xHR T' g1 g2 g3 ps lo :=
  ⟨fun j hj => (h.1 j hj).trans (hT (9 + 3 * j) (by omega) (by omega)).symm, fun j hj => (h.2.1 j hj).trans (hT (10 + 3 * j) (by omega) (by omega)).symm, fun j hj => (h.2.2.1 j hj).trans (hT (11 + 3 * j) (by omega) (by omega)).symm, h.2.2.2.1.trans (hT 6 (by omega) (by omega)).symm, h.2.2.2.2.trans (hT 7 (by omega) (by omega)).symm⟩
theorem xTn_wind (h : xTn n pr T R) (f : Int32) : xTn n pr (upd T 4 f) (x_tR (R 0) (R 1) (R 2) (R 3) (R 4) (R 5) (R 6) (R 7) (R 8) (R 9 0) (R 9 1) (R 9 2) f) := by
  obtain ⟨hok, h0, hs, hq, hf, hx⟩ := h
  exact ⟨x_ok_wind hok, h0, hs.sameT hok.1 (fun j h1 _ => pk_un (by omega)), fun i hi => (hq i hi).trans (pk_un (by omega)).symm, pk_us.symm, hx.sameT (fun j h1 _ => pk_un (by omega))⟩
theorem xTn_set (h : xTn n pr T R) {i : Nat} {v : Int32} (hi : i < 4) (hc : x_cs (nI i) v) : xTn n pr (upd T i v) (x_tR (upd (R 0) i v) (R 1) (R 2) (R 3) (R 4) (R 5) (R 6) (R 7) (R 8) (R 9 0) (R 9 1) (R 9 2) (R 9 3)) := by
  obtain ⟨hok, h0, hs, hq, hf, hx⟩ := h
  have hok2 := x_ok_set hok hc
  rw [nI_clamp (by omega)] at hok2
  refine ⟨hok2, h0, hs.sameT hok.1 (fun j h1 _ => pk_un (by omega)), fun j hj => ?_, hf.trans (pk_un (by omega)).symm, hx.sameT (fun j h1 _ => pk_un (by omega))⟩
  show upd (R 0) i v j = upd T i v j
  by_cases e : j = i
  · subst e; rw [pk_us, pk_us]
  · rw [pk_un e, pk_un e]; exact hq j hj
theorem xTn_ch0 (h : xTn n pr T R) {k : Nat} {v : Int32} (hk : k < n) (hc : x_cc 0 v) : xTn n pr (upd T (33 + 5 * k + 2) v) (x_tR (R 0) (R 1) (R 2) (upd (R 3) k v) (R 4) (R 5) (R 6) (R 7) (R 8) (R 9 0) (R 9 1) (R 9 2) (R 9 3)) := by
  obtain ⟨hok, h0, hs, hq, hf, hx⟩ := h
  have hok2 : x_ok (upd T (33 + 5 * k + 2) v) n pr := x_ok_change (w := 0) hok hk hc (by omega)
  have hn := hok.1
  refine ⟨hok2, h0, ⟨hs.1, fun o a b => (hs.2.1 o a b).trans (pk_un (f := T) (k := 33 + 5 * k + 2) (j := 33 + 5 * o + 0) (by omega)).symm, fun o ho => ⟨(hs.2.2 o ho).1.trans (pk_un (f := T) (k := 33 + 5 * k + 2) (j := 33 + 5 * o + 1) (by omega)).symm, (by
    by_cases e : o = k
    · subst e; show upd (R 3) o v o = upd T (33 + 5 * o + 2) v (33 + 5 * o + 2); rw [pk_us, pk_us]
    · show upd (R 3) k v o = upd T (33 + 5 * k + 2) v (33 + 5 * o + 2); rw [pk_un e, pk_un (by omega)]; exact (hs.2.2 o ho).2.1), (hs.2.2 o ho).2.2.1.trans (pk_un (f := T) (k := 33 + 5 * k + 2) (j := 33 + 5 * o + 3) (by omega)).symm, (hs.2.2 o ho).2.2.2.trans (pk_un (f := T) (k := 33 + 5 * k + 2) (j := 33 + 5 * o + 4) (by omega)).symm⟩⟩, fun j hj => (hq j hj).trans (pk_un (by omega)).symm, hf.trans (pk_un (by omega)).symm, hx.sameT (fun j h1 _ => pk_un (by omega))⟩
theorem xTn_ch1 (h : xTn n pr T R) {k : Nat} {v : Int32} (hk : k < n) (hc : x_cc 1 v) : xTn n pr (upd T (33 + 5 * k + 3) v) (x_tR (R 0) (R 1) (R 2) (R 3) (upd (R 4) k v) (R 5) (R 6) (R 7) (R 8) (R 9 0) (R 9 1) (R 9 2) (R 9 3)) := by
  obtain ⟨hok, h0, hs, hq, hf, hx⟩ := h
  have hok2 : x_ok (upd T (33 + 5 * k + 3) v) n pr := x_ok_change (w := 1) hok hk hc (by omega)
  have hn := hok.1
  refine ⟨hok2, h0, ⟨hs.1, fun o a b => (hs.2.1 o a b).trans (pk_un (f := T) (k := 33 + 5 * k + 3) (j := 33 + 5 * o + 0) (by omega)).symm, fun o ho => ⟨(hs.2.2 o ho).1.trans (pk_un (f := T) (k := 33 + 5 * k + 3) (j := 33 + 5 * o + 1) (by omega)).symm, (hs.2.2 o ho).2.1.trans (pk_un (f := T) (k := 33 + 5 * k + 3) (j := 33 + 5 * o + 2) (by omega)).symm, (by
    by_cases e : o = k
    · subst e; show upd (R 4) o v o = upd T (33 + 5 * o + 3) v (33 + 5 * o + 3); rw [pk_us, pk_us]
    · show upd (R 4) k v o = upd T (33 + 5 * k + 3) v (33 + 5 * o + 3); rw [pk_un e, pk_un (by omega)]; exact (hs.2.2 o ho).2.2.1), (hs.2.2 o ho).2.2.2.trans (pk_un (f := T) (k := 33 + 5 * k + 3) (j := 33 + 5 * o + 4) (by omega)).symm⟩⟩, fun j hj => (hq j hj).trans (pk_un (by omega)).symm, hf.trans (pk_un (by omega)).symm, hx.sameT (fun j h1 _ => pk_un (by omega))⟩
theorem xTn_ch2 (h : xTn n pr T R) {k : Nat} {v : Int32} (hk : k < n) (hc : x_cc 2 v) : xTn n pr (upd T (33 + 5 * k + 4) v) (x_tR (R 0) (R 1) (R 2) (R 3) (R 4) (upd (R 5) k v) (R 6) (R 7) (R 8) (R 9 0) (R 9 1) (R 9 2) (R 9 3)) := by
  obtain ⟨hok, h0, hs, hq, hf, hx⟩ := h
  have hok2 : x_ok (upd T (33 + 5 * k + 4) v) n pr := x_ok_change (w := 2) hok hk hc (by omega)
  have hn := hok.1
  refine ⟨hok2, h0, ⟨hs.1, fun o a b => (hs.2.1 o a b).trans (pk_un (f := T) (k := 33 + 5 * k + 4) (j := 33 + 5 * o + 0) (by omega)).symm, fun o ho => ⟨(hs.2.2 o ho).1.trans (pk_un (f := T) (k := 33 + 5 * k + 4) (j := 33 + 5 * o + 1) (by omega)).symm, (hs.2.2 o ho).2.1.trans (pk_un (f := T) (k := 33 + 5 * k + 4) (j := 33 + 5 * o + 2) (by omega)).symm, (hs.2.2 o ho).2.2.1.trans (pk_un (f := T) (k := 33 + 5 * k + 4) (j := 33 + 5 * o + 3) (by omega)).symm, (by
    by_cases e : o = k
    · subst e; show upd (R 5) o v o = upd T (33 + 5 * o + 4) v (33 + 5 * o + 4); rw [pk_us, pk_us]
    · show upd (R 5) k v o = upd T (33 + 5 * k + 4) v (33 + 5 * o + 4); rw [pk_un e, pk_un (by omega)]; exact (hs.2.2 o ho).2.2.2)⟩⟩, fun j hj => (hq j hj).trans (pk_un (by omega)).symm, hf.trans (pk_un (by omega)).symm, hx.sameT (fun j h1 _ => pk_un (by omega))⟩
theorem xTn_ch3 (h : xTn n pr T R) {k : Nat} {v : Int32} (hk : k < n) (hc : x_cc 3 v) : xTn n pr (upd T (33 + 5 * k + 1) v) (x_tR (R 0) (R 1) (upd (R 2) k v) (R 3) (R 4) (R 5) (R 6) (R 7) (R 8) (R 9 0) (R 9 1) (R 9 2) (R 9 3)) := by
  obtain ⟨hok, h0, hs, hq, hf, hx⟩ := h
  have hok2 : x_ok (upd T (33 + 5 * k + 1) v) n pr := x_ok_change (w := 3) hok hk hc (by omega)
  have hn := hok.1
  refine ⟨hok2, h0, ⟨hs.1, fun o a b => (hs.2.1 o a b).trans (pk_un (f := T) (k := 33 + 5 * k + 1) (j := 33 + 5 * o + 0) (by omega)).symm, fun o ho => ⟨(by
    by_cases e : o = k
    · subst e; show upd (R 2) o v o = upd T (33 + 5 * o + 1) v (33 + 5 * o + 1); rw [pk_us, pk_us]
    · show upd (R 2) k v o = upd T (33 + 5 * k + 1) v (33 + 5 * o + 1); rw [pk_un e, pk_un (by omega)]; exact (hs.2.2 o ho).1), (hs.2.2 o ho).2.1.trans (pk_un (f := T) (k := 33 + 5 * k + 1) (j := 33 + 5 * o + 2) (by omega)).symm, (hs.2.2 o ho).2.2.1.trans (pk_un (f := T) (k := 33 + 5 * k + 1) (j := 33 + 5 * o + 3) (by omega)).symm, (hs.2.2 o ho).2.2.2.trans (pk_un (f := T) (k := 33 + 5 * k + 1) (j := 33 + 5 * o + 4) (by omega)).symm⟩⟩, fun j hj => (hq j hj).trans (pk_un (by omega)).symm, hf.trans (pk_un (by omega)).symm, hx.sameT (fun j h1 _ => pk_un (by omega))⟩
theorem x_addS_old {st wi : Int32} {z : Nat} (h : z < 33 + 5 * n ∨ 33 + 5 * n + 5 ≤ z) (h5 : z ≠ 5) : x_addS T n st wi z = T z := by
  unfold x_addS
  rw [pk_un h5, pk_un (by omega), pk_un (by omega), pk_un (by omega), pk_un (by omega), pk_un (by omega)]
theorem x_addS_0 {st wi : Int32} : x_addS T n st wi (33 + 5 * n + 0) = st := by
  unfold x_addS
  rw [pk_un (by omega), pk_un (by omega), pk_un (by omega), pk_un (by omega), pk_un (by omega), pk_us]
theorem x_addS_1 {st wi : Int32} : x_addS T n st wi (33 + 5 * n + 1) = wi := by
  unfold x_addS
  rw [pk_un (by omega), pk_un (by omega), pk_un (by omega), pk_un (by omega), pk_us]
theorem x_addS_2 {st wi : Int32} : x_addS T n st wi (33 + 5 * n + 2) = 0 := by
  unfold x_addS
  rw [pk_un (by omega), pk_un (by omega), pk_un (by omega), pk_us]
theorem x_addS_3 {st wi : Int32} : x_addS T n st wi (33 + 5 * n + 3) = 0 := by
  unfold x_addS
  rw [pk_un (by omega), pk_un (by omega), pk_us]
theorem x_addS_4 {st wi : Int32} : x_addS T n st wi (33 + 5 * n + 4) = 0 := by
  unfold x_addS
  rw [pk_un (by omega), pk_us]
theorem xTn_street (h : xTn n pr T R) {k w : Nat} (hk : k < n) (hw : 1 ≤ w ∧ w ≤ 9) (h20 : n < 20) (h4 : x_ct (x_tF T) (nI k) n ≠ 4) : xTn (n + 1) (fun o => if o = n then k else pr o) (x_addS T n (nI k) (nI w)) (x_tR (R 0) (upd (R 1) n (nI k)) (upd (R 2) n (nI w)) (upd (R 3) n 0) (upd (R 4) n 0) (upd (R 5) n 0) (R 6) (R 7) (R 8) (nI (n + 1)) (R 9 1) (R 9 2) (R 9 3)) := by
  obtain ⟨hok, h0, hs, hq, hf, hx⟩ := h
  have hn1 := hok.2.1
  refine ⟨x_ok_street hok hk hw h20 h4, rfl, ⟨?_, fun o a b => ?_, fun o ho => ?_⟩, fun i hi => (hq i hi).trans (x_addS_old (by omega) (by omega)).symm, hf.trans (x_addS_old (by omega) (by omega)).symm, hx.sameT (fun j h1 _ => x_addS_old (by omega) (by omega))⟩
  · show upd (R 1) n (nI k) 0 = -6
    rw [pk_un (by omega)]; exact hs.1
  · show upd (R 1) n (nI k) o = x_addS T n (nI k) (nI w) (33 + 5 * o + 0)
    by_cases e : o = n
    · subst e; rw [pk_us, x_addS_0]
    · rw [pk_un e, x_addS_old (by omega) (by omega)]; exact hs.2.1 o a (by omega)
  · refine ⟨?_, ?_, ?_, ?_⟩
    · show upd (R 2) n (nI w) o = x_addS T n (nI k) (nI w) (33 + 5 * o + 1)
      by_cases e : o = n
      · subst e; rw [pk_us, x_addS_1]
      · rw [pk_un e, x_addS_old (by omega) (by omega)]; exact (hs.2.2 o (by omega)).1
    · show upd (R 3) n 0 o = x_addS T n (nI k) (nI w) (33 + 5 * o + 2)
      by_cases e : o = n
      · subst e; rw [pk_us, x_addS_2]
      · rw [pk_un e, x_addS_old (by omega) (by omega)]; exact (hs.2.2 o (by omega)).2.1
    · show upd (R 4) n 0 o = x_addS T n (nI k) (nI w) (33 + 5 * o + 3)
      by_cases e : o = n
      · subst e; rw [pk_us, x_addS_3]
      · rw [pk_un e, x_addS_old (by omega) (by omega)]; exact (hs.2.2 o (by omega)).2.2.1
    · show upd (R 5) n 0 o = x_addS T n (nI k) (nI w) (33 + 5 * o + 4)
      by_cases e : o = n
      · subst e; rw [pk_us, x_addS_4]
      · rw [pk_un e, x_addS_old (by omega) (by omega)]; exact (hs.2.2 o (by omega)).2.2.2
theorem xTn_pass (h : xTn n pr T R) {su wh : Int32} {i v : Nat} (h6 : T 6 = nI v) (hv : v + i ≤ 999) {j1 j2 j3 : Nat → Int32} {q2 l2 : Int32} (hx2 : xHR (x_hrs T su wh i) j1 j2 j3 q2 l2) : xTn n pr (x_hrs T su wh i) (x_tR (R 0) (R 1) (R 2) (R 3) (R 4) (R 5) j1 j2 j3 (R 9 0) q2 l2 (R 9 3)) := by
  obtain ⟨hok, h0, hs, hq, hf, hx⟩ := h
  exact ⟨x_hrs_ok hok h6 i hv, h0, hs.sameT hok.1 (fun j h1 _ => x_hrs_out (by omega) i), fun j hj => (hq j hj).trans (x_hrs_out (by omega) i).symm, hf.trans (x_hrs_out (by omega) i).symm, hx2⟩
theorem x_bld_in {to : Nat → Int32} {mn o i : Nat} (ho : o < mn) (hi : i < 5) : x_bld T to mn (33 + 5 * o + i) = to (5 * o + i) := by
  unfold x_bld
  rw [pk_un (by omega), x_pt_in (by omega) (by omega)]
  exact congrArg to (by omega)
theorem x_bld_out {to : Nat → Int32} {mn z : Nat} (h : z < 33) (h5 : z ≠ 5) : x_bld T to mn z = T z := by
  unfold x_bld
  rw [pk_un h5, x_pt_out (by omega)]
theorem xTn_build (h : xTn n pr T R) {mn la lc : Nat} {op pa : Int32} {to m1 m2 m3 m4 m5 : Nat → Int32} (hpk : x_pk mn la op to) (h1 : 1 ≤ mn) (hrd : xRd mn la op to lc pa m1 m2 m3 m4 m5) : xTn mn (fun o => (to (5 * o)).toNatClampNeg) (x_bld T to mn) (x_tR (R 0) (va_cpy m1 (R 1) 0 0 20) (va_cpy m2 (R 2) 0 0 20) (va_cpy m3 (R 3) 0 0 20) (va_cpy m4 (R 4) 0 0 20) (va_cpy m5 (R 5) 0 0 20) (R 6) (R 7) (R 8) (nI mn) (R 9 1) (R 9 2) (R 9 3)) := by
  obtain ⟨hok, h0, hs, hq, hf, hx⟩ := h
  have hm20 := hpk.1
  have hps := hpk.2.2.2.1
  refine ⟨x_ok_build hok hpk h1, rfl, ⟨?_, fun o a b => ?_, fun o ho => ?_⟩, fun i hi => (hq i hi).trans (x_bld_out (by omega) (by omega)).symm, hf.trans (x_bld_out (by omega) (by omega)).symm, hx.sameT (fun j h1 h2 => x_bld_out (by omega) (by omega))⟩
  · show va_cpy m1 (R 1) 0 0 20 0 = -6
    rw [x_cpy_in (by omega), (hrd.2.2 0 (by omega)).1]
    show x_np (to 0) = -6
    rw [(hps 0 (by omega)).1 rfl]
    rfl
  · show va_cpy m1 (R 1) 0 0 20 o = x_bld T to mn (33 + 5 * o + 0)
    obtain ⟨z, hz, e⟩ := (hps o b).2.1 a
    rw [x_cpy_in (by omega), (hrd.2.2 o b).1, x_bld_in b (by omega), Nat.add_zero, e, x_npI (by omega)]
  · obtain ⟨-, e2, e3, e4, e5⟩ := hrd.2.2 o ho
    refine ⟨?_, ?_, ?_, ?_⟩
    · show va_cpy m2 (R 2) 0 0 20 o = x_bld T to mn (33 + 5 * o + 1)
      rw [x_cpy_in (by omega), e2, x_bld_in ho (by omega)]
    · show va_cpy m3 (R 3) 0 0 20 o = x_bld T to mn (33 + 5 * o + 2)
      rw [x_cpy_in (by omega), e3, x_bld_in ho (by omega)]
    · show va_cpy m4 (R 4) 0 0 20 o = x_bld T to mn (33 + 5 * o + 3)
      rw [x_cpy_in (by omega), e4, x_bld_in ho (by omega)]
    · show va_cpy m5 (R 5) 0 0 20 o = x_bld T to mn (33 + 5 * o + 4)
      rw [x_cpy_in (by omega), e5, x_bld_in ho (by omega)]
theorem x_cs_Z {i : Nat} {v : Int32} (hi : i < 4) : (xZv 1 i ≤ v ∧ v ≤ xZv 2 i) ↔ x_cs (nI i) v := by
  have e : ∀ a b : Nat, a < 4 → b < 4 → (nI a = nI b ↔ a = b) := fun a b ha hb => nI_eq (by omega) (by omega)
  rcases (show i = 0 ∨ i = 1 ∨ i = 2 ∨ i = 3 by omega) with rfl | rfl | rfl | rfl
  · exact ⟨fun h => Or.inl ⟨rfl, h⟩, fun h => by
      rcases h with ⟨-, h⟩ | ⟨h, -⟩ | ⟨h, -⟩ | ⟨h, -⟩
      · exact h
      · exact absurd h (by decide)
      · exact absurd h (by decide)
      · exact absurd h (by decide)⟩
  · exact ⟨fun h => Or.inr (Or.inl ⟨rfl, h⟩), fun h => by
      rcases h with ⟨h, -⟩ | ⟨-, h⟩ | ⟨h, -⟩ | ⟨h, -⟩
      · exact absurd h (by decide)
      · exact h
      · exact absurd h (by decide)
      · exact absurd h (by decide)⟩
  · exact ⟨fun h => Or.inr (Or.inr (Or.inl ⟨rfl, h⟩)), fun h => by
      rcases h with ⟨h, -⟩ | ⟨h, -⟩ | ⟨-, h⟩ | ⟨h, -⟩
      · exact absurd h (by decide)
      · exact absurd h (by decide)
      · exact h
      · exact absurd h (by decide)⟩
  · exact ⟨fun h => Or.inr (Or.inr (Or.inr ⟨rfl, h⟩)), fun h => by
      rcases h with ⟨h, -⟩ | ⟨h, -⟩ | ⟨h, -⟩ | ⟨-, h⟩
      · exact absurd h (by decide)
      · exact absurd h (by decide)
      · exact absurd h (by decide)
      · exact h⟩
theorem x_cc_Z {i : Nat} {v : Int32} (hi : i < 4) : (xZv 3 i ≤ v ∧ v ≤ xZv 4 i) ↔ x_cc (nI i) v := by
  rcases (show i = 0 ∨ i = 1 ∨ i = 2 ∨ i = 3 by omega) with rfl | rfl | rfl | rfl
  · exact ⟨fun h => Or.inl ⟨rfl, h⟩, fun h => by
      rcases h with ⟨-, h⟩ | ⟨h, -⟩ | ⟨h, -⟩ | ⟨h, -⟩
      · exact h
      · exact absurd h (by decide)
      · exact absurd h (by decide)
      · exact absurd h (by decide)⟩
  · exact ⟨fun h => Or.inr (Or.inl ⟨rfl, h⟩), fun h => by
      rcases h with ⟨h, -⟩ | ⟨-, h⟩ | ⟨h, -⟩ | ⟨h, -⟩
      · exact absurd h (by decide)
      · exact h
      · exact absurd h (by decide)
      · exact absurd h (by decide)⟩
  · exact ⟨fun h => Or.inr (Or.inr (Or.inl ⟨rfl, h⟩)), fun h => by
      rcases h with ⟨h, -⟩ | ⟨h, -⟩ | ⟨-, h⟩ | ⟨h, -⟩
      · exact absurd h (by decide)
      · exact absurd h (by decide)
      · exact h
      · exact absurd h (by decide)⟩
  · exact ⟨fun h => Or.inr (Or.inr (Or.inr ⟨rfl, h⟩)), fun h => by
      rcases h with ⟨h, -⟩ | ⟨h, -⟩ | ⟨h, -⟩ | ⟨-, h⟩
      · exact absurd h (by decide)
      · exact absurd h (by decide)
      · exact absurd h (by decide)
      · exact h⟩
end
