/-! The relation of the class's cells and the reference's. -/
def xTn (n : Nat) (pr : Nat → Nat) (T : Nat → Int32) (R : Nat → Nat → Int32) : Prop :=
  x_ok T n pr ∧ R 9 0 = nI n ∧ xSR T n (R 1) (R 2) (R 3) (R 4) (R 5) ∧ (∀ i, i < 4 → R 0 i = T i) ∧ R 9 3 = T 4 ∧ xHR T (R 6) (R 7) (R 8) (R 9 1) (R 9 2)
def xTR (T : Nat → Int32) (R : Nat → Nat → Int32) : Prop := ∃ n pr, xTn n pr T R
/-- the same rows, as far as they go -/
def xRA (R Z : Nat → Nat → Int32) : Prop :=
  (∀ i, i < 4 → R 0 i = Z 0 i) ∧ (∀ k, 1 ≤ k → k ≤ 5 → ∀ o, o < 20 → R k o = Z k o) ∧ (∀ k, 6 ≤ k → k ≤ 8 → ∀ j, j < 8 → R k j = Z k j) ∧ ∀ i, i < 4 → R 9 i = Z 9 i
theorem xRA.rf (R : Nat → Nat → Int32) : xRA R R := ⟨fun _ _ => rfl, fun _ _ _ _ _ => rfl, fun _ _ _ _ _ => rfl, fun _ _ => rfl⟩
theorem xTn.same {n : Nat} {pr : Nat → Nat} {T T' : Nat → Int32} {R Z : Nat → Nat → Int32} (h : xTn n pr T Z) (hT : ∀ j, j < 133 → T' j = T j) (hR : xRA R Z) : xTn n pr T' R := by
  obtain ⟨hok, h0, hs, hq, hf, h1, h2, h3, h4, h5⟩ := h
  have hn := hok.1
  refine ⟨x_ok_cong (fun j hj _ => hT j hj) hok, (hR.2.2.2 0 (by omega)).trans h0, ⟨?_, fun o o1 o2 => ?_, fun o ho => ?_⟩, fun i hi => ?_, ?_, fun j hj => ?_, fun j hj => ?_, fun j hj => ?_, ?_, ?_⟩
  · rw [hR.2.1 1 (by omega) (by omega) 0 (by omega)]; exact hs.1
  · rw [hR.2.1 1 (by omega) (by omega) o (by omega), hs.2.1 o o1 o2]
    exact (hT (33 + 5 * o + 0) (by omega)).symm
  · obtain ⟨e2, e3, e4, e5⟩ := hs.2.2 o ho
    refine ⟨?_, ?_, ?_, ?_⟩
    · rw [hR.2.1 2 (by omega) (by omega) o (by omega), e2]
      exact (hT (33 + 5 * o + 1) (by omega)).symm
    · rw [hR.2.1 3 (by omega) (by omega) o (by omega), e3]
      exact (hT (33 + 5 * o + 2) (by omega)).symm
    · rw [hR.2.1 4 (by omega) (by omega) o (by omega), e4]
      exact (hT (33 + 5 * o + 3) (by omega)).symm
    · rw [hR.2.1 5 (by omega) (by omega) o (by omega), e5]
      exact (hT (33 + 5 * o + 4) (by omega)).symm
  · rw [hR.1 i hi, hq i hi]; exact (hT i (by omega)).symm
  · rw [hR.2.2.2 3 (by omega), hf]; exact (hT 4 (by omega)).symm
  · rw [hR.2.2.1 6 (by omega) (by omega) j hj, h1 j hj]; exact (hT _ (by omega)).symm
  · rw [hR.2.2.1 7 (by omega) (by omega) j hj, h2 j hj]; exact (hT _ (by omega)).symm
  · rw [hR.2.2.1 8 (by omega) (by omega) j hj, h3 j hj]; exact (hT _ (by omega)).symm
  · rw [hR.2.2.2 1 (by omega), h4]; exact (hT 6 (by omega)).symm
  · rw [hR.2.2.2 2 (by omega), h5]; exact (hT 7 (by omega)).symm
theorem xTR.same {T T' : Nat → Int32} {R Z : Nat → Nat → Int32} (h : xTR T Z) (hT : ∀ j, j < 133 → T' j = T j) (hR : xRA R Z) : xTR T' R := by
  obtain ⟨n, pr, h⟩ := h
  exact ⟨n, pr, h.same hT hR⟩
theorem x_cpy_in {f g : Nat → Int32} {n j : Nat} (h : j < n) : va_cpy f g 0 0 n j = f j := by
  show (if 0 ≤ j ∧ j < 0 + n then f (0 + (j - 0)) else g j) = f j
  rw [if_pos ⟨Nat.zero_le j, by omega⟩, Nat.sub_zero, Nat.zero_add]
/-- a copy of a town -/
def xCp (Z W : Nat → Nat → Int32) : Nat → Nat → Int32 :=
  x_tR (va_cpy (Z 0) (W 0) 0 0 4) (va_cpy (Z 1) (W 1) 0 0 20) (va_cpy (Z 2) (W 2) 0 0 20) (va_cpy (Z 3) (W 3) 0 0 20) (va_cpy (Z 4) (W 4) 0 0 20) (va_cpy (Z 5) (W 5) 0 0 20) (va_cpy (Z 6) (W 6) 0 0 8) (va_cpy (Z 7) (W 7) 0 0 8) (va_cpy (Z 8) (W 8) 0 0 8) (Z 9 0) (Z 9 1) (Z 9 2) (Z 9 3)
theorem xCp_A (Z W : Nat → Nat → Int32) : xRA (xCp Z W) Z := by
  refine ⟨fun i hi => x_cpy_in hi, fun k h1 h2 o ho => ?_, fun k h1 h2 j hj => ?_, fun i hi => ?_⟩
  · rcases (show k = 1 ∨ k = 2 ∨ k = 3 ∨ k = 4 ∨ k = 5 by omega) with rfl | rfl | rfl | rfl | rfl <;> exact x_cpy_in ho
  · rcases (show k = 6 ∨ k = 7 ∨ k = 8 by omega) with rfl | rfl | rfl <;> exact x_cpy_in hj
  · rcases (show i = 0 ∨ i = 1 ∨ i = 2 ∨ i = 3 by omega) with rfl | rfl | rfl | rfl <;> rfl
/-- the kept towns: kn of them, the oldest at o -/
def xHi (kn : Nat) (p : Nat → Int32) (o : Nat) (Q : Nat → Nat → Nat → Int32) : Prop := kn ≤ 6 ∧ o < 6 ∧ ∀ i, i < kn → xTR (fun j => p (133 * i + j)) (Q ((o + i) % 6))
def x_uq (Q : Nat → Nat → Nat → Int32) (z : Nat) (Z : Nat → Nat → Int32) : Nat → Nat → Nat → Int32 := fun i => if i = z then Z else Q i
theorem x_uq_s {Q : Nat → Nat → Nat → Int32} {z : Nat} {Z : Nat → Nat → Int32} : x_uq Q z Z z = Z := if_pos rfl
theorem x_uq_n {Q : Nat → Nat → Nat → Int32} {z i : Nat} {Z : Nat → Nat → Int32} (h : i ≠ z) : x_uq Q z Z i = Q i := if_neg h
theorem xHi.push {kn o kn2 : Nat} {p p2 T : Nat → Int32} {Q : Nat → Nat → Nat → Int32} {R Z : Nat → Nat → Int32} (h : xHi kn p o Q) (hT : xTR T R) (hZ : xRA Z R) (hp : x_push kn p T p2 kn2) : xHi kn2 p2 (if kn = 6 then (o + 1) % 6 else o) (x_uq Q ((o + kn) % 6) Z) := by
  obtain ⟨h1, h2, h3⟩ := h
  obtain ⟨p1, p3⟩ := hp
  refine ⟨by omega, by split <;> omega, fun i hi => ?_⟩
  by_cases e : i + 1 = kn2
  · have ez : ((if kn = 6 then (o + 1) % 6 else o) + i) % 6 = (o + kn) % 6 := by split <;> omega
    rw [ez, x_uq_s]
    exact hT.same (fun j hj => by rw [p3 i j hi hj, if_pos e]) hZ
  · have ez : ((if kn = 6 then (o + 1) % 6 else o) + i) % 6 = (o + (i + if kn = 6 then 1 else 0)) % 6 := by split <;> omega
    have hi2 : (i + if kn = 6 then 1 else 0) < kn := by split <;> omega
    have hne : (o + (i + if kn = 6 then 1 else 0)) % 6 ≠ (o + kn) % 6 := by
      by_cases q : kn = 6
      · rw [if_pos q]; omega
      · rw [if_neg q]; omega
    rw [ez, x_uq_n hne]
    exact (h3 _ hi2).same (fun j hj => by rw [p3 i j hi hj, if_neg e]) (xRA.rf _)
theorem xHi.pop {kn o : Nat} {p : Nat → Int32} {Q : Nat → Nat → Nat → Int32} (h : xHi kn p o Q) : xHi (kn - 1) p o Q := ⟨by have := h.1; omega, h.2.1, fun i hi => h.2.2 i (by omega)⟩
/-- the pad -/
def xPR (cs : Nat → Int32) (ov : Int32) (pd : Nat → Int32) (ln : Nat) : Prop := ln ≤ 80 ∧ ov = 0 ∧ (∀ j, j < 80 → fits .char (.int (cs j)) = true) ∧ ∀ j, j < ln → cs j = pd j
/-- all -/
def xRel (n : Nat) (pr : Nat → Nat) (R : Nat → Nat → Int32) (Q V : Nat → Nat → Nat → Int32) (E : Nat → Nat → Int32) (I : Nat → Int32) (s p sl sv pd : Nat → Int32) (kn ln : Nat) : Prop :=
  xTn n pr s R ∧ (∃ o, I 0 = nI o ∧ I 1 = nI kn ∧ xHi kn p o Q) ∧ (∀ i, i < 2 → E 3 i = sv i ∧ (¬ sv i = 0 → xTR (fun j => sl (133 * i + j)) (V i))) ∧ (I 2 = nI ln ∧ xPR (E 4) (I 3) pd ln) ∧ ∀ j, j < 80 → fits .char (.int (E 5 j)) = true
theorem xRel.kn6 {n : Nat} {pr : Nat → Nat} {R : Nat → Nat → Int32} {Q V : Nat → Nat → Nat → Int32} {E : Nat → Nat → Int32} {I : Nat → Int32} {s p sl sv pd : Nat → Int32} {kn ln : Nat} (h : xRel n pr R Q V E I s p sl sv pd kn ln) : kn ≤ 6 := by
  obtain ⟨o, -, -, h⟩ := h.2.1
  exact h.1
theorem xRel.ln80 {n : Nat} {pr : Nat → Nat} {R : Nat → Nat → Int32} {Q V : Nat → Nat → Nat → Int32} {E : Nat → Nat → Int32} {I : Nat → Int32} {s p sl sv pd : Nat → Int32} {kn ln : Nat} (h : xRel n pr R Q V E I s p sl sv pd kn ln) : ln ≤ 80 := by
  exact h.2.2.2.1.2.1
/-- a change that is done: the town before it is kept -/
theorem xRel.push {n n2 : Nat} {pr pr2 : Nat → Nat} {R R2 Z : Nat → Nat → Int32} {Q V : Nat → Nat → Nat → Int32} {E E2 : Nat → Nat → Int32} {I I2 : Nat → Int32} {s s2 p p2 sl sv pd pd2 : Nat → Int32} {kn ln kn2 ln2 o ol2 : Nat} (h : xRel n pr R Q V E I s p sl sv pd kn ln) (hR : xTn n2 pr2 s2 R2) (hp : x_push kn p s p2 kn2) (ho : I 0 = nI o) (ho6 : o < 6) (hol : ol2 = if kn = 6 then (o + 1) % 6 else o) (hz : xRA Z R) (h0 : I2 0 = nI ol2) (h1 : I2 1 = nI kn2) (hE : E2 3 = E 3) (hS : I2 2 = nI ln2 ∧ xPR (E2 4) (I2 3) pd2 ln2) (hE5 : E2 5 = E 5) : xRel n2 pr2 R2 (x_uq Q ((o + kn) % 6) Z) V E2 I2 s2 p2 sl sv pd2 kn2 ln2 := by
  obtain ⟨hT, ⟨o', e0, e1, hH⟩, hV, hP, hD⟩ := h
  obtain rfl : o' = o := (nI_eq (by have := hH.2.1; omega) (by omega)).mp (e0.symm.trans ho)
  refine ⟨hR, ⟨ol2, h0, h1, ?_⟩, fun i hi => by rw [hE]; exact hV i hi, hS, fun j hj => by rw [hE5]; exact hD j hj⟩
  rw [hol]
  exact hH.push ⟨n, pr, hT⟩ hz hp
