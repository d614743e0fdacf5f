/-! The start of the law: the tables' words, the rows that nobody writes. -/
theorem lw_tb (i : Nat) {w : Cond} (h : tables_1[i]? = some w) : w ∈ lw_tbl := List.mem_append_right _ (List.mem_of_getElem? h)
theorem xNs_tbl : ∀ w ∈ xNs, w ∈ lw_tbl := by
  unfold xNs
  simp only [List.forall_mem_cons]
  exact ⟨lw_tb 131 (by decide +kernel), lw_tb 168 (by decide +kernel), lw_tb 191 (by decide +kernel), lw_tb 403 (by decide +kernel), lw_tb 274 (by decide +kernel), lw_tb 196 (by decide +kernel), lw_tb 295 (by decide +kernel), lw_tb 269 (by decide +kernel), lw_tb 338 (by decide +kernel), lw_tb 37 (by decide +kernel), lw_tb 80 (by decide +kernel), lw_tb 256 (by decide +kernel), lw_tb 26 (by decide +kernel), lw_tb 33 (by decide +kernel), fun _ h => absurd h List.not_mem_nil⟩
theorem x_arr {s : State} {A : Array Value} {ty : FieldType} (h : (Cond.arrayClass ty).before A s = true) : ∃ cA, ArrOfT s cA ty ∧ s.vm.findClass ("[" ++ ty.toString) = some cA := by
  obtain ⟨c, k, comp, h1, h2, h3⟩ := Cond.arrayClass_spec h
  exact ⟨c, fun n z => ⟨(fun _ h => by cases h), k, h2, comp, h3⟩, h1⟩
theorem x_arrO {s : State} {A : Array Value} {C : String} (h : (Cond.arrayOver (.object C)).before A s = true) : ∃ cA, ArrOfT s cA (.object C) ∧ va_RA s cA (.object C) := by
  obtain ⟨comp, c, k, h1, -, h2, h3, h4⟩ := Cond.arrayOver_spec h
  exact ⟨c, fun n z => ⟨(fun _ h => by cases h), k, h2, comp, h3⟩, k, comp, h2, h3, h1, h4⟩
theorem x_len4 {args : Array Value} {s : State} {t : Term} {a : Nat} {cell : Cell} (ht : t.eval args s none [] s = some (.ref a)) (hc : s.heap[a]? = some cell) (h : (Term.length t).eval args s none [] s = some (.int 4)) : cell.slots.size = 4 := by
  obtain ⟨a2, cell2, h1, h2, h3⟩ := Term.length_spec h
  cases ht.symm.trans h1
  have e := (State.arrayAt?_spec h2).1
  obtain rfl : cell = cell2 := Option.some.inj (hc.symm.trans e)
  have hlt : cell.slots.size < 2147483648 := by
    apply Decidable.byContradiction
    intro hn
    simp only [Term.eval, Option.bind_eq_bind] at h
    rw [ht] at h
    simp only [Option.bind_some, h2, if_neg hn] at h
    cases h
  have h4 : nI 4 = nI cell.slots.size := Value.int.inj h3
  exact ((nI_eq (by omega) hlt).mp h4).symm
theorem x_stat {s : State} {b : Nat} (hts : ∀ w ∈ lw_tbl, w.before #[Value.ref b] s = true) (hgv : (Jvm.Cond.and given_1 narrow_1).before #[Value.ref b] s = true) (nm : String) (v : Nat → Int32) (hl : Cond.laysStatic RX7 nm "[I" ∈ lw_tbl) (h1 : Cond.arrayOf (.static RX7 nm "[I") .int ∈ flatC (Jvm.Cond.and given_1 narrow_1)) (h2 : Cond.eq (.length (.static RX7 nm "[I")) (.int 4) ∈ flatC (Jvm.Cond.and given_1 narrow_1)) (h3 : ∀ j : Nat, j < 4 → Cond.eq (.elem (.static RX7 nm "[I") (.int (Int32.ofNat j))) (.int (v j)) ∈ flatC (Jvm.Cond.and given_1 narrow_1)) (h4 : Cond.exactly (.static RX7 nm "[I") "[I" ∈ flatC (Jvm.Cond.and given_1 narrow_1)) : ∃ t : Nat, va_Z RX7 nm "[I" (.ref t) (fun r : Nat => s.heap.size ≤ r) s s.heap ∧ va_T .int t 4 (fun j => .int (v j)) (fun r : Nat => s.heap.size ≤ r) s s.heap ∧ xZe t s s.heap := by
  have hs := flat_of_before _ hgv
  have hA : ∀ a : Nat, a < s.heap.size → ¬ s.heap.size ≤ a := fun a h => Nat.not_le.mpr h
  have hini : (Cond.initialized RX7).before #[Value.ref b] s = true := hts _ (wsL_law_in _ (by decide +kernel))
  obtain ⟨t, ht, hT⟩ := va_Tof (N := 4) (f := fun j => .int (v j)) (A := fun r : Nat => s.heap.size ≤ r) (by decide) (hs _ h1) (va_eqt (hs _ h2)) (fun j hj => va_eqt (hs _ (h3 j hj))) hA
  refine ⟨t, va_Zref (hts _ hl) hini ht hA, hT, ?_⟩
  obtain ⟨a, c, cell, k, g1, g2, g3, -, -, g6, -⟩ := Cond.exactly_spec (hs _ h4)
  cases ht.symm.trans g1
  exact ⟨cell, g3, x_len4 ht g3 (va_eqt (hs _ h2)), by rw [g6]; exact g2⟩
theorem x_stat0 {s : State} {b : Nat} (hts : ∀ w ∈ lw_tbl, w.before #[Value.ref b] s = true) (hgv : (Jvm.Cond.and given_1 narrow_1).before #[Value.ref b] s = true) : ∃ t : Nat, va_Z RX7 (xZn 0) "[I" (.ref t) (fun r : Nat => s.heap.size ≤ r) s s.heap ∧ va_T .int t 4 (fun j => .int (xZv 0 j)) (fun r : Nat => s.heap.size ≤ r) s s.heap ∧ xZe t s s.heap :=
  x_stat hts hgv "FIRST_SETTINGS" (xZv 0) (lw_tb 27 (by decide +kernel)) (by decide +kernel) (by decide +kernel) (fun j hj => by
    rcases (show j = 0 ∨ j = 1 ∨ j = 2 ∨ j = 3 by omega) with rfl | rfl | rfl | rfl
    · decide +kernel
    · decide +kernel
    · decide +kernel
    · decide +kernel) (by decide +kernel)
theorem x_stat1 {s : State} {b : Nat} (hts : ∀ w ∈ lw_tbl, w.before #[Value.ref b] s = true) (hgv : (Jvm.Cond.and given_1 narrow_1).before #[Value.ref b] s = true) : ∃ t : Nat, va_Z RX7 (xZn 1) "[I" (.ref t) (fun r : Nat => s.heap.size ≤ r) s s.heap ∧ va_T .int t 4 (fun j => .int (xZv 1 j)) (fun r : Nat => s.heap.size ≤ r) s s.heap ∧ xZe t s s.heap :=
  x_stat hts hgv "LEAST_SETTINGS" (xZv 1) (lw_tb 242 (by decide +kernel)) (by decide +kernel) (by decide +kernel) (fun j hj => by
    rcases (show j = 0 ∨ j = 1 ∨ j = 2 ∨ j = 3 by omega) with rfl | rfl | rfl | rfl
    · decide +kernel
    · decide +kernel
    · decide +kernel
    · decide +kernel) (by decide +kernel)
theorem x_stat2 {s : State} {b : Nat} (hts : ∀ w ∈ lw_tbl, w.before #[Value.ref b] s = true) (hgv : (Jvm.Cond.and given_1 narrow_1).before #[Value.ref b] s = true) : ∃ t : Nat, va_Z RX7 (xZn 2) "[I" (.ref t) (fun r : Nat => s.heap.size ≤ r) s s.heap ∧ va_T .int t 4 (fun j => .int (xZv 2 j)) (fun r : Nat => s.heap.size ≤ r) s s.heap ∧ xZe t s s.heap :=
  x_stat hts hgv "MOST_SETTINGS" (xZv 2) (lw_tb 244 (by decide +kernel)) (by decide +kernel) (by decide +kernel) (fun j hj => by
    rcases (show j = 0 ∨ j = 1 ∨ j = 2 ∨ j = 3 by omega) with rfl | rfl | rfl | rfl
    · decide +kernel
    · decide +kernel
    · decide +kernel
    · decide +kernel) (by decide +kernel)
theorem x_stat3 {s : State} {b : Nat} (hts : ∀ w ∈ lw_tbl, w.before #[Value.ref b] s = true) (hgv : (Jvm.Cond.and given_1 narrow_1).before #[Value.ref b] s = true) : ∃ t : Nat, va_Z RX7 (xZn 3) "[I" (.ref t) (fun r : Nat => s.heap.size ≤ r) s s.heap ∧ va_T .int t 4 (fun j => .int (xZv 3 j)) (fun r : Nat => s.heap.size ≤ r) s s.heap ∧ xZe t s s.heap :=
  x_stat hts hgv "LEAST_OF_STREET" (xZv 3) (lw_tb 368 (by decide +kernel)) (by decide +kernel) (by decide +kernel) (fun j hj => by
    rcases (show j = 0 ∨ j = 1 ∨ j = 2 ∨ j = 3 by omega) with rfl | rfl | rfl | rfl
    · decide +kernel
    · decide +kernel
    · decide +kernel
    · decide +kernel) (by decide +kernel)
theorem x_stat4 {s : State} {b : Nat} (hts : ∀ w ∈ lw_tbl, w.before #[Value.ref b] s = true) (hgv : (Jvm.Cond.and given_1 narrow_1).before #[Value.ref b] s = true) : ∃ t : Nat, va_Z RX7 (xZn 4) "[I" (.ref t) (fun r : Nat => s.heap.size ≤ r) s s.heap ∧ va_T .int t 4 (fun j => .int (xZv 4 j)) (fun r : Nat => s.heap.size ≤ r) s s.heap ∧ xZe t s s.heap :=
  x_stat hts hgv "MOST_OF_STREET" (xZv 4) (lw_tb 370 (by decide +kernel)) (by decide +kernel) (by decide +kernel) (fun j hj => by
    rcases (show j = 0 ∨ j = 1 ∨ j = 2 ∨ j = 3 by omega) with rfl | rfl | rfl | rfl
    · decide +kernel
    · decide +kernel
    · decide +kernel
    · decide +kernel) (by decide +kernel)
theorem x_Z0 {s : State} {b : Nat} (hts : ∀ w ∈ lw_tbl, w.before #[Value.ref b] s = true) (hgv : (Jvm.Cond.and given_1 narrow_1).before #[Value.ref b] s = true) : xZ (fun r : Nat => s.heap.size ≤ r) s s.heap := by
  obtain ⟨t0, h0⟩ := x_stat0 hts hgv
  obtain ⟨t1, h1⟩ := x_stat1 hts hgv
  obtain ⟨t2, h2⟩ := x_stat2 hts hgv
  obtain ⟨t3, h3⟩ := x_stat3 hts hgv
  obtain ⟨t4, h4⟩ := x_stat4 hts hgv
  have hO : (Cond.arrayOver (.object "HatWinds$Town")).before #[Value.ref b] s = true := hts _ (lw_tb 153 (by decide +kernel))
  refine ⟨va_AO.of hO, fun i => match i with | 0 => t0 | 1 => t1 | 2 => t2 | 3 => t3 | _ => t4, fun i hi => ?_⟩
  rcases (show i = 0 ∨ i = 1 ∨ i = 2 ∨ i = 3 ∨ i = 4 by omega) with rfl | rfl | rfl | rfl | rfl
  · exact h0
  · exact h1
  · exact h2
  · exact h3
  · exact h4
theorem x_K0 {s : State} {b : Nat} (hts : ∀ w ∈ lw_tbl, w.before #[Value.ref b] s = true) : ∃ (D : va_G) (q : xQ), va_K D vwCl (xTy q) s := by
  obtain ⟨c0, i0, k0⟩ := u_known (C := RX0) (T := TX0) (N := 3) (n := 3) hts inX0 (hts _ (wsL_law_in (.instantiable RX0 3) (by decide +kernel)))
  obtain ⟨c1, i1, k1⟩ := u_known (C := RX1) (T := TX1) (N := 3) (n := 3) hts inX1 (hts _ (wsL_law_in (.instantiable RX1 3) (by decide +kernel)))
  obtain ⟨c2, i2, k2⟩ := u_known (C := RX2) (T := TX2) (N := 5) (n := 5) hts inX2 (hts _ (wsL_law_in (.instantiable RX2 5) (by decide +kernel)))
  obtain ⟨c3, i3, k3⟩ := u_known (C := RX3) (T := TX3) (N := 3) (n := 3) hts inX3 (hts _ (wsL_law_in (.instantiable RX3 3) (by decide +kernel)))
  obtain ⟨c4, i4, k4⟩ := u_known (C := RX4) (T := TX4) (N := 3) (n := 3) hts inX4 (hts _ (wsL_law_in (.instantiable RX4 3) (by decide +kernel)))
  obtain ⟨c5, i5, k5⟩ := u_known (C := RX5) (T := TX5) (N := 6) (n := 6) hts inX5 (hts _ (wsL_law_in (.instantiable RX5 6) (by decide +kernel)))
  obtain ⟨c6, i6, k6⟩ := u_known (C := RX6) (T := TX6) (N := 4) (n := 4) hts inX6 (hts _ (wsL_law_in (.instantiable RX6 4) (by decide +kernel)))
  obtain ⟨c7, i7, k7⟩ := u_known (C := RX7) (T := TX7) (N := 8) (n := 8) hts inX7 (hts _ (wsL_law_in (.instantiable RX7 8) (by decide +kernel)))
  obtain ⟨q0, a0, b0⟩ := x_arr (hts _ (wsL_law_in (.arrayClass .int) (by decide +kernel)))
  obtain ⟨q1, a1, b1⟩ := x_arr (hts _ (wsL_law_in (.arrayClass .char) (by decide +kernel)))
  obtain ⟨q2, a2, b2⟩ := x_arr (hts _ (wsL_law_in (.arrayClass .boolean) (by decide +kernel)))
  obtain ⟨q3, a3, b3⟩ := x_arrO (hts _ (lw_tb (w := .arrayOver (.object "HatWinds$Town")) 153 (by decide +kernel)))
  refine ⟨(fun k => match k with | 0 => c0 | 1 => c1 | 2 => c2 | 3 => c3 | 4 => c4 | 5 => c5 | 6 => c6 | _ => c7, fun k => match k with | 0 => i0 | 1 => i1 | 2 => i2 | 3 => i3 | 4 => i4 | 5 => i5 | 6 => i6 | _ => i7), fun k => match k with | 0 => q0 | 1 => q1 | 2 => q2 | _ => q3, fun k w hw => ?_, fun k w hw => ?_⟩
  · match k, hw with
    | 0, hw => cases hw; exact k0
    | 1, hw => cases hw; exact k1
    | 2, hw => cases hw; exact k2
    | 3, hw => cases hw; exact k3
    | 4, hw => cases hw; exact k4
    | 5, hw => cases hw; exact k5
    | 6, hw => cases hw; exact k6
    | 7, hw => cases hw; exact k7
    | k + 8, hw => simp at hw
  · match k, hw with
    | 0, hw => cases hw; exact ⟨a0, b0⟩
    | 1, hw => cases hw; exact ⟨a1, b1⟩
    | 2, hw => cases hw; exact ⟨a2, b2⟩
    | 3, hw => cases hw; exact ⟨a3, b3⟩
    | k + 4, hw => simp at hw
/-- at the first: the two say the same -/
def x_I0 : Nat → Int32 := fun i => match i with | 7 => -6 | _ => 0
theorem x_rel0 : xRel 1 (fun _ => 0) x_T0 (fun _ => x_T0) (fun _ => x_T0) (fun _ _ => 0) x_I0 x_s0 (fun _ => 0) (fun _ => 0) (fun _ => 0) (fun _ => 0) 0 0 := by
  have e9 : ∀ j, j < 8 → (0 : Int32) = x_s0 (9 + 3 * j) := by decide
  have e10 : ∀ j, j < 8 → (0 : Int32) = x_s0 (10 + 3 * j) := by decide
  have e11 : ∀ j, j < 8 → (0 : Int32) = x_s0 (11 + 3 * j) := by decide
  have hok : x_ok x_s0 1 (fun _ => 0) := by
    refine ⟨by omega, by omega, rfl, rfl, fun o h1 h2 => by omega, fun o h => ?_, fun o h => ?_, fun o h => ?_, fun o h => ?_, ⟨8, by omega, by omega, rfl⟩, ⟨12, by omega, by omega, rfl⟩, ⟨0, by omega, rfl, rfl⟩, fun k hk => ?_⟩
    · obtain rfl : o = 0 := by omega
      exact ⟨1, by omega, by omega, rfl⟩
    · obtain rfl : o = 0 := by omega
      exact ⟨0, by omega, rfl⟩
    · obtain rfl : o = 0 := by omega
      exact ⟨0, by omega, rfl⟩
    · obtain rfl : o = 0 := by omega
      exact ⟨0, by omega, rfl⟩
    · obtain rfl : k = 0 := by omega
      have := x_ct_le (x_tF x_s0) (nI 0) 1
      omega
  refine ⟨⟨hok, rfl, ⟨rfl, fun o h1 h2 => by omega, fun o h => ?_⟩, fun i hi => ?_, rfl, e9, e10, e11, rfl, rfl⟩, ⟨0, rfl, rfl, by omega, by omega, fun i hi => by omega⟩, fun i _ => ⟨rfl, fun h => absurd rfl h⟩, ⟨rfl, by omega, rfl, fun j _ => rfl, fun j hj => by omega⟩, fun j _ => rfl⟩
  · obtain rfl : o = 0 := by omega
    exact ⟨rfl, rfl, rfl, rfl⟩
  · rcases (show i = 0 ∨ i = 1 ∨ i = 2 ∨ i = 3 by omega) with rfl | rfl | rfl | rfl <;> rfl
