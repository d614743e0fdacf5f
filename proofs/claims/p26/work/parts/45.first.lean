/-! The rows that nobody writes: read, and one of them taken as a new one. -/
section XG
variable {p : Program} {l : Launch} {e : Env} {R : Room} {s : State} {m : MethodId} {args : Array Value} {below : List Frame} {meth : Method} {c : Code} {H : Heap} {locs : List Loc} {cells slots : Nat} {Q : State → Prop}
variable {cc : ByteArray} {nL : Nat} {pc : Nat} {ls : Array Slot} {rest : List Value} {D : va_G} {q : xQ} {A : Nat → Prop} {gs gs' : List va_W} {Ts : List Cond} {own : String}
abbrev xTt (i t : Nat) (A : Nat → Prop) (s : State) : Prop := va_T .int t 4 (fun j => .int (xZv i j)) A s s.heap ∧ xZe t s s.heap
theorem x_gets (F : xF p m c cc nL s args Ts own D q) (X : xS D A s gs H locs) (i : Nat) (hi : i < 5) {index : Nat} (hl : Cond.fieldLink own index RX7 (xZn i) "[I" ∈ Ts) (hdg : decode cc pc = .ok (.getstatic index, 3)) (kk : ∀ t, xTt i t A s → W p l e R s m args below meth c H locs cells slots Q (F0 m (pc + 3) ls (.ref t :: rest))) : W p l e R s m args below meth c H locs cells slots Q (F0 m pc ls rest) := by
  obtain ⟨-, t, hz⟩ := X.2.2.2.2
  obtain ⟨z1, z2, z3⟩ := hz i hi
  exact va_gets F.1.1 F.1.2.1 z1 X.2.2.1 F.1.2.2.2.1 (F.1.2.2.2.2 _ hl) (fun _ h => h) hdg (kk (t i) ⟨z2, z3⟩)
theorem x_getsN (F : xF p m c cc nL s args Ts own D q) (X : xS D A s gs H locs) (i : Nat) (hi : i < 5) {index : Nat} {host : String} (hl : Cond.fieldLinkNest own index RX7 (xZn i) "[I" host ∈ xNs) (hdg : decode cc pc = .ok (.getstatic index, 3)) (kk : ∀ t, xTt i t A s → W p l e R s m args below meth c H locs cells slots Q (F0 m (pc + 3) ls (.ref t :: rest))) : W p l e R s m args below meth c H locs cells slots Q (F0 m pc ls rest) := by
  obtain ⟨-, t, hz⟩ := X.2.2.2.2
  obtain ⟨z1, z2, z3⟩ := hz i hi
  exact va_getsN F.1.1 F.1.2.1 z1 X.2.2.1 F.1.2.2.2.1 (F.2.2.use hl) (fun _ h => h) hdg (kk (t i) ⟨z2, z3⟩)
theorem x_tld (F : xF p m c cc nL s args Ts own D q) (X : xS D A s gs H locs) {i t : Nat} (hT : xTt i t A s) {j v : Int32} (hin : vp_in j 4) (hv : xZv i j.toNatClampNeg = v) (hdg : decode cc pc = .ok (.iaload, 1)) (kk : W p l e R s m args below meth c H locs cells slots Q (F0 m (pc + 1) ls (.int v :: rest))) : W p l e R s m args below meth c H locs cells slots Q (F0 m pc ls (.int j :: .ref t :: rest)) :=
  va_ti F.1.1 F.1.2.1 hT.1 X.2.2.1 hin (congrArg Value.int hv) hdg kk
theorem x_tlen (F : xF p m c cc nL s args Ts own D q) (X : xS D A s gs H locs) {i t : Nat} (hT : xTt i t A s) (hdg : decode cc pc = .ok (.arraylength, 1)) (kk : W p l e R s m args below meth c H locs cells slots Q (F0 m (pc + 1) ls (.int 4 :: rest))) : W p l e R s m args below meth c H locs cells slots Q (F0 m pc ls (.ref t :: rest)) :=
  va_tlen F.1.1 F.1.2.1 hT.1 X.2.2.1 rfl hdg kk
theorem x_cln (F : xF p m c cc nL s args Ts own D q) (X : xS D A s gs H locs) (hls : ls.size = nL) {i t index : Nat} (hT : xTt i t A s) (h1 : Cond.methodLink own index ⟨"[I", "clone", "()Ljava/lang/Object;"⟩ ∈ Ts) (h2 : Cond.sameMethod "[I" "java/lang/Object" "clone" "()Ljava/lang/Object;" ∈ Ts) (h3 : Cond.native ⟨"java/lang/Object", "clone", "()Ljava/lang/Object;"⟩ ∈ Ts) (h4 : Cond.instanceMethod ⟨"java/lang/Object", "clone", "()Ljava/lang/Object;"⟩ ∈ Ts) (h5 : Cond.selects "[I" ⟨"[I", "clone", "()Ljava/lang/Object;"⟩ ⟨"java/lang/Object", "clone", "()Ljava/lang/Object;"⟩ ∈ Ts) (h6 : Cond.castable "[I" "java/lang/Cloneable" ∈ xNs)
    (hframes : 1 ≤ R.frames) (hlocals : (rest.map fun v => v.category).sum + 14 ≤ R.locals) (hcells : cells + 1 ≤ R.cells) (hslots : slots + 4 ≤ R.slots) (hdg : decode cc pc = .ok (.invokevirtual index, 3)) (kk : ∀ (a : Nat) (H1 : Heap), xS D A s (gs ++ [[(a, .inl (q 0, 4, .inl (xZv i)))]]) H1 locs → W p l e R s m args below meth c H1 locs (cells + 1) (slots + 4) Q (F0 m (pc + 3) ls (.ref a :: rest))) : W p l e R s m args below meth c H locs cells slots Q (F0 m pc ls (.ref t :: rest)) := by
  obtain ⟨⟨hx, hb, hml, hown, hts⟩, hK, hN⟩ := F
  obtain ⟨⟨cell, e1, e2, e3, e4, e5, e6, e7⟩, cell', g1, g2, g3⟩ := hT
  obtain rfl : cell' = cell := Option.some.inj (g1.symm.trans e1)
  have hH : H[t]? = some cell' := by rw [X.2.2.1.2.1 t (Array.getElem?_eq_some_iff.mp e1).1 e7]; exact e1
  obtain ⟨c0, t0', f1, f2, f3⟩ := Cond.castable_spec (va_Nw.use (A := args) rfl (hN _ h6))
  obtain rfl : c0 = cell'.cls := Option.some.inj (f1.symm.trans g3)
  have hq : cell'.cls = q 0 := Option.some.inj (g3.symm.trans (va_nm_int (hK.2 0 (q 0, .int) rfl).2))
  have hE : ({ cls := cell'.cls, slots := cell'.slots } : Cell) = vp_cell (q 0) (4, .inl (xZv i)) := by
    rw [hq, vp_cell_i]
    have hz : cell'.slots = (arrV (q 0) 4 (fun j => .int (xZv i j))).slots := by
      apply Array.ext (by rw [g2, arrV_size])
      intro j hj1 hj2
      have a1 := e6 j (by omega)
      have a2 := arrV_read (q 0) (fun j => Value.int (xZv i j)) (N := 4) (j := j) (by omega)
      rw [Array.getElem?_eq_getElem hj1] at a1
      rw [Array.getElem?_eq_getElem hj2] at a2
      exact Option.some.inj (a1.trans a2.symm)
    rw [hz]
    rfl
  have hf : ∀ (j : Nat) (v : Value), cell'.slots[j]? = some v → fits .int v = true := fun j v hv => by
    have hj : j < 4 := by rw [← g2]; exact (Array.getElem?_eq_some_iff.mp hv).1
    rw [e6 j hj] at hv
    cases hv
    rfl
  intro T hT X'
  have hcellT : T.heap[t]? = some cell' := by rw [hT]; exact hH
  obtain ⟨-, kA, hkA, comp, hkind⟩ := State.isArrayOf_alike X'.warmed.alike e2
  have e20 := e2
  obtain ⟨ho, kS, hkS, compS, hkindS⟩ := e20
  obtain ⟨vm', X'', st⟩ := X'.cloneArray hx hown (hts _ h1) (hts _ h2) (hts _ h3) (hts _ h4) (hts _ h5) (a := t) (cell := cell') hcellT ho e3 g3 f2 f3
    (fun j v hv => by
      have hk' : T.vm.classes[cell'.cls]? = some kA := hkA
      simpa [State.fitsSlot, State.slotType?, hk', hkind] using hf j v hv)
    (g := F0 m pc ls (.ref t :: rest)) rfl (hls.trans hml.symm) rfl (by rw [hb]; exact hdg) hframes (by show 2 * 0 + _ + 14 ≤ _; omega) hcells (by rw [g2]; exact hslots) (hloader := Vm.clonesLoader_of_array hkS hkindS)
  rw [hE, g2] at X''
  generalize hH1 : H.push (vp_cell (q 0) (4, .inl (xZv i))) = H1
  have z1 : H1.size = H.size + 1 := by rw [← hH1, Array.size_push]
  have w1 : H1[H.size]? = some (vp_cell (q 0) (4, .inl (xZv i))) := by rw [← hH1, Array.getElem?_push_size]
  have o1 : ∀ r : Nat, r < H.size → H1[r]? = H[r]? := fun r hr => by rw [← hH1, Array.getElem?_push, if_neg (Nat.ne_of_lt hr)]
  have hk : ∀ (k : Nat) (y : Nat × va_E), gs.flatten[k]? = some y → H1[y.1]? = H[y.1]? := fun k y hy => o1 y.1 ((X.1 k y hy).lt)
  obtain ⟨t1, b1, b2⟩ := kk H.size H1 ⟨by
      rw [x_flat]
      exact (X.1.kept hk).app (fun k y hy => by
        have hz : k < 1 := (List.getElem?_eq_some_iff.mp hy).1
        rw [show k = 0 by omega] at hy
        cases hy
        exact w1), by rw [x_flat]; exact X.2.1.push X.1 rfl (X.2.2.2.1 _ X.2.2.1.1), ⟨Nat.le_trans X.2.2.1.1 (by omega), fun y h1 h2 => (o1 y (Nat.lt_of_lt_of_le h1 X.2.2.1.1)).trans (X.2.2.1.2.1 y h1 h2), X.2.2.1.2.2⟩, X.2.2.2⟩
    ((T.setVm vm').pushCell (vp_cell (q 0) (4, .inl (xZv i)))) (by rw [← hH1, ← hT]; rfl) X''
  refine ⟨t1, st t1 ?_, b2⟩
  rw [hE, hT]
  exact b1
end XG
/-- the addresses of a town's cells; a new town -/
def x_ad (a0 a1 a2 a3 a4 a5 a6 a7 a8 a9 a10 a11 : Nat) : Nat → Nat
  | 0 => a0 | 1 => a1 | 2 => a2 | 3 => a3 | 4 => a4 | 5 => a5 | 6 => a6 | 7 => a7 | 8 => a8 | 9 => a9 | 10 => a10 | _ => a11
def x_T0 : Nat → Nat → Int32 := x_tR (xZv 0) (upd (fun _ => 0) 0 (-6)) (upd (fun _ => 0) 0 1) (upd (fun _ => 0) 0 0) (upd (fun _ => 0) 0 0) (upd (fun _ => 0) 0 0) (fun _ => 0) (fun _ => 0) (fun _ => 0) 1 0 0 0
/-- the reference's first row -/
def x_s0 : Nat → Int32 := upd (upd (upd (upd (upd (upd (upd (fun _ => 0) 0 8) 1 20) 2 30) 3 12) 5 1) 33 (-1)) 34 1
