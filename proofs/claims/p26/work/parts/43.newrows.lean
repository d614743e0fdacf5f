/-! Rows that make cells. -/
theorem x_ra {U : State} {cA cB : ClassId} {ty : FieldType} (h1 : va_RA U cA ty) (h2 : va_RA U cB ty) : cA = cB := by
  cases ty with
  | object C =>
    obtain ⟨-, -, -, -, -, e1⟩ := h1
    obtain ⟨-, -, -, -, -, e2⟩ := h2
    exact Option.some.inj (e1.symm.trans e2)
  | _ => exact Option.some.inj (Eq.trans (Eq.symm h1) h2)
theorem x_flat (gs : List va_W) (z : Nat × va_E) : (gs ++ [[z]]).flatten = gs.flatten ++ [z] := by
  rw [List.flatten_append]
  rfl
section XW
variable {p : Program} {l : Launch} {e : Env} {R : Room} {s : State} {m : MethodId} {args : Array Value} {below : List Frame} {meth : Method} {c : Code} {H : Heap} {locs : List Loc} {cells slots : Nat} {Q : State → Prop}
variable {cc : ByteArray} {nL : Nat} {pc : Nat} {ls : Array Slot} {rest : List Value} {D : va_G} {q : xQ} {A : Nat → Prop} {gs gs' : List va_W} {Ts : List Cond} {own : String}
theorem x_newa (F : xF p m c cc nL s args Ts own D q) (X : xS D A s gs H locs) {atype : ArrayType} {ty : FieldType} (hty : newarray.typeOf atype = ty) (t0 : Nat) {cA0 : ClassId} (ht : (xTy q)[t0]? = some (cA0, ty)) (harr : Cond.arrayClass (newarray.typeOf atype) ∈ Ts) {n : Int32} {N' : Nat} (a0 : vp_A) (ha : ∀ cA : ClassId, vp_cell cA a0 = arrV cA N' (fun _ => defaultValue ty)) (hn : ¬ n < 0) (hN : n.toNatClampNeg = N') (hbytes : N' * componentBytes ty ≤ 536870912) (hcells : cells + 1 ≤ R.cells) (hslots : slots + N' ≤ R.slots) (hdg : decode cc pc = .ok (.newarray atype, 2)) (kk : ∀ (a : Nat) (H1 : Heap), xS D A s (gs ++ [[(a, .inl (cA0, a0))]]) H1 locs → W p l e R s m args below meth c H1 locs (cells + 1) (slots + N') Q (F0 m (pc + 2) ls (.ref a :: rest))) : W p l e R s m args below meth c H locs cells slots Q (F0 m pc ls (.int n :: rest)) := by
  refine va_newa F.1.1 F.1.2.1 (F.1.2.2.2.2 _ harr) hty F.2.1 X.1 X.2.1 X.2.2.1 X.2.2.2.1 ha hn hN hbytes hcells hslots hdg (fun a cA H1 hK h1 h2 h3 => ?_)
  have r1 := (F.2.1.2 t0 _ ht).2
  have r2 := (hK.2 (xTy q).length (cA, ty) (by rw [List.getElem?_append_right (Nat.le_refl _), Nat.sub_self]; rfl)).2
  obtain rfl := x_ra r2 r1
  exact kk a H1 ⟨by rw [x_flat]; exact h1, by rw [x_flat]; exact h2, h3, X.2.2.2⟩
theorem x_newq (F : xF p m c cc nL s args Ts own D q) (X : xS D A s gs H locs) {index : Nat} (hl : Cond.classLink own index "HatWinds$Town" ∈ Ts) {n : Int32} {N' : Nat} (hn : ¬ n < 0) (hN : n.toNatClampNeg = N') (hbytes : N' * 4 ≤ 536870912) (hcells : cells + 1 ≤ R.cells) (hslots : slots + N' ≤ R.slots) (hdg : decode cc pc = .ok (.anewarray index, 3)) (kk : ∀ (a : Nat) (H1 : Heap), xS D A s (gs ++ [[(a, .inl (q 3, N', .inr (.inr (.inr (.inr (fun _ => none))))))]]) H1 locs → W p l e R s m args below meth c H1 locs (cells + 1) (slots + N') Q (F0 m (pc + 3) ls (.ref a :: rest))) : W p l e R s m args below meth c H locs cells slots Q (F0 m pc ls (.int n :: rest)) := by
  refine va_newq F.1.1 F.1.2.1 F.1.2.2.2.1 (F.1.2.2.2.2 _ hl) X.2.2.2.2.1 F.2.1 X.1 X.2.1 X.2.2.1 X.2.2.2.1 hn hN hbytes hcells hslots hdg (fun a cA H1 hK h1 h2 h3 => ?_)
  have r1 := (F.2.1.2 3 (q 3, .object "HatWinds$Town") rfl).2
  have r2 := (hK.2 (xTy q).length (cA, .object "HatWinds$Town") (by rw [List.getElem?_append_right (Nat.le_refl _), Nat.sub_self]; rfl)).2
  obtain rfl : cA = q 3 := x_ra r2 r1
  exact kk a H1 ⟨by rw [x_flat]; exact h1, by rw [x_flat]; exact h2, h3, X.2.2.2⟩
theorem x_nu (F : xF p m c cc nL s args Ts own D q) (X : xS D A s gs H locs) {C : String} {T : u_T} {N ci index : Nat} (hin : ∀ w ∈ u_ws C T N, w ∈ Ts) (ty : Nat → FieldType) (hty : ∀ k, k < N → parseFieldDescriptor (T k).2.2.1 = some (ty k)) (hcl : Cond.classLink own index C ∈ Ts) (hinst : Cond.instantiable C N ∈ Ts) (hini : Cond.initialized C ∈ Ts) (hc : vwCl[ci]? = some (C, T, N)) {fs : List Value} (hfs : ∀ j, j < N → defaultValue (ty j) = vp_V fs j) (hcells : cells + 1 ≤ R.cells) (hslots : slots + N ≤ R.slots) (hdg : decode cc pc = .ok (.new index, 3)) (kk : ∀ (a : Nat) (H1 : Heap), xS D A s (gs ++ [[(a, .inr (ci, fs))]]) H1 locs → W p l e R s m args below meth c H1 locs (cells + 1) (slots + N) Q (F0 m (pc + 3) ls (.ref a :: rest))) : W p l e R s m args below meth c H locs cells slots Q (F0 m pc ls rest) := by
  refine va_new F.1.1 F.1.2.1 F.1.2.2.2.2 hin ty hty F.1.2.2.2.1 (F.1.2.2.2.2 _ hcl) (F.1.2.2.2.2 _ hinst) (F.1.2.2.2.2 _ hini) F.2.1 X.1 X.2.1 X.2.2.1 X.2.2.2.1 hc hfs hcells hslots hdg (fun a H1 h1 h2 h3 => ?_)
  exact kk a H1 ⟨by rw [x_flat]; exact h1, by rw [x_flat]; exact h2, h3, X.2.2.2⟩
theorem x_aast (F : xF p m c cc nL s args Ts own D q) (X : xS D A s gs H locs) (q0 qk : Nat) {a n v k : Nat} {vs : List Value} {f : Nat → Option Nat} (ha : gs.flatten[q0]? = some (a, .inl (q 3, n, .inr (.inr (.inr (.inr f)))))) (hv : gs.flatten[qk]? = some (v, .inr (6, vs))) {i : Int32} (hin : vp_in i n) (hi : i.toNatClampNeg = k) (hdg : decode cc pc = .ok (.aastore, 1)) (hs : gs.flatten.set q0 (a, .inl (q 3, n, .inr (.inr (.inr (.inr (va_up f k (some v))))))) = gs'.flatten) (kk : ∀ (H1 : Heap) (locs1 : List Loc), xS D A s gs' H1 locs1 → W p l e R s m args below meth c H1 locs1 cells slots Q (F0 m (pc + 1) ls rest)) : W p l e R s m args below meth c H locs cells slots Q (F0 m pc ls (.ref v :: .int i :: .ref a :: rest)) := by
  subst hi
  exact va_astq F.1.1 F.1.2.1 F.2.1 X.1 X.2.1 X.2.2.1 q0 3 qk 6 ha rfl hv rfl hin hdg (fun H1 locs1 h1 h2 h3 => kk H1 locs1 ⟨hs ▸ h1, hs ▸ h2, h3, X.2.2.2⟩)
end XW
