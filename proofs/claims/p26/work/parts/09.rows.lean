/-! The rows in a shorter form. -/
section XR
variable {p : Program} {l : Launch} {e : Env} {R : Room} {s : State} {m : MethodId} {args : Array Value} {below : List Frame} {meth : Method} {c : Code} {H : Heap} {locs : List Loc} {cells slots : Nat} {Q : State → Prop}
variable {cc : ByteArray} {nL : Nat} {pc : Nat} {ls : Array Slot} {rest : List Value} {D : va_G} {q : xQ} {A : Nat → Prop} {gs gs' : List va_W} {Ts : List Cond} {own : String}
theorem x_i {x y : Int32} (h : x = y) (k : W p l e R s m args below meth c H locs cells slots Q (F0 m pc ls (.int y :: rest))) : W p l e R s m args below meth c H locs cells slots Q (F0 m pc ls (.int x :: rest)) := by subst h; exact k
theorem x_l {x y : Int64} (h : x = y) (k : W p l e R s m args below meth c H locs cells slots Q (F0 m pc ls (.long y :: rest))) : W p l e R s m args below meth c H locs cells slots Q (F0 m pc ls (.long x :: rest)) := by subst h; exact k
theorem x_r {x y : Option Nat} (h : x = y) (k : W p l e R s m args below meth c H locs cells slots Q (F0 m pc ls (va_rf y :: rest))) : W p l e R s m args below meth c H locs cells slots Q (F0 m pc ls (va_rf x :: rest)) := by subst h; exact k
theorem x_get (F : xF p m c cc nL s args Ts own D q) (X : xS D A s gs H locs) {C : String} {T : u_T} {N ci index a : Nat} (hin : ∀ w ∈ u_ws C T N, w ∈ Ts) (q0 : Nat) {fs : List Value} (he : gs.flatten[q0]? = some (a, .inr (ci, fs))) (hc : vwCl[ci]? = some (C, T, N)) (k : Nat) (hk : k < N) (hl : Cond.fieldLink own index (T k).1 (T k).2.1 (T k).2.2.1 ∈ Ts) {v : Value} (hv : fs[k]? = some v) (hdg : decode cc pc = .ok (.getfield index, 3)) (kk : W p l e R s m args below meth c H locs cells slots Q (F0 m (pc + 3) ls (v :: rest))) : W p l e R s m args below meth c H locs cells slots Q (F0 m pc ls (.ref a :: rest)) := by
  obtain ⟨⟨hx, hb, -, hown, hts⟩, hK, -⟩ := F
  exact va_get (D := D) hx hb hts hin hown hK X.1 q0 he hc k hk (hts _ hl) (fun _ h => h) hv hdg kk
theorem x_put (F : xF p m c cc nL s args Ts own D q) (X : xS D A s gs H locs) {C : String} {T : u_T} {N ci index a : Nat} (hin : ∀ w ∈ u_ws C T N, w ∈ Ts) (ty0 : Nat → FieldType) (hty : ∀ k, k < N → parseFieldDescriptor (T k).2.2.1 = some (ty0 k)) (hnm : ∀ a, a < N → ∀ b, b < N → a ≠ b → (T a).2.1 ≠ (T b).2.1) (q0 : Nat) {fs : List Value} (he : gs.flatten[q0]? = some (a, .inr (ci, fs))) (hc : vwCl[ci]? = some (C, T, N)) (k : Nat) (hk : k < N) (hl : Cond.fieldLink own index (T k).1 (T k).2.1 (T k).2.2.1 ∈ Ts) (hfin : (T k).2.2.2 = false) {v : Value} (hn : narrow (ty0 k) v = v) (hfit : fits (ty0 k) v = true) (hlen : k < fs.length) (hdg : decode cc pc = .ok (.putfield index, 3)) (hs : gs.flatten.set q0 (a, .inr (ci, fs.set k v)) = gs'.flatten) (kk : ∀ (H1 : Heap) (locs1 : List Loc), xS D A s gs' H1 locs1 → W p l e R s m args below meth c H1 locs1 cells slots Q (F0 m (pc + 3) ls rest)) : W p l e R s m args below meth c H locs cells slots Q (F0 m pc ls (v :: .ref a :: rest)) := by
  obtain ⟨⟨hx, hb, -, hown, hts⟩, hK, -⟩ := F
  exact va_put (D := D) hx hb hts hin ty0 hty hnm hown hK X.1 X.2.1 X.2.2.1 q0 he hc k hk (hts _ hl) (fun _ h => h) hfin (hty k hk) hn hfit hlen hdg (fun H1 locs1 h1 h2 h3 => kk H1 locs1 ⟨hs ▸ h1, hs ▸ h2, h3, X.2.2.2⟩)
theorem x_putF (F : xF p m c cc nL s args Ts own D q) (X : xS D A s gs H locs) (hini : meth.name = "<init>") {C : String} {T : u_T} {N ci index a : Nat} (hin : ∀ w ∈ u_ws C T N, w ∈ Ts) (ty0 : Nat → FieldType) (hty : ∀ k, k < N → parseFieldDescriptor (T k).2.2.1 = some (ty0 k)) (hnm : ∀ a, a < N → ∀ b, b < N → a ≠ b → (T a).2.1 ≠ (T b).2.1) (q0 : Nat) {fs : List Value} (he : gs.flatten[q0]? = some (a, .inr (ci, fs))) (hc : vwCl[ci]? = some (C, T, N)) (k : Nat) (hk : k < N) (hl : Cond.fieldLink own index (T k).1 (T k).2.1 (T k).2.2.1 ∈ Ts) (hfin : (T k).2.2.2 = true) (hdecl : (T k).1 = own) {v : Value} (hn : narrow (ty0 k) v = v) (hfit : fits (ty0 k) v = true) (hlen : k < fs.length) (hdg : decode cc pc = .ok (.putfield index, 3)) (hs : gs.flatten.set q0 (a, .inr (ci, fs.set k v)) = gs'.flatten) (kk : ∀ (H1 : Heap) (locs1 : List Loc), xS D A s gs' H1 locs1 → W p l e R s m args below meth c H1 locs1 cells slots Q (F0 m (pc + 3) ls rest)) : W p l e R s m args below meth c H locs cells slots Q (F0 m pc ls (v :: .ref a :: rest)) := by
  obtain ⟨⟨hx, hb, -, hown, hts⟩, hK, -⟩ := F
  exact va_putF (D := D) hx hb hts hin ty0 hty hnm hown hK X.1 X.2.1 X.2.2.1 q0 he hc k hk (hts _ hl) (fun _ h => h) hfin hini hdecl (hty k hk) hn hfit hlen hdg (fun H1 locs1 h1 h2 h3 => kk H1 locs1 ⟨hs ▸ h1, hs ▸ h2, h3, X.2.2.2⟩)
theorem x_iald (F : xF p m c cc nL s args Ts own D q) (X : xS D A s gs H locs) (q0 : Nat) {a n : Nat} {f : Nat → Int32} (ha : gs.flatten[q0]? = some (a, .inl (q 0, n, .inl f))) {i : Int32} {v : Int32} (hin : vp_in i n) (hv : f i.toNatClampNeg = v) (hdg : decode cc pc = .ok (.iaload, 1)) (kk : W p l e R s m args below meth c H locs cells slots Q (F0 m (pc + 1) ls (.int v :: rest))) : W p l e R s m args below meth c H locs cells slots Q (F0 m pc ls (.int i :: .ref a :: rest)) := by
  subst hv
  exact va_iald F.1.1 F.1.2.1 F.2.1 X.1 q0 0 ha rfl hin hdg kk
theorem x_cald (F : xF p m c cc nL s args Ts own D q) (X : xS D A s gs H locs) (q0 : Nat) {a n : Nat} {f : Nat → Int32} (ha : gs.flatten[q0]? = some (a, .inl (q 1, n, .inl f))) {i : Int32} {v : Int32} (hin : vp_in i n) (hv : f i.toNatClampNeg = v) (hdg : decode cc pc = .ok (.caload, 1)) (kk : W p l e R s m args below meth c H locs cells slots Q (F0 m (pc + 1) ls (.int v :: rest))) : W p l e R s m args below meth c H locs cells slots Q (F0 m pc ls (.int i :: .ref a :: rest)) := by
  subst hv
  exact va_cald F.1.1 F.1.2.1 F.2.1 X.1 q0 1 ha rfl hin hdg kk
theorem x_zald (F : xF p m c cc nL s args Ts own D q) (X : xS D A s gs H locs) (q0 : Nat) {a n : Nat} {f : Nat → Int32} (ha : gs.flatten[q0]? = some (a, .inl (q 2, n, .inl f))) {i : Int32} {v : Int32} (hin : vp_in i n) (hv : f i.toNatClampNeg = v) (hdg : decode cc pc = .ok (.baload, 1)) (kk : W p l e R s m args below meth c H locs cells slots Q (F0 m (pc + 1) ls (.int v :: rest))) : W p l e R s m args below meth c H locs cells slots Q (F0 m pc ls (.int i :: .ref a :: rest)) := by
  subst hv
  exact va_zald F.1.1 F.1.2.1 F.2.1 X.1 q0 2 ha rfl hin hdg kk
theorem x_aald (F : xF p m c cc nL s args Ts own D q) (X : xS D A s gs H locs) (q0 : Nat) {a n : Nat} {f : Nat → Option Nat} (ha : gs.flatten[q0]? = some (a, .inl (q 3, n, .inr (.inr (.inr (.inr f)))))) {i : Int32} {v : Nat} (hin : vp_in i n) (hv : f i.toNatClampNeg = some v) (hdg : decode cc pc = .ok (.aaload, 1)) (kk : W p l e R s m args below meth c H locs cells slots Q (F0 m (pc + 1) ls (.ref v :: rest))) : W p l e R s m args below meth c H locs cells slots Q (F0 m pc ls (.int i :: .ref a :: rest)) :=
  va_aldq F.1.1 F.1.2.1 F.2.1 X.1 q0 3 ha rfl hin hdg (by rw [hv]; exact kk)
theorem x_iast (F : xF p m c cc nL s args Ts own D q) (X : xS D A s gs H locs) (q0 : Nat) {a n : Nat} {f : Nat → Int32} (ha : gs.flatten[q0]? = some (a, .inl (q 0, n, .inl f))) {i x : Int32} {k : Nat} (hin : vp_in i n) (hi : i.toNatClampNeg = k) (hdg : decode cc pc = .ok (.iastore, 1)) (hs : gs.flatten.set q0 (a, .inl (q 0, n, .inl (upd f k x))) = gs'.flatten) (kk : ∀ (H1 : Heap) (locs1 : List Loc), xS D A s gs' H1 locs1 → W p l e R s m args below meth c H1 locs1 cells slots Q (F0 m (pc + 1) ls rest)) : W p l e R s m args below meth c H locs cells slots Q (F0 m pc ls (.int x :: .int i :: .ref a :: rest)) := by
  subst hi
  exact va_iast F.1.1 F.1.2.1 F.2.1 X.1 X.2.1 X.2.2.1 q0 0 ha rfl hin hdg (fun H1 locs1 h1 h2 h3 => kk H1 locs1 ⟨hs ▸ h1, hs ▸ h2, h3, X.2.2.2⟩)
theorem x_cast (F : xF p m c cc nL s args Ts own D q) (X : xS D A s gs H locs) (q0 : Nat) {a n : Nat} {f : Nat → Int32} (ha : gs.flatten[q0]? = some (a, .inl (q 1, n, .inl f))) {i x y : Int32} {k : Nat} (hin : vp_in i n) (hi : i.toNatClampNeg = k) (hy : vp_nar .char x = y) (hdg : decode cc pc = .ok (.castore, 1)) (hs : gs.flatten.set q0 (a, .inl (q 1, n, .inl (upd f k y))) = gs'.flatten) (kk : ∀ (H1 : Heap) (locs1 : List Loc), xS D A s gs' H1 locs1 → W p l e R s m args below meth c H1 locs1 cells slots Q (F0 m (pc + 1) ls rest)) : W p l e R s m args below meth c H locs cells slots Q (F0 m pc ls (.int x :: .int i :: .ref a :: rest)) := by
  subst hi; subst hy
  exact va_cast F.1.1 F.1.2.1 F.2.1 X.1 X.2.1 X.2.2.1 q0 1 ha rfl hin hdg (fun H1 locs1 h1 h2 h3 => kk H1 locs1 ⟨hs ▸ h1, hs ▸ h2, h3, X.2.2.2⟩)
theorem x_zast (F : xF p m c cc nL s args Ts own D q) (X : xS D A s gs H locs) (q0 : Nat) {a n : Nat} {f : Nat → Int32} (ha : gs.flatten[q0]? = some (a, .inl (q 2, n, .inl f))) {i x y : Int32} {k : Nat} (hin : vp_in i n) (hi : i.toNatClampNeg = k) (hy : vp_nar .boolean x = y) (hdg : decode cc pc = .ok (.bastore, 1)) (hs : gs.flatten.set q0 (a, .inl (q 2, n, .inl (upd f k y))) = gs'.flatten) (kk : ∀ (H1 : Heap) (locs1 : List Loc), xS D A s gs' H1 locs1 → W p l e R s m args below meth c H1 locs1 cells slots Q (F0 m (pc + 1) ls rest)) : W p l e R s m args below meth c H locs cells slots Q (F0 m pc ls (.int x :: .int i :: .ref a :: rest)) := by
  subst hi; subst hy
  exact va_zast F.1.1 F.1.2.1 F.2.1 X.1 X.2.1 X.2.2.1 q0 2 ha rfl hin hdg (fun H1 locs1 h1 h2 h3 => kk H1 locs1 ⟨hs ▸ h1, hs ▸ h2, h3, X.2.2.2⟩)
theorem x_alen (F : xF p m c cc nL s args Ts own D q) (X : xS D A s gs H locs) (q0 : Nat) {a n : Nat} {f : Nat → Int32} (ha : gs.flatten[q0]? = some (a, .inl (q 0, n, .inl f))) (hdg : decode cc pc = .ok (.arraylength, 1)) (kk : W p l e R s m args below meth c H locs cells slots Q (F0 m (pc + 1) ls (.int (nI n) :: rest))) : W p l e R s m args below meth c H locs cells slots Q (F0 m pc ls (.ref a :: rest)) :=
  va_alen F.1.1 F.1.2.1 F.2.1 X.1 q0 0 ha (ty := .int) rfl rfl hdg kk
/-- arraycopy of whole ints or chars from place 0 to place 0 -/
theorem x_copy (F : xF p m c cc nL s args Ts own D q) (X : xS D A s gs H locs) (hls : ls.size = nL) {index : Nat} (hlink : Cond.methodLink own index arraycopyName ∈ Ts) (hnat : Cond.native arraycopyName ∈ Ts) (hstat : Cond.static arraycopyName ∈ Ts) (hini : Cond.initialized "java/lang/System" ∈ Ts) (q0 q1 t : Nat) {a0 a n0 n1 k : Nat} {cA : ClassId} {f g : Nat → Int32} {ty : FieldType} (ha0 : gs.flatten[q0]? = some (a0, .inl (cA, n0, .inl f))) (ha1 : gs.flatten[q1]? = some (a, .inl (cA, n1, .inl g))) (ht : (xTy q)[t]? = some (cA, ty)) (hprim : refKind ty = false) {n : Int32} (hn : n = nI k) (hk : k < 2 ^ 31) (h4 : k ≤ n0) (h5 : k ≤ n1) (hfit : ∀ i, i < k → fits ty (.int (f i)) = true) (hR : 1 ≤ R.frames ∧ (rest.map fun v => v.category).sum + (nativeFrameWords "java/lang/System" "arraycopy" 5 + 11) ≤ R.locals) (hdg : decode cc pc = .ok (.invokestatic index, 3)) (hs : gs.flatten.set q1 (a, .inl (cA, n1, .inl (va_cpy f g 0 0 k))) = gs'.flatten) (kk : ∀ (H1 : Heap) (locs1 : List Loc), xS D A s gs' H1 locs1 → W p l e R s m args below meth c H1 locs1 cells slots Q (F0 m (pc + 3) ls rest)) : W p l e R s m args below meth c H locs cells slots Q (F0 m pc ls (.int n :: .int 0 :: .ref a :: .int 0 :: .ref a0 :: rest)) := by
  obtain ⟨⟨hx, hb, hml, hown, hts⟩, hK, -⟩ := F
  have e0 : (0 : Int32).toNatClampNeg = 0 := rfl
  have ek : n.toNatClampNeg = k := by rw [hn]; exact nI_clamp hk
  refine va_copyi hx hb (hml.trans hls.symm) hown (hts _ hlink) (hts _ hnat) (hts _ hstat) (hts _ hini) hK X.1 X.2.1 X.2.2.1 q0 q1 t t ha0 ha1 ht ht hprim (by decide) (by decide) (by rw [hn]; exact nI_pos hk) (by rw [ek, e0]; omega) (by rw [ek, e0]; omega) (fun i hi => by rw [ek] at hi; rw [e0, Nat.zero_add]; exact hfit i hi) hR.1 hR.2 hdg (fun H1 locs1 h1 h2 h3 => ?_)
  rw [ek, e0] at h1 h2
  exact kk H1 locs1 ⟨hs ▸ h1, hs ▸ h2, h3, X.2.2.2⟩
theorem x_min (F : xF p m c cc nL s args Ts own D q) (hls : ls.size = nL) {index : Nat} (hlink : Cond.methodLink own index Lib.Math.min.name ∈ Ts) (hstat : Cond.static Lib.Math.min.name ∈ Ts) (hini : Cond.initialized "java/lang/Math" ∈ Ts) (hcode : Cond.code Lib.Math.min.name Lib.Math.min.code 2 (some .int) ∈ Ts) (hR : 1 ≤ R.frames ∧ (rest.map fun v => v.category).sum + 13 ≤ R.locals) (hroom : cells ≤ R.cells ∧ slots ≤ R.slots) {x y : Int32} (hdg : decode cc pc = .ok (.invokestatic index, 3)) (kk : W p l e R s m args below meth c H locs cells slots Q (F0 m (pc + 3) ls (.int (if y < x then y else x) :: rest))) : W p l e R s m args below meth c H locs cells slots Q (F0 m pc ls (.int y :: .int x :: rest)) := by
  obtain ⟨⟨hx, hb, hml, hown, hts⟩, hK, -⟩ := F
  exact va_mmin hx hb (hml.trans hls.symm) hown (hts _ hlink) (hts _ hstat) (hts _ hini) (hts _ hcode) hR.1 hR.2 hroom.1 hroom.2 hdg kk
end XR
section XC
variable {p : Program} {l : Launch} {e : Env} {R : Room} {s : State} {m : MethodId} {args : Array Value} {below : List Frame} {meth : Method} {c : Code} {H : Heap} {locs : List Loc} {cells slots : Nat} {Q : State → Prop}
variable {cc : ByteArray} {nL : Nat} {pc : Nat} {ls : Array Slot} {rest st As : List Value} {D : va_G} {q : xQ} {A : Nat → Prop} {gs gc gr : List va_W} {Ts tw tw' : List Cond} {own C : String} {y : MethodName} {rm : Room} {index n b maxL : Nat} {bytes : ByteArray} {ret : Option FieldType}
/-- the callee's start, from the caller's world -/
theorem xc_pre (F : xF p m c cc nL s args Ts own D q) (X : xS D A s (gc ++ gr) H locs) : ∀ U : State, U.heap = H → s.WarmedH U.vm → xPc D q As gc H.size As.toArray U := fun U hU hW =>
  ⟨rfl, by rw [hU], by rw [hU]; exact X.left.1, va_K.moved hW.alike F.2.1, X.left.2.1.weaken (fun _ _ _ _ => trivial), F.2.2.warm hW, by rw [hU]; exact ((X.2.2.2.2.kept (fun a ha hA => X.2.2.1.2.1 a ha hA)).narrow X.free).moved hW.alike⟩
theorem xc_preS (F : xF p m c cc nL s args Ts own D q) (X : xS D A s (gc ++ gr) H locs) : PreS s H (xPc D q As gc H.size) As := ⟨xb_blind, xc_pre F X⟩
theorem xc_preV (F : xF p m c cc nL s args Ts own D q) (X : xS D A s (gc ++ gr) H locs) {r0 ci : Nat} {fs : List Value} {T : u_T} {N : Nat} (hrc : vwCl[ci]? = some (C, T, N)) (hre : gc.flatten[r0]? = some (b, .inr (ci, fs))) : PreV s H C b (xPc D q (.ref b :: As) gc H.size) As :=
  ⟨xb_blind, va_recv F.2.1 X.left.1 (ci := ci) (q0 := r0) hrc hre, xc_pre F X⟩
theorem x_backi {mc ms : Nat} {free : Addr → Prop} {post : Int32 → List va_W → Prop} {a : Array Value} (X : xS D A s (gc ++ gr) H locs) (hfree : ∀ r, free r → va_A gc.flatten H.size r) (hr : va_Run p l e R s m args below meth c H locs cells slots mc ms (F0 m pc ls st) rest (va_Qi post (xB D (va_A gc.flatten H.size)) (va_A gc.flatten H.size) a) free) (kk : ∀ (r : Int32) (g1 : List va_W) (H1 : Heap) (locs1 : List Loc), post r g1 → xS D A s (g1 ++ gr) H1 locs1 → W p l e R s m args below meth c H1 locs1 (cells + mc) (slots + ms) Q (F0 m (pc + 3) ls (.int r :: rest))) : W p l e R s m args below meth c H locs cells slots Q (F0 m pc ls st) :=
  va_calli hr X.2.2.1 (fun r _ h => X.free r h) (fun r h => X.free r (hfree r h)) (fun r u t H1 locs1 ht _ hw hB _ hk hS => by
    subst ht
    exact kk r u _ locs1 hw (X.back hk hB.1 hB.2 hS))
theorem x_backv {mc ms : Nat} {free : Addr → Prop} {post : List va_W → Prop} {a : Array Value} (X : xS D A s (gc ++ gr) H locs) (hfree : ∀ r, free r → va_A gc.flatten H.size r) (hr : va_Run p l e R s m args below meth c H locs cells slots mc ms (F0 m pc ls st) rest (va_Qv post (xB D (va_A gc.flatten H.size)) (va_A gc.flatten H.size) a) free) (kk : ∀ (g1 : List va_W) (H1 : Heap) (locs1 : List Loc), post g1 → xS D A s (g1 ++ gr) H1 locs1 → W p l e R s m args below meth c H1 locs1 (cells + mc) (slots + ms) Q (F0 m (pc + 3) ls rest)) : W p l e R s m args below meth c H locs cells slots Q (F0 m pc ls st) :=
  va_callv hr X.2.2.1 (fun r _ h => X.free r h) (fun r h => X.free r (hfree r h)) (fun u t H1 locs1 ht _ hw hB _ hk hS => by
    subst ht
    exact kk u _ locs1 hw (X.back hk hB.1 hB.2 hS))
theorem x_backr {mc ms : Nat} {free : Addr → Prop} {post : Nat → List va_W → Prop} {a : Array Value} (X : xS D A s (gc ++ gr) H locs) (hfree : ∀ r, free r → va_A gc.flatten H.size r) (hr : va_Run p l e R s m args below meth c H locs cells slots mc ms (F0 m pc ls st) rest (va_Qr (fun _ : List va_W => True) (fun g1 a t => post a g1 ∧ xB D (va_A gc.flatten H.size) g1 t) (va_A gc.flatten H.size) a) free) (kk : ∀ (r : Nat) (g1 : List va_W) (H1 : Heap) (locs1 : List Loc), post r g1 → xS D A s (g1 ++ gr) H1 locs1 → W p l e R s m args below meth c H1 locs1 (cells + mc) (slots + ms) Q (F0 m (pc + 3) ls (.ref r :: rest))) : W p l e R s m args below meth c H locs cells slots Q (F0 m pc ls st) :=
  va_callr hr X.2.2.1 (fun r _ h => X.free r h) (fun r h => X.free r (hfree r h)) (fun u ra t H1 locs1 ht _ _ hB _ hk hS => by
    subst ht
    exact kk ra u _ locs1 hB.1 (X.back hk hB.2.1 hB.2.2 hS))
/-! calls: of a method of a class of ours (V), of a private static (S), of a nest mate's private static (N), of a constructor (I), of a nest mate's (J) -/
theorem x_cVi (F : xF p m c cc nL s args Ts own D q) (X0 : xS D A s gs H locs) (hsp : gs.Perm (gc ++ gr)) {post : Int32 → List va_W → Prop} (hM : xMi l y tw rm D q (.ref b :: As) gc post) (cw : CallW R s args own C index y bytes maxL ret tw rm rm.cells rm.slots n) (hn : As.length = n) (hst : st = As.reverse ++ .ref b :: rest) {r0 ci : Nat} {fs : List Value} {T : u_T} {N : Nat} (hrc : vwCl[ci]? = some (C, T, N)) (hre : gc.flatten[r0]? = some (b, .inr (ci, fs))) (hls : ls.size = nL) (hroom : cells + rm.cells ≤ R.cells ∧ slots + rm.slots ≤ R.slots) (hlr : (rest.map fun v => v.category).sum ≤ 8) (hdg : decode cc pc = .ok (.invokevirtual index, 3)) (kk : ∀ (r : Int32) (g1 : List va_W) (H1 : Heap) (locs1 : List Loc), post r g1 → xS D A s (g1 ++ gr) H1 locs1 → W p l e R s m args below meth c H1 locs1 (cells + rm.cells) (slots + rm.slots) Q (F0 m (pc + 3) ls (.int r :: rest))) : W p l e R s m args below meth c H locs cells slots Q (F0 m pc ls st) := by
  have X := X0.perm hsp
  exact x_backi X (fun _ h => h) (va_runV F.1 (hM H.size) cw (xc_preV F X hrc hre) rfl hn hls hst (lv_room hlr) hdg hroom) kk
theorem x_cVv (F : xF p m c cc nL s args Ts own D q) (X0 : xS D A s gs H locs) (hsp : gs.Perm (gc ++ gr)) {post : List va_W → Prop} (hM : xMv l y tw rm D q (.ref b :: As) gc post) (cw : CallW R s args own C index y bytes maxL ret tw rm rm.cells rm.slots n) (hn : As.length = n) (hst : st = As.reverse ++ .ref b :: rest) {r0 ci : Nat} {fs : List Value} {T : u_T} {N : Nat} (hrc : vwCl[ci]? = some (C, T, N)) (hre : gc.flatten[r0]? = some (b, .inr (ci, fs))) (hls : ls.size = nL) (hroom : cells + rm.cells ≤ R.cells ∧ slots + rm.slots ≤ R.slots) (hlr : (rest.map fun v => v.category).sum ≤ 8) (hdg : decode cc pc = .ok (.invokevirtual index, 3)) (kk : ∀ (g1 : List va_W) (H1 : Heap) (locs1 : List Loc), post g1 → xS D A s (g1 ++ gr) H1 locs1 → W p l e R s m args below meth c H1 locs1 (cells + rm.cells) (slots + rm.slots) Q (F0 m (pc + 3) ls rest)) : W p l e R s m args below meth c H locs cells slots Q (F0 m pc ls st) := by
  have X := X0.perm hsp
  exact x_backv X (fun _ h => h) (va_runV F.1 (hM H.size) cw (xc_preV F X hrc hre) rfl hn hls hst (lv_room hlr) hdg hroom) kk
theorem x_cVr (F : xF p m c cc nL s args Ts own D q) (X0 : xS D A s gs H locs) (hsp : gs.Perm (gc ++ gr)) {post : Nat → List va_W → Prop} (hM : xMr l y tw rm D q (.ref b :: As) gc post) (cw : CallW R s args own C index y bytes maxL ret tw rm rm.cells rm.slots n) (hn : As.length = n) (hst : st = As.reverse ++ .ref b :: rest) {r0 ci : Nat} {fs : List Value} {T : u_T} {N : Nat} (hrc : vwCl[ci]? = some (C, T, N)) (hre : gc.flatten[r0]? = some (b, .inr (ci, fs))) (hls : ls.size = nL) (hroom : cells + rm.cells ≤ R.cells ∧ slots + rm.slots ≤ R.slots) (hlr : (rest.map fun v => v.category).sum ≤ 8) (hdg : decode cc pc = .ok (.invokevirtual index, 3)) (kk : ∀ (r : Nat) (g1 : List va_W) (H1 : Heap) (locs1 : List Loc), post r g1 → xS D A s (g1 ++ gr) H1 locs1 → W p l e R s m args below meth c H1 locs1 (cells + rm.cells) (slots + rm.slots) Q (F0 m (pc + 3) ls (.ref r :: rest))) : W p l e R s m args below meth c H locs cells slots Q (F0 m pc ls st) := by
  have X := X0.perm hsp
  exact x_backr X (fun _ h => h) (va_runV F.1 (hM H.size) cw (xc_preV F X hrc hre) rfl hn hls hst (lv_room hlr) hdg hroom) kk
theorem x_cSi (F : xF p m c cc nL s args Ts own D q) (X0 : xS D A s gs H locs) (hsp : gs.Perm (gc ++ gr)) {post : Int32 → List va_W → Prop} (hM : xMi l y tw rm D q As gc post) (cw : CallB R s args own index y bytes maxL ret tw rm rm.cells rm.slots n ∧ (Cond.static y).before args s = true) (hn : As.length = n) (hst : st = As.reverse ++ rest) (hls : ls.size = nL) (hroom : cells + rm.cells ≤ R.cells ∧ slots + rm.slots ≤ R.slots) (hlr : (rest.map fun v => v.category).sum ≤ 8) (hdg : decode cc pc = .ok (.invokestatic index, 3)) (kk : ∀ (r : Int32) (g1 : List va_W) (H1 : Heap) (locs1 : List Loc), post r g1 → xS D A s (g1 ++ gr) H1 locs1 → W p l e R s m args below meth c H1 locs1 (cells + rm.cells) (slots + rm.slots) Q (F0 m (pc + 3) ls (.int r :: rest))) : W p l e R s m args below meth c H locs cells slots Q (F0 m pc ls st) := by
  have X := X0.perm hsp
  exact x_backi X (fun _ h => h) (va_runS F.1 (hM H.size) cw (xc_preS F X) rfl hn hls hst (lv_room hlr) hdg hroom) kk
theorem x_cSv (F : xF p m c cc nL s args Ts own D q) (X0 : xS D A s gs H locs) (hsp : gs.Perm (gc ++ gr)) {post : List va_W → Prop} (hM : xMv l y tw rm D q As gc post) (cw : CallB R s args own index y bytes maxL ret tw rm rm.cells rm.slots n ∧ (Cond.static y).before args s = true) (hn : As.length = n) (hst : st = As.reverse ++ rest) (hls : ls.size = nL) (hroom : cells + rm.cells ≤ R.cells ∧ slots + rm.slots ≤ R.slots) (hlr : (rest.map fun v => v.category).sum ≤ 8) (hdg : decode cc pc = .ok (.invokestatic index, 3)) (kk : ∀ (g1 : List va_W) (H1 : Heap) (locs1 : List Loc), post g1 → xS D A s (g1 ++ gr) H1 locs1 → W p l e R s m args below meth c H1 locs1 (cells + rm.cells) (slots + rm.slots) Q (F0 m (pc + 3) ls rest)) : W p l e R s m args below meth c H locs cells slots Q (F0 m pc ls st) := by
  have X := X0.perm hsp
  exact x_backv X (fun _ h => h) (va_runS F.1 (hM H.size) cw (xc_preS F X) rfl hn hls hst (lv_room hlr) hdg hroom) kk
theorem x_cNi (F : xF p m c cc nL s args Ts own D q) (X0 : xS D A s gs H locs) (hsp : gs.Perm (gc ++ gr)) {post : Int32 → List va_W → Prop} (hM : xMi l y tw rm D q As gc post) {host : String} (cw : va_CN R s args own index y host bytes maxL ret tw rm rm.cells rm.slots n ∧ (Cond.static y).before args s = true ∧ True) (hn : As.length = n) (hst : st = As.reverse ++ rest) (hls : ls.size = nL) (hroom : cells + rm.cells ≤ R.cells ∧ slots + rm.slots ≤ R.slots) (hlr : (rest.map fun v => v.category).sum ≤ 8) (hdg : decode cc pc = .ok (.invokestatic index, 3)) (kk : ∀ (r : Int32) (g1 : List va_W) (H1 : Heap) (locs1 : List Loc), post r g1 → xS D A s (g1 ++ gr) H1 locs1 → W p l e R s m args below meth c H1 locs1 (cells + rm.cells) (slots + rm.slots) Q (F0 m (pc + 3) ls (.int r :: rest))) : W p l e R s m args below meth c H locs cells slots Q (F0 m pc ls st) := by
  have X := X0.perm hsp
  exact x_backi X (fun _ h => h) (va_runSN F.1 (hM H.size) cw (xc_preS F X) rfl hn hls hst (lv_room hlr) hdg hroom) kk
theorem x_cNv (F : xF p m c cc nL s args Ts own D q) (X0 : xS D A s gs H locs) (hsp : gs.Perm (gc ++ gr)) {post : List va_W → Prop} (hM : xMv l y tw rm D q As gc post) {host : String} (cw : va_CN R s args own index y host bytes maxL ret tw rm rm.cells rm.slots n ∧ (Cond.static y).before args s = true ∧ True) (hn : As.length = n) (hst : st = As.reverse ++ rest) (hls : ls.size = nL) (hroom : cells + rm.cells ≤ R.cells ∧ slots + rm.slots ≤ R.slots) (hlr : (rest.map fun v => v.category).sum ≤ 8) (hdg : decode cc pc = .ok (.invokestatic index, 3)) (kk : ∀ (g1 : List va_W) (H1 : Heap) (locs1 : List Loc), post g1 → xS D A s (g1 ++ gr) H1 locs1 → W p l e R s m args below meth c H1 locs1 (cells + rm.cells) (slots + rm.slots) Q (F0 m (pc + 3) ls rest)) : W p l e R s m args below meth c H locs cells slots Q (F0 m pc ls st) := by
  have X := X0.perm hsp
  exact x_backv X (fun _ h => h) (va_runSN F.1 (hM H.size) cw (xc_preS F X) rfl hn hls hst (lv_room hlr) hdg hroom) kk
theorem x_cI (F : xF p m c cc nL s args Ts own D q) (X0 : xS D A s gs H locs) (hsp : gs.Perm (gc ++ gr)) {post : List va_W → Prop} (hM : xMv l y tw rm D q (.ref b :: As) gc post) (cw : CallB R s args own index y bytes maxL none tw rm rm.cells rm.slots n ∧ y.name = "<init>" ∧ (Cond.instanceMethod y).before args s = true) (hn : As.length = n) (hst : st = As.reverse ++ .ref b :: rest) (hls : ls.size = nL) (hroom : cells + rm.cells ≤ R.cells ∧ slots + rm.slots ≤ R.slots) (hlr : (rest.map fun v => v.category).sum ≤ 8) (hdg : decode cc pc = .ok (.invokespecial index, 3)) (kk : ∀ (g1 : List va_W) (H1 : Heap) (locs1 : List Loc), post g1 → xS D A s (g1 ++ gr) H1 locs1 → W p l e R s m args below meth c H1 locs1 (cells + rm.cells) (slots + rm.slots) Q (F0 m (pc + 3) ls rest)) : W p l e R s m args below meth c H locs cells slots Q (F0 m pc ls st) := by
  have X := X0.perm hsp
  exact x_backv X (fun _ h => h) (va_runI F.1 (hM H.size) cw (xc_preS F X) rfl hn hls hst (lv_room hlr) hdg hroom) kk
theorem x_cJ (F : xF p m c cc nL s args Ts own D q) (X0 : xS D A s gs H locs) (hsp : gs.Perm (gc ++ gr)) {post : List va_W → Prop} (hM : xMv l y tw rm D q (.ref b :: As) gc post) {host : String} (cw : va_CN R s args own index y host bytes maxL none tw rm rm.cells rm.slots n ∧ y.name = "<init>" ∧ (Cond.instanceMethod y).before args s = true) (hn : As.length = n) (hst : st = As.reverse ++ .ref b :: rest) (hls : ls.size = nL) (hroom : cells + rm.cells ≤ R.cells ∧ slots + rm.slots ≤ R.slots) (hlr : (rest.map fun v => v.category).sum ≤ 8) (hdg : decode cc pc = .ok (.invokespecial index, 3)) (kk : ∀ (g1 : List va_W) (H1 : Heap) (locs1 : List Loc), post g1 → xS D A s (g1 ++ gr) H1 locs1 → W p l e R s m args below meth c H1 locs1 (cells + rm.cells) (slots + rm.slots) Q (F0 m (pc + 3) ls rest)) : W p l e R s m args below meth c H locs cells slots Q (F0 m pc ls st) := by
  have X := X0.perm hsp
  exact x_backv X (fun _ h => h) (va_runIN F.1 (hM H.size) cw (xc_preS F X) rfl hn hls hst (lv_room hlr) hdg hroom) kk
end XC
section XE
variable {l : Launch} {y : MethodName} {tw tw' : List Cond} {rm : Room} {D : va_G} {q : xQ} {As : List Value} {gs : List va_W} {cc : ByteArray} {maxL : Nat} {rt : FieldType}
theorem xe_start {p : Program} {e : Env} {s : State} {m : MethodId} {args : Array Value} {below : List Frame} {meth : Method} {c : Code} {s₁ : State} {ret : Option FieldType} (B : BodyLoose p l y (headSpec tw rm) cc maxL ret e s m args below meth c s₁) (hml : c.maxLocals = maxL) (hK : va_K D vwCl (xTy q) s) (hN : xN s) : xF p m c cc maxL s args tw y.cls D q :=
  ⟨⟨B.exec, B.bytes, hml, findClass_of_methodNamed B.named, atoms_spec (ws := tw) B.pre⟩, hK, hN⟩
theorem xe_world {s : State} (hP : va_P D vwCl gs.flatten s.heap) (hD : va_D (fun _ => True) gs.flatten) (hZ : xZ (va_A gs.flatten s.heap.size) s s.heap) : xS D (va_A gs.flatten s.heap.size) s gs s.heap [] := ⟨hP, hD.self, va_S.rf, fun _ h => Or.inr h, hZ⟩
theorem xMi_of {post : Int32 → List va_W → Prop} (hy : plainName y.cls = true) (hw : tw = Cond.code y cc maxL (some rt) :: tw') (hlen : (lg_sl As).length ≤ maxL) (hnar : ∀ v w, post v w → narrow rt (.int v) = .int v)
    (body : ∀ (p : Program) (e : Env) (s : State) (m : MethodId) (args : Array Value) (below : List Frame) (meth : Method) (c : Code) (A : Nat → Prop) (Z : State → Prop) (ls : Array Slot) (H : Heap) (locs : List Loc), xF p m c cc maxL s args tw y.cls D q → xS D A s gs H locs → lv_has ls maxL (lv_args 0 As) → (∀ (v : Int32) (g1 : List va_W) (H : Heap) (locs : List Loc) (pc : Nat) (ls : Array Slot), post v g1 → xS D A s g1 H locs → decode cc pc = .ok (.ireturn, 1) → W p l e rm s m args below meth c H locs rm.cells rm.slots Z (F0 m pc ls [.int v])) → W p l e rm s m args below meth c H locs 0 0 Z (F0 m 0 ls [])) : xMi l y tw rm D q As gs post := by
  intro sz
  refine Met.ofW (cc := cc) (maxL := maxL) (ret := some rt) hy hw ?_
  intro p e s m args below meth c s₁ B hml hv
  obtain ⟨rfl, hsz, hP, hK, hD, hN, hZ⟩ := hv
  subst hsz
  have hl := lv_entry As (n := maxL) hlen
  rw [lg_entry_eq]
  have hlocks := B.notSynchronized
  exact body p e s m _ below meth c _ _ _ _ _ (xe_start B hml hK hN) (xe_world hP hD hZ) hl (fun v g1 H locs pc ls hpost X hdg => W.zret B.exec B.bytes B.returns (hnar v g1 hpost) (fun t ht hW => ⟨⟨v, g1, rfl, hpost, by rw [ht]; exact X.1, X.2.1⟩, X.2.2.1.F ht⟩) X.2.2.1.2.2 hdg)
theorem xMv_of {post : List va_W → Prop} (hy : plainName y.cls = true) (hw : tw = Cond.code y cc maxL none :: tw') (hlen : (lg_sl As).length ≤ maxL)
    (body : ∀ (p : Program) (e : Env) (s : State) (m : MethodId) (args : Array Value) (below : List Frame) (meth : Method) (c : Code) (A : Nat → Prop) (Z : State → Prop) (ls : Array Slot) (H : Heap) (locs : List Loc), xF p m c cc maxL s args tw y.cls D q → meth.name = y.name → xS D A s gs H locs → lv_has ls maxL (lv_args 0 As) → (∀ (g1 : List va_W) (H : Heap) (locs : List Loc) (pc : Nat) (ls : Array Slot), post g1 → xS D A s g1 H locs → decode cc pc = .ok (.return_, 1) → W p l e rm s m args below meth c H locs rm.cells rm.slots Z (F0 m pc ls [])) → W p l e rm s m args below meth c H locs 0 0 Z (F0 m 0 ls [])) : xMv l y tw rm D q As gs post := by
  intro sz
  refine Met.ofW (cc := cc) (maxL := maxL) (ret := none) hy hw ?_
  intro p e s m args below meth c s₁ B hml hv
  obtain ⟨rfl, hsz, hP, hK, hD, hN, hZ⟩ := hv
  subst hsz
  have hl := lv_entry As (n := maxL) hlen
  rw [lg_entry_eq]
  have hlocks := B.notSynchronized
  exact body p e s m _ below meth c _ _ _ _ _ (xe_start B hml hK hN) (name_of_methodNamed B.named B.method).1 (xe_world hP hD hZ) hl (fun g1 H locs pc ls hpost X hdg => W.vret B.exec B.bytes B.returns (fun t ht hW => ⟨⟨g1, rfl, hpost, by rw [ht]; exact X.1, X.2.1⟩, X.2.2.1.F ht⟩) X.2.2.1.2.2 hdg)
theorem xMr_of {post : Nat → List va_W → Prop} (hy : plainName y.cls = true) (hw : tw = Cond.code y cc maxL (some (.array rt)) :: tw') (hlen : (lg_sl As).length ≤ maxL)
    (body : ∀ (p : Program) (e : Env) (s : State) (m : MethodId) (args : Array Value) (below : List Frame) (meth : Method) (c : Code) (A : Nat → Prop) (Z : State → Prop) (ls : Array Slot) (H : Heap) (locs : List Loc), xF p m c cc maxL s args tw y.cls D q → xS D A s gs H locs → lv_has ls maxL (lv_args 0 As) → (∀ (v : Nat) (g1 : List va_W) (H : Heap) (locs : List Loc) (pc : Nat) (ls : Array Slot), post v g1 → xS D A s g1 H locs → decode cc pc = .ok (.areturn, 1) → W p l e rm s m args below meth c H locs rm.cells rm.slots Z (F0 m pc ls [.ref v])) → W p l e rm s m args below meth c H locs 0 0 Z (F0 m 0 ls [])) : xMr l y tw rm D q As gs post := by
  intro sz
  refine Met.ofW (cc := cc) (maxL := maxL) (ret := some (.array rt)) hy hw ?_
  intro p e s m args below meth c s₁ B hml hv
  obtain ⟨rfl, hsz, hP, hK, hD, hN, hZ⟩ := hv
  subst hsz
  have hl := lv_entry As (n := maxL) hlen
  rw [lg_entry_eq]
  have hlocks := B.notSynchronized
  exact body p e s m _ below meth c _ _ _ _ _ (xe_start B hml hK hN) (xe_world hP hD hZ) hl (fun v g1 H locs pc ls hpost X hdg => W.aret B.exec B.bytes B.returns (Or.inr ⟨_, rfl⟩) (Or.inr ⟨_, rfl⟩) (fun t ht hW => ⟨⟨g1, v, rfl, trivial, hpost, by rw [ht]; exact X.1, X.2.1⟩, X.2.2.1.F ht⟩) X.2.2.1.2.2 hdg)
end XE
section XO
variable {p : Program} {l : Launch} {e : Env} {R : Room} {s : State} {m : MethodId} {args : Array Value} {below : List Frame} {meth : Method} {c : Code} {H : Heap} {locs : List Loc} {cells slots : Nat} {Q : State → Prop}
variable {cc : ByteArray} {nL : Nat} {pc : Nat} {ls : Array Slot} {rest : List Value} {D : va_G} {q : xQ} {Ts : List Cond} {own : String}
theorem x_oinit (F : xF p m c cc nL s args Ts own D q) (hls : ls.size = nL) {index a : Nat} (h1 : Cond.methodLink own index objectInit ∈ Ts) (h2 : Cond.instanceMethod objectInit ∈ Ts) (h3 : Cond.code objectInit ⟨#[0xb1]⟩ 1 none ∈ Ts) (h4 : 1 ≤ R.frames) (h5 : (rest.map fun v => v.category).sum + 12 ≤ R.locals) (hdg : decode cc pc = .ok (.invokespecial index, 3)) (kk : W p l e R s m args below meth c H locs cells slots Q (F0 m (pc + 3) ls rest)) : W p l e R s m args below meth c H locs cells slots Q (F0 m pc ls (.ref a :: rest)) := by
  obtain ⟨⟨hx, hb, hml, hown, hts⟩, hK, -⟩ := F
  refine W.objInit hx hb hown (hts _ h1) (hts _ h2) (hts _ h3) rfl (hls.trans hml.symm) rfl hdg h4 ?_ ?_
  · have e : (F0 m pc ls (.ref a :: rest)).monitorRoom = 0 := rfl
    rw [e, Nat.mul_zero, Nat.zero_add]; exact h5
  · exact kk
end XO
/-! small facts of numbers -/
theorem x_cl {f : Nat → Int32} {i : Nat} (h : i < 2 ^ 31) : f (nI i).toNatClampNeg = f i := by rw [nI_clamp h]
theorem x_dec (k : Nat) (h : 1 ≤ k) : nI k + Int32.ofInt (-1) = nI (k - 1) := by
  obtain ⟨j, rfl⟩ : ∃ j, k = j + 1 := ⟨k - 1, by omega⟩
  rw [Nat.add_sub_cancel]
  exact pk_m1 j
theorem x_toInt_lt (a b : Int32) : a < b ↔ a.toInt < b.toInt := Int32.lt_iff_toInt_lt
theorem x_toInt_le (a b : Int32) : a ≤ b ↔ a.toInt ≤ b.toInt := Int32.le_iff_toInt_le
theorem x_sw (x : Int32) (lo hi : Int) (hlo : 0 ≤ lo) : (x.toInt < lo ∨ hi < x.toInt) ∨ ∃ j : Nat, lo ≤ (j : Int) ∧ (j : Int) ≤ hi ∧ x = nI j := by
  by_cases h : x.toInt < lo ∨ hi < x.toInt
  · exact Or.inl h
  · right
    have h0 : ¬ x < 0 := by
      rw [x_toInt_lt]
      have e : (0 : Int32).toInt = 0 := by decide
      omega
    obtain ⟨j, hj, rfl⟩ := nI_of h0
    have e := nI_toInt hj
    exact ⟨j, by omega, by omega, rfl⟩
def xIx (v : Int32) (n : Nat) : Prop := ∃ k, k < n ∧ v = nI k
theorem x_ix {v : Int32} {n : Nat} (hn : n < 2 ^ 31) : (¬ v < 0 ∧ v < nI n) ↔ xIx v n := by
  constructor
  · rintro ⟨h0, h1⟩
    obtain ⟨j, hj, rfl⟩ := nI_of h0
    exact ⟨j, (nI_ltI hj hn).mp h1, rfl⟩
  · rintro ⟨k, hk, rfl⟩
    exact ⟨nI_pos (by omega), nI_lt hk hn⟩
theorem x_rng {v : Int32} {a b : Nat} (hb : b < 2 ^ 31) (ha : a < 2 ^ 31) : (nI a ≤ v ∧ v ≤ nI b) ↔ ∃ k, a ≤ k ∧ k ≤ b ∧ v = nI k := by
  constructor
  · rintro ⟨h0, h1⟩
    have h2 : ¬ v < 0 := by
      rw [x_toInt_le, nI_toInt ha] at h0
      rw [x_toInt_lt]
      have e : (0 : Int32).toInt = 0 := by decide
      omega
    obtain ⟨j, hj, rfl⟩ := nI_of h2
    exact ⟨j, (nI_leI ha hj).mp h0, (nI_leI hj hb).mp h1, rfl⟩
  · rintro ⟨k, h1, h2, rfl⟩
    exact ⟨nI_le h1 (by omega), nI_le h2 hb⟩
theorem x_swn (n lo hi : Nat) : (n < lo ∨ hi < n) ∨ (lo ≤ n ∧ n ≤ hi) := by omega
theorem x_swo {n lo hi : Nat} {lo' hi' : Int} (hn : n < 2 ^ 31) (h : n < lo ∨ hi < n) (e1 : (lo : Int) = lo') (e2 : (hi : Int) = hi') : (nI n).toInt < lo' ∨ hi' < (nI n).toInt := by
  rw [nI_toInt hn]
  omega
