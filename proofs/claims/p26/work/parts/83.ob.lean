/-! The object as the law sees it: its own cell, all other cells as one, and what they say: the town, what can be undone (how many, the rows), the pad (how long, the signs). -/
abbrev xAd : Type := (Nat → Nat) × (Nat → Nat) × (Nat → Nat → Nat) × (Nat → Nat → Nat) × (Nat → Option Nat) × (Nat → Option Nat)
abbrev xZt : Type := (Nat → Int32) × (Nat → Int32) × (Nat → Int32) × Nat × Nat
abbrev zS (z : xZt) : Nat → Int32 := z.1
abbrev zP (z : xZt) : Nat → Int32 := z.2.1
abbrev zD (z : xZt) : Nat → Int32 := z.2.2.1
abbrev zK (z : xZt) : Nat := z.2.2.2.1
abbrev zL (z : xZt) : Nat := z.2.2.2.2
/-- how many streets a town has, and off which one a street branches -/
def tN (T : Nat → Int32) : Nat := (T 5).toNatClampNeg
def tR (T : Nat → Int32) (o : Nat) : Nat := (T (33 + 5 * o + 0)).toNatClampNeg
/-- the forces in the streets -/
def tF (T : Nat → Int32) : Nat → Int32 := x_FT T (tR T) (tN T) (-6) (T 4)
theorem x_ok_pr {T : Nat → Int32} {n : Nat} {pr pr' : Nat → Nat} (h : x_ok T n pr) (e : ∀ o, 1 ≤ o → o < n → pr' o = pr o) : x_ok T n pr' := by
  obtain ⟨hn, hn1, hs5, hs33, hpr, hr⟩ := h
  exact ⟨hn, hn1, hs5, hs33, fun o h1 h2 => by rw [e o h1 h2]; exact hpr o h1 h2, hr⟩
theorem x_ok_n {T : Nat → Int32} {n : Nat} {pr : Nat → Nat} (h : x_ok T n pr) : tN T = n := by
  unfold tN
  rw [h.2.2.1]
  exact nI_clamp (by have := h.1; omega)
theorem x_ok_r {T : Nat → Int32} {n : Nat} {pr : Nat → Nat} (h : x_ok T n pr) {o : Nat} (h1 : 1 ≤ o) (h2 : o < n) : tR T o = pr o := by
  unfold tR
  rw [(h.2.2.2.2.1 o h1 h2).1]
  exact nI_clamp (by have := (h.2.2.2.2.1 o h1 h2).2; have := h.1; omega)
theorem x_ok_c {T : Nat → Int32} {n : Nat} {pr : Nat → Nat} (h : x_ok T n pr) : x_ok T (tN T) (tR T) := by
  rw [x_ok_n h]
  exact x_ok_pr h (fun o h1 h2 => x_ok_r h h1 h2)
theorem xRel.cn {n : Nat} {pr : Nat → Nat} {R : Nat → Nat → Int32} {Q V : Nat → Nat → Nat → Int32} {E : Nat → Nat → Int32} {I : Nat → Int32} {s p sl sv pd : Nat → Int32} {kn ln : Nat} (h : xRel n pr R Q V E I s p sl sv pd kn ln) : xRel (tN s) (tR s) R Q V E I s p sl sv pd kn ln := by
  obtain ⟨⟨hok, h0, h1, h2⟩, hr⟩ := h
  have e := x_ok_n hok
  exact ⟨⟨x_ok_c hok, by rw [e]; exact h0, by rw [e]; exact h1, h2⟩, hr⟩
/-- what is kept before a change -/
def zpf (kn : Nat) (p s : Nat → Int32) : Nat → Int32 := fun z => if z / 133 + 1 = min (kn + 1) 6 then s (z % 133) else p (133 * (z / 133 + (if kn = 6 then 1 else 0)) + z % 133)
theorem zpf_ok (kn : Nat) (p s : Nat → Int32) : x_push kn p s (zpf kn p s) (min (kn + 1) 6) := by
  refine ⟨rfl, fun i j hi hj => ?_⟩
  unfold zpf
  have e1 : (133 * i + j) / 133 = i := by omega
  have e2 : (133 * i + j) % 133 = j := by omega
  rw [e1, e2]
/-- a change: the town before it is kept -/
abbrev zCh (z : xZt) (s : Nat → Int32) : xZt := (s, zpf (zK z) (zP z) (zS z), zD z, min (zK z + 1) 6, zL z)
/-- a wind, hours, a street more, a text written, built, wiped, the latest change undone -/
abbrev zW (z : xZt) (f : Int32) : xZt := zCh z (upd (zS z) 4 f)
abbrev zPass (z : xZt) (h : Nat) : xZt := zCh z (x_hrs (zS z) (x_hb (zS z) (tR (zS z)) (tN (zS z)) (zS z 4)) (x_wh (zS z) (tR (zS z)) (tN (zS z))) h)
abbrev zAdd (z : xZt) (k w : Nat) : xZt := zCh z (x_addS (zS z) (tN (zS z)) (nI k) (nI w))
abbrev zTx (z : xZt) : List Nat := x_tx (zS z) (tR (zS z)) (tN (zS z))
abbrev zWr (z : xZt) : xZt := (z.1, z.2.1, fun j => nI ((zTx z).getD j 0), z.2.2.2.1, (zTx z).length)
abbrev zBd (z : xZt) (to : Nat → Int32) (mn : Nat) : xZt := (x_bld (zS z) to mn, zpf (zK z) (zP z) (zS z), zD z, min (zK z + 1) 6, 0)
abbrev zWp (z : xZt) : xZt := (z.1, z.2.1, z.2.2.1, z.2.2.2.1, 0)
abbrev zUn (z : xZt) : xZt := (x_pt (zS z) (fun j => zP z (133 * (zK z - 1) + j)) 0 133, zP z, zD z, zK z - 1, zL z)
/-- the wind is one that can be -/
def xW (z : xZt) : Prop := ∃ f, f ≤ 200 ∧ zS z 4 = nI f
theorem xW.rg {z : xZt} (h : xW z) : 0 ≤ zS z 4 ∧ zS z 4 ≤ 200 := by
  obtain ⟨f, h1, h2⟩ := h
  exact (x_rng (a := 0) (b := 200) (by omega) (by omega)).mpr ⟨f, by omega, h1, h2⟩
theorem xW.of {z z2 : xZt} (h : xW z) (e : zS z2 4 = zS z 4) : xW z2 := by
  obtain ⟨f, h1, h2⟩ := h
  exact ⟨f, h1, e.trans h2⟩
theorem tN_eq {s t : Nat → Int32} (h : s 5 = t 5) : tN s = tN t := by
  unfold tN
  rw [h]
abbrev xoA (q : xQ) (A : xAd) : va_W := xoW q (A.1 0) (A.2.1 0) (A.1 1) (A.1 2) (A.1 3) (A.1 4) (A.1 5) (A.1 6) (A.1 7)
abbrev xoC (q : xQ) (A : xAd) (R : Nat → Nat → Int32) (Q V : Nat → Nat → Nat → Int32) (E : Nat → Nat → Int32) (I : Nat → Int32) : List va_W := cW q A.1 A.2.1 A.2.2.1 A.2.2.2.1 A.2.2.2.2.1 A.2.2.2.2.2 R Q V E I
def xOb (q : xQ) (A : xAd) (z : xZt) (ob : va_W) : Prop :=
  (∀ i, i < 6 → A.2.2.2.2.1 i = some (A.2.2.1 i 0)) ∧ (∀ i, i < 2 → A.2.2.2.2.2 i = some (A.2.2.2.1 i 0)) ∧ ∃ (R : Nat → Nat → Int32) (Q V : Nat → Nat → Nat → Int32) (E : Nat → Nat → Int32) (I : Nat → Int32) (sl sv : Nat → Int32), xoA q A ++ ob = (xoC q A R Q V E I).flatten ∧ xRel (tN (zS z)) (tR (zS z)) R Q V E I (zS z) (zP z) sl sv (zD z) (zK z) (zL z)
theorem xOb.ok {q : xQ} {A : xAd} {z : xZt} {ob : va_W} (h : xOb q A z ob) : x_ok (zS z) (tN (zS z)) (tR (zS z)) := by
  obtain ⟨-, -, R, Q, V, E, I, sl, sv, -, hR⟩ := h
  exact hR.1.1
theorem xOb.k6 {q : xQ} {A : xAd} {z : xZt} {ob : va_W} (h : xOb q A z ob) : zK z ≤ 6 := by
  obtain ⟨-, -, R, Q, V, E, I, sl, sv, -, hR⟩ := h
  exact hR.kn6
theorem xOb.l80 {q : xQ} {A : xAd} {z : xZt} {ob : va_W} (h : xOb q A z ob) : zL z ≤ 80 := by
  obtain ⟨-, -, R, Q, V, E, I, sl, sv, -, hR⟩ := h
  exact hR.ln80
theorem xOb.mpd {q : xQ} {A : xAd} {z : xZt} {ob : va_W} (h : xOb q A z ob) : ∀ j, j < zL z → zD z j = nI ((zD z j).toNatClampNeg) ∧ (zD z j).toNatClampNeg < 65536 := by
  obtain ⟨-, -, R, Q, V, E, I, sl, sv, -, hR⟩ := h
  exact hR.2.2.2.1.2.mpd
/-- a contract of the class's, over the object as the law sees it -/
theorem xG {l : Launch} {y : MethodName} {tw : List Cond} {rm : Room} {D : va_G} {q : xQ} {As : List Value} {A : xAd} {z : xZt} {ob : va_W} (z2 : xZt) (P : Int32 → Prop) (hob : xOb q A z ob)
    (h : ∀ (R : Nat → Nat → Int32) (Q V : Nat → Nat → Nat → Int32) (E : Nat → Nat → Int32) (I : Nat → Int32) (sl sv : Nat → Int32), (∀ i, i < 6 → A.2.2.2.2.1 i = some (A.2.2.1 i 0)) → (∀ i, i < 2 → A.2.2.2.2.2 i = some (A.2.2.2.1 i 0)) → xRel (tN (zS z)) (tR (zS z)) R Q V E I (zS z) (zP z) sl sv (zD z) (zK z) (zL z) →
      ∃ post, xMi l y tw rm D q As (xoC q A R Q V E I) post ∧ ∀ r gw, post r gw → ∃ (R2 : Nat → Nat → Int32) (Q2 V2 : Nat → Nat → Nat → Int32) (E2 : Nat → Nat → Int32) (I2 : Nat → Int32), gw = xoC q A R2 Q2 V2 E2 I2 ∧ P r ∧ ∃ n2 pr2, xRel n2 pr2 R2 Q2 V2 E2 I2 (zS z2) (zP z2) sl sv (zD z2) (zK z2) (zL z2)) :
    xMi l y tw rm D q As [xoA q A, ob] (fun r gw => ∃ (ob2 : va_W), gw = [xoA q A, ob2] ∧ P r ∧ xOb q A z2 ob2) := by
  obtain ⟨had, hsd, R, Q, V, E, I, sl, sv, hfl, hR⟩ := hob
  obtain ⟨post, hM, hp⟩ := h R Q V E I sl sv had hsd hR
  refine xMi.fr (gr := []) hM ?_ (fun r g1 h1 => ?_)
  · rw [List.append_nil, ← hfl]
    show (xoA q A ++ (ob ++ [])).Perm (xoA q A ++ ob)
    rw [List.append_nil]
  · obtain ⟨R2, Q2, V2, E2, I2, rfl, hP, n2, pr2, hR2⟩ := hp r g1 h1
    have e : xoA q A ++ ((xoC q A R2 Q2 V2 E2 I2).flatten.tail) = (xoC q A R2 Q2 V2 E2 I2).flatten := rfl
    refine ⟨[xoA q A, (xoC q A R2 Q2 V2 E2 I2).flatten.tail], ?_, _, rfl, hP, had, hsd, R2, Q2, V2, E2, I2, sl, sv, e, hR2.cn⟩
    rw [List.append_nil]
    show (xoC q A R2 Q2 V2 E2 I2).flatten.Perm (xoA q A ++ ((xoC q A R2 Q2 V2 E2 I2).flatten.tail ++ []))
    rw [List.append_nil, e]
/-- a contract with more that is found at the start -/
def xMiE (l : Launch) (y : MethodName) (tw : List Cond) (rm : Room) (D : va_G) (q : xQ) (As : List Value) (gs : List va_W) (E : State → Prop) (post : Int32 → List va_W → Prop) : Prop :=
  ∀ sz, Met l y tw rm (fun a U => xPc D q As gs sz a U ∧ E U) (va_Qi post (xB D (va_A gs.flatten sz)) (va_A gs.flatten sz)) rm.cells rm.slots (va_A gs.flatten sz)
/-- the script, beside the world -/
def xScr (b L : Nat) (xs : Nat → Int32) (U : State) : Prop := va_X b L xs U U.heap ∧ b < U.heap.size
section
variable {l : Launch} {y : MethodName} {tw tw' : List Cond} {rm : Room} {D : va_G} {q : xQ} {As : List Value} {gs gc gr : List va_W} {cc : ByteArray} {maxL : Nat} {rt : FieldType}
theorem xMiE_of {E : State → Prop} {post : Int32 → List va_W → Prop} (hy : plainName y.cls = true) (hw : tw = Cond.code y cc maxL (some rt) :: tw') (hlen : (lg_sl As).length ≤ maxL) (hnar : ∀ v w, post v w → narrow rt (.int v) = .int v)
    (body : ∀ (p : Program) (e : Env) (s : State) (m : MethodId) (args : Array Value) (below : List Frame) (meth : Method) (c : Code) (A : Nat → Prop) (Z : State → Prop) (ls : Array Slot) (H : Heap) (locs : List Loc), (∀ a, A a → va_A gs.flatten s.heap.size a) → E s → xF p m c cc maxL s args tw y.cls D q → xS D A s gs H locs → lv_has ls maxL (lv_args 0 As) → (∀ (v : Int32) (g1 : List va_W) (H : Heap) (locs : List Loc) (pc : Nat) (ls : Array Slot), post v g1 → xS D A s g1 H locs → decode cc pc = .ok (.ireturn, 1) → W p l e rm s m args below meth c H locs rm.cells rm.slots Z (F0 m pc ls [.int v])) → W p l e rm s m args below meth c H locs 0 0 Z (F0 m 0 ls [])) : xMiE l y tw rm D q As gs E post := by
  intro sz
  refine Met.ofW (cc := cc) (maxL := maxL) (ret := some rt) hy hw ?_
  intro p e s m args below meth c s₁ B hml hv
  obtain ⟨⟨rfl, hsz, hP, hK, hD, hN, hZ⟩, hE⟩ := hv
  subst hsz
  have hl := lv_entry As (n := maxL) hlen
  rw [lg_entry_eq]
  have hlocks := B.notSynchronized
  exact body p e s m _ below meth c _ _ _ _ _ (fun a h => h) hE (xe_start B hml hK hN) (xe_world hP hD hZ) hl (fun v g1 H locs pc ls hpost X hdg => W.zret B.exec B.bytes B.returns (hnar v g1 hpost) (fun t ht hW => ⟨⟨v, g1, rfl, hpost, by rw [ht]; exact X.1, X.2.1⟩, X.2.2.1.F ht⟩) X.2.2.1.2.2 hdg)
end
section
variable {p : Program} {l : Launch} {e : Env} {R : Room} {s : State} {m : MethodId} {args : Array Value} {below : List Frame} {meth : Method} {c : Code} {H : Heap} {locs : List Loc} {cells slots : Nat} {Q : State → Prop}
variable {cc : ByteArray} {nL : Nat} {pc : Nat} {ls : Array Slot} {rest : List Value} {D : va_G} {q : xQ} {A : Nat → Prop} {gs gs' gc gr : List va_W} {Ts : List Cond} {own : String}
variable {y : MethodName} {tw : List Cond} {rm : Room} {As : List Value} {st : List Value} {index n maxL : Nat} {bytes : ByteArray} {ret : Option FieldType}
theorem x_cSiE {b L : Nat} {xs : Nat → Int32} (hX : va_X b L xs s s.heap) (hbl : b < s.heap.size) (hbA : ¬ A b) (F : xF p m c cc nL s args Ts own D q) (X0 : xS D A s gs H locs) (hsp : gs.Perm (gc ++ gr)) {post : Int32 → List va_W → Prop} (hM : xMiE l y tw rm D q As gc (xScr b L xs) post) (cw : CallB R s args own index y bytes maxL ret tw rm rm.cells rm.slots n ∧ (Cond.static y).before args s = true) (hn : As.length = n) (hst : st = As.reverse ++ rest) (hls : ls.size = nL) (hroom : cells + rm.cells ≤ R.cells ∧ slots + rm.slots ≤ R.slots) (hlr : (rest.map fun v => v.category).sum ≤ 8) (hdg : decode cc pc = .ok (.invokestatic index, 3)) (kk : ∀ (r : Int32) (g1 : List va_W) (H1 : Heap) (locs1 : List Loc), post r g1 → xS D A s (g1 ++ gr) H1 locs1 → W p l e R s m args below meth c H1 locs1 (cells + rm.cells) (slots + rm.slots) Q (F0 m (pc + 3) ls (.int r :: rest))) : W p l e R s m args below meth c H locs cells slots Q (F0 m pc ls st) := by
  have X := X0.perm hsp
  have hP : PreS s H (fun a U => xPc D q As gc H.size a U ∧ xScr b L xs U) As := by
    refine ⟨fun a U g mk h => ⟨xb_blind a U g mk h.1, va_X.moved (u := U) (U := U.calling g mk a) (Vm.Alike.refl U.vm) h.2.1, h.2.2⟩, fun U hU hW => ⟨xc_pre F X U hU hW, ?_⟩⟩
    have hk : H[b]? = s.heap[b]? := X.2.2.1.2.1 b hbl hbA
    refine ⟨?_, ?_⟩
    · rw [hU]
      exact va_X.moved hW.alike (va_X.kept hX hk)
    · rw [hU]
      exact Nat.lt_of_lt_of_le hbl X.2.2.1.1
  exact x_backi X (fun _ h => h) (va_runS F.1 (hM H.size) cw hP rfl hn hls hst (lv_room hlr) hdg hroom) kk
end
