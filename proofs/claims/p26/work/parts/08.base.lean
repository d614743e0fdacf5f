/-! The base: the worlds of this system, and the kit's rows in a shorter form. -/
abbrev xQ : Type := Nat → ClassId
/-- the array classes: of ints, chars, booleans, towns -/
abbrev xTy (q : xQ) : List (ClassId × FieldType) := [(q 0, .int), (q 1, .char), (q 2, .boolean), (q 3, .object "HatWinds$Town")]
/-- words of nest mates and the like, that are no words of a method's list -/
def xNs : List Cond := [.methodLinkNest RX7 18 yX0_init "HatWinds", .methodLinkNest RX7 40 yX3_init "HatWinds", .methodLinkNest RX7 50 yX4_init "HatWinds", .methodLinkNest RX0 56 yX7_quotient "HatWinds", .methodLinkNest RX2 28 yX7_copyRow "HatWinds", .methodLinkNest RX4 11 yX5_init "HatWinds", .methodLinkNest RX4 76 yX7_isWithin "HatWinds", .methodLinkNest RX5 31 yX7_copyRow "HatWinds", .methodLinkNest RX5 35 yX7_isIndexOf "HatWinds", .methodLinkNest RX6 25 yX5_init "HatWinds", .methodLinkNest RX6 32 yX2_init "HatWinds", .methodLinkNest RX6 45 yX7_copyRow "HatWinds", .fieldLinkNest RX6 9 RX7 "FIRST_SETTINGS" "[I" "HatWinds", .castable "[I" "java/lang/Cloneable"]
def xN (U : State) : Prop := ∀ w ∈ xNs, va_Nw w U
theorem xN_of {A : Array Value} {U : State} (h : ∀ w ∈ xNs, w.before A U = true) : xN U := fun w hw => va_Nw.of (by
  have h1 : xNs.all Cond.onTables = true := by decide +kernel
  exact List.all_eq_true.mp h1 w hw) (h w hw)
theorem xN.use {A : Array Value} {U : State} (h : xN U) {w : Cond} (hw : w ∈ xNs) : w.before A U = true := va_Nw.use (by
  have h1 : xNs.all Cond.onTables = true := by decide +kernel
  exact List.all_eq_true.mp h1 w hw) (h w hw)
theorem xN.warm {s U : State} (hW : s.WarmedH U.vm) (h : xN s) : xN U := by
  unfold xN xNs at h ⊢
  simp only [List.forall_mem_cons] at h ⊢
  obtain ⟨h1, h2, h3, h4, h5, h6, h7, h8, h9, h10, h11, h12, h13, h14, h15⟩ := h
  exact ⟨va_Nw.warmM hW h1, va_Nw.warmM hW h2, va_Nw.warmM hW h3, va_Nw.warmM hW h4, va_Nw.warmM hW h5, va_Nw.warmM hW h6, va_Nw.warmM hW h7, va_Nw.warmM hW h8, va_Nw.warmM hW h9, va_Nw.warmM hW h10, va_Nw.warmM hW h11, va_Nw.warmM hW h12, va_Nw.warmF hW h13, va_Nw.warmC hW h14, fun _ h => absurd h List.not_mem_nil⟩
theorem xN.same {u U : State} (hvm : u.vm = U.vm) (h : xN u) : xN U := fun w hw => va_Nw.same (by
  have h1 : xNs.all Cond.onTables = true := by decide +kernel
  exact List.all_eq_true.mp h1 w hw) hvm (h w hw)
/-- the five rows that nobody writes -/
def xZn : Nat → String | 0 => "FIRST_SETTINGS" | 1 => "LEAST_SETTINGS" | 2 => "MOST_SETTINGS" | 3 => "LEAST_OF_STREET" | _ => "MOST_OF_STREET"
def xZv : Nat → Nat → Int32
  | 0 => fun j => ([8, 20, 30, 12] : List Int32).getD j 0
  | 1 => fun j => ([1, 1, 0, 1] : List Int32).getD j 0
  | 2 => fun j => ([20, 60, 100, 30] : List Int32).getD j 0
  | 3 => fun j => ([0, 0, 0, 1] : List Int32).getD j 0
  | _ => fun j => ([5, 1, 99, 9] : List Int32).getD j 0
def xZe (t : Nat) (U : State) (H : Heap) : Prop := ∃ cell : Cell, H[t]? = some cell ∧ cell.slots.size = 4 ∧ U.vm.findClass "[I" = some cell.cls
def xZ (A : Nat → Prop) (U : State) (H : Heap) : Prop := va_AO "HatWinds$Town" U ∧ ∃ t : Nat → Nat, ∀ i, i < 5 → va_Z RX7 (xZn i) "[I" (.ref (t i)) A U H ∧ va_T .int (t i) 4 (fun j => .int (xZv i j)) A U H ∧ xZe (t i) U H
theorem xZ.moved {A : Nat → Prop} {u U : State} {H : Heap} (hvm : u.vm.Alike U.vm) (h : xZ A u H) : xZ A U H := by
  obtain ⟨h0, t, h⟩ := h
  exact ⟨va_AO.moved hvm h0, t, fun i hi => ⟨va_Z.moved hvm (h i hi).1, va_T.moved hvm (h i hi).2.1, by
    obtain ⟨cell, h1, h2, h3⟩ := (h i hi).2.2
    exact ⟨cell, h1, h2, by rw [hvm.findClass]; exact h3⟩⟩⟩
theorem xZ.kept {A : Nat → Prop} {U : State} {H H1 : Heap} (h : xZ A U H) (hq : ∀ a : Nat, a < H.size → ¬ A a → H1[a]? = H[a]?) : xZ A U H1 := by
  obtain ⟨h0, t, h⟩ := h
  exact ⟨h0, t, fun i hi => ⟨va_Z.kept (h i hi).1 hq, va_T.kept (h i hi).2.1 hq, by
    obtain ⟨cell, h1, h2, h3⟩ := (h i hi).2.2
    exact ⟨cell, by rw [hq (t i) (Array.getElem?_eq_some_iff.mp h1).1 (va_T.out (h i hi).2.1)]; exact h1, h2, h3⟩⟩⟩
theorem xZ.narrow {A B : Nat → Prop} {U : State} {H : Heap} (h : xZ A U H) (hAB : ∀ q, B q → A q) : xZ B U H := by
  obtain ⟨h0, t, h⟩ := h
  exact ⟨h0, t, fun i hi => ⟨va_Z.narrow (h i hi).1 hAB, va_T.narrow (h i hi).2.1 hAB, (h i hi).2.2⟩⟩
/-- what a method finds: its world, the tables -/
def xC (D : va_G) (q : xQ) (gs : List va_W) (U : State) : Prop := va_P D vwCl gs.flatten U.heap ∧ va_K D vwCl (xTy q) U ∧ va_D (fun _ => True) gs.flatten ∧ xN U ∧ xZ (va_A gs.flatten U.heap.size) U U.heap
abbrev xB (D : va_G) (A : Nat → Prop) : List va_W → State → Prop := fun g1 t => va_P D vwCl g1.flatten t.heap ∧ va_D A g1.flatten
abbrev xPc (D : va_G) (q : xQ) (As : List Value) (gs : List va_W) (sz : Nat) : Array Value → State → Prop := va_Pc As (fun U => U.heap.size = sz ∧ xC D q gs U)
/-- contracts: answers an int; answers nothing; answers a cell -/
def xMi (l : Launch) (y : MethodName) (tw : List Cond) (rm : Room) (D : va_G) (q : xQ) (As : List Value) (gs : List va_W) (post : Int32 → List va_W → Prop) : Prop :=
  ∀ sz, Met l y tw rm (xPc D q As gs sz) (va_Qi post (xB D (va_A gs.flatten sz)) (va_A gs.flatten sz)) rm.cells rm.slots (va_A gs.flatten sz)
def xMv (l : Launch) (y : MethodName) (tw : List Cond) (rm : Room) (D : va_G) (q : xQ) (As : List Value) (gs : List va_W) (post : List va_W → Prop) : Prop :=
  ∀ sz, Met l y tw rm (xPc D q As gs sz) (va_Qv post (xB D (va_A gs.flatten sz)) (va_A gs.flatten sz)) rm.cells rm.slots (va_A gs.flatten sz)
def xMr (l : Launch) (y : MethodName) (tw : List Cond) (rm : Room) (D : va_G) (q : xQ) (As : List Value) (gs : List va_W) (post : Nat → List va_W → Prop) : Prop :=
  ∀ sz, Met l y tw rm (xPc D q As gs sz) (va_Qr (fun _ : List va_W => True) (fun w1 a t => post a w1 ∧ xB D (va_A gs.flatten sz) w1 t) (va_A gs.flatten sz)) rm.cells rm.slots (va_A gs.flatten sz)
/-- what is fixed in a walk -/
abbrev xF (p : Program) (m : MethodId) (c : Code) (cc : ByteArray) (nL : Nat) (s : State) (args : Array Value) (Ts : List Cond) (own : String) (D : va_G) (q : xQ) : Prop :=
  CallFix p m c cc nL s args Ts own ∧ va_K D vwCl (xTy q) s ∧ xN s
/-- what moves in a walk -/
def xS (D : va_G) (A : Nat → Prop) (s : State) (gs : List va_W) (H : Heap) (locs : List Loc) : Prop := va_P D vwCl gs.flatten H ∧ va_D A gs.flatten ∧ va_S A s.heap H locs ∧ (∀ r, s.heap.size ≤ r → A r) ∧ xZ A s s.heap
theorem xb_blind {D : va_G} {q : xQ} {As : List Value} {gs : List va_W} {sz : Nat} : FrameBlind (xPc D q As gs sz) := fun a U g mk h => by
  obtain ⟨q0, q1, qP, qK, qD, qN, qZ⟩ := h
  exact ⟨q0, q1, qP, va_K.moved (u := U) (U := U.calling g mk a) (Vm.Alike.refl U.vm) qK, qD, xN.same (u := U) (U := U.calling g mk a) rfl qN, xZ.moved (u := U) (U := U.calling g mk a) (Vm.Alike.refl U.vm) qZ⟩
/-! worlds by what is in them -/
theorem xp_P {D : va_G} {cl : List vw_C} {ws : va_W} {H : Heap} : va_P D cl ws H ↔ ∀ z ∈ ws, va_at D cl z H :=
  ⟨fun h z hz => by obtain ⟨k, hk⟩ := List.getElem?_of_mem hz; exact h k z hk, fun h k z hk => h z (List.mem_of_getElem? hk)⟩
theorem xp_D {A : Nat → Prop} {ws : va_W} : va_D A ws ↔ (ws.map Prod.fst).Nodup ∧ ∀ z ∈ ws, A z.1 := by
  constructor
  · intro h
    refine ⟨?_, fun z hz => by obtain ⟨k, hk⟩ := List.getElem?_of_mem hz; exact h.2 k z hk⟩
    unfold List.Nodup
    rw [List.pairwise_iff_getElem]
    intro i j hi hj hij e
    rw [List.length_map] at hi hj
    rw [List.getElem_map, List.getElem_map] at e
    exact absurd (h.1 i j ws[i] ws[j] (List.getElem?_eq_getElem hi) (List.getElem?_eq_getElem hj) e) (Nat.ne_of_lt hij)
  · intro h
    refine ⟨fun i j a b ha hb hab => ?_, fun k z hk => h.2 z (List.mem_of_getElem? hk)⟩
    obtain ⟨hi, -⟩ := List.getElem?_eq_some_iff.mp ha
    have e : (ws.map Prod.fst)[i]? = (ws.map Prod.fst)[j]? := by rw [List.getElem?_map, List.getElem?_map, ha, hb]; exact congrArg some hab
    exact (List.getElem?_inj (by rw [List.length_map]; exact hi) h.1).mp e
theorem xp_nodup_app {l1 l2 : List Nat} (h1 : l1.Nodup) (h2 : l2.Nodup) (hx : ∀ a ∈ l1, ∀ b ∈ l2, a ≠ b) : (l1 ++ l2).Nodup := List.nodup_append.mpr ⟨h1, h2, hx⟩
theorem xS.perm {D : va_G} {A : Nat → Prop} {s : State} {gs gs' : List va_W} {H : Heap} {locs : List Loc} (hp0 : gs.Perm gs') (X : xS D A s gs H locs) : xS D A s gs' H locs := by
  have hp := hp0.flatten
  refine ⟨xp_P.mpr fun z hz => xp_P.mp X.1 z (hp.mem_iff.mpr hz), xp_D.mpr ⟨((hp.map Prod.fst).nodup_iff).mp (xp_D.mp X.2.1).1, fun z hz => (xp_D.mp X.2.1).2 z (hp.mem_iff.mpr hz)⟩, X.2.2⟩
theorem xS.left {D : va_G} {A : Nat → Prop} {s : State} {gc gr : List va_W} {H : Heap} {locs : List Loc} (X : xS D A s (gc ++ gr) H locs) : xS D A s gc H locs := by
  unfold xS at X
  rw [List.flatten_append] at X
  refine ⟨xp_P.mpr fun z hz => xp_P.mp X.1 z (List.mem_append_left _ hz), xp_D.mpr ⟨?_, fun z hz => (xp_D.mp X.2.1).2 z (List.mem_append_left _ hz)⟩, X.2.2⟩
  have h := (xp_D.mp X.2.1).1
  rw [List.map_append] at h
  exact (List.nodup_append.mp h).1
theorem xS.same {D : va_G} {A : Nat → Prop} {s : State} {gs gs' : List va_W} {H : Heap} {locs : List Loc} (h : gs.flatten = gs'.flatten) (X : xS D A s gs H locs) : xS D A s gs' H locs := by
  unfold xS at X ⊢
  rw [← h]
  exact X
/-- behind a call: what came back, beside the rest -/
theorem xS.back {D : va_G} {A : Nat → Prop} {s : State} {gc gr g1 : List va_W} {H H1 : Heap} {locs locs1 : List Loc} (X : xS D A s (gc ++ gr) H locs) (hk : ∀ r : Nat, r < H.size → ¬ va_A gc.flatten H.size r → H1[r]? = H[r]?) (hP1 : va_P D vwCl g1.flatten H1) (hD1 : va_D (va_A gc.flatten H.size) g1.flatten) (hS1 : va_S A s.heap H1 locs1) : xS D A s (g1 ++ gr) H1 locs1 := by
  unfold xS at X ⊢
  rw [List.flatten_append] at X ⊢
  have hd := xp_D.mp X.2.1
  have hn := hd.1
  rw [List.map_append] at hn
  obtain ⟨-, hn2, hx⟩ := List.nodup_append.mp hn
  have hlt : ∀ z ∈ gr.flatten, z.1 < H.size := fun z hz => va_at.lt (xp_P.mp X.1 z (List.mem_append_right _ hz))
  have hoff : ∀ z ∈ gr.flatten, ¬ va_A gc.flatten H.size z.1 := by
    intro z hz hA
    rcases hA with ⟨k, e, hk⟩ | hA
    · exact hx z.1 (List.mem_map.mpr ⟨(z.1, e), List.mem_of_getElem? hk, rfl⟩) z.1 (List.mem_map.mpr ⟨z, hz, rfl⟩) rfl
    · exact absurd (hlt z hz) (Nat.not_lt.mpr hA)
  refine ⟨xp_P.mpr fun z hz => ?_, xp_D.mpr ⟨?_, fun z hz => ?_⟩, hS1, X.2.2.2⟩
  · rcases List.mem_append.mp hz with hz | hz
    · exact xp_P.mp hP1 z hz
    · exact (xp_P.mp X.1 z (List.mem_append_right _ hz)).kept (hk z.1 (hlt z hz) (hoff z hz))
  · rw [List.map_append]
    refine xp_nodup_app (xp_D.mp hD1).1 hn2 fun a ha b hb e => ?_
    obtain ⟨za, hza, rfl⟩ := List.mem_map.mp ha
    obtain ⟨zb, hzb, rfl⟩ := List.mem_map.mp hb
    exact hoff zb hzb (e ▸ (xp_D.mp hD1).2 za hza)
  · rcases List.mem_append.mp hz with hz | hz
    · rcases (xp_D.mp hD1).2 z hz with ⟨k, e, hk⟩ | h
      · exact hd.2 (z.1, e) (List.mem_append_left _ (List.mem_of_getElem? hk))
      · exact X.2.2.2.1 _ (Nat.le_trans X.2.2.1.1 h)
    · exact hd.2 z (List.mem_append_right _ hz)
theorem xS.free {D : va_G} {A : Nat → Prop} {s : State} {gc gr : List va_W} {H : Heap} {locs : List Loc} (X : xS D A s (gc ++ gr) H locs) : ∀ r, va_A gc.flatten H.size r → A r := by
  unfold xS at X
  rw [List.flatten_append] at X
  rintro r (⟨k, e, hk⟩ | h)
  · exact (xp_D.mp X.2.1).2 (r, e) (List.mem_append_left _ (List.mem_of_getElem? hk))
  · exact X.2.2.2.1 _ (Nat.le_trans X.2.2.1.1 h)
/-- a permutation by places -/
theorem xp_all {α : Type} : ∀ ws : List α, (List.range ws.length).filterMap (fun i => ws[i]?) = ws
  | [] => rfl
  | a :: l => by
    have ih := xp_all l
    rw [List.length_cons, List.range_succ_eq_map, List.filterMap_cons, List.filterMap_map]
    simp only [List.getElem?_cons_zero]
    congr 1
theorem xp_idx {α : Type} {ws ws' : List α} (is : List Nat) {n : Nat} (h1 : is.isPerm (List.range n) = true) (hn : ws.length = n) (h2 : is.filterMap (fun i => ws[i]?) = ws') : ws.Perm ws' := by
  subst hn
  have h := (List.isPerm_iff.mp h1).filterMap (fun i => ws[i]?)
  rw [h2, xp_all] at h
  exact h.symm
/-- a block in parts, and back -/
theorem xS.expl {D : va_G} {A : Nat → Prop} {s : State} {gs gs' bs : List va_W} {b : va_W} {H : Heap} {locs : List Loc} (k : Nat) (hb : gs[k]? = some b) (h : b = bs.flatten) (hg : gs.take k ++ (bs ++ gs.drop (k + 1)) = gs') (X : xS D A s gs H locs) : xS D A s gs' H locs := by
  refine X.same ?_
  subst hg
  obtain ⟨hk, rfl⟩ := List.getElem?_eq_some_iff.mp hb
  have e : gs = gs.take k ++ (gs[k] :: gs.drop (k + 1)) := by rw [List.getElem_cons_drop, List.take_append_drop]
  conv => lhs; rw [e]
  rw [List.flatten_append, List.flatten_append, List.flatten_append, List.flatten_cons, ← h]
theorem xS.impl {D : va_G} {A : Nat → Prop} {s : State} {gs gs' bs : List va_W} {b : va_W} {H : Heap} {locs : List Loc} (k m : Nat) (hb : (gs.drop k).take m = bs) (h : bs.flatten = b) (hg : gs.take k ++ (b :: gs.drop (k + m)) = gs') (X : xS D A s gs H locs) : xS D A s gs' H locs := by
  refine X.same ?_
  subst hg; subst hb; subst h
  have e : gs = gs.take k ++ ((gs.drop k).take m ++ gs.drop (k + m)) := by rw [← List.drop_drop, List.take_append_drop, List.take_append_drop]
  conv => lhs; rw [e]
  rw [List.flatten_append, List.flatten_append, List.flatten_append, List.flatten_cons]
