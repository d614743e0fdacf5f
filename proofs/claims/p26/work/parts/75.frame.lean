/-! A contract in a larger world. -/
theorem xS.permF {D : va_G} {A : Nat → Prop} {s : State} {gs gs' : List va_W} {H : Heap} {locs : List Loc} (hp : gs.flatten.Perm gs'.flatten) (X : xS D A s gs H locs) : xS D A s gs' H locs :=
  ⟨xp_P.mpr fun z hz => xp_P.mp X.1 z (hp.mem_iff.mpr hz), xp_D.mpr ⟨((hp.map Prod.fst).nodup_iff).mp (xp_D.mp X.2.1).1, fun z hz => (xp_D.mp X.2.1).2 z (hp.mem_iff.mpr hz)⟩, X.2.2⟩
theorem xMi.fr {l : Launch} {y : MethodName} {tw : List Cond} {rm : Room} {D : va_G} {q : xQ} {As : List Value} {gs gc gr : List va_W} {post post' : Int32 → List va_W → Prop} (h : xMi l y tw rm D q As gc post) (hp : gs.flatten.Perm (gc ++ gr).flatten) (hq : ∀ r g1, post r g1 → ∃ g2, (g1 ++ gr).flatten.Perm g2.flatten ∧ post' r g2) : xMi l y tw rm D q As gs post' := by
  intro sz
  refine Jvm.Free.MetFree.mono (h sz) (fun a U hv => ?_) (fun _ _ _ _ _ h => h) (fun a U oc t hv hq0 => ?_)
  · obtain ⟨e, hsz, hP, hK, hD, hN, hZ⟩ := hv
    have X := (xe_world hP hD hZ).permF hp
    exact ⟨e, hsz, X.left.1, hK, X.left.2.1.weaken (fun _ _ _ _ => trivial), hN, hZ.narrow X.free⟩
  · obtain ⟨e, hsz, hP, hK, hD, hN, hZ⟩ := hv
    subst hsz
    have X := (xe_world hP hD hZ).permF hp
    obtain ⟨⟨⟨r, g1, ho, hpost, hP1, hD1⟩, hF⟩, L, hL1, hL2⟩ := hq0
    obtain ⟨g2, hperm, hp2⟩ := hq r g1 hpost
    have X3 := (X.back (locs1 := []) hF.2 hP1 hD1 ⟨hF.1, fun a h1 h2 => hF.2 a h1 (fun z => h2 (X.free a z)), fun _ h => by cases h⟩).permF hperm
    exact ⟨⟨⟨r, g2, ho, hp2, X3.1, X3.2.1⟩, hF.1, fun a h1 h2 => hF.2 a h1 (fun z => h2 (X.free a z))⟩, L, hL1, fun a ha => X.free _ (hL2 a ha)⟩
/-! The class's whole world. -/
abbrev rgW (q : xQ) (aa : Nat → Nat → Nat) (Q : Nat → Nat → Nat → Int32) : List va_W := [tG q (aa 0) (Q 0), tG q (aa 1) (Q 1), tG q (aa 2) (Q 2), tG q (aa 3) (Q 3), tG q (aa 4) (Q 4), tG q (aa 5) (Q 5)]
def rgX (q : xQ) (aa : Nat → Nat → Nat) (Q : Nat → Nat → Nat → Int32) : Nat → List va_W
  | 0 => [tG q (aa 1) (Q 1), tG q (aa 2) (Q 2), tG q (aa 3) (Q 3), tG q (aa 4) (Q 4), tG q (aa 5) (Q 5)]
  | 1 => [tG q (aa 0) (Q 0), tG q (aa 2) (Q 2), tG q (aa 3) (Q 3), tG q (aa 4) (Q 4), tG q (aa 5) (Q 5)]
  | 2 => [tG q (aa 0) (Q 0), tG q (aa 1) (Q 1), tG q (aa 3) (Q 3), tG q (aa 4) (Q 4), tG q (aa 5) (Q 5)]
  | 3 => [tG q (aa 0) (Q 0), tG q (aa 1) (Q 1), tG q (aa 2) (Q 2), tG q (aa 4) (Q 4), tG q (aa 5) (Q 5)]
  | 4 => [tG q (aa 0) (Q 0), tG q (aa 1) (Q 1), tG q (aa 2) (Q 2), tG q (aa 3) (Q 3), tG q (aa 5) (Q 5)]
  | _ => [tG q (aa 0) (Q 0), tG q (aa 1) (Q 1), tG q (aa 2) (Q 2), tG q (aa 3) (Q 3), tG q (aa 4) (Q 4)]
theorem rgX_up (q : xQ) (aa : Nat → Nat → Nat) (Q : Nat → Nat → Nat → Int32) (Z : Nat → Nat → Int32) {z : Nat} (hz : z < 6) : rgX q aa (x_uq Q z Z) z = rgX q aa Q z := by
  rcases (show z = 0 ∨ z = 1 ∨ z = 2 ∨ z = 3 ∨ z = 4 ∨ z = 5 by omega) with rfl | rfl | rfl | rfl | rfl | rfl <;> rfl
theorem rg_perm (q : xQ) (aa : Nat → Nat → Nat) (Q : Nat → Nat → Nat → Int32) {z : Nat} (hz : z < 6) : (rgW q aa Q).Perm (tG q (aa z) (Q z) :: rgX q aa Q z) := by
  rcases (show z = 0 ∨ z = 1 ∨ z = 2 ∨ z = 3 ∨ z = 4 ∨ z = 5 by omega) with rfl | rfl | rfl | rfl | rfl | rfl
  · exact xp_idx (n := 6) [0, 1, 2, 3, 4, 5] (by decide +kernel) rfl rfl
  · exact xp_idx (n := 6) [1, 0, 2, 3, 4, 5] (by decide +kernel) rfl rfl
  · exact xp_idx (n := 6) [2, 0, 1, 3, 4, 5] (by decide +kernel) rfl rfl
  · exact xp_idx (n := 6) [3, 0, 1, 2, 4, 5] (by decide +kernel) rfl rfl
  · exact xp_idx (n := 6) [4, 0, 1, 2, 3, 5] (by decide +kernel) rfl rfl
  · exact xp_idx (n := 6) [5, 0, 1, 2, 3, 4] (by decide +kernel) rfl rfl
/-- the class's cells: c the addresses, E the rows, I the numbers -/
abbrev cW (q : xQ) (c ta : Nat → Nat) (aa tb : Nat → Nat → Nat) (ad sd : Nat → Option Nat) (R : Nat → Nat → Int32) (Q V : Nat → Nat → Nat → Int32) (E : Nat → Nat → Int32) (I : Nat → Int32) : List va_W :=
  [xoW q (c 0) (ta 0) (c 1) (c 2) (c 3) (c 4) (c 5) (c 6) (c 7), hiW q (c 2) (c 11) ad (I 0) (I 1), tG q ta R, aW q (c 1) (c 8) (c 9) (c 10) (E 0) (E 1) (E 2), slW q (c 3) sd, fiW q (c 4) (E 3), pW q (c 5) (c 12) (E 4) (I 2) (I 3), pW q (c 6) (c 13) (E 5) (I 4) (I 5), rdW q (c 7) (c 14) (I 6) (I 7), sW q (c 14) (c 15) (c 16) (c 17) (c 18) (c 19) (E 6) (E 7) (E 8) (E 9) (E 10) (I 8), tG q (tb 0) (V 0), tG q (tb 1) (V 1)] ++ rgW q aa Q
/-- the same, with a town of the ring, Z, at the second place but one -/
abbrev cZ (q : xQ) (c ta : Nat → Nat) (aa tb : Nat → Nat → Nat) (ad sd : Nat → Option Nat) (R : Nat → Nat → Int32) (Q V : Nat → Nat → Nat → Int32) (E : Nat → Nat → Int32) (I : Nat → Int32) (z : Nat) (Z : Nat → Nat → Int32) : List va_W :=
  [xoW q (c 0) (ta 0) (c 1) (c 2) (c 3) (c 4) (c 5) (c 6) (c 7), hiW q (c 2) (c 11) ad (I 0) (I 1), tG q (aa z) Z, tG q ta R, aW q (c 1) (c 8) (c 9) (c 10) (E 0) (E 1) (E 2), slW q (c 3) sd, fiW q (c 4) (E 3), pW q (c 5) (c 12) (E 4) (I 2) (I 3), pW q (c 6) (c 13) (E 5) (I 4) (I 5), rdW q (c 7) (c 14) (I 6) (I 7), sW q (c 14) (c 15) (c 16) (c 17) (c 18) (c 19) (E 6) (E 7) (E 8) (E 9) (E 10) (I 8), tG q (tb 0) (V 0), tG q (tb 1) (V 1)] ++ rgX q aa Q z
section
variable (q : xQ) (c ta : Nat → Nat) (aa tb : Nat → Nat → Nat) (ad sd : Nat → Option Nat) (R : Nat → Nat → Int32) (Q V : Nat → Nat → Nat → Int32) (E : Nat → Nat → Int32) (I : Nat → Int32)
theorem cW_ring {z : Nat} (hz : z < 6) : (cW q c ta aa tb ad sd R Q V E I).flatten.Perm (cZ q c ta aa tb ad sd R Q V E I z (Q z)).flatten := by
  refine List.Perm.flatten (List.Perm.trans (List.Perm.append_left _ (rg_perm q aa Q hz)) ?_)
  exact (List.perm_middle (l₁ := [xoW q (c 0) (ta 0) (c 1) (c 2) (c 3) (c 4) (c 5) (c 6) (c 7), hiW q (c 2) (c 11) ad (I 0) (I 1), tG q ta R, aW q (c 1) (c 8) (c 9) (c 10) (E 0) (E 1) (E 2), slW q (c 3) sd, fiW q (c 4) (E 3), pW q (c 5) (c 12) (E 4) (I 2) (I 3), pW q (c 6) (c 13) (E 5) (I 4) (I 5), rdW q (c 7) (c 14) (I 6) (I 7), sW q (c 14) (c 15) (c 16) (c 17) (c 18) (c 19) (E 6) (E 7) (E 8) (E 9) (E 10) (I 8), tG q (tb 0) (V 0), tG q (tb 1) (V 1)])).trans (List.perm_middle (l₁ := [xoW q (c 0) (ta 0) (c 1) (c 2) (c 3) (c 4) (c 5) (c 6) (c 7), hiW q (c 2) (c 11) ad (I 0) (I 1)])).symm
theorem cW_back {z : Nat} (hz : z < 6) (Z : Nat → Nat → Int32) : (cZ q c ta aa tb ad sd R Q V E I z Z).flatten.Perm (cW q c ta aa tb ad sd R (x_uq Q z Z) V E I).flatten := by
  have h := (cW_ring q c ta aa tb ad sd R (x_uq Q z Z) V E I hz).symm
  unfold cZ at h
  rw [rgX_up q aa Q Z hz, x_uq_s] at h
  exact h
end
