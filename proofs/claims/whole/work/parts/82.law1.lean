/-! The law. -/
/-- the two worlds, and that they say the same -/
def xInv (q : xQ) (ca ta : Nat → Nat) (aa tb : Nat → Nat → Nat) (ad sd : Nat → Option Nat) (mb : Nat → Nat) (gs : List va_W) : Prop :=
  ∃ (R : Nat → Nat → Int32) (Q V : Nat → Nat → Nat → Int32) (E : Nat → Nat → Int32) (I : Nat → Int32) (ms mp msl msv mpd mfo mto mou : Nat → Int32) (kn ln : Nat) (mmn mla mop mwr : Int32) (n : Nat) (pr : Nat → Nat), gs = cW q ca ta aa tb ad sd R Q V E I ++ [mW q (mb 0) (mb 1) (mb 2) (mb 3) (mb 4) (mb 5) (mb 6) (mb 7) (mb 8) ms mp msl msv mpd mfo mto mou (nI kn) (nI ln) mmn mla mop mwr] ∧ xRel n pr R Q V E I ms mp msl msv mpd kn ln
theorem lw_sl {p : Program} {l : Launch} {e : Env} {R : Room} {s : State} {m : MethodId} {args : Array Value} {below : List Frame} {meth : Method} {c : Code} {H : Heap} {locs : List Loc} {cells slots : Nat} {Q : State → Prop} {cc : ByteArray} {nL : Nat} {pc : Nat} {ls : Array Slot} {rest : List Value} {D : va_G} {q : xQ} {gs : List va_W} {Ts : List Cond} {own : String} (F : xF p m c cc nL s args Ts own D q) (X : xS D (fun r : Nat => s.heap.size ≤ r) s gs H locs) {b L : Nat} {xs : Nat → Int32} (hX : va_X b L xs s s.heap) (hbl : b < s.heap.size) (hL : L ≤ 2048) {i : Nat} (hi : i < L) (hdg : decode cc pc = .ok (.iaload, 1)) (kk : W p l e R s m args below meth c H locs cells slots Q (F0 m (pc + 1) ls (.int (xs i) :: rest))) : W p l e R s m args below meth c H locs cells slots Q (F0 m pc ls (.int (nI i) :: .ref b :: rest)) := by
  refine va_sld F.1.1 F.1.2.1 hX hbl (Nat.not_le.mpr hbl) X.2.2.1 (vp_in_nI (by omega) (by omega)) hdg ?_
  rw [nI_clamp (by omega)]
  exact kk
set_option maxHeartbeats 1000000 in
set_option maxRecDepth 100000 in
theorem lw_c0 {p9 : Program} {l : Launch} {e9 : Env} {s9 : State} {m9 : MethodId} {below : List Frame} {meth : Method} {c9 : Code} {Z9 : State → Prop} {b L : Nat} {xs : Nat → Int32} {D : va_G} {q : xQ} {ca ta mb : Nat → Nat} {aa tb : Nat → Nat → Nat} {ad sd : Nat → Option Nat} (hL : L ≤ 2048) (hX : va_X b L xs s9 s9.heap) (hbl : b < s9.heap.size) (F : xF p9 m9 c9 cL_law 4 s9 #[Value.ref b] wsL_law RL D q) (had : ∀ i, i < 6 → ad i = some (aa i 0)) (hsd : ∀ i, i < 2 → sd i = some (tb i 0)) {gs : List va_W} {H : Heap} {locs : List Loc} {ls : Array Slot} {i : Nat} (hi : i + 4 ≤ L) (hinv : xInv q ca ta aa tb ad sd mb gs) (X : xS D (fun r : Nat => s9.heap.size ≤ r) s9 gs H locs) (hl : lv_has ls 4 [(3, .int (nI i)), (0, .ref b), (1, .ref (ca 0)), (2, .ref (mb 0))]) (K : ∀ (gs : List va_W) (H : Heap) (locs : List Loc) (ls : Array Slot), xInv q ca ta aa tb ad sd mb gs → xS D (fun r : Nat => s9.heap.size ≤ r) s9 gs H locs → lv_has ls 4 [(3, .int (nI i)), (0, .ref b), (1, .ref (ca 0)), (2, .ref (mb 0))] → W p9 l e9 room_1 s9 m9 #[Value.ref b] below meth c9 H locs 600000 7302250 Z9 (F0 m9 729 ls [])) : W p9 l e9 room_1 s9 m9 #[Value.ref b] below meth c9 H locs 600000 7302250 Z9 (F0 m9 140 ls []) := by
  have hx := F.1.1
  have hb := F.1.2.1
  obtain ⟨R, Q, V, E, I, ms, mp, msl, msv, mpd, mfo, mto, mou, kn, ln, mmn, mla, mop, mwr, n, pr, rfl, hR⟩ := hinv
  have hok := hR.1.1
  have hk6 := hR.kn6
  have hln := hR.ln80
  refine lv_aload_n hx hb dL_law_140 rfl (lv_at hl 2 rfl) ?_
  refine lv_aload_n hx hb dL_law_141 rfl (lv_at hl 1 rfl) ?_
  refine lv_iload_n hx hb dL_law_142 rfl (lv_at hl 0 rfl) ?_
  refine lv_iconst (v := 1) hx hb dL_law_143 (by decide) ?_
  refine lv_iadd hx hb dL_law_144 ?_
  refine x_i (y := (nI (i + 1))) (nI_add i 1) ?_
  refine lw_sl F X hX hbl hL (i := (i + 1)) (by omega) dL_law_145 ?_
  refine lv_aload_n hx hb dL_law_146 rfl (lv_at hl 1 rfl) ?_
  refine lv_iload_n hx hb dL_law_147 rfl (lv_at hl 0 rfl) ?_
  refine lv_iconst (v := 2) hx hb dL_law_148 (by decide) ?_
  refine lv_iadd hx hb dL_law_149 ?_
  refine x_i (y := (nI (i + 2))) (nI_add i 2) ?_
  refine lw_sl F X hX hbl hL (i := (i + 2)) (by omega) dL_law_150 ?_
  refine x_cVi F X (gc := cW q ca ta aa tb ad sd R Q V E I) (gr := [mW q (mb 0) (mb 1) (mb 2) (mb 3) (mb 4) (mb 5) (mb 6) (mb 7) (mb 8) ms mp msl msv mpd mfo mto mou (nI kn) (nI ln) mmn mla mop mwr]) (List.Perm.refl _) (c_F_set l D q ca ta aa tb ad sd R Q V E I ms mp msl msv mpd kn ln n pr had hsd hR (xs (i + 1)) (xs (i + 2))) (cwV 2 F.1.2.2.2.2 gL_law_X7_set rfl rfl rfl (by decide +kernel) ⟨Nat.le_of_ble_eq_true rfl, Nat.le_of_ble_eq_true rfl⟩) rfl rfl (r0 := 0) (ci := 7) (T := TX7) (N := 8) rfl rfl hl.1 ⟨Nat.le_of_ble_eq_true rfl, Nat.le_of_ble_eq_true rfl⟩ (Nat.le_of_ble_eq_true rfl) dL_law_151 (fun r g1 H locs hp X => ?_)
  obtain ⟨R2, Q2, V2, E2, I2, rfl, hc⟩ := hp
  have X := X.perm (gs' := [mW q (mb 0) (mb 1) (mb 2) (mb 3) (mb 4) (mb 5) (mb 6) (mb 7) (mb 8) ms mp msl msv mpd mfo mto mou (nI kn) (nI ln) mmn mla mop mwr] ++ cW q ca ta aa tb ad sd R2 Q2 V2 E2 I2) List.perm_append_comm
  refine lv_aload_n hx hb dL_law_154 rfl (lv_at hl 3 rfl) ?_
  refine lv_aload_n hx hb dL_law_155 rfl (lv_at hl 1 rfl) ?_
  refine lv_iload_n hx hb dL_law_156 rfl (lv_at hl 0 rfl) ?_
  refine lv_iconst (v := 1) hx hb dL_law_157 (by decide) ?_
  refine lv_iadd hx hb dL_law_158 ?_
  refine x_i (y := (nI (i + 1))) (nI_add i 1) ?_
  refine lw_sl F X hX hbl hL (i := (i + 1)) (by omega) dL_law_159 ?_
  refine lv_aload_n hx hb dL_law_160 rfl (lv_at hl 1 rfl) ?_
  refine lv_iload_n hx hb dL_law_161 rfl (lv_at hl 0 rfl) ?_
  refine lv_iconst (v := 2) hx hb dL_law_162 (by decide) ?_
  refine lv_iadd hx hb dL_law_163 ?_
  refine x_i (y := (nI (i + 2))) (nI_add i 2) ?_
  refine lw_sl F X hX hbl hL (i := (i + 2)) (by omega) dL_law_164 ?_
  refine x_cVi F X (gc := [mW q (mb 0) (mb 1) (mb 2) (mb 3) (mb 4) (mb 5) (mb 6) (mb 7) (mb 8) ms mp msl msv mpd mfo mto mou (nI kn) (nI ln) mmn mla mop mwr]) (gr := cW q ca ta aa tb ad sd R2 Q2 V2 E2 I2) (List.Perm.refl _) (c_X8_set l D q (mb 0) (mb 1) (mb 2) (mb 3) (mb 4) (mb 5) (mb 6) (mb 7) (mb 8) ms mp msl msv mpd mfo mto mou kn (nI ln) mmn mla mop mwr (xs (i + 1)) (xs (i + 2)) (by first | assumption | omega)) (cwV 2 F.1.2.2.2.2 gL_law_X8_set rfl rfl rfl (by decide +kernel) ⟨Nat.le_of_ble_eq_true rfl, Nat.le_of_ble_eq_true rfl⟩) rfl rfl (r0 := 0) (ci := 8) (T := TX8) (N := 14) rfl rfl hl.1 ⟨Nat.le_of_ble_eq_true rfl, Nat.le_of_ble_eq_true rfl⟩ (Nat.le_of_ble_eq_true rfl) dL_law_165 (fun r2 g1 H locs hp X => ?_)
  obtain ⟨s2, p2, kn2, rfl, hm⟩ := hp
  obtain ⟨rfl, n2, pr2, hR2⟩ := hc r2 s2 p2 kn2 hm
  have X := X.perm (gs' := cW q ca ta aa tb ad sd R2 Q2 V2 E2 I2 ++ [mW q (mb 0) (mb 1) (mb 2) (mb 3) (mb 4) (mb 5) (mb 6) (mb 7) (mb 8) s2 p2 msl msv mpd mfo mto mou (nI kn2) (nI ln) mmn mla mop mwr]) List.perm_append_comm
  refine lv_icmp_eq (tgt := 729) hx hb dL_law_168 (by decide) (fun _ => ?_) (fun h => absurd rfl h)
  exact K _ _ _ _ ⟨R2, Q2, V2, E2, I2, s2, p2, msl, msv, mpd, mfo, mto, mou, kn2, ln, mmn, mla, mop, mwr, n2, pr2, rfl, hR2⟩ X (lv_sub hl [0, 1, 2, 3] rfl)
set_option maxHeartbeats 1000000 in
set_option maxRecDepth 100000 in
theorem lw_c1 {p9 : Program} {l : Launch} {e9 : Env} {s9 : State} {m9 : MethodId} {below : List Frame} {meth : Method} {c9 : Code} {Z9 : State → Prop} {b L : Nat} {xs : Nat → Int32} {D : va_G} {q : xQ} {ca ta mb : Nat → Nat} {aa tb : Nat → Nat → Nat} {ad sd : Nat → Option Nat} (hL : L ≤ 2048) (hX : va_X b L xs s9 s9.heap) (hbl : b < s9.heap.size) (F : xF p9 m9 c9 cL_law 4 s9 #[Value.ref b] wsL_law RL D q) (had : ∀ i, i < 6 → ad i = some (aa i 0)) (hsd : ∀ i, i < 2 → sd i = some (tb i 0)) {gs : List va_W} {H : Heap} {locs : List Loc} {ls : Array Slot} {i : Nat} (hi : i + 4 ≤ L) (hinv : xInv q ca ta aa tb ad sd mb gs) (X : xS D (fun r : Nat => s9.heap.size ≤ r) s9 gs H locs) (hl : lv_has ls 4 [(3, .int (nI i)), (0, .ref b), (1, .ref (ca 0)), (2, .ref (mb 0))]) (K : ∀ (gs : List va_W) (H : Heap) (locs : List Loc) (ls : Array Slot), xInv q ca ta aa tb ad sd mb gs → xS D (fun r : Nat => s9.heap.size ≤ r) s9 gs H locs → lv_has ls 4 [(3, .int (nI i)), (0, .ref b), (1, .ref (ca 0)), (2, .ref (mb 0))] → W p9 l e9 room_1 s9 m9 #[Value.ref b] below meth c9 H locs 600000 7302250 Z9 (F0 m9 729 ls [])) : W p9 l e9 room_1 s9 m9 #[Value.ref b] below meth c9 H locs 600000 7302250 Z9 (F0 m9 173 ls []) := by
  have hx := F.1.1
  have hb := F.1.2.1
  obtain ⟨R, Q, V, E, I, ms, mp, msl, msv, mpd, mfo, mto, mou, kn, ln, mmn, mla, mop, mwr, n, pr, rfl, hR⟩ := hinv
  have hok := hR.1.1
  have hk6 := hR.kn6
  have hln := hR.ln80
  refine lv_aload_n hx hb dL_law_173 rfl (lv_at hl 2 rfl) ?_
  refine x_cVi F X (gc := cW q ca ta aa tb ad sd R Q V E I) (gr := [mW q (mb 0) (mb 1) (mb 2) (mb 3) (mb 4) (mb 5) (mb 6) (mb 7) (mb 8) ms mp msl msv mpd mfo mto mou (nI kn) (nI ln) mmn mla mop mwr]) (List.Perm.refl _) (c_F_build l D q ca ta aa tb ad sd R Q V E I ms mp msl msv mpd kn ln n pr had hsd hR mto) (cwV 0 F.1.2.2.2.2 gL_law_X7_build rfl rfl rfl (by decide +kernel) ⟨Nat.le_of_ble_eq_true rfl, Nat.le_of_ble_eq_true rfl⟩) rfl rfl (r0 := 0) (ci := 7) (T := TX7) (N := 8) rfl rfl hl.1 ⟨Nat.le_of_ble_eq_true rfl, Nat.le_of_ble_eq_true rfl⟩ (Nat.le_of_ble_eq_true rfl) dL_law_174 (fun r g1 H locs hp X => ?_)
  obtain ⟨R2, Q2, V2, E2, I2, rfl, hc⟩ := hp
  have X := X.perm (gs' := [mW q (mb 0) (mb 1) (mb 2) (mb 3) (mb 4) (mb 5) (mb 6) (mb 7) (mb 8) ms mp msl msv mpd mfo mto mou (nI kn) (nI ln) mmn mla mop mwr] ++ cW q ca ta aa tb ad sd R2 Q2 V2 E2 I2) List.perm_append_comm
  refine lv_aload_n hx hb dL_law_177 rfl (lv_at hl 3 rfl) ?_
  refine x_cVi F X (gc := [mW q (mb 0) (mb 1) (mb 2) (mb 3) (mb 4) (mb 5) (mb 6) (mb 7) (mb 8) ms mp msl msv mpd mfo mto mou (nI kn) (nI ln) mmn mla mop mwr]) (gr := cW q ca ta aa tb ad sd R2 Q2 V2 E2 I2) (List.Perm.refl _) (c_X8_build l D q (mb 0) (mb 1) (mb 2) (mb 3) (mb 4) (mb 5) (mb 6) (mb 7) (mb 8) ms mp msl msv mpd mfo mto mou kn ln mmn mla mop mwr (fun j => (mpd j).toNatClampNeg) (by first | assumption | omega) hR.2.2.2.1.2.mpd (by first | assumption | omega)) (cwV 0 F.1.2.2.2.2 gL_law_X8_build rfl rfl rfl (by decide +kernel) ⟨Nat.le_of_ble_eq_true rfl, Nat.le_of_ble_eq_true rfl⟩) rfl rfl (r0 := 0) (ci := 8) (T := TX8) (N := 14) rfl rfl hl.1 ⟨Nat.le_of_ble_eq_true rfl, Nat.le_of_ble_eq_true rfl⟩ (Nat.le_of_ble_eq_true rfl) dL_law_178 (fun r2 g1 H locs hp X => ?_)
  obtain ⟨mn2, la2, op2, to2, s2, p2, kn2, ln2, rfl, hm⟩ := hp
  obtain ⟨rfl, n2, pr2, hR2⟩ := hc r2 mn2 la2 op2 to2 s2 p2 kn2 ln2 hm
  have X := X.perm (gs' := cW q ca ta aa tb ad sd R2 Q2 V2 E2 I2 ++ [mW q (mb 0) (mb 1) (mb 2) (mb 3) (mb 4) (mb 5) (mb 6) (mb 7) (mb 8) s2 p2 msl msv mpd mfo to2 mou (nI kn2) (nI ln2) (nI mn2) (nI la2) op2 mwr]) List.perm_append_comm
  refine lv_icmp_eq (tgt := 729) hx hb dL_law_181 (by decide) (fun _ => ?_) (fun h => absurd rfl h)
  exact K _ _ _ _ ⟨R2, Q2, V2, E2, I2, s2, p2, msl, msv, mpd, mfo, to2, mou, kn2, ln2, (nI mn2), (nI la2), op2, mwr, n2, pr2, rfl, hR2⟩ X (lv_sub hl [0, 1, 2, 3] rfl)
set_option maxHeartbeats 1000000 in
set_option maxRecDepth 100000 in
theorem lw_c2 {p9 : Program} {l : Launch} {e9 : Env} {s9 : State} {m9 : MethodId} {below : List Frame} {meth : Method} {c9 : Code} {Z9 : State → Prop} {b L : Nat} {xs : Nat → Int32} {D : va_G} {q : xQ} {ca ta mb : Nat → Nat} {aa tb : Nat → Nat → Nat} {ad sd : Nat → Option Nat} (hL : L ≤ 2048) (hX : va_X b L xs s9 s9.heap) (hbl : b < s9.heap.size) (F : xF p9 m9 c9 cL_law 4 s9 #[Value.ref b] wsL_law RL D q) (had : ∀ i, i < 6 → ad i = some (aa i 0)) (hsd : ∀ i, i < 2 → sd i = some (tb i 0)) {gs : List va_W} {H : Heap} {locs : List Loc} {ls : Array Slot} {i : Nat} (hi : i + 4 ≤ L) (hinv : xInv q ca ta aa tb ad sd mb gs) (X : xS D (fun r : Nat => s9.heap.size ≤ r) s9 gs H locs) (hl : lv_has ls 4 [(3, .int (nI i)), (0, .ref b), (1, .ref (ca 0)), (2, .ref (mb 0))]) (K : ∀ (gs : List va_W) (H : Heap) (locs : List Loc) (ls : Array Slot), xInv q ca ta aa tb ad sd mb gs → xS D (fun r : Nat => s9.heap.size ≤ r) s9 gs H locs → lv_has ls 4 [(3, .int (nI i)), (0, .ref b), (1, .ref (ca 0)), (2, .ref (mb 0))] → W p9 l e9 room_1 s9 m9 #[Value.ref b] below meth c9 H locs 600000 7302250 Z9 (F0 m9 729 ls [])) : W p9 l e9 room_1 s9 m9 #[Value.ref b] below meth c9 H locs 600000 7302250 Z9 (F0 m9 186 ls []) := by
  have hx := F.1.1
  have hb := F.1.2.1
  obtain ⟨R, Q, V, E, I, ms, mp, msl, msv, mpd, mfo, mto, mou, kn, ln, mmn, mla, mop, mwr, n, pr, rfl, hR⟩ := hinv
  have hok := hR.1.1
  have hk6 := hR.kn6
  have hln := hR.ln80
  refine lv_aload_n hx hb dL_law_186 rfl (lv_at hl 2 rfl) ?_
  refine lv_aload_n hx hb dL_law_187 rfl (lv_at hl 1 rfl) ?_
  refine lv_iload_n hx hb dL_law_188 rfl (lv_at hl 0 rfl) ?_
  refine lv_iconst (v := 1) hx hb dL_law_189 (by decide) ?_
  refine lv_iadd hx hb dL_law_190 ?_
  refine x_i (y := (nI (i + 1))) (nI_add i 1) ?_
  refine lw_sl F X hX hbl hL (i := (i + 1)) (by omega) dL_law_191 ?_
  refine lv_aload_n hx hb dL_law_192 rfl (lv_at hl 1 rfl) ?_
  refine lv_iload_n hx hb dL_law_193 rfl (lv_at hl 0 rfl) ?_
  refine lv_iconst (v := 2) hx hb dL_law_194 (by decide) ?_
  refine lv_iadd hx hb dL_law_195 ?_
  refine x_i (y := (nI (i + 2))) (nI_add i 2) ?_
  refine lw_sl F X hX hbl hL (i := (i + 2)) (by omega) dL_law_196 ?_
  refine x_cVi F X (gc := cW q ca ta aa tb ad sd R Q V E I) (gr := [mW q (mb 0) (mb 1) (mb 2) (mb 3) (mb 4) (mb 5) (mb 6) (mb 7) (mb 8) ms mp msl msv mpd mfo mto mou (nI kn) (nI ln) mmn mla mop mwr]) (List.Perm.refl _) (c_F_street l D q ca ta aa tb ad sd R Q V E I ms mp msl msv mpd kn ln n pr had hsd hR (xs (i + 1)) (xs (i + 2))) (cwV 2 F.1.2.2.2.2 gL_law_X7_street rfl rfl rfl (by decide +kernel) ⟨Nat.le_of_ble_eq_true rfl, Nat.le_of_ble_eq_true rfl⟩) rfl rfl (r0 := 0) (ci := 7) (T := TX7) (N := 8) rfl rfl hl.1 ⟨Nat.le_of_ble_eq_true rfl, Nat.le_of_ble_eq_true rfl⟩ (Nat.le_of_ble_eq_true rfl) dL_law_197 (fun r g1 H locs hp X => ?_)
  obtain ⟨R2, Q2, V2, E2, I2, rfl, hc⟩ := hp
  have X := X.perm (gs' := [mW q (mb 0) (mb 1) (mb 2) (mb 3) (mb 4) (mb 5) (mb 6) (mb 7) (mb 8) ms mp msl msv mpd mfo mto mou (nI kn) (nI ln) mmn mla mop mwr] ++ cW q ca ta aa tb ad sd R2 Q2 V2 E2 I2) List.perm_append_comm
  refine lv_aload_n hx hb dL_law_200 rfl (lv_at hl 3 rfl) ?_
  refine lv_aload_n hx hb dL_law_201 rfl (lv_at hl 1 rfl) ?_
  refine lv_iload_n hx hb dL_law_202 rfl (lv_at hl 0 rfl) ?_
  refine lv_iconst (v := 1) hx hb dL_law_203 (by decide) ?_
  refine lv_iadd hx hb dL_law_204 ?_
  refine x_i (y := (nI (i + 1))) (nI_add i 1) ?_
  refine lw_sl F X hX hbl hL (i := (i + 1)) (by omega) dL_law_205 ?_
  refine lv_aload_n hx hb dL_law_206 rfl (lv_at hl 1 rfl) ?_
  refine lv_iload_n hx hb dL_law_207 rfl (lv_at hl 0 rfl) ?_
  refine lv_iconst (v := 2) hx hb dL_law_208 (by decide) ?_
  refine lv_iadd hx hb dL_law_209 ?_
  refine x_i (y := (nI (i + 2))) (nI_add i 2) ?_
  refine lw_sl F X hX hbl hL (i := (i + 2)) (by omega) dL_law_210 ?_
  refine x_cVi F X (gc := [mW q (mb 0) (mb 1) (mb 2) (mb 3) (mb 4) (mb 5) (mb 6) (mb 7) (mb 8) ms mp msl msv mpd mfo mto mou (nI kn) (nI ln) mmn mla mop mwr]) (gr := cW q ca ta aa tb ad sd R2 Q2 V2 E2 I2) (List.Perm.refl _) (c_X8_street l D q (mb 0) (mb 1) (mb 2) (mb 3) (mb 4) (mb 5) (mb 6) (mb 7) (mb 8) ms mp msl msv mpd mfo mto mou kn (nI ln) mmn mla mop mwr n pr (xs (i + 1)) (xs (i + 2)) (by first | assumption | omega) (by first | assumption | omega)) (cwV 2 F.1.2.2.2.2 gL_law_X8_street rfl rfl rfl (by decide +kernel) ⟨Nat.le_of_ble_eq_true rfl, Nat.le_of_ble_eq_true rfl⟩) rfl rfl (r0 := 0) (ci := 8) (T := TX8) (N := 14) rfl rfl hl.1 ⟨Nat.le_of_ble_eq_true rfl, Nat.le_of_ble_eq_true rfl⟩ (Nat.le_of_ble_eq_true rfl) dL_law_211 (fun r2 g1 H locs hp X => ?_)
  obtain ⟨s2, p2, kn2, rfl, hm⟩ := hp
  obtain ⟨rfl, n2, pr2, hR2⟩ := hc r2 s2 p2 kn2 hm
  have X := X.perm (gs' := cW q ca ta aa tb ad sd R2 Q2 V2 E2 I2 ++ [mW q (mb 0) (mb 1) (mb 2) (mb 3) (mb 4) (mb 5) (mb 6) (mb 7) (mb 8) s2 p2 msl msv mpd mfo mto mou (nI kn2) (nI ln) mmn mla mop mwr]) List.perm_append_comm
  refine lv_icmp_eq (tgt := 729) hx hb dL_law_214 (by decide) (fun _ => ?_) (fun h => absurd rfl h)
  exact K _ _ _ _ ⟨R2, Q2, V2, E2, I2, s2, p2, msl, msv, mpd, mfo, mto, mou, kn2, ln, mmn, mla, mop, mwr, n2, pr2, rfl, hR2⟩ X (lv_sub hl [0, 1, 2, 3] rfl)
set_option maxHeartbeats 1000000 in
set_option maxRecDepth 100000 in
theorem lw_c3 {p9 : Program} {l : Launch} {e9 : Env} {s9 : State} {m9 : MethodId} {below : List Frame} {meth : Method} {c9 : Code} {Z9 : State → Prop} {b L : Nat} {xs : Nat → Int32} {D : va_G} {q : xQ} {ca ta mb : Nat → Nat} {aa tb : Nat → Nat → Nat} {ad sd : Nat → Option Nat} (hL : L ≤ 2048) (hX : va_X b L xs s9 s9.heap) (hbl : b < s9.heap.size) (F : xF p9 m9 c9 cL_law 4 s9 #[Value.ref b] wsL_law RL D q) (had : ∀ i, i < 6 → ad i = some (aa i 0)) (hsd : ∀ i, i < 2 → sd i = some (tb i 0)) {gs : List va_W} {H : Heap} {locs : List Loc} {ls : Array Slot} {i : Nat} (hi : i + 4 ≤ L) (hinv : xInv q ca ta aa tb ad sd mb gs) (X : xS D (fun r : Nat => s9.heap.size ≤ r) s9 gs H locs) (hl : lv_has ls 4 [(3, .int (nI i)), (0, .ref b), (1, .ref (ca 0)), (2, .ref (mb 0))]) (K : ∀ (gs : List va_W) (H : Heap) (locs : List Loc) (ls : Array Slot), xInv q ca ta aa tb ad sd mb gs → xS D (fun r : Nat => s9.heap.size ≤ r) s9 gs H locs → lv_has ls 4 [(3, .int (nI i)), (0, .ref b), (1, .ref (ca 0)), (2, .ref (mb 0))] → W p9 l e9 room_1 s9 m9 #[Value.ref b] below meth c9 H locs 600000 7302250 Z9 (F0 m9 729 ls [])) : W p9 l e9 room_1 s9 m9 #[Value.ref b] below meth c9 H locs 600000 7302250 Z9 (F0 m9 219 ls []) := by
  have hx := F.1.1
  have hb := F.1.2.1
  obtain ⟨R, Q, V, E, I, ms, mp, msl, msv, mpd, mfo, mto, mou, kn, ln, mmn, mla, mop, mwr, n, pr, rfl, hR⟩ := hinv
  have hok := hR.1.1
  have hk6 := hR.kn6
  have hln := hR.ln80
  refine lv_aload_n hx hb dL_law_219 rfl (lv_at hl 2 rfl) ?_
  refine lv_aload_n hx hb dL_law_220 rfl (lv_at hl 1 rfl) ?_
  refine lv_iload_n hx hb dL_law_221 rfl (lv_at hl 0 rfl) ?_
  refine lv_iconst (v := 1) hx hb dL_law_222 (by decide) ?_
  refine lv_iadd hx hb dL_law_223 ?_
  refine x_i (y := (nI (i + 1))) (nI_add i 1) ?_
  refine lw_sl F X hX hbl hL (i := (i + 1)) (by omega) dL_law_224 ?_
  refine lv_aload_n hx hb dL_law_225 rfl (lv_at hl 1 rfl) ?_
  refine lv_iload_n hx hb dL_law_226 rfl (lv_at hl 0 rfl) ?_
  refine lv_iconst (v := 2) hx hb dL_law_227 (by decide) ?_
  refine lv_iadd hx hb dL_law_228 ?_
  refine x_i (y := (nI (i + 2))) (nI_add i 2) ?_
  refine lw_sl F X hX hbl hL (i := (i + 2)) (by omega) dL_law_229 ?_
  refine lv_aload_n hx hb dL_law_230 rfl (lv_at hl 1 rfl) ?_
  refine lv_iload_n hx hb dL_law_231 rfl (lv_at hl 0 rfl) ?_
  refine lv_iconst (v := 3) hx hb dL_law_232 (by decide) ?_
  refine lv_iadd hx hb dL_law_233 ?_
  refine x_i (y := (nI (i + 3))) (nI_add i 3) ?_
  refine lw_sl F X hX hbl hL (i := (i + 3)) (by omega) dL_law_234 ?_
  refine x_cVi F X (gc := cW q ca ta aa tb ad sd R Q V E I) (gr := [mW q (mb 0) (mb 1) (mb 2) (mb 3) (mb 4) (mb 5) (mb 6) (mb 7) (mb 8) ms mp msl msv mpd mfo mto mou (nI kn) (nI ln) mmn mla mop mwr]) (List.Perm.refl _) (c_F_change l D q ca ta aa tb ad sd R Q V E I ms mp msl msv mpd kn ln n pr had hsd hR (xs (i + 1)) (xs (i + 2)) (xs (i + 3))) (cwV 3 F.1.2.2.2.2 gL_law_X7_change rfl rfl rfl (by decide +kernel) ⟨Nat.le_of_ble_eq_true rfl, Nat.le_of_ble_eq_true rfl⟩) rfl rfl (r0 := 0) (ci := 7) (T := TX7) (N := 8) rfl rfl hl.1 ⟨Nat.le_of_ble_eq_true rfl, Nat.le_of_ble_eq_true rfl⟩ (Nat.le_of_ble_eq_true rfl) dL_law_235 (fun r g1 H locs hp X => ?_)
  obtain ⟨R2, Q2, V2, E2, I2, rfl, hc⟩ := hp
  have X := X.perm (gs' := [mW q (mb 0) (mb 1) (mb 2) (mb 3) (mb 4) (mb 5) (mb 6) (mb 7) (mb 8) ms mp msl msv mpd mfo mto mou (nI kn) (nI ln) mmn mla mop mwr] ++ cW q ca ta aa tb ad sd R2 Q2 V2 E2 I2) List.perm_append_comm
  refine lv_aload_n hx hb dL_law_238 rfl (lv_at hl 3 rfl) ?_
  refine lv_aload_n hx hb dL_law_239 rfl (lv_at hl 1 rfl) ?_
  refine lv_iload_n hx hb dL_law_240 rfl (lv_at hl 0 rfl) ?_
  refine lv_iconst (v := 1) hx hb dL_law_241 (by decide) ?_
  refine lv_iadd hx hb dL_law_242 ?_
  refine x_i (y := (nI (i + 1))) (nI_add i 1) ?_
  refine lw_sl F X hX hbl hL (i := (i + 1)) (by omega) dL_law_243 ?_
  refine lv_aload_n hx hb dL_law_244 rfl (lv_at hl 1 rfl) ?_
  refine lv_iload_n hx hb dL_law_245 rfl (lv_at hl 0 rfl) ?_
  refine lv_iconst (v := 2) hx hb dL_law_246 (by decide) ?_
  refine lv_iadd hx hb dL_law_247 ?_
  refine x_i (y := (nI (i + 2))) (nI_add i 2) ?_
  refine lw_sl F X hX hbl hL (i := (i + 2)) (by omega) dL_law_248 ?_
  refine lv_aload_n hx hb dL_law_249 rfl (lv_at hl 1 rfl) ?_
  refine lv_iload_n hx hb dL_law_250 rfl (lv_at hl 0 rfl) ?_
  refine lv_iconst (v := 3) hx hb dL_law_251 (by decide) ?_
  refine lv_iadd hx hb dL_law_252 ?_
  refine x_i (y := (nI (i + 3))) (nI_add i 3) ?_
  refine lw_sl F X hX hbl hL (i := (i + 3)) (by omega) dL_law_253 ?_
  refine x_cVi F X (gc := [mW q (mb 0) (mb 1) (mb 2) (mb 3) (mb 4) (mb 5) (mb 6) (mb 7) (mb 8) ms mp msl msv mpd mfo mto mou (nI kn) (nI ln) mmn mla mop mwr]) (gr := cW q ca ta aa tb ad sd R2 Q2 V2 E2 I2) (List.Perm.refl _) (c_X8_change l D q (mb 0) (mb 1) (mb 2) (mb 3) (mb 4) (mb 5) (mb 6) (mb 7) (mb 8) ms mp msl msv mpd mfo mto mou kn (nI ln) mmn mla mop mwr n (xs (i + 1)) (xs (i + 2)) (xs (i + 3)) hok.2.2.1 hok.1 hok.2.1 (by first | assumption | omega)) (cwV 3 F.1.2.2.2.2 gL_law_X8_change rfl rfl rfl (by decide +kernel) ⟨Nat.le_of_ble_eq_true rfl, Nat.le_of_ble_eq_true rfl⟩) rfl rfl (r0 := 0) (ci := 8) (T := TX8) (N := 14) rfl rfl hl.1 ⟨Nat.le_of_ble_eq_true rfl, Nat.le_of_ble_eq_true rfl⟩ (Nat.le_of_ble_eq_true rfl) dL_law_254 (fun r2 g1 H locs hp X => ?_)
  obtain ⟨s2, p2, kn2, rfl, hm⟩ := hp
  obtain ⟨rfl, n2, pr2, hR2⟩ := hc r2 s2 p2 kn2 hm
  have X := X.perm (gs' := cW q ca ta aa tb ad sd R2 Q2 V2 E2 I2 ++ [mW q (mb 0) (mb 1) (mb 2) (mb 3) (mb 4) (mb 5) (mb 6) (mb 7) (mb 8) s2 p2 msl msv mpd mfo mto mou (nI kn2) (nI ln) mmn mla mop mwr]) List.perm_append_comm
  refine lv_icmp_eq (tgt := 729) hx hb dL_law_257 (by decide) (fun _ => ?_) (fun h => absurd rfl h)
  exact K _ _ _ _ ⟨R2, Q2, V2, E2, I2, s2, p2, msl, msv, mpd, mfo, mto, mou, kn2, ln, mmn, mla, mop, mwr, n2, pr2, rfl, hR2⟩ X (lv_sub hl [0, 1, 2, 3] rfl)
set_option maxHeartbeats 1000000 in
set_option maxRecDepth 100000 in
theorem lw_c4 {p9 : Program} {l : Launch} {e9 : Env} {s9 : State} {m9 : MethodId} {below : List Frame} {meth : Method} {c9 : Code} {Z9 : State → Prop} {b L : Nat} {xs : Nat → Int32} {D : va_G} {q : xQ} {ca ta mb : Nat → Nat} {aa tb : Nat → Nat → Nat} {ad sd : Nat → Option Nat} (hL : L ≤ 2048) (hX : va_X b L xs s9 s9.heap) (hbl : b < s9.heap.size) (F : xF p9 m9 c9 cL_law 4 s9 #[Value.ref b] wsL_law RL D q) (had : ∀ i, i < 6 → ad i = some (aa i 0)) (hsd : ∀ i, i < 2 → sd i = some (tb i 0)) {gs : List va_W} {H : Heap} {locs : List Loc} {ls : Array Slot} {i : Nat} (hi : i + 4 ≤ L) (hinv : xInv q ca ta aa tb ad sd mb gs) (X : xS D (fun r : Nat => s9.heap.size ≤ r) s9 gs H locs) (hl : lv_has ls 4 [(3, .int (nI i)), (0, .ref b), (1, .ref (ca 0)), (2, .ref (mb 0))]) (K : ∀ (gs : List va_W) (H : Heap) (locs : List Loc) (ls : Array Slot), xInv q ca ta aa tb ad sd mb gs → xS D (fun r : Nat => s9.heap.size ≤ r) s9 gs H locs → lv_has ls 4 [(3, .int (nI i)), (0, .ref b), (1, .ref (ca 0)), (2, .ref (mb 0))] → W p9 l e9 room_1 s9 m9 #[Value.ref b] below meth c9 H locs 600000 7302250 Z9 (F0 m9 729 ls [])) : W p9 l e9 room_1 s9 m9 #[Value.ref b] below meth c9 H locs 600000 7302250 Z9 (F0 m9 262 ls []) := by
  have hx := F.1.1
  have hb := F.1.2.1
  obtain ⟨R, Q, V, E, I, ms, mp, msl, msv, mpd, mfo, mto, mou, kn, ln, mmn, mla, mop, mwr, n, pr, rfl, hR⟩ := hinv
  have hok := hR.1.1
  have hk6 := hR.kn6
  have hln := hR.ln80
  refine lv_aload_n hx hb dL_law_262 rfl (lv_at hl 2 rfl) ?_
  refine lv_aload_n hx hb dL_law_263 rfl (lv_at hl 1 rfl) ?_
  refine lv_iload_n hx hb dL_law_264 rfl (lv_at hl 0 rfl) ?_
  refine lv_iconst (v := 1) hx hb dL_law_265 (by decide) ?_
  refine lv_iadd hx hb dL_law_266 ?_
  refine x_i (y := (nI (i + 1))) (nI_add i 1) ?_
  refine lw_sl F X hX hbl hL (i := (i + 1)) (by omega) dL_law_267 ?_
  refine x_cVi F X (gc := cW q ca ta aa tb ad sd R Q V E I) (gr := [mW q (mb 0) (mb 1) (mb 2) (mb 3) (mb 4) (mb 5) (mb 6) (mb 7) (mb 8) ms mp msl msv mpd mfo mto mou (nI kn) (nI ln) mmn mla mop mwr]) (List.Perm.refl _) (c_F_wind l D q ca ta aa tb ad sd R Q V E I ms mp msl msv mpd kn ln n pr had hsd hR (xs (i + 1))) (cwV 1 F.1.2.2.2.2 gL_law_X7_wind rfl rfl rfl (by decide +kernel) ⟨Nat.le_of_ble_eq_true rfl, Nat.le_of_ble_eq_true rfl⟩) rfl rfl (r0 := 0) (ci := 7) (T := TX7) (N := 8) rfl rfl hl.1 ⟨Nat.le_of_ble_eq_true rfl, Nat.le_of_ble_eq_true rfl⟩ (Nat.le_of_ble_eq_true rfl) dL_law_268 (fun r g1 H locs hp X => ?_)
  obtain ⟨R2, Q2, V2, E2, I2, rfl, hc⟩ := hp
  have X := X.perm (gs' := [mW q (mb 0) (mb 1) (mb 2) (mb 3) (mb 4) (mb 5) (mb 6) (mb 7) (mb 8) ms mp msl msv mpd mfo mto mou (nI kn) (nI ln) mmn mla mop mwr] ++ cW q ca ta aa tb ad sd R2 Q2 V2 E2 I2) List.perm_append_comm
  refine lv_aload_n hx hb dL_law_271 rfl (lv_at hl 3 rfl) ?_
  refine lv_aload_n hx hb dL_law_272 rfl (lv_at hl 1 rfl) ?_
  refine lv_iload_n hx hb dL_law_273 rfl (lv_at hl 0 rfl) ?_
  refine lv_iconst (v := 1) hx hb dL_law_274 (by decide) ?_
  refine lv_iadd hx hb dL_law_275 ?_
  refine x_i (y := (nI (i + 1))) (nI_add i 1) ?_
  refine lw_sl F X hX hbl hL (i := (i + 1)) (by omega) dL_law_276 ?_
  refine x_cVi F X (gc := [mW q (mb 0) (mb 1) (mb 2) (mb 3) (mb 4) (mb 5) (mb 6) (mb 7) (mb 8) ms mp msl msv mpd mfo mto mou (nI kn) (nI ln) mmn mla mop mwr]) (gr := cW q ca ta aa tb ad sd R2 Q2 V2 E2 I2) (List.Perm.refl _) (c_X8_wind l D q (mb 0) (mb 1) (mb 2) (mb 3) (mb 4) (mb 5) (mb 6) (mb 7) (mb 8) ms mp msl msv mpd mfo mto mou kn (nI ln) mmn mla mop mwr (xs (i + 1)) (by first | assumption | omega)) (cwV 1 F.1.2.2.2.2 gL_law_X8_wind rfl rfl rfl (by decide +kernel) ⟨Nat.le_of_ble_eq_true rfl, Nat.le_of_ble_eq_true rfl⟩) rfl rfl (r0 := 0) (ci := 8) (T := TX8) (N := 14) rfl rfl hl.1 ⟨Nat.le_of_ble_eq_true rfl, Nat.le_of_ble_eq_true rfl⟩ (Nat.le_of_ble_eq_true rfl) dL_law_277 (fun r2 g1 H locs hp X => ?_)
  obtain ⟨s2, p2, kn2, rfl, hm⟩ := hp
  obtain ⟨rfl, n2, pr2, hR2⟩ := hc r2 s2 p2 kn2 hm
  have X := X.perm (gs' := cW q ca ta aa tb ad sd R2 Q2 V2 E2 I2 ++ [mW q (mb 0) (mb 1) (mb 2) (mb 3) (mb 4) (mb 5) (mb 6) (mb 7) (mb 8) s2 p2 msl msv mpd mfo mto mou (nI kn2) (nI ln) mmn mla mop mwr]) List.perm_append_comm
  refine lv_icmp_eq (tgt := 729) hx hb dL_law_280 (by decide) (fun _ => ?_) (fun h => absurd rfl h)
  exact K _ _ _ _ ⟨R2, Q2, V2, E2, I2, s2, p2, msl, msv, mpd, mfo, mto, mou, kn2, ln, mmn, mla, mop, mwr, n2, pr2, rfl, hR2⟩ X (lv_sub hl [0, 1, 2, 3] rfl)
set_option maxHeartbeats 1000000 in
set_option maxRecDepth 100000 in
theorem lw_c5 {p9 : Program} {l : Launch} {e9 : Env} {s9 : State} {m9 : MethodId} {below : List Frame} {meth : Method} {c9 : Code} {Z9 : State → Prop} {b L : Nat} {xs : Nat → Int32} {D : va_G} {q : xQ} {ca ta mb : Nat → Nat} {aa tb : Nat → Nat → Nat} {ad sd : Nat → Option Nat} (hL : L ≤ 2048) (hX : va_X b L xs s9 s9.heap) (hbl : b < s9.heap.size) (F : xF p9 m9 c9 cL_law 4 s9 #[Value.ref b] wsL_law RL D q) (had : ∀ i, i < 6 → ad i = some (aa i 0)) (hsd : ∀ i, i < 2 → sd i = some (tb i 0)) {gs : List va_W} {H : Heap} {locs : List Loc} {ls : Array Slot} {i : Nat} (hi : i + 4 ≤ L) (hinv : xInv q ca ta aa tb ad sd mb gs) (X : xS D (fun r : Nat => s9.heap.size ≤ r) s9 gs H locs) (hl : lv_has ls 4 [(3, .int (nI i)), (0, .ref b), (1, .ref (ca 0)), (2, .ref (mb 0))]) (K : ∀ (gs : List va_W) (H : Heap) (locs : List Loc) (ls : Array Slot), xInv q ca ta aa tb ad sd mb gs → xS D (fun r : Nat => s9.heap.size ≤ r) s9 gs H locs → lv_has ls 4 [(3, .int (nI i)), (0, .ref b), (1, .ref (ca 0)), (2, .ref (mb 0))] → W p9 l e9 room_1 s9 m9 #[Value.ref b] below meth c9 H locs 600000 7302250 Z9 (F0 m9 729 ls [])) : W p9 l e9 room_1 s9 m9 #[Value.ref b] below meth c9 H locs 600000 7302250 Z9 (F0 m9 285 ls []) := by
  have hx := F.1.1
  have hb := F.1.2.1
  obtain ⟨R, Q, V, E, I, ms, mp, msl, msv, mpd, mfo, mto, mou, kn, ln, mmn, mla, mop, mwr, n, pr, rfl, hR⟩ := hinv
  have hok := hR.1.1
  have hk6 := hR.kn6
  have hln := hR.ln80
  refine lv_aload_n hx hb dL_law_285 rfl (lv_at hl 2 rfl) ?_
  refine lv_aload_n hx hb dL_law_286 rfl (lv_at hl 1 rfl) ?_
  refine lv_iload_n hx hb dL_law_287 rfl (lv_at hl 0 rfl) ?_
  refine lv_iconst (v := 1) hx hb dL_law_288 (by decide) ?_
  refine lv_iadd hx hb dL_law_289 ?_
  refine x_i (y := (nI (i + 1))) (nI_add i 1) ?_
  refine lw_sl F X hX hbl hL (i := (i + 1)) (by omega) dL_law_290 ?_
  refine x_cVi F X (gc := cW q ca ta aa tb ad sd R Q V E I) (gr := [mW q (mb 0) (mb 1) (mb 2) (mb 3) (mb 4) (mb 5) (mb 6) (mb 7) (mb 8) ms mp msl msv mpd mfo mto mou (nI kn) (nI ln) mmn mla mop mwr]) (List.Perm.refl _) (c_F_pass l D q ca ta aa tb ad sd R Q V E I ms mp msl msv mpd kn ln n pr had hsd hR (xs (i + 1))) (cwV 1 F.1.2.2.2.2 gL_law_X7_pass rfl rfl rfl (by decide +kernel) ⟨Nat.le_of_ble_eq_true rfl, Nat.le_of_ble_eq_true rfl⟩) rfl rfl (r0 := 0) (ci := 7) (T := TX7) (N := 8) rfl rfl hl.1 ⟨Nat.le_of_ble_eq_true rfl, Nat.le_of_ble_eq_true rfl⟩ (Nat.le_of_ble_eq_true rfl) dL_law_291 (fun r g1 H locs hp X => ?_)
  obtain ⟨R2, Q2, V2, E2, I2, rfl, hc⟩ := hp
  have X := X.perm (gs' := [mW q (mb 0) (mb 1) (mb 2) (mb 3) (mb 4) (mb 5) (mb 6) (mb 7) (mb 8) ms mp msl msv mpd mfo mto mou (nI kn) (nI ln) mmn mla mop mwr] ++ cW q ca ta aa tb ad sd R2 Q2 V2 E2 I2) List.perm_append_comm
  refine lv_aload_n hx hb dL_law_294 rfl (lv_at hl 3 rfl) ?_
  refine lv_aload_n hx hb dL_law_295 rfl (lv_at hl 1 rfl) ?_
  refine lv_iload_n hx hb dL_law_296 rfl (lv_at hl 0 rfl) ?_
  refine lv_iconst (v := 1) hx hb dL_law_297 (by decide) ?_
  refine lv_iadd hx hb dL_law_298 ?_
  refine x_i (y := (nI (i + 1))) (nI_add i 1) ?_
  refine lw_sl F X hX hbl hL (i := (i + 1)) (by omega) dL_law_299 ?_
  refine x_cVi F X (gc := [mW q (mb 0) (mb 1) (mb 2) (mb 3) (mb 4) (mb 5) (mb 6) (mb 7) (mb 8) ms mp msl msv mpd mfo mto mou (nI kn) (nI ln) mmn mla mop mwr]) (gr := cW q ca ta aa tb ad sd R2 Q2 V2 E2 I2) (List.Perm.refl _) (c_X8_pass l D q (mb 0) (mb 1) (mb 2) (mb 3) (mb 4) (mb 5) (mb 6) (mb 7) (mb 8) ms mp msl msv mpd mfo mto mou kn (nI ln) mmn mla mop mwr n pr (xs (i + 1)) (by first | assumption | omega) (by first | assumption | omega)) (cwV 1 F.1.2.2.2.2 gL_law_X8_pass rfl rfl rfl (by decide +kernel) ⟨Nat.le_of_ble_eq_true rfl, Nat.le_of_ble_eq_true rfl⟩) rfl rfl (r0 := 0) (ci := 8) (T := TX8) (N := 14) rfl rfl hl.1 ⟨Nat.le_of_ble_eq_true rfl, Nat.le_of_ble_eq_true rfl⟩ (Nat.le_of_ble_eq_true rfl) dL_law_300 (fun r2 g1 H locs hp X => ?_)
  obtain ⟨s2, p2, kn2, fo2, rfl, hm⟩ := hp
  obtain ⟨rfl, n2, pr2, hR2⟩ := hc r2 s2 p2 kn2 hm
  have X := X.perm (gs' := cW q ca ta aa tb ad sd R2 Q2 V2 E2 I2 ++ [mW q (mb 0) (mb 1) (mb 2) (mb 3) (mb 4) (mb 5) (mb 6) (mb 7) (mb 8) s2 p2 msl msv mpd fo2 mto mou (nI kn2) (nI ln) mmn mla mop mwr]) List.perm_append_comm
  refine lv_icmp_eq (tgt := 729) hx hb dL_law_303 (by decide) (fun _ => ?_) (fun h => absurd rfl h)
  exact K _ _ _ _ ⟨R2, Q2, V2, E2, I2, s2, p2, msl, msv, mpd, fo2, mto, mou, kn2, ln, mmn, mla, mop, mwr, n2, pr2, rfl, hR2⟩ X (lv_sub hl [0, 1, 2, 3] rfl)
set_option maxHeartbeats 1000000 in
set_option maxRecDepth 100000 in
theorem lw_c6 {p9 : Program} {l : Launch} {e9 : Env} {s9 : State} {m9 : MethodId} {below : List Frame} {meth : Method} {c9 : Code} {Z9 : State → Prop} {b L : Nat} {xs : Nat → Int32} {D : va_G} {q : xQ} {ca ta mb : Nat → Nat} {aa tb : Nat → Nat → Nat} {ad sd : Nat → Option Nat} (hL : L ≤ 2048) (hX : va_X b L xs s9 s9.heap) (hbl : b < s9.heap.size) (F : xF p9 m9 c9 cL_law 4 s9 #[Value.ref b] wsL_law RL D q) (had : ∀ i, i < 6 → ad i = some (aa i 0)) (hsd : ∀ i, i < 2 → sd i = some (tb i 0)) {gs : List va_W} {H : Heap} {locs : List Loc} {ls : Array Slot} {i : Nat} (hi : i + 4 ≤ L) (hinv : xInv q ca ta aa tb ad sd mb gs) (X : xS D (fun r : Nat => s9.heap.size ≤ r) s9 gs H locs) (hl : lv_has ls 4 [(3, .int (nI i)), (0, .ref b), (1, .ref (ca 0)), (2, .ref (mb 0))]) (K : ∀ (gs : List va_W) (H : Heap) (locs : List Loc) (ls : Array Slot), xInv q ca ta aa tb ad sd mb gs → xS D (fun r : Nat => s9.heap.size ≤ r) s9 gs H locs → lv_has ls 4 [(3, .int (nI i)), (0, .ref b), (1, .ref (ca 0)), (2, .ref (mb 0))] → W p9 l e9 room_1 s9 m9 #[Value.ref b] below meth c9 H locs 600000 7302250 Z9 (F0 m9 729 ls [])) : W p9 l e9 room_1 s9 m9 #[Value.ref b] below meth c9 H locs 600000 7302250 Z9 (F0 m9 308 ls []) := by
  have hx := F.1.1
  have hb := F.1.2.1
  obtain ⟨R, Q, V, E, I, ms, mp, msl, msv, mpd, mfo, mto, mou, kn, ln, mmn, mla, mop, mwr, n, pr, rfl, hR⟩ := hinv
  have hok := hR.1.1
  have hk6 := hR.kn6
  have hln := hR.ln80
  refine lv_aload_n hx hb dL_law_308 rfl (lv_at hl 2 rfl) ?_
  refine x_cVi F X (gc := cW q ca ta aa tb ad sd R Q V E I) (gr := [mW q (mb 0) (mb 1) (mb 2) (mb 3) (mb 4) (mb 5) (mb 6) (mb 7) (mb 8) ms mp msl msv mpd mfo mto mou (nI kn) (nI ln) mmn mla mop mwr]) (List.Perm.refl _) (c_F_write l D q ca ta aa tb ad sd R Q V E I ms mp msl msv mpd kn ln n pr had hsd hR ) (cwV 0 F.1.2.2.2.2 gL_law_X7_write rfl rfl rfl (by decide +kernel) ⟨Nat.le_of_ble_eq_true rfl, Nat.le_of_ble_eq_true rfl⟩) rfl rfl (r0 := 0) (ci := 7) (T := TX7) (N := 8) rfl rfl hl.1 ⟨Nat.le_of_ble_eq_true rfl, Nat.le_of_ble_eq_true rfl⟩ (Nat.le_of_ble_eq_true rfl) dL_law_309 (fun r g1 H locs hp X => ?_)
  obtain ⟨R2, Q2, V2, E2, I2, rfl, hc⟩ := hp
  have X := X.perm (gs' := [mW q (mb 0) (mb 1) (mb 2) (mb 3) (mb 4) (mb 5) (mb 6) (mb 7) (mb 8) ms mp msl msv mpd mfo mto mou (nI kn) (nI ln) mmn mla mop mwr] ++ cW q ca ta aa tb ad sd R2 Q2 V2 E2 I2) List.perm_append_comm
  refine lv_aload_n hx hb dL_law_312 rfl (lv_at hl 3 rfl) ?_
  refine x_cVi F X (gc := [mW q (mb 0) (mb 1) (mb 2) (mb 3) (mb 4) (mb 5) (mb 6) (mb 7) (mb 8) ms mp msl msv mpd mfo mto mou (nI kn) (nI ln) mmn mla mop mwr]) (gr := cW q ca ta aa tb ad sd R2 Q2 V2 E2 I2) (List.Perm.refl _) (c_X8_write l D q (mb 0) (mb 1) (mb 2) (mb 3) (mb 4) (mb 5) (mb 6) (mb 7) (mb 8) ms mp msl msv mpd mfo mto mou (nI kn) ln mmn mla mop mwr n pr (by first | assumption | omega)) (cwV 0 F.1.2.2.2.2 gL_law_X8_write rfl rfl rfl (by decide +kernel) ⟨Nat.le_of_ble_eq_true rfl, Nat.le_of_ble_eq_true rfl⟩) rfl rfl (r0 := 0) (ci := 8) (T := TX8) (N := 14) rfl rfl hl.1 ⟨Nat.le_of_ble_eq_true rfl, Nat.le_of_ble_eq_true rfl⟩ (Nat.le_of_ble_eq_true rfl) dL_law_313 (fun r2 g1 H locs hp X => ?_)
  obtain ⟨ou2, wr2, pd2, ln2, rfl, hm⟩ := hp
  obtain ⟨rfl, n2, pr2, hR2⟩ := hc r2 ln2 pd2 hm
  have X := X.perm (gs' := cW q ca ta aa tb ad sd R2 Q2 V2 E2 I2 ++ [mW q (mb 0) (mb 1) (mb 2) (mb 3) (mb 4) (mb 5) (mb 6) (mb 7) (mb 8) ms mp msl msv pd2 mfo mto ou2 (nI kn) (nI ln2) mmn mla mop (nI wr2)]) List.perm_append_comm
  refine lv_icmp_eq (tgt := 729) hx hb dL_law_316 (by decide) (fun _ => ?_) (fun h => absurd rfl h)
  exact K _ _ _ _ ⟨R2, Q2, V2, E2, I2, ms, mp, msl, msv, pd2, mfo, mto, ou2, kn, ln2, mmn, mla, mop, (nI wr2), n2, pr2, rfl, hR2⟩ X (lv_sub hl [0, 1, 2, 3] rfl)
set_option maxHeartbeats 1000000 in
set_option maxRecDepth 100000 in
theorem lw_c7 {p9 : Program} {l : Launch} {e9 : Env} {s9 : State} {m9 : MethodId} {below : List Frame} {meth : Method} {c9 : Code} {Z9 : State → Prop} {b L : Nat} {xs : Nat → Int32} {D : va_G} {q : xQ} {ca ta mb : Nat → Nat} {aa tb : Nat → Nat → Nat} {ad sd : Nat → Option Nat} (hL : L ≤ 2048) (hX : va_X b L xs s9 s9.heap) (hbl : b < s9.heap.size) (F : xF p9 m9 c9 cL_law 4 s9 #[Value.ref b] wsL_law RL D q) (had : ∀ i, i < 6 → ad i = some (aa i 0)) (hsd : ∀ i, i < 2 → sd i = some (tb i 0)) {gs : List va_W} {H : Heap} {locs : List Loc} {ls : Array Slot} {i : Nat} (hi : i + 4 ≤ L) (hinv : xInv q ca ta aa tb ad sd mb gs) (X : xS D (fun r : Nat => s9.heap.size ≤ r) s9 gs H locs) (hl : lv_has ls 4 [(3, .int (nI i)), (0, .ref b), (1, .ref (ca 0)), (2, .ref (mb 0))]) (K : ∀ (gs : List va_W) (H : Heap) (locs : List Loc) (ls : Array Slot), xInv q ca ta aa tb ad sd mb gs → xS D (fun r : Nat => s9.heap.size ≤ r) s9 gs H locs → lv_has ls 4 [(3, .int (nI i)), (0, .ref b), (1, .ref (ca 0)), (2, .ref (mb 0))] → W p9 l e9 room_1 s9 m9 #[Value.ref b] below meth c9 H locs 600000 7302250 Z9 (F0 m9 729 ls [])) : W p9 l e9 room_1 s9 m9 #[Value.ref b] below meth c9 H locs 600000 7302250 Z9 (F0 m9 321 ls []) := by
  have hx := F.1.1
  have hb := F.1.2.1
  obtain ⟨R, Q, V, E, I, ms, mp, msl, msv, mpd, mfo, mto, mou, kn, ln, mmn, mla, mop, mwr, n, pr, rfl, hR⟩ := hinv
  have hok := hR.1.1
  have hk6 := hR.kn6
  have hln := hR.ln80
  refine lv_aload_n hx hb dL_law_321 rfl (lv_at hl 2 rfl) ?_
  refine lv_aload_n hx hb dL_law_322 rfl (lv_at hl 1 rfl) ?_
  refine lv_iload_n hx hb dL_law_323 rfl (lv_at hl 0 rfl) ?_
  refine lv_iconst (v := 1) hx hb dL_law_324 (by decide) ?_
  refine lv_iadd hx hb dL_law_325 ?_
  refine x_i (y := (nI (i + 1))) (nI_add i 1) ?_
  refine lw_sl F X hX hbl hL (i := (i + 1)) (by omega) dL_law_326 ?_
  refine lv_aload_n hx hb dL_law_327 rfl (lv_at hl 1 rfl) ?_
  refine lv_iload_n hx hb dL_law_328 rfl (lv_at hl 0 rfl) ?_
  refine lv_iconst (v := 2) hx hb dL_law_329 (by decide) ?_
  refine lv_iadd hx hb dL_law_330 ?_
  refine x_i (y := (nI (i + 2))) (nI_add i 2) ?_
  refine lw_sl F X hX hbl hL (i := (i + 2)) (by omega) dL_law_331 ?_
  refine x_cVi F X (gc := cW q ca ta aa tb ad sd R Q V E I) (gr := [mW q (mb 0) (mb 1) (mb 2) (mb 3) (mb 4) (mb 5) (mb 6) (mb 7) (mb 8) ms mp msl msv mpd mfo mto mou (nI kn) (nI ln) mmn mla mop mwr]) (List.Perm.refl _) (c_F_of l D q ca ta aa tb ad sd R Q V E I ms mp msl msv mpd kn ln n pr had hsd hR (xs (i + 1)) (xs (i + 2))) (cwV 2 F.1.2.2.2.2 gL_law_X7_of rfl rfl rfl (by decide +kernel) ⟨Nat.le_of_ble_eq_true rfl, Nat.le_of_ble_eq_true rfl⟩) rfl rfl (r0 := 0) (ci := 7) (T := TX7) (N := 8) rfl rfl hl.1 ⟨Nat.le_of_ble_eq_true rfl, Nat.le_of_ble_eq_true rfl⟩ (Nat.le_of_ble_eq_true rfl) dL_law_332 (fun r g1 H locs hp X => ?_)
  obtain ⟨R2, Q2, V2, E2, I2, rfl, rfl, n2, pr2, hR2⟩ := hp
  have X := X.perm (gs' := [mW q (mb 0) (mb 1) (mb 2) (mb 3) (mb 4) (mb 5) (mb 6) (mb 7) (mb 8) ms mp msl msv mpd mfo mto mou (nI kn) (nI ln) mmn mla mop mwr] ++ cW q ca ta aa tb ad sd R2 Q2 V2 E2 I2) List.perm_append_comm
  refine lv_aload_n hx hb dL_law_335 rfl (lv_at hl 3 rfl) ?_
  refine lv_aload_n hx hb dL_law_336 rfl (lv_at hl 1 rfl) ?_
  refine lv_iload_n hx hb dL_law_337 rfl (lv_at hl 0 rfl) ?_
  refine lv_iconst (v := 1) hx hb dL_law_338 (by decide) ?_
  refine lv_iadd hx hb dL_law_339 ?_
  refine x_i (y := (nI (i + 1))) (nI_add i 1) ?_
  refine lw_sl F X hX hbl hL (i := (i + 1)) (by omega) dL_law_340 ?_
  refine lv_aload_n hx hb dL_law_341 rfl (lv_at hl 1 rfl) ?_
  refine lv_iload_n hx hb dL_law_342 rfl (lv_at hl 0 rfl) ?_
  refine lv_iconst (v := 2) hx hb dL_law_343 (by decide) ?_
  refine lv_iadd hx hb dL_law_344 ?_
  refine x_i (y := (nI (i + 2))) (nI_add i 2) ?_
  refine lw_sl F X hX hbl hL (i := (i + 2)) (by omega) dL_law_345 ?_
  refine x_cVi F X (gc := [mW q (mb 0) (mb 1) (mb 2) (mb 3) (mb 4) (mb 5) (mb 6) (mb 7) (mb 8) ms mp msl msv mpd mfo mto mou (nI kn) (nI ln) mmn mla mop mwr]) (gr := cW q ca ta aa tb ad sd R2 Q2 V2 E2 I2) (List.Perm.refl _) (c_X8_of l D q (mb 0) (mb 1) (mb 2) (mb 3) (mb 4) (mb 5) (mb 6) (mb 7) (mb 8) ms mp msl msv mpd mfo mto mou (nI kn) (nI ln) mmn mla mop mwr n pr (xs (i + 1)) (xs (i + 2)) (by first | assumption | omega)) (cwV 2 F.1.2.2.2.2 gL_law_X8_of rfl rfl rfl (by decide +kernel) ⟨Nat.le_of_ble_eq_true rfl, Nat.le_of_ble_eq_true rfl⟩) rfl rfl (r0 := 0) (ci := 8) (T := TX8) (N := 14) rfl rfl hl.1 ⟨Nat.le_of_ble_eq_true rfl, Nat.le_of_ble_eq_true rfl⟩ (Nat.le_of_ble_eq_true rfl) dL_law_346 (fun r2 g1 H locs hp X => ?_)
  obtain ⟨rfl, rfl⟩ := hp
  have X := X.perm (gs' := cW q ca ta aa tb ad sd R2 Q2 V2 E2 I2 ++ [mW q (mb 0) (mb 1) (mb 2) (mb 3) (mb 4) (mb 5) (mb 6) (mb 7) (mb 8) ms mp msl msv mpd mfo mto mou (nI kn) (nI ln) mmn mla mop mwr]) List.perm_append_comm
  refine lv_icmp_eq (tgt := 729) hx hb dL_law_349 (by decide) (fun _ => ?_) (fun h => absurd rfl h)
  exact K _ _ _ _ ⟨R2, Q2, V2, E2, I2, ms, mp, msl, msv, mpd, mfo, mto, mou, kn, ln, mmn, mla, mop, mwr, n2, pr2, rfl, hR2⟩ X (lv_sub hl [0, 1, 2, 3] rfl)
