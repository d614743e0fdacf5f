set_option maxHeartbeats 1000000 in
set_option maxRecDepth 100000 in
theorem lw_c16 {p9 : Program} {l : Launch} {e9 : Env} {s9 : State} {m9 : MethodId} {below : List Frame} {meth : Method} {c9 : Code} {Z9 : State → Prop} {b L : Nat} {xs : Nat → Int32} {D : va_G} {q : xQ} {ca ta mb : Nat → Nat} {aa tb : Nat → Nat → Nat} {ad sd : Nat → Option Nat} (hL : L ≤ 2048) (hX : va_X b L xs s9 s9.heap) (hbl : b < s9.heap.size) (F : xF p9 m9 c9 cL_law 4 s9 #[Value.ref b] wsL_law RL D q) (had : ∀ i, i < 6 → ad i = some (aa i 0)) (hsd : ∀ i, i < 2 → sd i = some (tb i 0)) {gs : List va_W} {H : Heap} {locs : List Loc} {ls : Array Slot} {i : Nat} (hi : i + 4 ≤ L) (hinv : xInv q ca ta aa tb ad sd mb gs) (X : xS D (fun r : Nat => s9.heap.size ≤ r) s9 gs H locs) (hl : lv_has ls 4 [(3, .int (nI i)), (0, .ref b), (1, .ref (ca 0)), (2, .ref (mb 0))]) (K : ∀ (gs : List va_W) (H : Heap) (locs : List Loc) (ls : Array Slot), xInv q ca ta aa tb ad sd mb gs → xS D (fun r : Nat => s9.heap.size ≤ r) s9 gs H locs → lv_has ls 4 [(3, .int (nI i)), (0, .ref b), (1, .ref (ca 0)), (2, .ref (mb 0))] → W p9 l e9 room_1 s9 m9 #[Value.ref b] below meth c9 H locs 600000 7302250 Z9 (F0 m9 729 ls [])) : W p9 l e9 room_1 s9 m9 #[Value.ref b] below meth c9 H locs 600000 7302250 Z9 (F0 m9 578 ls []) := by
  have hx := F.1.1
  have hb := F.1.2.1
  obtain ⟨R, Q, V, E, I, ms, mp, msl, msv, mpd, mfo, mto, mou, kn, ln, mmn, mla, mop, mwr, n, pr, rfl, hR⟩ := hinv
  have hok := hR.1.1
  have hk6 := hR.kn6
  have hln := hR.ln80
  refine lv_aload_n hx hb dL_law_578 rfl (lv_at hl 2 rfl) ?_
  refine x_cVi F X (gc := cW q ca ta aa tb ad sd R Q V E I) (gr := [mW q (mb 0) (mb 1) (mb 2) (mb 3) (mb 4) (mb 5) (mb 6) (mb 7) (mb 8) ms mp msl msv mpd mfo mto mou (nI kn) (nI ln) mmn mla mop mwr]) (List.Perm.refl _) (c_F_windiest l D q ca ta aa tb ad sd R Q V E I ms mp msl msv mpd kn ln n pr had hsd hR ) (cwV 0 F.1.2.2.2.2 gL_law_X7_windiest rfl rfl rfl (by decide +kernel) ⟨Nat.le_of_ble_eq_true rfl, Nat.le_of_ble_eq_true rfl⟩) rfl rfl (r0 := 0) (ci := 7) (T := TX7) (N := 8) rfl rfl hl.1 ⟨Nat.le_of_ble_eq_true rfl, Nat.le_of_ble_eq_true rfl⟩ (Nat.le_of_ble_eq_true rfl) dL_law_579 (fun r g1 H locs hp X => ?_)
  obtain ⟨R2, Q2, V2, E2, I2, rfl, rfl, n2, pr2, hR2⟩ := hp
  have X := X.perm (gs' := [mW q (mb 0) (mb 1) (mb 2) (mb 3) (mb 4) (mb 5) (mb 6) (mb 7) (mb 8) ms mp msl msv mpd mfo mto mou (nI kn) (nI ln) mmn mla mop mwr] ++ cW q ca ta aa tb ad sd R2 Q2 V2 E2 I2) List.perm_append_comm
  refine lv_aload_n hx hb dL_law_582 rfl (lv_at hl 3 rfl) ?_
  refine x_cVi F X (gc := [mW q (mb 0) (mb 1) (mb 2) (mb 3) (mb 4) (mb 5) (mb 6) (mb 7) (mb 8) ms mp msl msv mpd mfo mto mou (nI kn) (nI ln) mmn mla mop mwr]) (gr := cW q ca ta aa tb ad sd R2 Q2 V2 E2 I2) (List.Perm.refl _) (c_X8_windiest l D q (mb 0) (mb 1) (mb 2) (mb 3) (mb 4) (mb 5) (mb 6) (mb 7) (mb 8) ms mp msl msv mpd mfo mto mou (nI kn) (nI ln) mmn mla mop mwr n pr (by first | assumption | omega)) (cwV 0 F.1.2.2.2.2 gL_law_X8_windiest rfl rfl rfl (by decide +kernel) ⟨Nat.le_of_ble_eq_true rfl, Nat.le_of_ble_eq_true rfl⟩) rfl rfl (r0 := 0) (ci := 8) (T := TX8) (N := 14) rfl rfl hl.1 ⟨Nat.le_of_ble_eq_true rfl, Nat.le_of_ble_eq_true rfl⟩ (Nat.le_of_ble_eq_true rfl) dL_law_583 (fun r2 g1 H locs hp X => ?_)
  obtain ⟨fo2, rfl, rfl⟩ := hp
  have X := X.perm (gs' := cW q ca ta aa tb ad sd R2 Q2 V2 E2 I2 ++ [mW q (mb 0) (mb 1) (mb 2) (mb 3) (mb 4) (mb 5) (mb 6) (mb 7) (mb 8) ms mp msl msv mpd fo2 mto mou (nI kn) (nI ln) mmn mla mop mwr]) List.perm_append_comm
  refine lv_icmp_eq (tgt := 729) hx hb dL_law_586 (by decide) (fun _ => ?_) (fun h => absurd rfl h)
  exact K _ _ _ _ ⟨R2, Q2, V2, E2, I2, ms, mp, msl, msv, mpd, fo2, mto, mou, kn, ln, mmn, mla, mop, mwr, n2, pr2, rfl, hR2⟩ X (lv_sub hl [0, 1, 2, 3] rfl)
set_option maxHeartbeats 1000000 in
set_option maxRecDepth 100000 in
theorem lw_c17 {p9 : Program} {l : Launch} {e9 : Env} {s9 : State} {m9 : MethodId} {below : List Frame} {meth : Method} {c9 : Code} {Z9 : State → Prop} {b L : Nat} {xs : Nat → Int32} {D : va_G} {q : xQ} {ca ta mb : Nat → Nat} {aa tb : Nat → Nat → Nat} {ad sd : Nat → Option Nat} (hL : L ≤ 2048) (hX : va_X b L xs s9 s9.heap) (hbl : b < s9.heap.size) (F : xF p9 m9 c9 cL_law 4 s9 #[Value.ref b] wsL_law RL D q) (had : ∀ i, i < 6 → ad i = some (aa i 0)) (hsd : ∀ i, i < 2 → sd i = some (tb i 0)) {gs : List va_W} {H : Heap} {locs : List Loc} {ls : Array Slot} {i : Nat} (hi : i + 4 ≤ L) (hinv : xInv q ca ta aa tb ad sd mb gs) (X : xS D (fun r : Nat => s9.heap.size ≤ r) s9 gs H locs) (hl : lv_has ls 4 [(3, .int (nI i)), (0, .ref b), (1, .ref (ca 0)), (2, .ref (mb 0))]) (K : ∀ (gs : List va_W) (H : Heap) (locs : List Loc) (ls : Array Slot), xInv q ca ta aa tb ad sd mb gs → xS D (fun r : Nat => s9.heap.size ≤ r) s9 gs H locs → lv_has ls 4 [(3, .int (nI i)), (0, .ref b), (1, .ref (ca 0)), (2, .ref (mb 0))] → W p9 l e9 room_1 s9 m9 #[Value.ref b] below meth c9 H locs 600000 7302250 Z9 (F0 m9 729 ls [])) : W p9 l e9 room_1 s9 m9 #[Value.ref b] below meth c9 H locs 600000 7302250 Z9 (F0 m9 591 ls []) := by
  have hx := F.1.1
  have hb := F.1.2.1
  have mw_0 : Cond.constantLong RL 85 (4294967295) ∈ wsL_law := by decide +kernel
  obtain ⟨R, Q, V, E, I, ms, mp, msl, msv, mpd, mfo, mto, mou, kn, ln, mmn, mla, mop, mwr, n, pr, rfl, hR⟩ := hinv
  have hok := hR.1.1
  have hk6 := hR.kn6
  have hln := hR.ln80
  refine lv_aload_n hx hb dL_law_591 rfl (lv_at hl 2 rfl) ?_
  refine lv_aload_n hx hb dL_law_592 rfl (lv_at hl 1 rfl) ?_
  refine lv_iload_n hx hb dL_law_593 rfl (lv_at hl 0 rfl) ?_
  refine lv_iconst (v := 1) hx hb dL_law_594 (by decide) ?_
  refine lv_iadd hx hb dL_law_595 ?_
  refine x_i (y := (nI (i + 1))) (nI_add i 1) ?_
  refine lw_sl F X hX hbl hL (i := (i + 1)) (by omega) dL_law_596 ?_
  refine lv_i2l (v := (Int32.toInt64 (xs (i + 1)))) hx hb dL_law_597 rfl ?_
  refine lv_bipush (v := 32) hx hb dL_law_598 (by decide) ?_
  refine lv_lshl (v := ((Int32.toInt64 (xs (i + 1))) <<< ((Int32.toInt64 32) &&& 63))) hx hb dL_law_600 rfl ?_
  refine lv_aload_n hx hb dL_law_601 rfl (lv_at hl 1 rfl) ?_
  refine lv_iload_n hx hb dL_law_602 rfl (lv_at hl 0 rfl) ?_
  refine lv_iconst (v := 2) hx hb dL_law_603 (by decide) ?_
  refine lv_iadd hx hb dL_law_604 ?_
  refine x_i (y := (nI (i + 2))) (nI_add i 2) ?_
  refine lw_sl F X hX hbl hL (i := (i + 2)) (by omega) dL_law_605 ?_
  refine lv_i2l (v := (Int32.toInt64 (xs (i + 2)))) hx hb dL_law_606 rfl ?_
  refine lv_ldc2 (v := 4294967295) hx hb F.1.2.2.2.1 (F.1.2.2.2.2 _ mw_0) dL_law_607 ?_
  refine lv_land hx hb dL_law_610 ?_
  refine lv_lor hx hb dL_law_611 ?_
  refine x_cVi F X (gc := cW q ca ta aa tb ad sd R Q V E I) (gr := [mW q (mb 0) (mb 1) (mb 2) (mb 3) (mb 4) (mb 5) (mb 6) (mb 7) (mb 8) ms mp msl msv mpd mfo mto mou (nI kn) (nI ln) mmn mla mop mwr]) (List.Perm.refl _) (c_F_put l D q ca ta aa tb ad sd R Q V E I ms mp msl msv mpd kn ln n pr had hsd hR ((((Int32.toInt64 (xs (i + 1))) <<< ((Int32.toInt64 32) &&& 63))) ||| ((Int32.toInt64 (xs (i + 2))) &&& 4294967295))) (cwV 1 F.1.2.2.2.2 gL_law_X7_put rfl rfl rfl (by decide +kernel) ⟨Nat.le_of_ble_eq_true rfl, Nat.le_of_ble_eq_true rfl⟩) rfl rfl (r0 := 0) (ci := 7) (T := TX7) (N := 8) rfl rfl hl.1 ⟨Nat.le_of_ble_eq_true rfl, Nat.le_of_ble_eq_true rfl⟩ (Nat.le_of_ble_eq_true rfl) dL_law_612 (fun r g1 H locs hp X => ?_)
  obtain ⟨R2, Q2, V2, E2, I2, rfl, hc⟩ := hp
  have X := X.perm (gs' := [mW q (mb 0) (mb 1) (mb 2) (mb 3) (mb 4) (mb 5) (mb 6) (mb 7) (mb 8) ms mp msl msv mpd mfo mto mou (nI kn) (nI ln) mmn mla mop mwr] ++ cW q ca ta aa tb ad sd R2 Q2 V2 E2 I2) List.perm_append_comm
  refine lv_aload_n hx hb dL_law_615 rfl (lv_at hl 3 rfl) ?_
  refine lv_aload_n hx hb dL_law_616 rfl (lv_at hl 1 rfl) ?_
  refine lv_iload_n hx hb dL_law_617 rfl (lv_at hl 0 rfl) ?_
  refine lv_iconst (v := 1) hx hb dL_law_618 (by decide) ?_
  refine lv_iadd hx hb dL_law_619 ?_
  refine x_i (y := (nI (i + 1))) (nI_add i 1) ?_
  refine lw_sl F X hX hbl hL (i := (i + 1)) (by omega) dL_law_620 ?_
  refine lv_i2l (v := (Int32.toInt64 (xs (i + 1)))) hx hb dL_law_621 rfl ?_
  refine lv_bipush (v := 32) hx hb dL_law_622 (by decide) ?_
  refine lv_lshl (v := ((Int32.toInt64 (xs (i + 1))) <<< ((Int32.toInt64 32) &&& 63))) hx hb dL_law_624 rfl ?_
  refine lv_aload_n hx hb dL_law_625 rfl (lv_at hl 1 rfl) ?_
  refine lv_iload_n hx hb dL_law_626 rfl (lv_at hl 0 rfl) ?_
  refine lv_iconst (v := 2) hx hb dL_law_627 (by decide) ?_
  refine lv_iadd hx hb dL_law_628 ?_
  refine x_i (y := (nI (i + 2))) (nI_add i 2) ?_
  refine lw_sl F X hX hbl hL (i := (i + 2)) (by omega) dL_law_629 ?_
  refine lv_i2l (v := (Int32.toInt64 (xs (i + 2)))) hx hb dL_law_630 rfl ?_
  refine lv_ldc2 (v := 4294967295) hx hb F.1.2.2.2.1 (F.1.2.2.2.2 _ mw_0) dL_law_631 ?_
  refine lv_land hx hb dL_law_634 ?_
  refine lv_lor hx hb dL_law_635 ?_
  refine x_cVi F X (gc := [mW q (mb 0) (mb 1) (mb 2) (mb 3) (mb 4) (mb 5) (mb 6) (mb 7) (mb 8) ms mp msl msv mpd mfo mto mou (nI kn) (nI ln) mmn mla mop mwr]) (gr := cW q ca ta aa tb ad sd R2 Q2 V2 E2 I2) (List.Perm.refl _) (c_X8_put l D q (mb 0) (mb 1) (mb 2) (mb 3) (mb 4) (mb 5) (mb 6) (mb 7) (mb 8) ms mp msl msv mpd mfo mto mou (nI kn) ln mmn mla mop mwr ((((Int32.toInt64 (xs (i + 1))) <<< ((Int32.toInt64 32) &&& 63))) ||| ((Int32.toInt64 (xs (i + 2))) &&& 4294967295)) (by first | assumption | omega)) (cwV 1 F.1.2.2.2.2 gL_law_X8_put rfl rfl rfl (by decide +kernel) ⟨Nat.le_of_ble_eq_true rfl, Nat.le_of_ble_eq_true rfl⟩) rfl rfl (r0 := 0) (ci := 8) (T := TX8) (N := 14) rfl rfl hl.1 ⟨Nat.le_of_ble_eq_true rfl, Nat.le_of_ble_eq_true rfl⟩ (Nat.le_of_ble_eq_true rfl) dL_law_636 (fun r2 g1 H locs hp X => ?_)
  obtain ⟨pd2, ln2, rfl, hm⟩ := hp
  obtain ⟨rfl, n2, pr2, hR2⟩ := hc r2 pd2 ln2 hm
  have X := X.perm (gs' := cW q ca ta aa tb ad sd R2 Q2 V2 E2 I2 ++ [mW q (mb 0) (mb 1) (mb 2) (mb 3) (mb 4) (mb 5) (mb 6) (mb 7) (mb 8) ms mp msl msv pd2 mfo mto mou (nI kn) (nI ln2) mmn mla mop mwr]) List.perm_append_comm
  refine lv_icmp_eq (tgt := 729) hx hb dL_law_639 (by decide) (fun _ => ?_) (fun h => absurd rfl h)
  exact K _ _ _ _ ⟨R2, Q2, V2, E2, I2, ms, mp, msl, msv, pd2, mfo, mto, mou, kn, ln2, mmn, mla, mop, mwr, n2, pr2, rfl, hR2⟩ X (lv_sub hl [0, 1, 2, 3] rfl)
set_option maxHeartbeats 1000000 in
set_option maxRecDepth 100000 in
theorem lw_c18 {p9 : Program} {l : Launch} {e9 : Env} {s9 : State} {m9 : MethodId} {below : List Frame} {meth : Method} {c9 : Code} {Z9 : State → Prop} {b L : Nat} {xs : Nat → Int32} {D : va_G} {q : xQ} {ca ta mb : Nat → Nat} {aa tb : Nat → Nat → Nat} {ad sd : Nat → Option Nat} (hL : L ≤ 2048) (hX : va_X b L xs s9 s9.heap) (hbl : b < s9.heap.size) (F : xF p9 m9 c9 cL_law 4 s9 #[Value.ref b] wsL_law RL D q) (had : ∀ i, i < 6 → ad i = some (aa i 0)) (hsd : ∀ i, i < 2 → sd i = some (tb i 0)) {gs : List va_W} {H : Heap} {locs : List Loc} {ls : Array Slot} {i : Nat} (hi : i + 4 ≤ L) (hinv : xInv q ca ta aa tb ad sd mb gs) (X : xS D (fun r : Nat => s9.heap.size ≤ r) s9 gs H locs) (hl : lv_has ls 4 [(3, .int (nI i)), (0, .ref b), (1, .ref (ca 0)), (2, .ref (mb 0))]) (K : ∀ (gs : List va_W) (H : Heap) (locs : List Loc) (ls : Array Slot), xInv q ca ta aa tb ad sd mb gs → xS D (fun r : Nat => s9.heap.size ≤ r) s9 gs H locs → lv_has ls 4 [(3, .int (nI i)), (0, .ref b), (1, .ref (ca 0)), (2, .ref (mb 0))] → W p9 l e9 room_1 s9 m9 #[Value.ref b] below meth c9 H locs 600000 7302250 Z9 (F0 m9 729 ls [])) : W p9 l e9 room_1 s9 m9 #[Value.ref b] below meth c9 H locs 600000 7302250 Z9 (F0 m9 644 ls []) := by
  have hx := F.1.1
  have hb := F.1.2.1
  obtain ⟨R, Q, V, E, I, ms, mp, msl, msv, mpd, mfo, mto, mou, kn, ln, mmn, mla, mop, mwr, n, pr, rfl, hR⟩ := hinv
  have hok := hR.1.1
  have hk6 := hR.kn6
  have hln := hR.ln80
  refine lv_aload_n hx hb dL_law_644 rfl (lv_at hl 2 rfl) ?_
  refine x_cVi F X (gc := cW q ca ta aa tb ad sd R Q V E I) (gr := [mW q (mb 0) (mb 1) (mb 2) (mb 3) (mb 4) (mb 5) (mb 6) (mb 7) (mb 8) ms mp msl msv mpd mfo mto mou (nI kn) (nI ln) mmn mla mop mwr]) (List.Perm.refl _) (c_F_wipe l D q ca ta aa tb ad sd R Q V E I ms mp msl msv mpd kn ln n pr had hsd hR ) (cwV 0 F.1.2.2.2.2 gL_law_X7_wipe rfl rfl rfl (by decide +kernel) ⟨Nat.le_of_ble_eq_true rfl, Nat.le_of_ble_eq_true rfl⟩) rfl rfl (r0 := 0) (ci := 7) (T := TX7) (N := 8) rfl rfl hl.1 ⟨Nat.le_of_ble_eq_true rfl, Nat.le_of_ble_eq_true rfl⟩ (Nat.le_of_ble_eq_true rfl) dL_law_645 (fun r g1 H locs hp X => ?_)
  obtain ⟨R2, Q2, V2, E2, I2, rfl, rfl, n2, pr2, hR2⟩ := hp
  have X := X.perm (gs' := [mW q (mb 0) (mb 1) (mb 2) (mb 3) (mb 4) (mb 5) (mb 6) (mb 7) (mb 8) ms mp msl msv mpd mfo mto mou (nI kn) (nI ln) mmn mla mop mwr] ++ cW q ca ta aa tb ad sd R2 Q2 V2 E2 I2) List.perm_append_comm
  refine lv_aload_n hx hb dL_law_648 rfl (lv_at hl 3 rfl) ?_
  refine x_cVi F X (gc := [mW q (mb 0) (mb 1) (mb 2) (mb 3) (mb 4) (mb 5) (mb 6) (mb 7) (mb 8) ms mp msl msv mpd mfo mto mou (nI kn) (nI ln) mmn mla mop mwr]) (gr := cW q ca ta aa tb ad sd R2 Q2 V2 E2 I2) (List.Perm.refl _) (c_X8_wipe l D q (mb 0) (mb 1) (mb 2) (mb 3) (mb 4) (mb 5) (mb 6) (mb 7) (mb 8) ms mp msl msv mpd mfo mto mou (nI kn) ln mmn mla mop mwr ) (cwV 0 F.1.2.2.2.2 gL_law_X8_wipe rfl rfl rfl (by decide +kernel) ⟨Nat.le_of_ble_eq_true rfl, Nat.le_of_ble_eq_true rfl⟩) rfl rfl (r0 := 0) (ci := 8) (T := TX8) (N := 14) rfl rfl hl.1 ⟨Nat.le_of_ble_eq_true rfl, Nat.le_of_ble_eq_true rfl⟩ (Nat.le_of_ble_eq_true rfl) dL_law_649 (fun r2 g1 H locs hp X => ?_)
  obtain ⟨rfl, rfl⟩ := hp
  have X := X.perm (gs' := cW q ca ta aa tb ad sd R2 Q2 V2 E2 I2 ++ [mW q (mb 0) (mb 1) (mb 2) (mb 3) (mb 4) (mb 5) (mb 6) (mb 7) (mb 8) ms mp msl msv mpd mfo mto mou (nI kn) (nI 0) mmn mla mop mwr]) List.perm_append_comm
  refine lv_icmp_eq (tgt := 729) hx hb dL_law_652 (by decide) (fun _ => ?_) (fun h => absurd rfl h)
  exact K _ _ _ _ ⟨R2, Q2, V2, E2, I2, ms, mp, msl, msv, mpd, mfo, mto, mou, kn, 0, mmn, mla, mop, mwr, n2, pr2, rfl, hR2⟩ X (lv_sub hl [0, 1, 2, 3] rfl)
set_option maxHeartbeats 1000000 in
set_option maxRecDepth 100000 in
theorem lw_c19 {p9 : Program} {l : Launch} {e9 : Env} {s9 : State} {m9 : MethodId} {below : List Frame} {meth : Method} {c9 : Code} {Z9 : State → Prop} {b L : Nat} {xs : Nat → Int32} {D : va_G} {q : xQ} {ca ta mb : Nat → Nat} {aa tb : Nat → Nat → Nat} {ad sd : Nat → Option Nat} (hL : L ≤ 2048) (hX : va_X b L xs s9 s9.heap) (hbl : b < s9.heap.size) (F : xF p9 m9 c9 cL_law 4 s9 #[Value.ref b] wsL_law RL D q) (had : ∀ i, i < 6 → ad i = some (aa i 0)) (hsd : ∀ i, i < 2 → sd i = some (tb i 0)) {gs : List va_W} {H : Heap} {locs : List Loc} {ls : Array Slot} {i : Nat} (hi : i + 4 ≤ L) (hinv : xInv q ca ta aa tb ad sd mb gs) (X : xS D (fun r : Nat => s9.heap.size ≤ r) s9 gs H locs) (hl : lv_has ls 4 [(3, .int (nI i)), (0, .ref b), (1, .ref (ca 0)), (2, .ref (mb 0))]) (K : ∀ (gs : List va_W) (H : Heap) (locs : List Loc) (ls : Array Slot), xInv q ca ta aa tb ad sd mb gs → xS D (fun r : Nat => s9.heap.size ≤ r) s9 gs H locs → lv_has ls 4 [(3, .int (nI i)), (0, .ref b), (1, .ref (ca 0)), (2, .ref (mb 0))] → W p9 l e9 room_1 s9 m9 #[Value.ref b] below meth c9 H locs 600000 7302250 Z9 (F0 m9 729 ls [])) : W p9 l e9 room_1 s9 m9 #[Value.ref b] below meth c9 H locs 600000 7302250 Z9 (F0 m9 657 ls []) := by
  have hx := F.1.1
  have hb := F.1.2.1
  obtain ⟨R, Q, V, E, I, ms, mp, msl, msv, mpd, mfo, mto, mou, kn, ln, mmn, mla, mop, mwr, n, pr, rfl, hR⟩ := hinv
  have hok := hR.1.1
  have hk6 := hR.kn6
  have hln := hR.ln80
  refine lv_aload_n hx hb dL_law_657 rfl (lv_at hl 2 rfl) ?_
  refine x_cVi F X (gc := cW q ca ta aa tb ad sd R Q V E I) (gr := [mW q (mb 0) (mb 1) (mb 2) (mb 3) (mb 4) (mb 5) (mb 6) (mb 7) (mb 8) ms mp msl msv mpd mfo mto mou (nI kn) (nI ln) mmn mla mop mwr]) (List.Perm.refl _) (c_F_fault l D q ca ta aa tb ad sd R Q V E I ms mp msl msv mpd kn ln n pr had hsd hR mto) (cwV 0 F.1.2.2.2.2 gL_law_X7_fault rfl rfl rfl (by decide +kernel) ⟨Nat.le_of_ble_eq_true rfl, Nat.le_of_ble_eq_true rfl⟩) rfl rfl (r0 := 0) (ci := 7) (T := TX7) (N := 8) rfl rfl hl.1 ⟨Nat.le_of_ble_eq_true rfl, Nat.le_of_ble_eq_true rfl⟩ (Nat.le_of_ble_eq_true rfl) dL_law_658 (fun r g1 H locs hp X => ?_)
  obtain ⟨R2, Q2, V2, E2, I2, rfl, hc, n2, pr2, hR2⟩ := hp
  have X := X.perm (gs' := [mW q (mb 0) (mb 1) (mb 2) (mb 3) (mb 4) (mb 5) (mb 6) (mb 7) (mb 8) ms mp msl msv mpd mfo mto mou (nI kn) (nI ln) mmn mla mop mwr] ++ cW q ca ta aa tb ad sd R2 Q2 V2 E2 I2) List.perm_append_comm
  refine lv_aload_n hx hb dL_law_661 rfl (lv_at hl 3 rfl) ?_
  refine x_cVi F X (gc := [mW q (mb 0) (mb 1) (mb 2) (mb 3) (mb 4) (mb 5) (mb 6) (mb 7) (mb 8) ms mp msl msv mpd mfo mto mou (nI kn) (nI ln) mmn mla mop mwr]) (gr := cW q ca ta aa tb ad sd R2 Q2 V2 E2 I2) (List.Perm.refl _) (c_X8_fault l D q (mb 0) (mb 1) (mb 2) (mb 3) (mb 4) (mb 5) (mb 6) (mb 7) (mb 8) ms mp msl msv mpd mfo mto mou (nI kn) ln mmn mla mop mwr (fun j => (mpd j).toNatClampNeg) (by first | assumption | omega) hR.2.2.2.1.2.mpd) (cwV 0 F.1.2.2.2.2 gL_law_X8_fault rfl rfl rfl (by decide +kernel) ⟨Nat.le_of_ble_eq_true rfl, Nat.le_of_ble_eq_true rfl⟩) rfl rfl (r0 := 0) (ci := 8) (T := TX8) (N := 14) rfl rfl hl.1 ⟨Nat.le_of_ble_eq_true rfl, Nat.le_of_ble_eq_true rfl⟩ (Nat.le_of_ble_eq_true rfl) dL_law_662 (fun r2 g1 H locs hp X => ?_)
  obtain ⟨mn2, la2, op2, to2, rfl, hm, -⟩ := hp
  obtain rfl := hc r2 hm
  have X := X.perm (gs' := cW q ca ta aa tb ad sd R2 Q2 V2 E2 I2 ++ [mW q (mb 0) (mb 1) (mb 2) (mb 3) (mb 4) (mb 5) (mb 6) (mb 7) (mb 8) ms mp msl msv mpd mfo to2 mou (nI kn) (nI ln) (nI mn2) (nI la2) op2 mwr]) List.perm_append_comm
  refine lv_icmp_eq (tgt := 729) hx hb dL_law_665 (by decide) (fun _ => ?_) (fun h => absurd rfl h)
  exact K _ _ _ _ ⟨R2, Q2, V2, E2, I2, ms, mp, msl, msv, mpd, mfo, to2, mou, kn, ln, (nI mn2), (nI la2), op2, mwr, n2, pr2, rfl, hR2⟩ X (lv_sub hl [0, 1, 2, 3] rfl)
set_option maxHeartbeats 1000000 in
set_option maxRecDepth 100000 in
theorem lw_c20 {p9 : Program} {l : Launch} {e9 : Env} {s9 : State} {m9 : MethodId} {below : List Frame} {meth : Method} {c9 : Code} {Z9 : State → Prop} {b L : Nat} {xs : Nat → Int32} {D : va_G} {q : xQ} {ca ta mb : Nat → Nat} {aa tb : Nat → Nat → Nat} {ad sd : Nat → Option Nat} (hL : L ≤ 2048) (hX : va_X b L xs s9 s9.heap) (hbl : b < s9.heap.size) (F : xF p9 m9 c9 cL_law 4 s9 #[Value.ref b] wsL_law RL D q) (had : ∀ i, i < 6 → ad i = some (aa i 0)) (hsd : ∀ i, i < 2 → sd i = some (tb i 0)) {gs : List va_W} {H : Heap} {locs : List Loc} {ls : Array Slot} {i : Nat} (hi : i + 4 ≤ L) (hinv : xInv q ca ta aa tb ad sd mb gs) (X : xS D (fun r : Nat => s9.heap.size ≤ r) s9 gs H locs) (hl : lv_has ls 4 [(3, .int (nI i)), (0, .ref b), (1, .ref (ca 0)), (2, .ref (mb 0))]) (K : ∀ (gs : List va_W) (H : Heap) (locs : List Loc) (ls : Array Slot), xInv q ca ta aa tb ad sd mb gs → xS D (fun r : Nat => s9.heap.size ≤ r) s9 gs H locs → lv_has ls 4 [(3, .int (nI i)), (0, .ref b), (1, .ref (ca 0)), (2, .ref (mb 0))] → W p9 l e9 room_1 s9 m9 #[Value.ref b] below meth c9 H locs 600000 7302250 Z9 (F0 m9 729 ls [])) : W p9 l e9 room_1 s9 m9 #[Value.ref b] below meth c9 H locs 600000 7302250 Z9 (F0 m9 670 ls []) := by
  have hx := F.1.1
  have hb := F.1.2.1
  obtain ⟨R, Q, V, E, I, ms, mp, msl, msv, mpd, mfo, mto, mou, kn, ln, mmn, mla, mop, mwr, n, pr, rfl, hR⟩ := hinv
  have hok := hR.1.1
  have hk6 := hR.kn6
  have hln := hR.ln80
  refine lv_aload_n hx hb dL_law_670 rfl (lv_at hl 2 rfl) ?_
  refine x_cVi F X (gc := cW q ca ta aa tb ad sd R Q V E I) (gr := [mW q (mb 0) (mb 1) (mb 2) (mb 3) (mb 4) (mb 5) (mb 6) (mb 7) (mb 8) ms mp msl msv mpd mfo mto mou (nI kn) (nI ln) mmn mla mop mwr]) (List.Perm.refl _) (c_F_undo l D q ca ta aa tb ad sd R Q V E I ms mp msl msv mpd kn ln n pr had hsd hR ) (cwV 0 F.1.2.2.2.2 gL_law_X7_undo rfl rfl rfl (by decide +kernel) ⟨Nat.le_of_ble_eq_true rfl, Nat.le_of_ble_eq_true rfl⟩) rfl rfl (r0 := 0) (ci := 7) (T := TX7) (N := 8) rfl rfl hl.1 ⟨Nat.le_of_ble_eq_true rfl, Nat.le_of_ble_eq_true rfl⟩ (Nat.le_of_ble_eq_true rfl) dL_law_671 (fun r g1 H locs hp X => ?_)
  obtain ⟨R2, Q2, V2, E2, I2, rfl, hc⟩ := hp
  have X := X.perm (gs' := [mW q (mb 0) (mb 1) (mb 2) (mb 3) (mb 4) (mb 5) (mb 6) (mb 7) (mb 8) ms mp msl msv mpd mfo mto mou (nI kn) (nI ln) mmn mla mop mwr] ++ cW q ca ta aa tb ad sd R2 Q2 V2 E2 I2) List.perm_append_comm
  refine lv_aload_n hx hb dL_law_674 rfl (lv_at hl 3 rfl) ?_
  refine x_cVi F X (gc := [mW q (mb 0) (mb 1) (mb 2) (mb 3) (mb 4) (mb 5) (mb 6) (mb 7) (mb 8) ms mp msl msv mpd mfo mto mou (nI kn) (nI ln) mmn mla mop mwr]) (gr := cW q ca ta aa tb ad sd R2 Q2 V2 E2 I2) (List.Perm.refl _) (c_X8_undo l D q (mb 0) (mb 1) (mb 2) (mb 3) (mb 4) (mb 5) (mb 6) (mb 7) (mb 8) ms mp msl msv mpd mfo mto mou kn (nI ln) mmn mla mop mwr (by first | assumption | omega)) (cwV 0 F.1.2.2.2.2 gL_law_X8_undo rfl rfl rfl (by decide +kernel) ⟨Nat.le_of_ble_eq_true rfl, Nat.le_of_ble_eq_true rfl⟩) rfl rfl (r0 := 0) (ci := 8) (T := TX8) (N := 14) rfl rfl hl.1 ⟨Nat.le_of_ble_eq_true rfl, Nat.le_of_ble_eq_true rfl⟩ (Nat.le_of_ble_eq_true rfl) dL_law_675 (fun r2 g1 H locs hp X => ?_)
  obtain ⟨s2, kn2, rfl, hm⟩ := hp
  obtain ⟨rfl, n2, pr2, hR2⟩ := hc r2 s2 kn2 hm
  have X := X.perm (gs' := cW q ca ta aa tb ad sd R2 Q2 V2 E2 I2 ++ [mW q (mb 0) (mb 1) (mb 2) (mb 3) (mb 4) (mb 5) (mb 6) (mb 7) (mb 8) s2 mp msl msv mpd mfo mto mou (nI kn2) (nI ln) mmn mla mop mwr]) List.perm_append_comm
  refine lv_icmp_eq (tgt := 729) hx hb dL_law_678 (by decide) (fun _ => ?_) (fun h => absurd rfl h)
  exact K _ _ _ _ ⟨R2, Q2, V2, E2, I2, s2, mp, msl, msv, mpd, mfo, mto, mou, kn2, ln, mmn, mla, mop, mwr, n2, pr2, rfl, hR2⟩ X (lv_sub hl [0, 1, 2, 3] rfl)
set_option maxHeartbeats 1000000 in
set_option maxRecDepth 100000 in
theorem lw_c21 {p9 : Program} {l : Launch} {e9 : Env} {s9 : State} {m9 : MethodId} {below : List Frame} {meth : Method} {c9 : Code} {Z9 : State → Prop} {b L : Nat} {xs : Nat → Int32} {D : va_G} {q : xQ} {ca ta mb : Nat → Nat} {aa tb : Nat → Nat → Nat} {ad sd : Nat → Option Nat} (hL : L ≤ 2048) (hX : va_X b L xs s9 s9.heap) (hbl : b < s9.heap.size) (F : xF p9 m9 c9 cL_law 4 s9 #[Value.ref b] wsL_law RL D q) (had : ∀ i, i < 6 → ad i = some (aa i 0)) (hsd : ∀ i, i < 2 → sd i = some (tb i 0)) {gs : List va_W} {H : Heap} {locs : List Loc} {ls : Array Slot} {i : Nat} (hi : i + 4 ≤ L) (hinv : xInv q ca ta aa tb ad sd mb gs) (X : xS D (fun r : Nat => s9.heap.size ≤ r) s9 gs H locs) (hl : lv_has ls 4 [(3, .int (nI i)), (0, .ref b), (1, .ref (ca 0)), (2, .ref (mb 0))]) (K : ∀ (gs : List va_W) (H : Heap) (locs : List Loc) (ls : Array Slot), xInv q ca ta aa tb ad sd mb gs → xS D (fun r : Nat => s9.heap.size ≤ r) s9 gs H locs → lv_has ls 4 [(3, .int (nI i)), (0, .ref b), (1, .ref (ca 0)), (2, .ref (mb 0))] → W p9 l e9 room_1 s9 m9 #[Value.ref b] below meth c9 H locs 600000 7302250 Z9 (F0 m9 729 ls [])) : W p9 l e9 room_1 s9 m9 #[Value.ref b] below meth c9 H locs 600000 7302250 Z9 (F0 m9 683 ls []) := by
  have hx := F.1.1
  have hb := F.1.2.1
  obtain ⟨R, Q, V, E, I, ms, mp, msl, msv, mpd, mfo, mto, mou, kn, ln, mmn, mla, mop, mwr, n, pr, rfl, hR⟩ := hinv
  have hok := hR.1.1
  have hk6 := hR.kn6
  have hln := hR.ln80
  refine lv_aload_n hx hb dL_law_683 rfl (lv_at hl 2 rfl) ?_
  refine lv_aload_n hx hb dL_law_684 rfl (lv_at hl 1 rfl) ?_
  refine lv_iload_n hx hb dL_law_685 rfl (lv_at hl 0 rfl) ?_
  refine lv_iconst (v := 1) hx hb dL_law_686 (by decide) ?_
  refine lv_iadd hx hb dL_law_687 ?_
  refine x_i (y := (nI (i + 1))) (nI_add i 1) ?_
  refine lw_sl F X hX hbl hL (i := (i + 1)) (by omega) dL_law_688 ?_
  refine x_cVi F X (gc := cW q ca ta aa tb ad sd R Q V E I) (gr := [mW q (mb 0) (mb 1) (mb 2) (mb 3) (mb 4) (mb 5) (mb 6) (mb 7) (mb 8) ms mp msl msv mpd mfo mto mou (nI kn) (nI ln) mmn mla mop mwr]) (List.Perm.refl _) (c_F_save l D q ca ta aa tb ad sd R Q V E I ms mp msl msv mpd kn ln n pr had hsd hR (xs (i + 1))) (cwV 1 F.1.2.2.2.2 gL_law_X7_save rfl rfl rfl (by decide +kernel) ⟨Nat.le_of_ble_eq_true rfl, Nat.le_of_ble_eq_true rfl⟩) rfl rfl (r0 := 0) (ci := 7) (T := TX7) (N := 8) rfl rfl hl.1 ⟨Nat.le_of_ble_eq_true rfl, Nat.le_of_ble_eq_true rfl⟩ (Nat.le_of_ble_eq_true rfl) dL_law_689 (fun r g1 H locs hp X => ?_)
  obtain ⟨R2, Q2, V2, E2, I2, rfl, hc⟩ := hp
  have X := X.perm (gs' := [mW q (mb 0) (mb 1) (mb 2) (mb 3) (mb 4) (mb 5) (mb 6) (mb 7) (mb 8) ms mp msl msv mpd mfo mto mou (nI kn) (nI ln) mmn mla mop mwr] ++ cW q ca ta aa tb ad sd R2 Q2 V2 E2 I2) List.perm_append_comm
  refine lv_aload_n hx hb dL_law_692 rfl (lv_at hl 3 rfl) ?_
  refine lv_aload_n hx hb dL_law_693 rfl (lv_at hl 1 rfl) ?_
  refine lv_iload_n hx hb dL_law_694 rfl (lv_at hl 0 rfl) ?_
  refine lv_iconst (v := 1) hx hb dL_law_695 (by decide) ?_
  refine lv_iadd hx hb dL_law_696 ?_
  refine x_i (y := (nI (i + 1))) (nI_add i 1) ?_
  refine lw_sl F X hX hbl hL (i := (i + 1)) (by omega) dL_law_697 ?_
  refine x_cVi F X (gc := [mW q (mb 0) (mb 1) (mb 2) (mb 3) (mb 4) (mb 5) (mb 6) (mb 7) (mb 8) ms mp msl msv mpd mfo mto mou (nI kn) (nI ln) mmn mla mop mwr]) (gr := cW q ca ta aa tb ad sd R2 Q2 V2 E2 I2) (List.Perm.refl _) (c_X8_save l D q (mb 0) (mb 1) (mb 2) (mb 3) (mb 4) (mb 5) (mb 6) (mb 7) (mb 8) ms mp msl msv mpd mfo mto mou (nI kn) (nI ln) mmn mla mop mwr n (xs (i + 1)) hok.2.2.1) (cwV 1 F.1.2.2.2.2 gL_law_X8_save rfl rfl rfl (by decide +kernel) ⟨Nat.le_of_ble_eq_true rfl, Nat.le_of_ble_eq_true rfl⟩) rfl rfl (r0 := 0) (ci := 8) (T := TX8) (N := 14) rfl rfl hl.1 ⟨Nat.le_of_ble_eq_true rfl, Nat.le_of_ble_eq_true rfl⟩ (Nat.le_of_ble_eq_true rfl) dL_law_698 (fun r2 g1 H locs hp X => ?_)
  obtain ⟨sl2, sv2, rfl, hm⟩ := hp
  obtain ⟨rfl, n2, pr2, hR2⟩ := hc r2 sl2 sv2 hm
  have X := X.perm (gs' := cW q ca ta aa tb ad sd R2 Q2 V2 E2 I2 ++ [mW q (mb 0) (mb 1) (mb 2) (mb 3) (mb 4) (mb 5) (mb 6) (mb 7) (mb 8) ms mp sl2 sv2 mpd mfo mto mou (nI kn) (nI ln) mmn mla mop mwr]) List.perm_append_comm
  refine lv_icmp_eq (tgt := 729) hx hb dL_law_701 (by decide) (fun _ => ?_) (fun h => absurd rfl h)
  exact K _ _ _ _ ⟨R2, Q2, V2, E2, I2, ms, mp, sl2, sv2, mpd, mfo, mto, mou, kn, ln, mmn, mla, mop, mwr, n2, pr2, rfl, hR2⟩ X (lv_sub hl [0, 1, 2, 3] rfl)
set_option maxHeartbeats 1000000 in
set_option maxRecDepth 100000 in
theorem lw_c22 {p9 : Program} {l : Launch} {e9 : Env} {s9 : State} {m9 : MethodId} {below : List Frame} {meth : Method} {c9 : Code} {Z9 : State → Prop} {b L : Nat} {xs : Nat → Int32} {D : va_G} {q : xQ} {ca ta mb : Nat → Nat} {aa tb : Nat → Nat → Nat} {ad sd : Nat → Option Nat} (hL : L ≤ 2048) (hX : va_X b L xs s9 s9.heap) (hbl : b < s9.heap.size) (F : xF p9 m9 c9 cL_law 4 s9 #[Value.ref b] wsL_law RL D q) (had : ∀ i, i < 6 → ad i = some (aa i 0)) (hsd : ∀ i, i < 2 → sd i = some (tb i 0)) {gs : List va_W} {H : Heap} {locs : List Loc} {ls : Array Slot} {i : Nat} (hi : i + 4 ≤ L) (hinv : xInv q ca ta aa tb ad sd mb gs) (X : xS D (fun r : Nat => s9.heap.size ≤ r) s9 gs H locs) (hl : lv_has ls 4 [(3, .int (nI i)), (0, .ref b), (1, .ref (ca 0)), (2, .ref (mb 0))]) (K : ∀ (gs : List va_W) (H : Heap) (locs : List Loc) (ls : Array Slot), xInv q ca ta aa tb ad sd mb gs → xS D (fun r : Nat => s9.heap.size ≤ r) s9 gs H locs → lv_has ls 4 [(3, .int (nI i)), (0, .ref b), (1, .ref (ca 0)), (2, .ref (mb 0))] → W p9 l e9 room_1 s9 m9 #[Value.ref b] below meth c9 H locs 600000 7302250 Z9 (F0 m9 729 ls [])) : W p9 l e9 room_1 s9 m9 #[Value.ref b] below meth c9 H locs 600000 7302250 Z9 (F0 m9 706 ls []) := by
  have hx := F.1.1
  have hb := F.1.2.1
  obtain ⟨R, Q, V, E, I, ms, mp, msl, msv, mpd, mfo, mto, mou, kn, ln, mmn, mla, mop, mwr, n, pr, rfl, hR⟩ := hinv
  have hok := hR.1.1
  have hk6 := hR.kn6
  have hln := hR.ln80
  refine lv_aload_n hx hb dL_law_706 rfl (lv_at hl 2 rfl) ?_
  refine lv_aload_n hx hb dL_law_707 rfl (lv_at hl 1 rfl) ?_
  refine lv_iload_n hx hb dL_law_708 rfl (lv_at hl 0 rfl) ?_
  refine lv_iconst (v := 1) hx hb dL_law_709 (by decide) ?_
  refine lv_iadd hx hb dL_law_710 ?_
  refine x_i (y := (nI (i + 1))) (nI_add i 1) ?_
  refine lw_sl F X hX hbl hL (i := (i + 1)) (by omega) dL_law_711 ?_
  refine x_cVi F X (gc := cW q ca ta aa tb ad sd R Q V E I) (gr := [mW q (mb 0) (mb 1) (mb 2) (mb 3) (mb 4) (mb 5) (mb 6) (mb 7) (mb 8) ms mp msl msv mpd mfo mto mou (nI kn) (nI ln) mmn mla mop mwr]) (List.Perm.refl _) (c_F_restore l D q ca ta aa tb ad sd R Q V E I ms mp msl msv mpd kn ln n pr had hsd hR (xs (i + 1))) (cwV 1 F.1.2.2.2.2 gL_law_X7_restore rfl rfl rfl (by decide +kernel) ⟨Nat.le_of_ble_eq_true rfl, Nat.le_of_ble_eq_true rfl⟩) rfl rfl (r0 := 0) (ci := 7) (T := TX7) (N := 8) rfl rfl hl.1 ⟨Nat.le_of_ble_eq_true rfl, Nat.le_of_ble_eq_true rfl⟩ (Nat.le_of_ble_eq_true rfl) dL_law_712 (fun r g1 H locs hp X => ?_)
  obtain ⟨R2, Q2, V2, E2, I2, rfl, hc⟩ := hp
  have X := X.perm (gs' := [mW q (mb 0) (mb 1) (mb 2) (mb 3) (mb 4) (mb 5) (mb 6) (mb 7) (mb 8) ms mp msl msv mpd mfo mto mou (nI kn) (nI ln) mmn mla mop mwr] ++ cW q ca ta aa tb ad sd R2 Q2 V2 E2 I2) List.perm_append_comm
  refine lv_aload_n hx hb dL_law_715 rfl (lv_at hl 3 rfl) ?_
  refine lv_aload_n hx hb dL_law_716 rfl (lv_at hl 1 rfl) ?_
  refine lv_iload_n hx hb dL_law_717 rfl (lv_at hl 0 rfl) ?_
  refine lv_iconst (v := 1) hx hb dL_law_718 (by decide) ?_
  refine lv_iadd hx hb dL_law_719 ?_
  refine x_i (y := (nI (i + 1))) (nI_add i 1) ?_
  refine lw_sl F X hX hbl hL (i := (i + 1)) (by omega) dL_law_720 ?_
  refine x_cVi F X (gc := [mW q (mb 0) (mb 1) (mb 2) (mb 3) (mb 4) (mb 5) (mb 6) (mb 7) (mb 8) ms mp msl msv mpd mfo mto mou (nI kn) (nI ln) mmn mla mop mwr]) (gr := cW q ca ta aa tb ad sd R2 Q2 V2 E2 I2) (List.Perm.refl _) (c_X8_restore l D q (mb 0) (mb 1) (mb 2) (mb 3) (mb 4) (mb 5) (mb 6) (mb 7) (mb 8) ms mp msl msv mpd mfo mto mou kn (nI ln) mmn mla mop mwr (xs (i + 1)) (by first | assumption | omega)) (cwV 1 F.1.2.2.2.2 gL_law_X8_restore rfl rfl rfl (by decide +kernel) ⟨Nat.le_of_ble_eq_true rfl, Nat.le_of_ble_eq_true rfl⟩) rfl rfl (r0 := 0) (ci := 8) (T := TX8) (N := 14) rfl rfl hl.1 ⟨Nat.le_of_ble_eq_true rfl, Nat.le_of_ble_eq_true rfl⟩ (Nat.le_of_ble_eq_true rfl) dL_law_721 (fun r2 g1 H locs hp X => ?_)
  obtain ⟨s2, p2, kn2, rfl, hm⟩ := hp
  obtain ⟨rfl, n2, pr2, hR2⟩ := hc r2 s2 p2 kn2 hm
  have X := X.perm (gs' := cW q ca ta aa tb ad sd R2 Q2 V2 E2 I2 ++ [mW q (mb 0) (mb 1) (mb 2) (mb 3) (mb 4) (mb 5) (mb 6) (mb 7) (mb 8) s2 p2 msl msv mpd mfo mto mou (nI kn2) (nI ln) mmn mla mop mwr]) List.perm_append_comm
  refine lv_icmp_eq (tgt := 729) hx hb dL_law_724 (by decide) (fun _ => ?_) (fun h => absurd rfl h)
  exact K _ _ _ _ ⟨R2, Q2, V2, E2, I2, s2, p2, msl, msv, mpd, mfo, mto, mou, kn2, ln, mmn, mla, mop, mwr, n2, pr2, rfl, hR2⟩ X (lv_sub hl [0, 1, 2, 3] rfl)
