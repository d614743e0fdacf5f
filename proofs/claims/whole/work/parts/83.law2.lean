set_option maxHeartbeats 1000000 in
set_option maxRecDepth 100000 in
theorem lw_c8 {p9 : Program} {l : Launch} {e9 : Env} {s9 : State} {m9 : MethodId} {below : List Frame} {meth : Method} {c9 : Code} {Z9 : State → Prop} {b L : Nat} {xs : Nat → Int32} {D : va_G} {q : xQ} {ca ta mb : Nat → Nat} {aa tb : Nat → Nat → Nat} {ad sd : Nat → Option Nat} (hL : L ≤ 2048) (hX : va_X b L xs s9 s9.heap) (hbl : b < s9.heap.size) (F : xF p9 m9 c9 cL_law 4 s9 #[Value.ref b] wsL_law RL D q) (had : ∀ i, i < 6 → ad i = some (aa i 0)) (hsd : ∀ i, i < 2 → sd i = some (tb i 0)) {gs : List va_W} {H : Heap} {locs : List Loc} {ls : Array Slot} {i : Nat} (hi : i + 4 ≤ L) (hinv : xInv q ca ta aa tb ad sd mb gs) (X : xS D (fun r : Nat => s9.heap.size ≤ r) s9 gs H locs) (hl : lv_has ls 4 [(3, .int (nI i)), (0, .ref b), (1, .ref (ca 0)), (2, .ref (mb 0))]) (K : ∀ (gs : List va_W) (H : Heap) (locs : List Loc) (ls : Array Slot), xInv q ca ta aa tb ad sd mb gs → xS D (fun r : Nat => s9.heap.size ≤ r) s9 gs H locs → lv_has ls 4 [(3, .int (nI i)), (0, .ref b), (1, .ref (ca 0)), (2, .ref (mb 0))] → W p9 l e9 room_1 s9 m9 #[Value.ref b] below meth c9 H locs 600000 7302250 Z9 (F0 m9 729 ls [])) : W p9 l e9 room_1 s9 m9 #[Value.ref b] below meth c9 H locs 600000 7302250 Z9 (F0 m9 354 ls []) := by
  have hx := F.1.1
  have hb := F.1.2.1
  obtain ⟨R, Q, V, E, I, ms, mp, msl, msv, mpd, mfo, mto, mou, kn, ln, mmn, mla, mop, mwr, n, pr, rfl, hR⟩ := hinv
  have hok := hR.1.1
  have hk6 := hR.kn6
  have hln := hR.ln80
  refine lv_aload_n hx hb dL_law_354 rfl (lv_at hl 2 rfl) ?_
  refine lv_aload_n hx hb dL_law_355 rfl (lv_at hl 1 rfl) ?_
  refine lv_iload_n hx hb dL_law_356 rfl (lv_at hl 0 rfl) ?_
  refine lv_iconst (v := 1) hx hb dL_law_357 (by decide) ?_
  refine lv_iadd hx hb dL_law_358 ?_
  refine x_i (y := (nI (i + 1))) (nI_add i 1) ?_
  refine lw_sl F X hX hbl hL (i := (i + 1)) (by omega) dL_law_359 ?_
  refine lv_aload_n hx hb dL_law_360 rfl (lv_at hl 1 rfl) ?_
  refine lv_iload_n hx hb dL_law_361 rfl (lv_at hl 0 rfl) ?_
  refine lv_iconst (v := 2) hx hb dL_law_362 (by decide) ?_
  refine lv_iadd hx hb dL_law_363 ?_
  refine x_i (y := (nI (i + 2))) (nI_add i 2) ?_
  refine lw_sl F X hX hbl hL (i := (i + 2)) (by omega) dL_law_364 ?_
  refine x_cVi F X (gc := cW q ca ta aa tb ad sd R Q V E I) (gr := [mW q (mb 0) (mb 1) (mb 2) (mb 3) (mb 4) (mb 5) (mb 6) (mb 7) (mb 8) ms mp msl msv mpd mfo mto mou (nI kn) (nI ln) mmn mla mop mwr]) (List.Perm.refl _) (c_F_now l D q ca ta aa tb ad sd R Q V E I ms mp msl msv mpd kn ln n pr had hsd hR (xs (i + 1)) (xs (i + 2))) (cwV 2 F.1.2.2.2.2 gL_law_X7_now rfl rfl rfl (by decide +kernel) ⟨Nat.le_of_ble_eq_true rfl, Nat.le_of_ble_eq_true rfl⟩) rfl rfl (r0 := 0) (ci := 7) (T := TX7) (N := 8) rfl rfl hl.1 ⟨Nat.le_of_ble_eq_true rfl, Nat.le_of_ble_eq_true rfl⟩ (Nat.le_of_ble_eq_true rfl) dL_law_365 (fun r g1 H locs hp X => ?_)
  obtain ⟨R2, Q2, V2, E2, I2, rfl, rfl, n2, pr2, hR2⟩ := hp
  have X := X.perm (gs' := [mW q (mb 0) (mb 1) (mb 2) (mb 3) (mb 4) (mb 5) (mb 6) (mb 7) (mb 8) ms mp msl msv mpd mfo mto mou (nI kn) (nI ln) mmn mla mop mwr] ++ cW q ca ta aa tb ad sd R2 Q2 V2 E2 I2) List.perm_append_comm
  refine lv_aload_n hx hb dL_law_368 rfl (lv_at hl 3 rfl) ?_
  refine lv_aload_n hx hb dL_law_369 rfl (lv_at hl 1 rfl) ?_
  refine lv_iload_n hx hb dL_law_370 rfl (lv_at hl 0 rfl) ?_
  refine lv_iconst (v := 1) hx hb dL_law_371 (by decide) ?_
  refine lv_iadd hx hb dL_law_372 ?_
  refine x_i (y := (nI (i + 1))) (nI_add i 1) ?_
  refine lw_sl F X hX hbl hL (i := (i + 1)) (by omega) dL_law_373 ?_
  refine lv_aload_n hx hb dL_law_374 rfl (lv_at hl 1 rfl) ?_
  refine lv_iload_n hx hb dL_law_375 rfl (lv_at hl 0 rfl) ?_
  refine lv_iconst (v := 2) hx hb dL_law_376 (by decide) ?_
  refine lv_iadd hx hb dL_law_377 ?_
  refine x_i (y := (nI (i + 2))) (nI_add i 2) ?_
  refine lw_sl F X hX hbl hL (i := (i + 2)) (by omega) dL_law_378 ?_
  refine x_cVi F X (gc := [mW q (mb 0) (mb 1) (mb 2) (mb 3) (mb 4) (mb 5) (mb 6) (mb 7) (mb 8) ms mp msl msv mpd mfo mto mou (nI kn) (nI ln) mmn mla mop mwr]) (gr := cW q ca ta aa tb ad sd R2 Q2 V2 E2 I2) (List.Perm.refl _) (c_X8_now l D q (mb 0) (mb 1) (mb 2) (mb 3) (mb 4) (mb 5) (mb 6) (mb 7) (mb 8) ms mp msl msv mpd mfo mto mou (nI kn) (nI ln) mmn mla mop mwr n pr (xs (i + 1)) (xs (i + 2)) (by first | assumption | omega)) (cwV 2 F.1.2.2.2.2 gL_law_X8_now rfl rfl rfl (by decide +kernel) ⟨Nat.le_of_ble_eq_true rfl, Nat.le_of_ble_eq_true rfl⟩) rfl rfl (r0 := 0) (ci := 8) (T := TX8) (N := 14) rfl rfl hl.1 ⟨Nat.le_of_ble_eq_true rfl, Nat.le_of_ble_eq_true rfl⟩ (Nat.le_of_ble_eq_true rfl) dL_law_379 (fun r2 g1 H locs hp X => ?_)
  obtain ⟨fo2, rfl, rfl⟩ := hp
  have X := X.perm (gs' := cW q ca ta aa tb ad sd R2 Q2 V2 E2 I2 ++ [mW q (mb 0) (mb 1) (mb 2) (mb 3) (mb 4) (mb 5) (mb 6) (mb 7) (mb 8) ms mp msl msv mpd fo2 mto mou (nI kn) (nI ln) mmn mla mop mwr]) List.perm_append_comm
  refine lv_icmp_eq (tgt := 729) hx hb dL_law_382 (by decide) (fun _ => ?_) (fun h => absurd rfl h)
  exact K _ _ _ _ ⟨R2, Q2, V2, E2, I2, ms, mp, msl, msv, mpd, fo2, mto, mou, kn, ln, mmn, mla, mop, mwr, n2, pr2, rfl, hR2⟩ X (lv_sub hl [0, 1, 2, 3] rfl)
set_option maxHeartbeats 1000000 in
set_option maxRecDepth 100000 in
theorem lw_c9 {p9 : Program} {l : Launch} {e9 : Env} {s9 : State} {m9 : MethodId} {below : List Frame} {meth : Method} {c9 : Code} {Z9 : State → Prop} {b L : Nat} {xs : Nat → Int32} {D : va_G} {q : xQ} {ca ta mb : Nat → Nat} {aa tb : Nat → Nat → Nat} {ad sd : Nat → Option Nat} (hL : L ≤ 2048) (hX : va_X b L xs s9 s9.heap) (hbl : b < s9.heap.size) (F : xF p9 m9 c9 cL_law 4 s9 #[Value.ref b] wsL_law RL D q) (had : ∀ i, i < 6 → ad i = some (aa i 0)) (hsd : ∀ i, i < 2 → sd i = some (tb i 0)) {gs : List va_W} {H : Heap} {locs : List Loc} {ls : Array Slot} {i : Nat} (hi : i + 4 ≤ L) (hinv : xInv q ca ta aa tb ad sd mb gs) (X : xS D (fun r : Nat => s9.heap.size ≤ r) s9 gs H locs) (hl : lv_has ls 4 [(3, .int (nI i)), (0, .ref b), (1, .ref (ca 0)), (2, .ref (mb 0))]) (K : ∀ (gs : List va_W) (H : Heap) (locs : List Loc) (ls : Array Slot), xInv q ca ta aa tb ad sd mb gs → xS D (fun r : Nat => s9.heap.size ≤ r) s9 gs H locs → lv_has ls 4 [(3, .int (nI i)), (0, .ref b), (1, .ref (ca 0)), (2, .ref (mb 0))] → W p9 l e9 room_1 s9 m9 #[Value.ref b] below meth c9 H locs 600000 7302250 Z9 (F0 m9 729 ls [])) : W p9 l e9 room_1 s9 m9 #[Value.ref b] below meth c9 H locs 600000 7302250 Z9 (F0 m9 387 ls []) := by
  have hx := F.1.1
  have hb := F.1.2.1
  obtain ⟨R, Q, V, E, I, ms, mp, msl, msv, mpd, mfo, mto, mou, kn, ln, mmn, mla, mop, mwr, n, pr, rfl, hR⟩ := hinv
  have hok := hR.1.1
  have hk6 := hR.kn6
  have hln := hR.ln80
  obtain ⟨-, -, -, -, -, -, -, -, -, -, -, ⟨v9, -, -, hm⟩, -⟩ := id hok
  obtain ⟨m, hm, hm8⟩ : ∃ m, ms 8 = nI m ∧ m ≤ 8 := ⟨_, hm, by omega⟩
  refine lv_aload_n hx hb dL_law_387 rfl (lv_at hl 2 rfl) ?_
  refine lv_aload_n hx hb dL_law_388 rfl (lv_at hl 1 rfl) ?_
  refine lv_iload_n hx hb dL_law_389 rfl (lv_at hl 0 rfl) ?_
  refine lv_iconst (v := 1) hx hb dL_law_390 (by decide) ?_
  refine lv_iadd hx hb dL_law_391 ?_
  refine x_i (y := (nI (i + 1))) (nI_add i 1) ?_
  refine lw_sl F X hX hbl hL (i := (i + 1)) (by omega) dL_law_392 ?_
  refine lv_aload_n hx hb dL_law_393 rfl (lv_at hl 1 rfl) ?_
  refine lv_iload_n hx hb dL_law_394 rfl (lv_at hl 0 rfl) ?_
  refine lv_iconst (v := 2) hx hb dL_law_395 (by decide) ?_
  refine lv_iadd hx hb dL_law_396 ?_
  refine x_i (y := (nI (i + 2))) (nI_add i 2) ?_
  refine lw_sl F X hX hbl hL (i := (i + 2)) (by omega) dL_law_397 ?_
  refine x_cVi F X (gc := cW q ca ta aa tb ad sd R Q V E I) (gr := [mW q (mb 0) (mb 1) (mb 2) (mb 3) (mb 4) (mb 5) (mb 6) (mb 7) (mb 8) ms mp msl msv mpd mfo mto mou (nI kn) (nI ln) mmn mla mop mwr]) (List.Perm.refl _) (c_F_record l D q ca ta aa tb ad sd R Q V E I ms mp msl msv mpd kn ln n pr had hsd hR (xs (i + 1)) (xs (i + 2)) m hm hm8) (cwV 2 F.1.2.2.2.2 gL_law_X7_record rfl rfl rfl (by decide +kernel) ⟨Nat.le_of_ble_eq_true rfl, Nat.le_of_ble_eq_true rfl⟩) rfl rfl (r0 := 0) (ci := 7) (T := TX7) (N := 8) rfl rfl hl.1 ⟨Nat.le_of_ble_eq_true rfl, Nat.le_of_ble_eq_true rfl⟩ (Nat.le_of_ble_eq_true rfl) dL_law_398 (fun r g1 H locs hp X => ?_)
  obtain ⟨R2, Q2, V2, E2, I2, rfl, rfl, n2, pr2, hR2⟩ := hp
  have X := X.perm (gs' := [mW q (mb 0) (mb 1) (mb 2) (mb 3) (mb 4) (mb 5) (mb 6) (mb 7) (mb 8) ms mp msl msv mpd mfo mto mou (nI kn) (nI ln) mmn mla mop mwr] ++ cW q ca ta aa tb ad sd R2 Q2 V2 E2 I2) List.perm_append_comm
  refine lv_aload_n hx hb dL_law_401 rfl (lv_at hl 3 rfl) ?_
  refine lv_aload_n hx hb dL_law_402 rfl (lv_at hl 1 rfl) ?_
  refine lv_iload_n hx hb dL_law_403 rfl (lv_at hl 0 rfl) ?_
  refine lv_iconst (v := 1) hx hb dL_law_404 (by decide) ?_
  refine lv_iadd hx hb dL_law_405 ?_
  refine x_i (y := (nI (i + 1))) (nI_add i 1) ?_
  refine lw_sl F X hX hbl hL (i := (i + 1)) (by omega) dL_law_406 ?_
  refine lv_aload_n hx hb dL_law_407 rfl (lv_at hl 1 rfl) ?_
  refine lv_iload_n hx hb dL_law_408 rfl (lv_at hl 0 rfl) ?_
  refine lv_iconst (v := 2) hx hb dL_law_409 (by decide) ?_
  refine lv_iadd hx hb dL_law_410 ?_
  refine x_i (y := (nI (i + 2))) (nI_add i 2) ?_
  refine lw_sl F X hX hbl hL (i := (i + 2)) (by omega) dL_law_411 ?_
  refine x_cVi F X (gc := [mW q (mb 0) (mb 1) (mb 2) (mb 3) (mb 4) (mb 5) (mb 6) (mb 7) (mb 8) ms mp msl msv mpd mfo mto mou (nI kn) (nI ln) mmn mla mop mwr]) (gr := cW q ca ta aa tb ad sd R2 Q2 V2 E2 I2) (List.Perm.refl _) (c_X8_record l D q (mb 0) (mb 1) (mb 2) (mb 3) (mb 4) (mb 5) (mb 6) (mb 7) (mb 8) ms mp msl msv mpd mfo mto mou (nI kn) (nI ln) mmn mla mop mwr m (xs (i + 1)) (xs (i + 2)) (by first | assumption | omega) (by first | assumption | omega)) (cwV 2 F.1.2.2.2.2 gL_law_X8_record rfl rfl rfl (by decide +kernel) ⟨Nat.le_of_ble_eq_true rfl, Nat.le_of_ble_eq_true rfl⟩) rfl rfl (r0 := 0) (ci := 8) (T := TX8) (N := 14) rfl rfl hl.1 ⟨Nat.le_of_ble_eq_true rfl, Nat.le_of_ble_eq_true rfl⟩ (Nat.le_of_ble_eq_true rfl) dL_law_412 (fun r2 g1 H locs hp X => ?_)
  obtain ⟨rfl, rfl⟩ := hp
  have X := X.perm (gs' := cW q ca ta aa tb ad sd R2 Q2 V2 E2 I2 ++ [mW q (mb 0) (mb 1) (mb 2) (mb 3) (mb 4) (mb 5) (mb 6) (mb 7) (mb 8) ms mp msl msv mpd mfo mto mou (nI kn) (nI ln) mmn mla mop mwr]) List.perm_append_comm
  refine lv_icmp_eq (tgt := 729) hx hb dL_law_415 (by decide) (fun _ => ?_) (fun h => absurd rfl h)
  exact K _ _ _ _ ⟨R2, Q2, V2, E2, I2, ms, mp, msl, msv, mpd, mfo, mto, mou, kn, ln, mmn, mla, mop, mwr, n2, pr2, rfl, hR2⟩ X (lv_sub hl [0, 1, 2, 3] rfl)
set_option maxHeartbeats 1000000 in
set_option maxRecDepth 100000 in
theorem lw_c10 {p9 : Program} {l : Launch} {e9 : Env} {s9 : State} {m9 : MethodId} {below : List Frame} {meth : Method} {c9 : Code} {Z9 : State → Prop} {b L : Nat} {xs : Nat → Int32} {D : va_G} {q : xQ} {ca ta mb : Nat → Nat} {aa tb : Nat → Nat → Nat} {ad sd : Nat → Option Nat} (hL : L ≤ 2048) (hX : va_X b L xs s9 s9.heap) (hbl : b < s9.heap.size) (F : xF p9 m9 c9 cL_law 4 s9 #[Value.ref b] wsL_law RL D q) (had : ∀ i, i < 6 → ad i = some (aa i 0)) (hsd : ∀ i, i < 2 → sd i = some (tb i 0)) {gs : List va_W} {H : Heap} {locs : List Loc} {ls : Array Slot} {i : Nat} (hi : i + 4 ≤ L) (hinv : xInv q ca ta aa tb ad sd mb gs) (X : xS D (fun r : Nat => s9.heap.size ≤ r) s9 gs H locs) (hl : lv_has ls 4 [(3, .int (nI i)), (0, .ref b), (1, .ref (ca 0)), (2, .ref (mb 0))]) (K : ∀ (gs : List va_W) (H : Heap) (locs : List Loc) (ls : Array Slot), xInv q ca ta aa tb ad sd mb gs → xS D (fun r : Nat => s9.heap.size ≤ r) s9 gs H locs → lv_has ls 4 [(3, .int (nI i)), (0, .ref b), (1, .ref (ca 0)), (2, .ref (mb 0))] → W p9 l e9 room_1 s9 m9 #[Value.ref b] below meth c9 H locs 600000 7302250 Z9 (F0 m9 729 ls [])) : W p9 l e9 room_1 s9 m9 #[Value.ref b] below meth c9 H locs 600000 7302250 Z9 (F0 m9 420 ls []) := by
  have hx := F.1.1
  have hb := F.1.2.1
  obtain ⟨R, Q, V, E, I, ms, mp, msl, msv, mpd, mfo, mto, mou, kn, ln, mmn, mla, mop, mwr, n, pr, rfl, hR⟩ := hinv
  have hok := hR.1.1
  have hk6 := hR.kn6
  have hln := hR.ln80
  refine lv_aload_n hx hb dL_law_420 rfl (lv_at hl 2 rfl) ?_
  refine lv_aload_n hx hb dL_law_421 rfl (lv_at hl 1 rfl) ?_
  refine lv_iload_n hx hb dL_law_422 rfl (lv_at hl 0 rfl) ?_
  refine lv_iconst (v := 1) hx hb dL_law_423 (by decide) ?_
  refine lv_iadd hx hb dL_law_424 ?_
  refine x_i (y := (nI (i + 1))) (nI_add i 1) ?_
  refine lw_sl F X hX hbl hL (i := (i + 1)) (by omega) dL_law_425 ?_
  refine x_cVi F X (gc := cW q ca ta aa tb ad sd R Q V E I) (gr := [mW q (mb 0) (mb 1) (mb 2) (mb 3) (mb 4) (mb 5) (mb 6) (mb 7) (mb 8) ms mp msl msv mpd mfo mto mou (nI kn) (nI ln) mmn mla mop mwr]) (List.Perm.refl _) (c_F_sign l D q ca ta aa tb ad sd R Q V E I ms mp msl msv mpd kn ln n pr had hsd hR (xs (i + 1))) (cwV 1 F.1.2.2.2.2 gL_law_X7_sign rfl rfl rfl (by decide +kernel) ⟨Nat.le_of_ble_eq_true rfl, Nat.le_of_ble_eq_true rfl⟩) rfl rfl (r0 := 0) (ci := 7) (T := TX7) (N := 8) rfl rfl hl.1 ⟨Nat.le_of_ble_eq_true rfl, Nat.le_of_ble_eq_true rfl⟩ (Nat.le_of_ble_eq_true rfl) dL_law_426 (fun r g1 H locs hp X => ?_)
  obtain ⟨R2, Q2, V2, E2, I2, rfl, rfl, n2, pr2, hR2⟩ := hp
  have X := X.perm (gs' := [mW q (mb 0) (mb 1) (mb 2) (mb 3) (mb 4) (mb 5) (mb 6) (mb 7) (mb 8) ms mp msl msv mpd mfo mto mou (nI kn) (nI ln) mmn mla mop mwr] ++ cW q ca ta aa tb ad sd R2 Q2 V2 E2 I2) List.perm_append_comm
  refine lv_aload_n hx hb dL_law_429 rfl (lv_at hl 3 rfl) ?_
  refine lv_aload_n hx hb dL_law_430 rfl (lv_at hl 1 rfl) ?_
  refine lv_iload_n hx hb dL_law_431 rfl (lv_at hl 0 rfl) ?_
  refine lv_iconst (v := 1) hx hb dL_law_432 (by decide) ?_
  refine lv_iadd hx hb dL_law_433 ?_
  refine x_i (y := (nI (i + 1))) (nI_add i 1) ?_
  refine lw_sl F X hX hbl hL (i := (i + 1)) (by omega) dL_law_434 ?_
  refine x_cVi F X (gc := [mW q (mb 0) (mb 1) (mb 2) (mb 3) (mb 4) (mb 5) (mb 6) (mb 7) (mb 8) ms mp msl msv mpd mfo mto mou (nI kn) (nI ln) mmn mla mop mwr]) (gr := cW q ca ta aa tb ad sd R2 Q2 V2 E2 I2) (List.Perm.refl _) (c_X8_sign l D q (mb 0) (mb 1) (mb 2) (mb 3) (mb 4) (mb 5) (mb 6) (mb 7) (mb 8) ms mp msl msv mpd mfo mto mou (nI kn) ln mmn mla mop mwr (xs (i + 1)) (by first | assumption | omega)) (cwV 1 F.1.2.2.2.2 gL_law_X8_sign rfl rfl rfl (by decide +kernel) ⟨Nat.le_of_ble_eq_true rfl, Nat.le_of_ble_eq_true rfl⟩) rfl rfl (r0 := 0) (ci := 8) (T := TX8) (N := 14) rfl rfl hl.1 ⟨Nat.le_of_ble_eq_true rfl, Nat.le_of_ble_eq_true rfl⟩ (Nat.le_of_ble_eq_true rfl) dL_law_435 (fun r2 g1 H locs hp X => ?_)
  obtain ⟨rfl, rfl⟩ := hp
  have X := X.perm (gs' := cW q ca ta aa tb ad sd R2 Q2 V2 E2 I2 ++ [mW q (mb 0) (mb 1) (mb 2) (mb 3) (mb 4) (mb 5) (mb 6) (mb 7) (mb 8) ms mp msl msv mpd mfo mto mou (nI kn) (nI ln) mmn mla mop mwr]) List.perm_append_comm
  refine lv_icmp_eq (tgt := 729) hx hb dL_law_438 (by decide) (fun _ => ?_) (fun h => absurd rfl h)
  exact K _ _ _ _ ⟨R2, Q2, V2, E2, I2, ms, mp, msl, msv, mpd, mfo, mto, mou, kn, ln, mmn, mla, mop, mwr, n2, pr2, rfl, hR2⟩ X (lv_sub hl [0, 1, 2, 3] rfl)
set_option maxHeartbeats 1000000 in
set_option maxRecDepth 100000 in
theorem lw_c11 {p9 : Program} {l : Launch} {e9 : Env} {s9 : State} {m9 : MethodId} {below : List Frame} {meth : Method} {c9 : Code} {Z9 : State → Prop} {b L : Nat} {xs : Nat → Int32} {D : va_G} {q : xQ} {ca ta mb : Nat → Nat} {aa tb : Nat → Nat → Nat} {ad sd : Nat → Option Nat} (hL : L ≤ 2048) (hX : va_X b L xs s9 s9.heap) (hbl : b < s9.heap.size) (F : xF p9 m9 c9 cL_law 4 s9 #[Value.ref b] wsL_law RL D q) (had : ∀ i, i < 6 → ad i = some (aa i 0)) (hsd : ∀ i, i < 2 → sd i = some (tb i 0)) {gs : List va_W} {H : Heap} {locs : List Loc} {ls : Array Slot} {i : Nat} (hi : i + 4 ≤ L) (hinv : xInv q ca ta aa tb ad sd mb gs) (X : xS D (fun r : Nat => s9.heap.size ≤ r) s9 gs H locs) (hl : lv_has ls 4 [(3, .int (nI i)), (0, .ref b), (1, .ref (ca 0)), (2, .ref (mb 0))]) (K : ∀ (gs : List va_W) (H : Heap) (locs : List Loc) (ls : Array Slot), xInv q ca ta aa tb ad sd mb gs → xS D (fun r : Nat => s9.heap.size ≤ r) s9 gs H locs → lv_has ls 4 [(3, .int (nI i)), (0, .ref b), (1, .ref (ca 0)), (2, .ref (mb 0))] → W p9 l e9 room_1 s9 m9 #[Value.ref b] below meth c9 H locs 600000 7302250 Z9 (F0 m9 729 ls [])) : W p9 l e9 room_1 s9 m9 #[Value.ref b] below meth c9 H locs 600000 7302250 Z9 (F0 m9 443 ls []) := by
  have hx := F.1.1
  have hb := F.1.2.1
  obtain ⟨R, Q, V, E, I, ms, mp, msl, msv, mpd, mfo, mto, mou, kn, ln, mmn, mla, mop, mwr, n, pr, rfl, hR⟩ := hinv
  have hok := hR.1.1
  have hk6 := hR.kn6
  have hln := hR.ln80
  refine lv_aload_n hx hb dL_law_443 rfl (lv_at hl 2 rfl) ?_
  refine lv_aload_n hx hb dL_law_444 rfl (lv_at hl 1 rfl) ?_
  refine lv_iload_n hx hb dL_law_445 rfl (lv_at hl 0 rfl) ?_
  refine lv_iconst (v := 1) hx hb dL_law_446 (by decide) ?_
  refine lv_iadd hx hb dL_law_447 ?_
  refine x_i (y := (nI (i + 1))) (nI_add i 1) ?_
  refine lw_sl F X hX hbl hL (i := (i + 1)) (by omega) dL_law_448 ?_
  refine x_cVi F X (gc := cW q ca ta aa tb ad sd R Q V E I) (gr := [mW q (mb 0) (mb 1) (mb 2) (mb 3) (mb 4) (mb 5) (mb 6) (mb 7) (mb 8) ms mp msl msv mpd mfo mto mou (nI kn) (nI ln) mmn mla mop mwr]) (List.Perm.refl _) (c_F_count l D q ca ta aa tb ad sd R Q V E I ms mp msl msv mpd kn ln n pr had hsd hR (xs (i + 1))) (cwV 1 F.1.2.2.2.2 gL_law_X7_count rfl rfl rfl (by decide +kernel) ⟨Nat.le_of_ble_eq_true rfl, Nat.le_of_ble_eq_true rfl⟩) rfl rfl (r0 := 0) (ci := 7) (T := TX7) (N := 8) rfl rfl hl.1 ⟨Nat.le_of_ble_eq_true rfl, Nat.le_of_ble_eq_true rfl⟩ (Nat.le_of_ble_eq_true rfl) dL_law_449 (fun r g1 H locs hp X => ?_)
  obtain ⟨R2, Q2, V2, E2, I2, rfl, rfl, n2, pr2, hR2⟩ := hp
  have X := X.perm (gs' := [mW q (mb 0) (mb 1) (mb 2) (mb 3) (mb 4) (mb 5) (mb 6) (mb 7) (mb 8) ms mp msl msv mpd mfo mto mou (nI kn) (nI ln) mmn mla mop mwr] ++ cW q ca ta aa tb ad sd R2 Q2 V2 E2 I2) List.perm_append_comm
  refine lv_aload_n hx hb dL_law_452 rfl (lv_at hl 3 rfl) ?_
  refine lv_aload_n hx hb dL_law_453 rfl (lv_at hl 1 rfl) ?_
  refine lv_iload_n hx hb dL_law_454 rfl (lv_at hl 0 rfl) ?_
  refine lv_iconst (v := 1) hx hb dL_law_455 (by decide) ?_
  refine lv_iadd hx hb dL_law_456 ?_
  refine x_i (y := (nI (i + 1))) (nI_add i 1) ?_
  refine lw_sl F X hX hbl hL (i := (i + 1)) (by omega) dL_law_457 ?_
  refine x_cVi F X (gc := [mW q (mb 0) (mb 1) (mb 2) (mb 3) (mb 4) (mb 5) (mb 6) (mb 7) (mb 8) ms mp msl msv mpd mfo mto mou (nI kn) (nI ln) mmn mla mop mwr]) (gr := cW q ca ta aa tb ad sd R2 Q2 V2 E2 I2) (List.Perm.refl _) (c_X8_count l D q (mb 0) (mb 1) (mb 2) (mb 3) (mb 4) (mb 5) (mb 6) (mb 7) (mb 8) ms mp msl msv mpd mfo mto mou kn ln mmn mla mop mwr n pr (xs (i + 1)) (by first | assumption | omega)) (cwV 1 F.1.2.2.2.2 gL_law_X8_count rfl rfl rfl (by decide +kernel) ⟨Nat.le_of_ble_eq_true rfl, Nat.le_of_ble_eq_true rfl⟩) rfl rfl (r0 := 0) (ci := 8) (T := TX8) (N := 14) rfl rfl hl.1 ⟨Nat.le_of_ble_eq_true rfl, Nat.le_of_ble_eq_true rfl⟩ (Nat.le_of_ble_eq_true rfl) dL_law_458 (fun r2 g1 H locs hp X => ?_)
  obtain ⟨fo2, rfl, rfl⟩ := hp
  have X := X.perm (gs' := cW q ca ta aa tb ad sd R2 Q2 V2 E2 I2 ++ [mW q (mb 0) (mb 1) (mb 2) (mb 3) (mb 4) (mb 5) (mb 6) (mb 7) (mb 8) ms mp msl msv mpd fo2 mto mou (nI kn) (nI ln) mmn mla mop mwr]) List.perm_append_comm
  refine lv_icmp_eq (tgt := 729) hx hb dL_law_461 (by decide) (fun _ => ?_) (fun h => absurd rfl h)
  exact K _ _ _ _ ⟨R2, Q2, V2, E2, I2, ms, mp, msl, msv, mpd, fo2, mto, mou, kn, ln, mmn, mla, mop, mwr, n2, pr2, rfl, hR2⟩ X (lv_sub hl [0, 1, 2, 3] rfl)
set_option maxHeartbeats 1000000 in
set_option maxRecDepth 100000 in
theorem lw_c12 {p9 : Program} {l : Launch} {e9 : Env} {s9 : State} {m9 : MethodId} {below : List Frame} {meth : Method} {c9 : Code} {Z9 : State → Prop} {b L : Nat} {xs : Nat → Int32} {D : va_G} {q : xQ} {ca ta mb : Nat → Nat} {aa tb : Nat → Nat → Nat} {ad sd : Nat → Option Nat} (hL : L ≤ 2048) (hX : va_X b L xs s9 s9.heap) (hbl : b < s9.heap.size) (F : xF p9 m9 c9 cL_law 4 s9 #[Value.ref b] wsL_law RL D q) (had : ∀ i, i < 6 → ad i = some (aa i 0)) (hsd : ∀ i, i < 2 → sd i = some (tb i 0)) {gs : List va_W} {H : Heap} {locs : List Loc} {ls : Array Slot} {i : Nat} (hi : i + 4 ≤ L) (hinv : xInv q ca ta aa tb ad sd mb gs) (X : xS D (fun r : Nat => s9.heap.size ≤ r) s9 gs H locs) (hl : lv_has ls 4 [(3, .int (nI i)), (0, .ref b), (1, .ref (ca 0)), (2, .ref (mb 0))]) (K : ∀ (gs : List va_W) (H : Heap) (locs : List Loc) (ls : Array Slot), xInv q ca ta aa tb ad sd mb gs → xS D (fun r : Nat => s9.heap.size ≤ r) s9 gs H locs → lv_has ls 4 [(3, .int (nI i)), (0, .ref b), (1, .ref (ca 0)), (2, .ref (mb 0))] → W p9 l e9 room_1 s9 m9 #[Value.ref b] below meth c9 H locs 600000 7302250 Z9 (F0 m9 729 ls [])) : W p9 l e9 room_1 s9 m9 #[Value.ref b] below meth c9 H locs 600000 7302250 Z9 (F0 m9 466 ls []) := by
  have hx := F.1.1
  have hb := F.1.2.1
  obtain ⟨R, Q, V, E, I, ms, mp, msl, msv, mpd, mfo, mto, mou, kn, ln, mmn, mla, mop, mwr, n, pr, rfl, hR⟩ := hinv
  have hok := hR.1.1
  have hk6 := hR.kn6
  have hln := hR.ln80
  refine lv_aload_n hx hb dL_law_466 rfl (lv_at hl 2 rfl) ?_
  refine lv_aload_n hx hb dL_law_467 rfl (lv_at hl 1 rfl) ?_
  refine lv_iload_n hx hb dL_law_468 rfl (lv_at hl 0 rfl) ?_
  refine lv_iconst (v := 1) hx hb dL_law_469 (by decide) ?_
  refine lv_iadd hx hb dL_law_470 ?_
  refine x_i (y := (nI (i + 1))) (nI_add i 1) ?_
  refine lw_sl F X hX hbl hL (i := (i + 1)) (by omega) dL_law_471 ?_
  refine x_cVi F X (gc := cW q ca ta aa tb ad sd R Q V E I) (gr := [mW q (mb 0) (mb 1) (mb 2) (mb 3) (mb 4) (mb 5) (mb 6) (mb 7) (mb 8) ms mp msl msv mpd mfo mto mou (nI kn) (nI ln) mmn mla mop mwr]) (List.Perm.refl _) (c_F_ifWind l D q ca ta aa tb ad sd R Q V E I ms mp msl msv mpd kn ln n pr had hsd hR (xs (i + 1))) (cwV 1 F.1.2.2.2.2 gL_law_X7_ifWind rfl rfl rfl (by decide +kernel) ⟨Nat.le_of_ble_eq_true rfl, Nat.le_of_ble_eq_true rfl⟩) rfl rfl (r0 := 0) (ci := 7) (T := TX7) (N := 8) rfl rfl hl.1 ⟨Nat.le_of_ble_eq_true rfl, Nat.le_of_ble_eq_true rfl⟩ (Nat.le_of_ble_eq_true rfl) dL_law_472 (fun r g1 H locs hp X => ?_)
  obtain ⟨R2, Q2, V2, E2, I2, rfl, rfl, n2, pr2, hR2⟩ := hp
  have X := X.perm (gs' := [mW q (mb 0) (mb 1) (mb 2) (mb 3) (mb 4) (mb 5) (mb 6) (mb 7) (mb 8) ms mp msl msv mpd mfo mto mou (nI kn) (nI ln) mmn mla mop mwr] ++ cW q ca ta aa tb ad sd R2 Q2 V2 E2 I2) List.perm_append_comm
  refine lv_aload_n hx hb dL_law_475 rfl (lv_at hl 3 rfl) ?_
  refine lv_aload_n hx hb dL_law_476 rfl (lv_at hl 1 rfl) ?_
  refine lv_iload_n hx hb dL_law_477 rfl (lv_at hl 0 rfl) ?_
  refine lv_iconst (v := 1) hx hb dL_law_478 (by decide) ?_
  refine lv_iadd hx hb dL_law_479 ?_
  refine x_i (y := (nI (i + 1))) (nI_add i 1) ?_
  refine lw_sl F X hX hbl hL (i := (i + 1)) (by omega) dL_law_480 ?_
  refine x_cVi F X (gc := [mW q (mb 0) (mb 1) (mb 2) (mb 3) (mb 4) (mb 5) (mb 6) (mb 7) (mb 8) ms mp msl msv mpd mfo mto mou (nI kn) (nI ln) mmn mla mop mwr]) (gr := cW q ca ta aa tb ad sd R2 Q2 V2 E2 I2) (List.Perm.refl _) (c_X8_ifWind l D q (mb 0) (mb 1) (mb 2) (mb 3) (mb 4) (mb 5) (mb 6) (mb 7) (mb 8) ms mp msl msv mpd mfo mto mou (nI kn) (nI ln) mmn mla mop mwr n pr (xs (i + 1)) (by first | assumption | omega)) (cwV 1 F.1.2.2.2.2 gL_law_X8_ifWind rfl rfl rfl (by decide +kernel) ⟨Nat.le_of_ble_eq_true rfl, Nat.le_of_ble_eq_true rfl⟩) rfl rfl (r0 := 0) (ci := 8) (T := TX8) (N := 14) rfl rfl hl.1 ⟨Nat.le_of_ble_eq_true rfl, Nat.le_of_ble_eq_true rfl⟩ (Nat.le_of_ble_eq_true rfl) dL_law_481 (fun r2 g1 H locs hp X => ?_)
  obtain ⟨fo2, rfl, rfl⟩ := hp
  have X := X.perm (gs' := cW q ca ta aa tb ad sd R2 Q2 V2 E2 I2 ++ [mW q (mb 0) (mb 1) (mb 2) (mb 3) (mb 4) (mb 5) (mb 6) (mb 7) (mb 8) ms mp msl msv mpd fo2 mto mou (nI kn) (nI ln) mmn mla mop mwr]) List.perm_append_comm
  refine lv_icmp_eq (tgt := 729) hx hb dL_law_484 (by decide) (fun _ => ?_) (fun h => absurd rfl h)
  exact K _ _ _ _ ⟨R2, Q2, V2, E2, I2, ms, mp, msl, msv, mpd, fo2, mto, mou, kn, ln, mmn, mla, mop, mwr, n2, pr2, rfl, hR2⟩ X (lv_sub hl [0, 1, 2, 3] rfl)
set_option maxHeartbeats 1000000 in
set_option maxRecDepth 100000 in
theorem lw_c13 {p9 : Program} {l : Launch} {e9 : Env} {s9 : State} {m9 : MethodId} {below : List Frame} {meth : Method} {c9 : Code} {Z9 : State → Prop} {b L : Nat} {xs : Nat → Int32} {D : va_G} {q : xQ} {ca ta mb : Nat → Nat} {aa tb : Nat → Nat → Nat} {ad sd : Nat → Option Nat} (hL : L ≤ 2048) (hX : va_X b L xs s9 s9.heap) (hbl : b < s9.heap.size) (F : xF p9 m9 c9 cL_law 4 s9 #[Value.ref b] wsL_law RL D q) (had : ∀ i, i < 6 → ad i = some (aa i 0)) (hsd : ∀ i, i < 2 → sd i = some (tb i 0)) {gs : List va_W} {H : Heap} {locs : List Loc} {ls : Array Slot} {i : Nat} (hi : i + 4 ≤ L) (hinv : xInv q ca ta aa tb ad sd mb gs) (X : xS D (fun r : Nat => s9.heap.size ≤ r) s9 gs H locs) (hl : lv_has ls 4 [(3, .int (nI i)), (0, .ref b), (1, .ref (ca 0)), (2, .ref (mb 0))]) (K : ∀ (gs : List va_W) (H : Heap) (locs : List Loc) (ls : Array Slot), xInv q ca ta aa tb ad sd mb gs → xS D (fun r : Nat => s9.heap.size ≤ r) s9 gs H locs → lv_has ls 4 [(3, .int (nI i)), (0, .ref b), (1, .ref (ca 0)), (2, .ref (mb 0))] → W p9 l e9 room_1 s9 m9 #[Value.ref b] below meth c9 H locs 600000 7302250 Z9 (F0 m9 729 ls [])) : W p9 l e9 room_1 s9 m9 #[Value.ref b] below meth c9 H locs 600000 7302250 Z9 (F0 m9 489 ls []) := by
  have hx := F.1.1
  have hb := F.1.2.1
  obtain ⟨R, Q, V, E, I, ms, mp, msl, msv, mpd, mfo, mto, mou, kn, ln, mmn, mla, mop, mwr, n, pr, rfl, hR⟩ := hinv
  have hok := hR.1.1
  have hk6 := hR.kn6
  have hln := hR.ln80
  refine lv_aload_n hx hb dL_law_489 rfl (lv_at hl 2 rfl) ?_
  refine lv_aload_n hx hb dL_law_490 rfl (lv_at hl 1 rfl) ?_
  refine lv_iload_n hx hb dL_law_491 rfl (lv_at hl 0 rfl) ?_
  refine lv_iconst (v := 1) hx hb dL_law_492 (by decide) ?_
  refine lv_iadd hx hb dL_law_493 ?_
  refine x_i (y := (nI (i + 1))) (nI_add i 1) ?_
  refine lw_sl F X hX hbl hL (i := (i + 1)) (by omega) dL_law_494 ?_
  refine x_cVi F X (gc := cW q ca ta aa tb ad sd R Q V E I) (gr := [mW q (mb 0) (mb 1) (mb 2) (mb 3) (mb 4) (mb 5) (mb 6) (mb 7) (mb 8) ms mp msl msv mpd mfo mto mou (nI kn) (nI ln) mmn mla mop mwr]) (List.Perm.refl _) (c_F_windFor l D q ca ta aa tb ad sd R Q V E I ms mp msl msv mpd kn ln n pr had hsd hR (xs (i + 1))) (cwV 1 F.1.2.2.2.2 gL_law_X7_windFor rfl rfl rfl (by decide +kernel) ⟨Nat.le_of_ble_eq_true rfl, Nat.le_of_ble_eq_true rfl⟩) rfl rfl (r0 := 0) (ci := 7) (T := TX7) (N := 8) rfl rfl hl.1 ⟨Nat.le_of_ble_eq_true rfl, Nat.le_of_ble_eq_true rfl⟩ (Nat.le_of_ble_eq_true rfl) dL_law_495 (fun r g1 H locs hp X => ?_)
  obtain ⟨R2, Q2, V2, E2, I2, rfl, rfl, n2, pr2, hR2⟩ := hp
  have X := X.perm (gs' := [mW q (mb 0) (mb 1) (mb 2) (mb 3) (mb 4) (mb 5) (mb 6) (mb 7) (mb 8) ms mp msl msv mpd mfo mto mou (nI kn) (nI ln) mmn mla mop mwr] ++ cW q ca ta aa tb ad sd R2 Q2 V2 E2 I2) List.perm_append_comm
  refine lv_aload_n hx hb dL_law_498 rfl (lv_at hl 3 rfl) ?_
  refine lv_aload_n hx hb dL_law_499 rfl (lv_at hl 1 rfl) ?_
  refine lv_iload_n hx hb dL_law_500 rfl (lv_at hl 0 rfl) ?_
  refine lv_iconst (v := 1) hx hb dL_law_501 (by decide) ?_
  refine lv_iadd hx hb dL_law_502 ?_
  refine x_i (y := (nI (i + 1))) (nI_add i 1) ?_
  refine lw_sl F X hX hbl hL (i := (i + 1)) (by omega) dL_law_503 ?_
  refine x_cVi F X (gc := [mW q (mb 0) (mb 1) (mb 2) (mb 3) (mb 4) (mb 5) (mb 6) (mb 7) (mb 8) ms mp msl msv mpd mfo mto mou (nI kn) (nI ln) mmn mla mop mwr]) (gr := cW q ca ta aa tb ad sd R2 Q2 V2 E2 I2) (List.Perm.refl _) (c_X8_windFor l D q (mb 0) (mb 1) (mb 2) (mb 3) (mb 4) (mb 5) (mb 6) (mb 7) (mb 8) ms mp msl msv mpd mfo mto mou (nI kn) (nI ln) mmn mla mop mwr n pr (xs (i + 1)) (by first | assumption | omega)) (cwV 1 F.1.2.2.2.2 gL_law_X8_windFor rfl rfl rfl (by decide +kernel) ⟨Nat.le_of_ble_eq_true rfl, Nat.le_of_ble_eq_true rfl⟩) rfl rfl (r0 := 0) (ci := 8) (T := TX8) (N := 14) rfl rfl hl.1 ⟨Nat.le_of_ble_eq_true rfl, Nat.le_of_ble_eq_true rfl⟩ (Nat.le_of_ble_eq_true rfl) dL_law_504 (fun r2 g1 H locs hp X => ?_)
  obtain ⟨fo2, rfl, rfl⟩ := hp
  have X := X.perm (gs' := cW q ca ta aa tb ad sd R2 Q2 V2 E2 I2 ++ [mW q (mb 0) (mb 1) (mb 2) (mb 3) (mb 4) (mb 5) (mb 6) (mb 7) (mb 8) ms mp msl msv mpd fo2 mto mou (nI kn) (nI ln) mmn mla mop mwr]) List.perm_append_comm
  refine lv_icmp_eq (tgt := 729) hx hb dL_law_507 (by decide) (fun _ => ?_) (fun h => absurd rfl h)
  exact K _ _ _ _ ⟨R2, Q2, V2, E2, I2, ms, mp, msl, msv, mpd, fo2, mto, mou, kn, ln, mmn, mla, mop, mwr, n2, pr2, rfl, hR2⟩ X (lv_sub hl [0, 1, 2, 3] rfl)
set_option maxHeartbeats 1000000 in
set_option maxRecDepth 100000 in
theorem lw_c14 {p9 : Program} {l : Launch} {e9 : Env} {s9 : State} {m9 : MethodId} {below : List Frame} {meth : Method} {c9 : Code} {Z9 : State → Prop} {b L : Nat} {xs : Nat → Int32} {D : va_G} {q : xQ} {ca ta mb : Nat → Nat} {aa tb : Nat → Nat → Nat} {ad sd : Nat → Option Nat} (hL : L ≤ 2048) (hX : va_X b L xs s9 s9.heap) (hbl : b < s9.heap.size) (F : xF p9 m9 c9 cL_law 4 s9 #[Value.ref b] wsL_law RL D q) (had : ∀ i, i < 6 → ad i = some (aa i 0)) (hsd : ∀ i, i < 2 → sd i = some (tb i 0)) {gs : List va_W} {H : Heap} {locs : List Loc} {ls : Array Slot} {i : Nat} (hi : i + 4 ≤ L) (hinv : xInv q ca ta aa tb ad sd mb gs) (X : xS D (fun r : Nat => s9.heap.size ≤ r) s9 gs H locs) (hl : lv_has ls 4 [(3, .int (nI i)), (0, .ref b), (1, .ref (ca 0)), (2, .ref (mb 0))]) (K : ∀ (gs : List va_W) (H : Heap) (locs : List Loc) (ls : Array Slot), xInv q ca ta aa tb ad sd mb gs → xS D (fun r : Nat => s9.heap.size ≤ r) s9 gs H locs → lv_has ls 4 [(3, .int (nI i)), (0, .ref b), (1, .ref (ca 0)), (2, .ref (mb 0))] → W p9 l e9 room_1 s9 m9 #[Value.ref b] below meth c9 H locs 600000 7302250 Z9 (F0 m9 729 ls [])) : W p9 l e9 room_1 s9 m9 #[Value.ref b] below meth c9 H locs 600000 7302250 Z9 (F0 m9 512 ls []) := by
  have hx := F.1.1
  have hb := F.1.2.1
  obtain ⟨R, Q, V, E, I, ms, mp, msl, msv, mpd, mfo, mto, mou, kn, ln, mmn, mla, mop, mwr, n, pr, rfl, hR⟩ := hinv
  have hok := hR.1.1
  have hk6 := hR.kn6
  have hln := hR.ln80
  refine lv_aload_n hx hb dL_law_512 rfl (lv_at hl 2 rfl) ?_
  refine lv_aload_n hx hb dL_law_513 rfl (lv_at hl 1 rfl) ?_
  refine lv_iload_n hx hb dL_law_514 rfl (lv_at hl 0 rfl) ?_
  refine lv_iconst (v := 1) hx hb dL_law_515 (by decide) ?_
  refine lv_iadd hx hb dL_law_516 ?_
  refine x_i (y := (nI (i + 1))) (nI_add i 1) ?_
  refine lw_sl F X hX hbl hL (i := (i + 1)) (by omega) dL_law_517 ?_
  refine lv_aload_n hx hb dL_law_518 rfl (lv_at hl 1 rfl) ?_
  refine lv_iload_n hx hb dL_law_519 rfl (lv_at hl 0 rfl) ?_
  refine lv_iconst (v := 2) hx hb dL_law_520 (by decide) ?_
  refine lv_iadd hx hb dL_law_521 ?_
  refine x_i (y := (nI (i + 2))) (nI_add i 2) ?_
  refine lw_sl F X hX hbl hL (i := (i + 2)) (by omega) dL_law_522 ?_
  refine x_cVi F X (gc := cW q ca ta aa tb ad sd R Q V E I) (gr := [mW q (mb 0) (mb 1) (mb 2) (mb 3) (mb 4) (mb 5) (mb 6) (mb 7) (mb 8) ms mp msl msv mpd mfo mto mou (nI kn) (nI ln) mmn mla mop mwr]) (List.Perm.refl _) (c_F_windOfFlag l D q ca ta aa tb ad sd R Q V E I ms mp msl msv mpd kn ln n pr had hsd hR (xs (i + 1)) (xs (i + 2))) (cwV 2 F.1.2.2.2.2 gL_law_X7_windOfFlag rfl rfl rfl (by decide +kernel) ⟨Nat.le_of_ble_eq_true rfl, Nat.le_of_ble_eq_true rfl⟩) rfl rfl (r0 := 0) (ci := 7) (T := TX7) (N := 8) rfl rfl hl.1 ⟨Nat.le_of_ble_eq_true rfl, Nat.le_of_ble_eq_true rfl⟩ (Nat.le_of_ble_eq_true rfl) dL_law_523 (fun r g1 H locs hp X => ?_)
  obtain ⟨R2, Q2, V2, E2, I2, rfl, rfl, n2, pr2, hR2⟩ := hp
  have X := X.perm (gs' := [mW q (mb 0) (mb 1) (mb 2) (mb 3) (mb 4) (mb 5) (mb 6) (mb 7) (mb 8) ms mp msl msv mpd mfo mto mou (nI kn) (nI ln) mmn mla mop mwr] ++ cW q ca ta aa tb ad sd R2 Q2 V2 E2 I2) List.perm_append_comm
  refine lv_aload_n hx hb dL_law_526 rfl (lv_at hl 3 rfl) ?_
  refine lv_aload_n hx hb dL_law_527 rfl (lv_at hl 1 rfl) ?_
  refine lv_iload_n hx hb dL_law_528 rfl (lv_at hl 0 rfl) ?_
  refine lv_iconst (v := 1) hx hb dL_law_529 (by decide) ?_
  refine lv_iadd hx hb dL_law_530 ?_
  refine x_i (y := (nI (i + 1))) (nI_add i 1) ?_
  refine lw_sl F X hX hbl hL (i := (i + 1)) (by omega) dL_law_531 ?_
  refine lv_aload_n hx hb dL_law_532 rfl (lv_at hl 1 rfl) ?_
  refine lv_iload_n hx hb dL_law_533 rfl (lv_at hl 0 rfl) ?_
  refine lv_iconst (v := 2) hx hb dL_law_534 (by decide) ?_
  refine lv_iadd hx hb dL_law_535 ?_
  refine x_i (y := (nI (i + 2))) (nI_add i 2) ?_
  refine lw_sl F X hX hbl hL (i := (i + 2)) (by omega) dL_law_536 ?_
  refine x_cVi F X (gc := [mW q (mb 0) (mb 1) (mb 2) (mb 3) (mb 4) (mb 5) (mb 6) (mb 7) (mb 8) ms mp msl msv mpd mfo mto mou (nI kn) (nI ln) mmn mla mop mwr]) (gr := cW q ca ta aa tb ad sd R2 Q2 V2 E2 I2) (List.Perm.refl _) (c_X8_windOfFlag l D q (mb 0) (mb 1) (mb 2) (mb 3) (mb 4) (mb 5) (mb 6) (mb 7) (mb 8) ms mp msl msv mpd mfo mto mou (nI kn) (nI ln) mmn mla mop mwr n pr (xs (i + 1)) (xs (i + 2)) (by first | assumption | omega)) (cwV 2 F.1.2.2.2.2 gL_law_X8_windOfFlag rfl rfl rfl (by decide +kernel) ⟨Nat.le_of_ble_eq_true rfl, Nat.le_of_ble_eq_true rfl⟩) rfl rfl (r0 := 0) (ci := 8) (T := TX8) (N := 14) rfl rfl hl.1 ⟨Nat.le_of_ble_eq_true rfl, Nat.le_of_ble_eq_true rfl⟩ (Nat.le_of_ble_eq_true rfl) dL_law_537 (fun r2 g1 H locs hp X => ?_)
  obtain ⟨fo2, rfl, rfl⟩ := hp
  have X := X.perm (gs' := cW q ca ta aa tb ad sd R2 Q2 V2 E2 I2 ++ [mW q (mb 0) (mb 1) (mb 2) (mb 3) (mb 4) (mb 5) (mb 6) (mb 7) (mb 8) ms mp msl msv mpd fo2 mto mou (nI kn) (nI ln) mmn mla mop mwr]) List.perm_append_comm
  refine lv_icmp_eq (tgt := 729) hx hb dL_law_540 (by decide) (fun _ => ?_) (fun h => absurd rfl h)
  exact K _ _ _ _ ⟨R2, Q2, V2, E2, I2, ms, mp, msl, msv, mpd, fo2, mto, mou, kn, ln, mmn, mla, mop, mwr, n2, pr2, rfl, hR2⟩ X (lv_sub hl [0, 1, 2, 3] rfl)
set_option maxHeartbeats 1000000 in
set_option maxRecDepth 100000 in
theorem lw_c15 {p9 : Program} {l : Launch} {e9 : Env} {s9 : State} {m9 : MethodId} {below : List Frame} {meth : Method} {c9 : Code} {Z9 : State → Prop} {b L : Nat} {xs : Nat → Int32} {D : va_G} {q : xQ} {ca ta mb : Nat → Nat} {aa tb : Nat → Nat → Nat} {ad sd : Nat → Option Nat} (hL : L ≤ 2048) (hX : va_X b L xs s9 s9.heap) (hbl : b < s9.heap.size) (F : xF p9 m9 c9 cL_law 4 s9 #[Value.ref b] wsL_law RL D q) (had : ∀ i, i < 6 → ad i = some (aa i 0)) (hsd : ∀ i, i < 2 → sd i = some (tb i 0)) {gs : List va_W} {H : Heap} {locs : List Loc} {ls : Array Slot} {i : Nat} (hi : i + 4 ≤ L) (hinv : xInv q ca ta aa tb ad sd mb gs) (X : xS D (fun r : Nat => s9.heap.size ≤ r) s9 gs H locs) (hl : lv_has ls 4 [(3, .int (nI i)), (0, .ref b), (1, .ref (ca 0)), (2, .ref (mb 0))]) (K : ∀ (gs : List va_W) (H : Heap) (locs : List Loc) (ls : Array Slot), xInv q ca ta aa tb ad sd mb gs → xS D (fun r : Nat => s9.heap.size ≤ r) s9 gs H locs → lv_has ls 4 [(3, .int (nI i)), (0, .ref b), (1, .ref (ca 0)), (2, .ref (mb 0))] → W p9 l e9 room_1 s9 m9 #[Value.ref b] below meth c9 H locs 600000 7302250 Z9 (F0 m9 729 ls [])) : W p9 l e9 room_1 s9 m9 #[Value.ref b] below meth c9 H locs 600000 7302250 Z9 (F0 m9 545 ls []) := by
  have hx := F.1.1
  have hb := F.1.2.1
  obtain ⟨R, Q, V, E, I, ms, mp, msl, msv, mpd, mfo, mto, mou, kn, ln, mmn, mla, mop, mwr, n, pr, rfl, hR⟩ := hinv
  have hok := hR.1.1
  have hk6 := hR.kn6
  have hln := hR.ln80
  refine lv_aload_n hx hb dL_law_545 rfl (lv_at hl 2 rfl) ?_
  refine lv_aload_n hx hb dL_law_546 rfl (lv_at hl 1 rfl) ?_
  refine lv_iload_n hx hb dL_law_547 rfl (lv_at hl 0 rfl) ?_
  refine lv_iconst (v := 1) hx hb dL_law_548 (by decide) ?_
  refine lv_iadd hx hb dL_law_549 ?_
  refine x_i (y := (nI (i + 1))) (nI_add i 1) ?_
  refine lw_sl F X hX hbl hL (i := (i + 1)) (by omega) dL_law_550 ?_
  refine lv_aload_n hx hb dL_law_551 rfl (lv_at hl 1 rfl) ?_
  refine lv_iload_n hx hb dL_law_552 rfl (lv_at hl 0 rfl) ?_
  refine lv_iconst (v := 2) hx hb dL_law_553 (by decide) ?_
  refine lv_iadd hx hb dL_law_554 ?_
  refine x_i (y := (nI (i + 2))) (nI_add i 2) ?_
  refine lw_sl F X hX hbl hL (i := (i + 2)) (by omega) dL_law_555 ?_
  refine x_cVi F X (gc := cW q ca ta aa tb ad sd R Q V E I) (gr := [mW q (mb 0) (mb 1) (mb 2) (mb 3) (mb 4) (mb 5) (mb 6) (mb 7) (mb 8) ms mp msl msv mpd mfo mto mou (nI kn) (nI ln) mmn mla mop mwr]) (List.Perm.refl _) (c_F_without l D q ca ta aa tb ad sd R Q V E I ms mp msl msv mpd kn ln n pr had hsd hR (xs (i + 1)) (xs (i + 2))) (cwV 2 F.1.2.2.2.2 gL_law_X7_without rfl rfl rfl (by decide +kernel) ⟨Nat.le_of_ble_eq_true rfl, Nat.le_of_ble_eq_true rfl⟩) rfl rfl (r0 := 0) (ci := 7) (T := TX7) (N := 8) rfl rfl hl.1 ⟨Nat.le_of_ble_eq_true rfl, Nat.le_of_ble_eq_true rfl⟩ (Nat.le_of_ble_eq_true rfl) dL_law_556 (fun r g1 H locs hp X => ?_)
  obtain ⟨R2, Q2, V2, E2, I2, rfl, rfl, n2, pr2, hR2⟩ := hp
  have X := X.perm (gs' := [mW q (mb 0) (mb 1) (mb 2) (mb 3) (mb 4) (mb 5) (mb 6) (mb 7) (mb 8) ms mp msl msv mpd mfo mto mou (nI kn) (nI ln) mmn mla mop mwr] ++ cW q ca ta aa tb ad sd R2 Q2 V2 E2 I2) List.perm_append_comm
  refine lv_aload_n hx hb dL_law_559 rfl (lv_at hl 3 rfl) ?_
  refine lv_aload_n hx hb dL_law_560 rfl (lv_at hl 1 rfl) ?_
  refine lv_iload_n hx hb dL_law_561 rfl (lv_at hl 0 rfl) ?_
  refine lv_iconst (v := 1) hx hb dL_law_562 (by decide) ?_
  refine lv_iadd hx hb dL_law_563 ?_
  refine x_i (y := (nI (i + 1))) (nI_add i 1) ?_
  refine lw_sl F X hX hbl hL (i := (i + 1)) (by omega) dL_law_564 ?_
  refine lv_aload_n hx hb dL_law_565 rfl (lv_at hl 1 rfl) ?_
  refine lv_iload_n hx hb dL_law_566 rfl (lv_at hl 0 rfl) ?_
  refine lv_iconst (v := 2) hx hb dL_law_567 (by decide) ?_
  refine lv_iadd hx hb dL_law_568 ?_
  refine x_i (y := (nI (i + 2))) (nI_add i 2) ?_
  refine lw_sl F X hX hbl hL (i := (i + 2)) (by omega) dL_law_569 ?_
  refine x_cVi F X (gc := [mW q (mb 0) (mb 1) (mb 2) (mb 3) (mb 4) (mb 5) (mb 6) (mb 7) (mb 8) ms mp msl msv mpd mfo mto mou (nI kn) (nI ln) mmn mla mop mwr]) (gr := cW q ca ta aa tb ad sd R2 Q2 V2 E2 I2) (List.Perm.refl _) (c_X8_without l D q (mb 0) (mb 1) (mb 2) (mb 3) (mb 4) (mb 5) (mb 6) (mb 7) (mb 8) ms mp msl msv mpd mfo mto mou (nI kn) (nI ln) mmn mla mop mwr n pr (xs (i + 1)) (xs (i + 2)) (by first | assumption | omega)) (cwV 2 F.1.2.2.2.2 gL_law_X8_without rfl rfl rfl (by decide +kernel) ⟨Nat.le_of_ble_eq_true rfl, Nat.le_of_ble_eq_true rfl⟩) rfl rfl (r0 := 0) (ci := 8) (T := TX8) (N := 14) rfl rfl hl.1 ⟨Nat.le_of_ble_eq_true rfl, Nat.le_of_ble_eq_true rfl⟩ (Nat.le_of_ble_eq_true rfl) dL_law_570 (fun r2 g1 H locs hp X => ?_)
  obtain ⟨fo2, rfl, rfl⟩ := hp
  have X := X.perm (gs' := cW q ca ta aa tb ad sd R2 Q2 V2 E2 I2 ++ [mW q (mb 0) (mb 1) (mb 2) (mb 3) (mb 4) (mb 5) (mb 6) (mb 7) (mb 8) ms mp msl msv mpd fo2 mto mou (nI kn) (nI ln) mmn mla mop mwr]) List.perm_append_comm
  refine lv_icmp_eq (tgt := 729) hx hb dL_law_573 (by decide) (fun _ => ?_) (fun h => absurd rfl h)
  exact K _ _ _ _ ⟨R2, Q2, V2, E2, I2, ms, mp, msl, msv, mpd, fo2, mto, mou, kn, ln, mmn, mla, mop, mwr, n2, pr2, rfl, hR2⟩ X (lv_sub hl [0, 1, 2, 3] rfl)
