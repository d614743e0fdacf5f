set_option maxHeartbeats 1000000 in
set_option maxRecDepth 100000 in
theorem c_X4_init (l : Launch) (D : va_G) (q : xQ) (h0 : Nat) : xMv l yX4_init wsX4_init { frames := 2, cells := 6, slots := 106, locals := 40 } D q [.ref h0] [[(h0, .inr (4, [.null, .int 0, .int 0]))]] (fun gw => ∃ (s0 : Nat), ∃ (s1 : Nat), ∃ (s2 : Nat), ∃ (s3 : Nat), ∃ (s4 : Nat), ∃ (s5 : Nat), gw = [rdW q h0 s0 0 (-6), sW q s0 s1 s2 s3 s4 s5 (fun _ => 0) (fun _ => 0) (fun _ => 0) (fun _ => 0) (fun _ => 0) 0]) := by
  refine xMv_of (cc := cX4_init) (maxL := 1) (by decide) rfl (Nat.le_of_ble_eq_true rfl) ?_
  intro p9 e9 s9 m9 a9 below meth c9 A9 Z9 ls H locs F hini X hl hret
  have hx := F.1.1
  have hb := F.1.2.1
  have in_X5 : ∀ w ∈ wsX50, w ∈ wsX4_init := by decide +kernel
  have in_X4 : ∀ w ∈ wsX40, w ∈ wsX4_init := by decide +kernel
  have mw_0 : Cond.methodLink RX4 3 objectInit ∈ wsX4_init := by decide +kernel
  have mw_1 : Cond.instanceMethod objectInit ∈ wsX4_init := by decide +kernel
  have mw_2 : Cond.code objectInit ⟨#[0xb1]⟩ 1 none ∈ wsX4_init := by decide +kernel
  have mw_3 : Cond.classLink RX4 9 RX5 ∈ wsX4_init := by decide +kernel
  have mw_4 : Cond.instantiable RX5 6 ∈ wsX4_init := by decide +kernel
  have mw_5 : Cond.initialized RX5 ∈ wsX4_init := by decide +kernel
  have mw_6 : Cond.instanceMethod yX5_init ∈ wsX4_init := by decide +kernel
  have mw_7 : Cond.fieldLink RX4 12 "HatWinds$Reader" "streets" "LHatWinds$Streets;" ∈ wsX4_init := by decide +kernel
  have mw_8 : Cond.fieldLink RX4 18 "HatWinds$Reader" "last" "I" ∈ wsX4_init := by decide +kernel
  have mw_9 : Cond.fieldLink RX4 22 "HatWinds$Reader" "parent" "I" ∈ wsX4_init := by decide +kernel
  have hl : lv_has ls 1 [(0, .ref h0)] := hl
  refine lv_aload_n hx hb dX4_init_0 rfl (lv_at hl 0 rfl) ?_
  refine x_oinit F hl.1 mw_0 mw_1 mw_2 (Nat.le_of_ble_eq_true rfl) (Nat.le_of_ble_eq_true rfl) dX4_init_1 ?_
  refine lv_aload_n hx hb dX4_init_4 rfl (lv_at hl 0 rfl) ?_
  refine x_nu F X (C := RX5) (T := TX5) (N := 6) (ci := 5) (fs := [.null, .null, .null, .null, .null, .int 0]) in_X5 tyX5 tyX5_ok mw_3 mw_4 mw_5 rfl (fun j hj => match j, hj with | 0, _ => rfl | 1, _ => rfl | 2, _ => rfl | 3, _ => rfl | 4, _ => rfl | 5, _ => rfl | (k + 6), h => absurd h (by omega)) (Nat.le_of_ble_eq_true rfl) (Nat.le_of_ble_eq_true rfl) dX4_init_5 (fun o_5 H X => ?_)
  have X : xS D A9 s9 [[(h0, .inr (4, [.null, .int 0, .int 0]))], [(o_5, .inr (5, [.null, .null, .null, .null, .null, .int 0]))]] H locs := X
  refine lv_dup hx hb dX4_init_8 rfl ?_
  refine x_cJ F X (gc := [[(o_5, .inr (5, [.null, .null, .null, .null, .null, .int 0]))]]) (gr := [[(h0, .inr (4, [.null, .int 0, .int 0]))]]) (xp_idx (n := 2) [1, 0] (by decide +kernel) rfl rfl) (c_X5_init l D q o_5 ) ⟨va_cnB (host := "HatWinds") 0 F.1.2.2.2.2 gX4_init_X5_init_n11 rfl rfl rfl (F.2.2 _ (List.mem_of_getElem? (i := 5) rfl)) (F.1.2.2.2.2 _ mw_5) (by decide +kernel) ⟨Nat.le_of_ble_eq_true rfl, Nat.le_of_ble_eq_true rfl⟩, rfl, F.1.2.2.2.2 _ mw_6⟩ rfl rfl hl.1 ⟨Nat.le_of_ble_eq_true rfl, Nat.le_of_ble_eq_true rfl⟩ (Nat.le_of_ble_eq_true rfl) dX4_init_9 (fun g1 H locs hp X => ?_)
  obtain ⟨s1_9, s2_9, s3_9, s4_9, s5_9, rfl⟩ := hp
  have X := X.perm (gs' := [[(h0, .inr (4, [.null, .int 0, .int 0]))], sW q o_5 s1_9 s2_9 s3_9 s4_9 s5_9 (fun _ => 0) (fun _ => 0) (fun _ => 0) (fun _ => 0) (fun _ => 0) 0]) (xp_idx (n := 2) [1, 0] (by decide +kernel) rfl rfl)
  refine x_putF F X (gs' := [[(h0, .inr (4, [.ref o_5, .int 0, .int 0]))], sW q o_5 s1_9 s2_9 s3_9 s4_9 s5_9 (fun _ => 0) (fun _ => 0) (fun _ => 0) (fun _ => 0) (fun _ => 0) 0]) (v := .ref o_5) hini (C := RX4) (T := TX4) (N := 3) (ci := 4) in_X4 tyX4 tyX4_ok nmX4 0 rfl rfl 0 (by decide) mw_7 rfl rfl rfl rfl (Nat.le_of_ble_eq_true rfl) dX4_init_12 rfl (fun H locs X => ?_)
  refine lv_aload_n hx hb dX4_init_15 rfl (lv_at hl 0 rfl) ?_
  refine lv_iconst (v := 0) hx hb dX4_init_16 (by decide) ?_
  refine x_put F X (gs' := [[(h0, .inr (4, [.ref o_5, .int 0, .int 0]))], sW q o_5 s1_9 s2_9 s3_9 s4_9 s5_9 (fun _ => 0) (fun _ => 0) (fun _ => 0) (fun _ => 0) (fun _ => 0) 0]) (v := .int 0) (C := RX4) (T := TX4) (N := 3) (ci := 4) in_X4 tyX4 tyX4_ok nmX4 0 rfl rfl 1 (by decide) mw_8 rfl rfl rfl (Nat.le_of_ble_eq_true rfl) dX4_init_17 rfl (fun H locs X => ?_)
  refine lv_aload_n hx hb dX4_init_20 rfl (lv_at hl 0 rfl) ?_
  refine lv_bipush (v := (-6)) hx hb dX4_init_21 (by decide) ?_
  refine x_put F X (gs' := [[(h0, .inr (4, [.ref o_5, .int 0, .int (-6)]))], sW q o_5 s1_9 s2_9 s3_9 s4_9 s5_9 (fun _ => 0) (fun _ => 0) (fun _ => 0) (fun _ => 0) (fun _ => 0) 0]) (v := .int (-6)) (C := RX4) (T := TX4) (N := 3) (ci := 4) in_X4 tyX4 tyX4_ok nmX4 0 rfl rfl 2 (by decide) mw_9 rfl rfl rfl (Nat.le_of_ble_eq_true rfl) dX4_init_23 rfl (fun H locs X => ?_)
  have X := X.impl (gs' := [rdW q h0 o_5 0 (-6), sW q o_5 s1_9 s2_9 s3_9 s4_9 s5_9 (fun _ => 0) (fun _ => 0) (fun _ => 0) (fun _ => 0) (fun _ => 0) 0]) (b := rdW q h0 o_5 0 (-6)) 0 1 rfl rfl rfl
  exact hret _ _ _ _ _ (by exact ⟨_, _, _, _, _, _, rfl⟩) X dX4_init_26

set_option maxHeartbeats 1000000 in
set_option maxRecDepth 100000 in
theorem c_X6_init (l : Launch) (D : va_G) (q : xQ) (h0 : Nat) : xMv l yX6_init wsX6_init { frames := 2, cells := 11, slots := 139, locals := 40 } D q [.ref h0] [[(h0, .inr (6, [.null, .null, .null, .int 0]))]] (fun gw => ∃ (ta : Nat → Nat), gw = [tG q ta x_T0] ∧ (ta 0 = h0)) := by
  refine xMv_of (cc := cX6_init) (maxL := 1) (by decide) rfl (Nat.le_of_ble_eq_true rfl) ?_
  intro p9 e9 s9 m9 a9 below meth c9 A9 Z9 ls H locs F hini X hl hret
  have hx := F.1.1
  have hb := F.1.2.1
  have in_X6 : ∀ w ∈ wsX60, w ∈ wsX6_init := by decide +kernel
  have in_X5 : ∀ w ∈ wsX50, w ∈ wsX6_init := by decide +kernel
  have in_X2 : ∀ w ∈ wsX20, w ∈ wsX6_init := by decide +kernel
  have mw_0 : Cond.methodLink RX6 3 objectInit ∈ wsX6_init := by decide +kernel
  have mw_1 : Cond.instanceMethod objectInit ∈ wsX6_init := by decide +kernel
  have mw_2 : Cond.code objectInit ⟨#[0xb1]⟩ 1 none ∈ wsX6_init := by decide +kernel
  have mw_3 : Cond.methodLink RX6 13 ⟨"[I", "clone", "()Ljava/lang/Object;"⟩ ∈ wsX6_init := by decide +kernel
  have mw_4 : Cond.sameMethod "[I" "java/lang/Object" "clone" "()Ljava/lang/Object;" ∈ wsX6_init := by decide +kernel
  have mw_5 : Cond.native ⟨"java/lang/Object", "clone", "()Ljava/lang/Object;"⟩ ∈ wsX6_init := by decide +kernel
  have mw_6 : Cond.instanceMethod ⟨"java/lang/Object", "clone", "()Ljava/lang/Object;"⟩ ∈ wsX6_init := by decide +kernel
  have mw_7 : Cond.selects "[I" ⟨"[I", "clone", "()Ljava/lang/Object;"⟩ ⟨"java/lang/Object", "clone", "()Ljava/lang/Object;"⟩ ∈ wsX6_init := by decide +kernel
  have mw_8 : Cond.classLink RX6 14 "[I" ∈ wsX6_init := by decide +kernel
  have mw_9 : Cond.fieldLink RX6 18 "HatWinds$Town" "settings" "[I" ∈ wsX6_init := by decide +kernel
  have mw_10 : Cond.classLink RX6 23 RX5 ∈ wsX6_init := by decide +kernel
  have mw_11 : Cond.instantiable RX5 6 ∈ wsX6_init := by decide +kernel
  have mw_12 : Cond.initialized RX5 ∈ wsX6_init := by decide +kernel
  have mw_13 : Cond.instanceMethod yX5_init ∈ wsX6_init := by decide +kernel
  have mw_14 : Cond.fieldLink RX6 26 "HatWinds$Town" "streets" "LHatWinds$Streets;" ∈ wsX6_init := by decide +kernel
  have mw_15 : Cond.classLink RX6 30 RX2 ∈ wsX6_init := by decide +kernel
  have mw_16 : Cond.instantiable RX2 5 ∈ wsX6_init := by decide +kernel
  have mw_17 : Cond.initialized RX2 ∈ wsX6_init := by decide +kernel
  have mw_18 : Cond.instanceMethod yX2_init ∈ wsX6_init := by decide +kernel
  have mw_19 : Cond.fieldLink RX6 33 "HatWinds$Town" "hours" "LHatWinds$Hours;" ∈ wsX6_init := by decide +kernel
  have mw_20 : Cond.fieldLink RX6 37 "HatWinds$Town" "force" "I" ∈ wsX6_init := by decide +kernel
  have hl : lv_has ls 1 [(0, .ref h0)] := hl
  refine lv_aload_n hx hb dX6_init_0 rfl (lv_at hl 0 rfl) ?_
  refine x_oinit F hl.1 mw_0 mw_1 mw_2 (Nat.le_of_ble_eq_true rfl) (Nat.le_of_ble_eq_true rfl) dX6_init_1 ?_
  refine lv_aload_n hx hb dX6_init_4 rfl (lv_at hl 0 rfl) ?_
  refine x_getsN F X 0 (by decide) (List.mem_of_getElem? (i := 12) rfl) dX6_init_5 (fun u_5 hu_5 => ?_)
  refine x_cln F X hl.1 hu_5 mw_3 mw_4 mw_5 mw_6 mw_7 (List.mem_of_getElem? (i := 13) rfl) (Nat.le_of_ble_eq_true rfl) (Nat.le_of_ble_eq_true rfl) (Nat.le_of_ble_eq_true rfl) (Nat.le_of_ble_eq_true rfl) dX6_init_8 (fun a_8 H X => ?_)
  have X : xS D A9 s9 [[(h0, .inr (6, [.null, .null, .null, .int 0]))], rW q a_8 4 (xZv 0)] H locs := X
  refine va_castA F.1.1 F.1.2.1 F.1.2.2.2.1 (F.1.2.2.2.2 _ mw_8) X.1 1 rfl (va_nm_int ((F.2.1.2 0 (q 0, .int) rfl).2)) dX6_init_11 ?_
  refine x_putF F X (gs' := [[(h0, .inr (6, [.ref a_8, .null, .null, .int 0]))], rW q a_8 4 (xZv 0)]) (v := .ref a_8) hini (C := RX6) (T := TX6) (N := 4) (ci := 6) in_X6 tyX6 tyX6_ok nmX6 0 rfl rfl 0 (by decide) mw_9 rfl rfl rfl rfl (Nat.le_of_ble_eq_true rfl) dX6_init_14 rfl (fun H locs X => ?_)
  refine lv_aload_n hx hb dX6_init_17 rfl (lv_at hl 0 rfl) ?_
  refine x_nu F X (C := RX5) (T := TX5) (N := 6) (ci := 5) (fs := [.null, .null, .null, .null, .null, .int 0]) in_X5 tyX5 tyX5_ok mw_10 mw_11 mw_12 rfl (fun j hj => match j, hj with | 0, _ => rfl | 1, _ => rfl | 2, _ => rfl | 3, _ => rfl | 4, _ => rfl | 5, _ => rfl | (k + 6), h => absurd h (by omega)) (Nat.le_of_ble_eq_true rfl) (Nat.le_of_ble_eq_true rfl) dX6_init_18 (fun o_18 H X => ?_)
  have X : xS D A9 s9 [[(h0, .inr (6, [.ref a_8, .null, .null, .int 0]))], rW q a_8 4 (xZv 0), [(o_18, .inr (5, [.null, .null, .null, .null, .null, .int 0]))]] H locs := X
  refine lv_dup hx hb dX6_init_21 rfl ?_
  refine x_cJ F X (gc := [[(o_18, .inr (5, [.null, .null, .null, .null, .null, .int 0]))]]) (gr := [[(h0, .inr (6, [.ref a_8, .null, .null, .int 0]))], rW q a_8 4 (xZv 0)]) (xp_idx (n := 3) [2, 0, 1] (by decide +kernel) rfl rfl) (c_X5_init l D q o_18 ) ⟨va_cnB (host := "HatWinds") 0 F.1.2.2.2.2 gX6_init_X5_init_n25 rfl rfl rfl (F.2.2 _ (List.mem_of_getElem? (i := 9) rfl)) (F.1.2.2.2.2 _ mw_12) (by decide +kernel) ⟨Nat.le_of_ble_eq_true rfl, Nat.le_of_ble_eq_true rfl⟩, rfl, F.1.2.2.2.2 _ mw_13⟩ rfl rfl hl.1 ⟨Nat.le_of_ble_eq_true rfl, Nat.le_of_ble_eq_true rfl⟩ (Nat.le_of_ble_eq_true rfl) dX6_init_22 (fun g1 H locs hp X => ?_)
  obtain ⟨s1_22, s2_22, s3_22, s4_22, s5_22, rfl⟩ := hp
  have X := X.perm (gs' := [[(h0, .inr (6, [.ref a_8, .null, .null, .int 0]))], rW q a_8 4 (xZv 0), sW q o_18 s1_22 s2_22 s3_22 s4_22 s5_22 (fun _ => 0) (fun _ => 0) (fun _ => 0) (fun _ => 0) (fun _ => 0) 0]) (xp_idx (n := 3) [1, 2, 0] (by decide +kernel) rfl rfl)
  refine x_putF F X (gs' := [[(h0, .inr (6, [.ref a_8, .ref o_18, .null, .int 0]))], rW q a_8 4 (xZv 0), sW q o_18 s1_22 s2_22 s3_22 s4_22 s5_22 (fun _ => 0) (fun _ => 0) (fun _ => 0) (fun _ => 0) (fun _ => 0) 0]) (v := .ref o_18) hini (C := RX6) (T := TX6) (N := 4) (ci := 6) in_X6 tyX6 tyX6_ok nmX6 0 rfl rfl 1 (by decide) mw_14 rfl rfl rfl rfl (Nat.le_of_ble_eq_true rfl) dX6_init_25 rfl (fun H locs X => ?_)
  refine lv_aload_n hx hb dX6_init_28 rfl (lv_at hl 0 rfl) ?_
  refine x_nu F X (C := RX2) (T := TX2) (N := 5) (ci := 2) (fs := [.null, .null, .null, .int 0, .int 0]) in_X2 tyX2 tyX2_ok mw_15 mw_16 mw_17 rfl (fun j hj => match j, hj with | 0, _ => rfl | 1, _ => rfl | 2, _ => rfl | 3, _ => rfl | 4, _ => rfl | (k + 5), h => absurd h (by omega)) (Nat.le_of_ble_eq_true rfl) (Nat.le_of_ble_eq_true rfl) dX6_init_29 (fun o_29 H X => ?_)
  have X : xS D A9 s9 [[(h0, .inr (6, [.ref a_8, .ref o_18, .null, .int 0]))], rW q a_8 4 (xZv 0), sW q o_18 s1_22 s2_22 s3_22 s4_22 s5_22 (fun _ => 0) (fun _ => 0) (fun _ => 0) (fun _ => 0) (fun _ => 0) 0, [(o_29, .inr (2, [.null, .null, .null, .int 0, .int 0]))]] H locs := X
  refine lv_dup hx hb dX6_init_32 rfl ?_
  refine x_cJ F X (gc := [[(o_29, .inr (2, [.null, .null, .null, .int 0, .int 0]))]]) (gr := [[(h0, .inr (6, [.ref a_8, .ref o_18, .null, .int 0]))], rW q a_8 4 (xZv 0), sW q o_18 s1_22 s2_22 s3_22 s4_22 s5_22 (fun _ => 0) (fun _ => 0) (fun _ => 0) (fun _ => 0) (fun _ => 0) 0]) (xp_idx (n := 4) [3, 0, 1, 2] (by decide +kernel) rfl rfl) (c_X2_init l D q o_29 ) ⟨va_cnB (host := "HatWinds") 0 F.1.2.2.2.2 gX6_init_X2_init_n32 rfl rfl rfl (F.2.2 _ (List.mem_of_getElem? (i := 10) rfl)) (F.1.2.2.2.2 _ mw_17) (by decide +kernel) ⟨Nat.le_of_ble_eq_true rfl, Nat.le_of_ble_eq_true rfl⟩, rfl, F.1.2.2.2.2 _ mw_18⟩ rfl rfl hl.1 ⟨Nat.le_of_ble_eq_true rfl, Nat.le_of_ble_eq_true rfl⟩ (Nat.le_of_ble_eq_true rfl) dX6_init_33 (fun g1 H locs hp X => ?_)
  obtain ⟨t1_33, t2_33, t3_33, rfl⟩ := hp
  have X := X.perm (gs' := [[(h0, .inr (6, [.ref a_8, .ref o_18, .null, .int 0]))], rW q a_8 4 (xZv 0), sW q o_18 s1_22 s2_22 s3_22 s4_22 s5_22 (fun _ => 0) (fun _ => 0) (fun _ => 0) (fun _ => 0) (fun _ => 0) 0, hW q o_29 t1_33 t2_33 t3_33 (fun _ => 0) (fun _ => 0) (fun _ => 0) 0 0]) (xp_idx (n := 4) [1, 2, 3, 0] (by decide +kernel) rfl rfl)
  refine x_putF F X (gs' := [[(h0, .inr (6, [.ref a_8, .ref o_18, .ref o_29, .int 0]))], rW q a_8 4 (xZv 0), sW q o_18 s1_22 s2_22 s3_22 s4_22 s5_22 (fun _ => 0) (fun _ => 0) (fun _ => 0) (fun _ => 0) (fun _ => 0) 0, hW q o_29 t1_33 t2_33 t3_33 (fun _ => 0) (fun _ => 0) (fun _ => 0) 0 0]) (v := .ref o_29) hini (C := RX6) (T := TX6) (N := 4) (ci := 6) in_X6 tyX6 tyX6_ok nmX6 0 rfl rfl 2 (by decide) mw_19 rfl rfl rfl rfl (Nat.le_of_ble_eq_true rfl) dX6_init_36 rfl (fun H locs X => ?_)
  refine lv_aload_n hx hb dX6_init_39 rfl (lv_at hl 0 rfl) ?_
  refine lv_iconst (v := 0) hx hb dX6_init_40 (by decide) ?_
  refine x_put F X (gs' := [[(h0, .inr (6, [.ref a_8, .ref o_18, .ref o_29, .int 0]))], rW q a_8 4 (xZv 0), sW q o_18 s1_22 s2_22 s3_22 s4_22 s5_22 (fun _ => 0) (fun _ => 0) (fun _ => 0) (fun _ => 0) (fun _ => 0) 0, hW q o_29 t1_33 t2_33 t3_33 (fun _ => 0) (fun _ => 0) (fun _ => 0) 0 0]) (v := .int 0) (C := RX6) (T := TX6) (N := 4) (ci := 6) in_X6 tyX6 tyX6_ok nmX6 0 rfl rfl 3 (by decide) mw_20 rfl rfl rfl (Nat.le_of_ble_eq_true rfl) dX6_init_41 rfl (fun H locs X => ?_)
  refine lv_aload_n hx hb dX6_init_44 rfl (lv_at hl 0 rfl) ?_
  refine x_get F X (v := .ref o_18) (C := RX6) (T := TX6) (N := 4) (ci := 6) in_X6 0 rfl rfl 1 (by decide) mw_14 rfl dX6_init_45 ?_
  refine lv_bipush (v := (-6)) hx hb dX6_init_48 (by decide) ?_
  refine lv_iconst (v := 1) hx hb dX6_init_50 (by decide) ?_
  refine x_cVi F X (gc := [sW q o_18 s1_22 s2_22 s3_22 s4_22 s5_22 (fun _ => 0) (fun _ => 0) (fun _ => 0) (fun _ => 0) (fun _ => 0) 0]) (gr := [[(h0, .inr (6, [.ref a_8, .ref o_18, .ref o_29, .int 0]))], rW q a_8 4 (xZv 0), hW q o_29 t1_33 t2_33 t3_33 (fun _ => 0) (fun _ => 0) (fun _ => 0) 0 0]) (xp_idx (n := 4) [2, 0, 1, 3] (by decide +kernel) rfl rfl) (c_X5_add l D q o_18 s1_22 s2_22 s3_22 s4_22 s5_22 0 (fun _ => 0) (fun _ => 0) (fun _ => 0) (fun _ => 0) (fun _ => 0) (-6) 1 (by first | assumption | omega)) (cwV 2 F.1.2.2.2.2 gX6_init_X5_add rfl rfl rfl (by decide +kernel) ⟨Nat.le_of_ble_eq_true rfl, Nat.le_of_ble_eq_true rfl⟩) rfl rfl (r0 := 0) (ci := 5) (T := TX5) (N := 6) rfl rfl hl.1 ⟨Nat.le_of_ble_eq_true rfl, Nat.le_of_ble_eq_true rfl⟩ (Nat.le_of_ble_eq_true rfl) dX6_init_51 (fun r_51 g1 H locs hp X => ?_)
  obtain ⟨rfl, rfl⟩ := hp
  have X := X.perm (gs' := [[(h0, .inr (6, [.ref a_8, .ref o_18, .ref o_29, .int 0]))], rW q a_8 4 (xZv 0), sW q o_18 s1_22 s2_22 s3_22 s4_22 s5_22 (upd (fun _ => 0) 0 (-6)) (upd (fun _ => 0) 0 1) (upd (fun _ => 0) 0 0) (upd (fun _ => 0) 0 0) (upd (fun _ => 0) 0 0) (nI (0 + 1)), hW q o_29 t1_33 t2_33 t3_33 (fun _ => 0) (fun _ => 0) (fun _ => 0) 0 0]) (xp_idx (n := 4) [1, 2, 0, 3] (by decide +kernel) rfl rfl)
  refine lv_pop hx hb dX6_init_54 rfl ?_
  have X := X.impl (gs' := [twW q h0 a_8 o_18 o_29 (xZv 0) 0, sW q o_18 s1_22 s2_22 s3_22 s4_22 s5_22 (upd (fun _ => 0) 0 (-6)) (upd (fun _ => 0) 0 1) (upd (fun _ => 0) 0 0) (upd (fun _ => 0) 0 0) (upd (fun _ => 0) 0 0) (nI (0 + 1)), hW q o_29 t1_33 t2_33 t3_33 (fun _ => 0) (fun _ => 0) (fun _ => 0) 0 0]) (b := twW q h0 a_8 o_18 o_29 (xZv 0) 0) 0 2 rfl rfl rfl
  have X := X.impl (gs' := [tG q (x_ad h0 a_8 o_18 s1_22 s2_22 s3_22 s4_22 s5_22 o_29 t1_33 t2_33 t3_33) x_T0]) (b := tG q (x_ad h0 a_8 o_18 s1_22 s2_22 s3_22 s4_22 s5_22 o_29 t1_33 t2_33 t3_33) x_T0) 0 3 rfl rfl rfl
  exact hret _ _ _ _ _ (by exact ⟨_, rfl, rfl⟩) X dX6_init_55
