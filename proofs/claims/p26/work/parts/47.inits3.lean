set_option maxHeartbeats 1000000 in
set_option maxRecDepth 100000 in
theorem c_X1_init (l : Launch) (D : va_G) (q : xQ) (h0 : Nat) : xMv l yX1_init wsX1_init { frames := 3, cells := 73, slots := 864, locals := 60 } D q [.ref h0] [[(h0, .inr (1, [.null, .int 0, .int 0]))]] (fun gw => ∃ (h1 : Nat), ∃ (ad : Nat → Option Nat), ∃ (aa : Nat → Nat → Nat), gw = [hiW q h0 h1 ad 0 0, tG q (aa 0) x_T0, tG q (aa 1) x_T0, tG q (aa 2) x_T0, tG q (aa 3) x_T0, tG q (aa 4) x_T0, tG q (aa 5) x_T0] ∧ (∀ i, i < 6 → ad i = some (aa i 0))) := by
  refine xMv_of (cc := cX1_init) (maxL := 2) (by decide) rfl (Nat.le_of_ble_eq_true rfl) ?_
  intro p9 e9 s9 m9 a9 below meth c9 A9 Z9 ls H locs F hini X hl hret
  have hx := F.1.1
  have hb := F.1.2.1
  have in_X1 : ∀ w ∈ wsX10, w ∈ wsX1_init := by decide +kernel
  have in_X6 : ∀ w ∈ wsX60, w ∈ wsX1_init := by decide +kernel
  have mw_0 : Cond.methodLink RX1 3 objectInit ∈ wsX1_init := by decide +kernel
  have mw_1 : Cond.instanceMethod objectInit ∈ wsX1_init := by decide +kernel
  have mw_2 : Cond.code objectInit ⟨#[0xb1]⟩ 1 none ∈ wsX1_init := by decide +kernel
  have mw_3 : Cond.classLink RX1 9 RX6 ∈ wsX1_init := by decide +kernel
  have mw_4 : Cond.fieldLink RX1 11 "HatWinds$History" "states" "[LHatWinds$Town;" ∈ wsX1_init := by decide +kernel
  have mw_5 : Cond.fieldLink RX1 17 "HatWinds$History" "oldest" "I" ∈ wsX1_init := by decide +kernel
  have mw_6 : Cond.fieldLink RX1 21 "HatWinds$History" "length" "I" ∈ wsX1_init := by decide +kernel
  have mw_7 : Cond.instantiable RX6 4 ∈ wsX1_init := by decide +kernel
  have mw_8 : Cond.initialized RX6 ∈ wsX1_init := by decide +kernel
  have mw_9 : Cond.methodLink RX1 24 yX6_init ∈ wsX1_init := by decide +kernel
  have mw_10 : Cond.instanceMethod yX6_init ∈ wsX1_init := by decide +kernel
  have hl : lv_has ls 2 [(0, .ref h0)] := hl
  refine lv_aload_n hx hb dX1_init_0 rfl (lv_at hl 0 rfl) ?_
  refine x_oinit F hl.1 mw_0 mw_1 mw_2 (Nat.le_of_ble_eq_true rfl) (Nat.le_of_ble_eq_true rfl) dX1_init_1 ?_
  refine lv_aload_n hx hb dX1_init_4 rfl (lv_at hl 0 rfl) ?_
  refine lv_bipush (v := 6) hx hb dX1_init_5 (by decide) ?_
  refine x_newq F X mw_3 (N' := 6) (by decide) rfl (by decide) (Nat.le_of_ble_eq_true rfl) (Nat.le_of_ble_eq_true rfl) dX1_init_7 (fun a_7 H X => ?_)
  have X : xS D A9 s9 [[(h0, .inr (1, [.null, .int 0, .int 0]))], [(a_7, .inl (q 3, 6, .inr (.inr (.inr (.inr (fun _ => none))))))]] H locs := X
  refine x_putF F X (gs' := [[(h0, .inr (1, [.ref a_7, .int 0, .int 0]))], [(a_7, .inl (q 3, 6, .inr (.inr (.inr (.inr (fun _ => none))))))]]) (v := .ref a_7) hini (C := RX1) (T := TX1) (N := 3) (ci := 1) in_X1 tyX1 tyX1_ok nmX1 0 rfl rfl 0 (by decide) mw_4 rfl rfl rfl rfl (Nat.le_of_ble_eq_true rfl) dX1_init_10 rfl (fun H locs X => ?_)
  refine lv_aload_n hx hb dX1_init_13 rfl (lv_at hl 0 rfl) ?_
  refine lv_iconst (v := 0) hx hb dX1_init_14 (by decide) ?_
  refine x_put F X (gs' := [[(h0, .inr (1, [.ref a_7, .int 0, .int 0]))], [(a_7, .inl (q 3, 6, .inr (.inr (.inr (.inr (fun _ => none))))))]]) (v := .int 0) (C := RX1) (T := TX1) (N := 3) (ci := 1) in_X1 tyX1 tyX1_ok nmX1 0 rfl rfl 1 (by decide) mw_5 rfl rfl rfl (Nat.le_of_ble_eq_true rfl) dX1_init_15 rfl (fun H locs X => ?_)
  refine lv_aload_n hx hb dX1_init_18 rfl (lv_at hl 0 rfl) ?_
  refine lv_iconst (v := 0) hx hb dX1_init_19 (by decide) ?_
  refine x_put F X (gs' := [[(h0, .inr (1, [.ref a_7, .int 0, .int 0]))], [(a_7, .inl (q 3, 6, .inr (.inr (.inr (.inr (fun _ => none))))))]]) (v := .int 0) (C := RX1) (T := TX1) (N := 3) (ci := 1) in_X1 tyX1 tyX1_ok nmX1 0 rfl rfl 2 (by decide) mw_6 rfl rfl rfl (Nat.le_of_ble_eq_true rfl) dX1_init_20 rfl (fun H locs X => ?_)
  refine lv_iconst (v := 0) hx hb dX1_init_23 (by decide) ?_
  refine lv_istore_n (lv' := [(1, .int 0), (0, .ref h0)]) hx hb dX1_init_24 rfl hl (by decide) rfl (fun ls hl => ?_)
  refine lv_iload_n hx hb dX1_init_25 rfl (lv_at hl 0 rfl) ?_
  refine lv_bipush (v := 6) hx hb dX1_init_26 (by decide) ?_
  refine lv_icmp_ge (tgt := 50) hx hb dX1_init_28 (by decide) (fun h => absurd h (by decide)) (fun _ => ?_)
  refine lv_aload_n hx hb dX1_init_31 rfl (lv_at hl 1 rfl) ?_
  refine x_get F X (v := .ref a_7) (C := RX1) (T := TX1) (N := 3) (ci := 1) in_X1 0 rfl rfl 0 (by decide) mw_4 rfl dX1_init_32 ?_
  refine lv_iload_n hx hb dX1_init_35 rfl (lv_at hl 0 rfl) ?_
  refine x_nu F X (C := RX6) (T := TX6) (N := 4) (ci := 6) (fs := [.null, .null, .null, .int 0]) in_X6 tyX6 tyX6_ok mw_3 mw_7 mw_8 rfl (fun j hj => match j, hj with | 0, _ => rfl | 1, _ => rfl | 2, _ => rfl | 3, _ => rfl | (k + 4), h => absurd h (by omega)) (Nat.le_of_ble_eq_true rfl) (Nat.le_of_ble_eq_true rfl) dX1_init_36 (fun o_36 H X => ?_)
  have X : xS D A9 s9 [[(h0, .inr (1, [.ref a_7, .int 0, .int 0]))], [(a_7, .inl (q 3, 6, .inr (.inr (.inr (.inr (fun _ => none))))))], [(o_36, .inr (6, [.null, .null, .null, .int 0]))]] H locs := X
  refine lv_dup hx hb dX1_init_39 rfl ?_
  refine x_cI F X (gc := [[(o_36, .inr (6, [.null, .null, .null, .int 0]))]]) (gr := [[(h0, .inr (1, [.ref a_7, .int 0, .int 0]))], [(a_7, .inl (q 3, 6, .inr (.inr (.inr (.inr (fun _ => none))))))]]) (xp_idx (n := 3) [2, 0, 1] (by decide +kernel) rfl rfl) (c_X6_init l D q o_36 ) (cwI 0 F.1.2.2.2.2 gX1_init_X6_init rfl rfl rfl (F.1.2.2.2.2 _ mw_8) (F.1.2.2.2.2 _ mw_9) (F.1.2.2.2.2 _ mw_10) rfl (by decide +kernel) ⟨Nat.le_of_ble_eq_true rfl, Nat.le_of_ble_eq_true rfl⟩) rfl rfl hl.1 ⟨Nat.le_of_ble_eq_true rfl, Nat.le_of_ble_eq_true rfl⟩ (Nat.le_of_ble_eq_true rfl) dX1_init_40 (fun g1 H locs hp X => ?_)
  obtain ⟨ta_40_0, rfl, hta_40_0⟩ := hp
  have X := X.perm (gs' := [[(h0, .inr (1, [.ref a_7, .int 0, .int 0]))], [(a_7, .inl (q 3, 6, .inr (.inr (.inr (.inr (fun _ => none))))))], tG q ta_40_0 x_T0]) (xp_idx (n := 3) [1, 2, 0] (by decide +kernel) rfl rfl)
  have Y_40_0 := X
  subst hta_40_0
  have X := Y_40_0
  refine x_aast F X (gs' := [[(h0, .inr (1, [.ref a_7, .int 0, .int 0]))], [(a_7, .inl (q 3, 6, .inr (.inr (.inr (.inr (va_up (fun _ => none) 0 (some (ta_40_0 0))))))))], tG q ta_40_0 x_T0]) (k := 0) 1 2 rfl rfl (show vp_in (nI 0) _ from vp_in_nI (by omega) (by omega)) rfl dX1_init_43 rfl (fun H locs X => ?_)
  refine lv_iinc (v := 1) (lv' := [(1, .int 1), (0, .ref h0)]) hx hb dX1_init_44 hl (k := 0) rfl (nI_add 0 1) (by decide) rfl (fun ls hl => ?_)
  refine lv_goto (tgt := 25) hx hb dX1_init_47 (by decide) ?_
  refine lv_iload_n hx hb dX1_init_25 rfl (lv_at hl 0 rfl) ?_
  refine lv_bipush (v := 6) hx hb dX1_init_26 (by decide) ?_
  refine lv_icmp_ge (tgt := 50) hx hb dX1_init_28 (by decide) (fun h => absurd h (by decide)) (fun _ => ?_)
  refine lv_aload_n hx hb dX1_init_31 rfl (lv_at hl 1 rfl) ?_
  refine x_get F X (v := .ref a_7) (C := RX1) (T := TX1) (N := 3) (ci := 1) in_X1 0 rfl rfl 0 (by decide) mw_4 rfl dX1_init_32 ?_
  refine lv_iload_n hx hb dX1_init_35 rfl (lv_at hl 0 rfl) ?_
  refine x_nu F X (C := RX6) (T := TX6) (N := 4) (ci := 6) (fs := [.null, .null, .null, .int 0]) in_X6 tyX6 tyX6_ok mw_3 mw_7 mw_8 rfl (fun j hj => match j, hj with | 0, _ => rfl | 1, _ => rfl | 2, _ => rfl | 3, _ => rfl | (k + 4), h => absurd h (by omega)) (Nat.le_of_ble_eq_true rfl) (Nat.le_of_ble_eq_true rfl) dX1_init_36 (fun o_36_1 H X => ?_)
  have X : xS D A9 s9 [[(h0, .inr (1, [.ref a_7, .int 0, .int 0]))], [(a_7, .inl (q 3, 6, .inr (.inr (.inr (.inr (va_up (fun _ => none) 0 (some (ta_40_0 0))))))))], tG q ta_40_0 x_T0, [(o_36_1, .inr (6, [.null, .null, .null, .int 0]))]] H locs := X
  refine lv_dup hx hb dX1_init_39 rfl ?_
  refine x_cI F X (gc := [[(o_36_1, .inr (6, [.null, .null, .null, .int 0]))]]) (gr := [[(h0, .inr (1, [.ref a_7, .int 0, .int 0]))], [(a_7, .inl (q 3, 6, .inr (.inr (.inr (.inr (va_up (fun _ => none) 0 (some (ta_40_0 0))))))))], tG q ta_40_0 x_T0]) (xp_idx (n := 4) [3, 0, 1, 2] (by decide +kernel) rfl rfl) (c_X6_init l D q o_36_1 ) (cwI 0 F.1.2.2.2.2 gX1_init_X6_init rfl rfl rfl (F.1.2.2.2.2 _ mw_8) (F.1.2.2.2.2 _ mw_9) (F.1.2.2.2.2 _ mw_10) rfl (by decide +kernel) ⟨Nat.le_of_ble_eq_true rfl, Nat.le_of_ble_eq_true rfl⟩) rfl rfl hl.1 ⟨Nat.le_of_ble_eq_true rfl, Nat.le_of_ble_eq_true rfl⟩ (Nat.le_of_ble_eq_true rfl) dX1_init_40 (fun g1 H locs hp X => ?_)
  obtain ⟨ta_40_1, rfl, hta_40_1⟩ := hp
  have X := X.perm (gs' := [[(h0, .inr (1, [.ref a_7, .int 0, .int 0]))], [(a_7, .inl (q 3, 6, .inr (.inr (.inr (.inr (va_up (fun _ => none) 0 (some (ta_40_0 0))))))))], tG q ta_40_0 x_T0, tG q ta_40_1 x_T0]) (xp_idx (n := 4) [1, 2, 3, 0] (by decide +kernel) rfl rfl)
  have Y_40_1 := X
  subst hta_40_1
  have X := Y_40_1
  refine x_aast F X (gs' := [[(h0, .inr (1, [.ref a_7, .int 0, .int 0]))], [(a_7, .inl (q 3, 6, .inr (.inr (.inr (.inr (va_up (va_up (fun _ => none) 0 (some (ta_40_0 0))) 1 (some (ta_40_1 0))))))))], tG q ta_40_0 x_T0, tG q ta_40_1 x_T0]) (k := 1) 1 14 rfl rfl (show vp_in (nI 1) _ from vp_in_nI (by omega) (by omega)) rfl dX1_init_43 rfl (fun H locs X => ?_)
  refine lv_iinc (v := 2) (lv' := [(1, .int 2), (0, .ref h0)]) hx hb dX1_init_44 hl (k := 0) rfl (nI_add 1 1) (by decide) rfl (fun ls hl => ?_)
  refine lv_goto (tgt := 25) hx hb dX1_init_47 (by decide) ?_
  refine lv_iload_n hx hb dX1_init_25 rfl (lv_at hl 0 rfl) ?_
  refine lv_bipush (v := 6) hx hb dX1_init_26 (by decide) ?_
  refine lv_icmp_ge (tgt := 50) hx hb dX1_init_28 (by decide) (fun h => absurd h (by decide)) (fun _ => ?_)
  refine lv_aload_n hx hb dX1_init_31 rfl (lv_at hl 1 rfl) ?_
  refine x_get F X (v := .ref a_7) (C := RX1) (T := TX1) (N := 3) (ci := 1) in_X1 0 rfl rfl 0 (by decide) mw_4 rfl dX1_init_32 ?_
  refine lv_iload_n hx hb dX1_init_35 rfl (lv_at hl 0 rfl) ?_
  refine x_nu F X (C := RX6) (T := TX6) (N := 4) (ci := 6) (fs := [.null, .null, .null, .int 0]) in_X6 tyX6 tyX6_ok mw_3 mw_7 mw_8 rfl (fun j hj => match j, hj with | 0, _ => rfl | 1, _ => rfl | 2, _ => rfl | 3, _ => rfl | (k + 4), h => absurd h (by omega)) (Nat.le_of_ble_eq_true rfl) (Nat.le_of_ble_eq_true rfl) dX1_init_36 (fun o_36_2 H X => ?_)
  have X : xS D A9 s9 [[(h0, .inr (1, [.ref a_7, .int 0, .int 0]))], [(a_7, .inl (q 3, 6, .inr (.inr (.inr (.inr (va_up (va_up (fun _ => none) 0 (some (ta_40_0 0))) 1 (some (ta_40_1 0))))))))], tG q ta_40_0 x_T0, tG q ta_40_1 x_T0, [(o_36_2, .inr (6, [.null, .null, .null, .int 0]))]] H locs := X
  refine lv_dup hx hb dX1_init_39 rfl ?_
  refine x_cI F X (gc := [[(o_36_2, .inr (6, [.null, .null, .null, .int 0]))]]) (gr := [[(h0, .inr (1, [.ref a_7, .int 0, .int 0]))], [(a_7, .inl (q 3, 6, .inr (.inr (.inr (.inr (va_up (va_up (fun _ => none) 0 (some (ta_40_0 0))) 1 (some (ta_40_1 0))))))))], tG q ta_40_0 x_T0, tG q ta_40_1 x_T0]) (xp_idx (n := 5) [4, 0, 1, 2, 3] (by decide +kernel) rfl rfl) (c_X6_init l D q o_36_2 ) (cwI 0 F.1.2.2.2.2 gX1_init_X6_init rfl rfl rfl (F.1.2.2.2.2 _ mw_8) (F.1.2.2.2.2 _ mw_9) (F.1.2.2.2.2 _ mw_10) rfl (by decide +kernel) ⟨Nat.le_of_ble_eq_true rfl, Nat.le_of_ble_eq_true rfl⟩) rfl rfl hl.1 ⟨Nat.le_of_ble_eq_true rfl, Nat.le_of_ble_eq_true rfl⟩ (Nat.le_of_ble_eq_true rfl) dX1_init_40 (fun g1 H locs hp X => ?_)
  obtain ⟨ta_40_2, rfl, hta_40_2⟩ := hp
  have X := X.perm (gs' := [[(h0, .inr (1, [.ref a_7, .int 0, .int 0]))], [(a_7, .inl (q 3, 6, .inr (.inr (.inr (.inr (va_up (va_up (fun _ => none) 0 (some (ta_40_0 0))) 1 (some (ta_40_1 0))))))))], tG q ta_40_0 x_T0, tG q ta_40_1 x_T0, tG q ta_40_2 x_T0]) (xp_idx (n := 5) [1, 2, 3, 4, 0] (by decide +kernel) rfl rfl)
  have Y_40_2 := X
  subst hta_40_2
  have X := Y_40_2
  refine x_aast F X (gs' := [[(h0, .inr (1, [.ref a_7, .int 0, .int 0]))], [(a_7, .inl (q 3, 6, .inr (.inr (.inr (.inr (va_up (va_up (va_up (fun _ => none) 0 (some (ta_40_0 0))) 1 (some (ta_40_1 0))) 2 (some (ta_40_2 0))))))))], tG q ta_40_0 x_T0, tG q ta_40_1 x_T0, tG q ta_40_2 x_T0]) (k := 2) 1 26 rfl rfl (show vp_in (nI 2) _ from vp_in_nI (by omega) (by omega)) rfl dX1_init_43 rfl (fun H locs X => ?_)
  refine lv_iinc (v := 3) (lv' := [(1, .int 3), (0, .ref h0)]) hx hb dX1_init_44 hl (k := 0) rfl (nI_add 2 1) (by decide) rfl (fun ls hl => ?_)
  refine lv_goto (tgt := 25) hx hb dX1_init_47 (by decide) ?_
  refine lv_iload_n hx hb dX1_init_25 rfl (lv_at hl 0 rfl) ?_
  refine lv_bipush (v := 6) hx hb dX1_init_26 (by decide) ?_
  refine lv_icmp_ge (tgt := 50) hx hb dX1_init_28 (by decide) (fun h => absurd h (by decide)) (fun _ => ?_)
  refine lv_aload_n hx hb dX1_init_31 rfl (lv_at hl 1 rfl) ?_
  refine x_get F X (v := .ref a_7) (C := RX1) (T := TX1) (N := 3) (ci := 1) in_X1 0 rfl rfl 0 (by decide) mw_4 rfl dX1_init_32 ?_
  refine lv_iload_n hx hb dX1_init_35 rfl (lv_at hl 0 rfl) ?_
  refine x_nu F X (C := RX6) (T := TX6) (N := 4) (ci := 6) (fs := [.null, .null, .null, .int 0]) in_X6 tyX6 tyX6_ok mw_3 mw_7 mw_8 rfl (fun j hj => match j, hj with | 0, _ => rfl | 1, _ => rfl | 2, _ => rfl | 3, _ => rfl | (k + 4), h => absurd h (by omega)) (Nat.le_of_ble_eq_true rfl) (Nat.le_of_ble_eq_true rfl) dX1_init_36 (fun o_36_3 H X => ?_)
  have X : xS D A9 s9 [[(h0, .inr (1, [.ref a_7, .int 0, .int 0]))], [(a_7, .inl (q 3, 6, .inr (.inr (.inr (.inr (va_up (va_up (va_up (fun _ => none) 0 (some (ta_40_0 0))) 1 (some (ta_40_1 0))) 2 (some (ta_40_2 0))))))))], tG q ta_40_0 x_T0, tG q ta_40_1 x_T0, tG q ta_40_2 x_T0, [(o_36_3, .inr (6, [.null, .null, .null, .int 0]))]] H locs := X
  refine lv_dup hx hb dX1_init_39 rfl ?_
  refine x_cI F X (gc := [[(o_36_3, .inr (6, [.null, .null, .null, .int 0]))]]) (gr := [[(h0, .inr (1, [.ref a_7, .int 0, .int 0]))], [(a_7, .inl (q 3, 6, .inr (.inr (.inr (.inr (va_up (va_up (va_up (fun _ => none) 0 (some (ta_40_0 0))) 1 (some (ta_40_1 0))) 2 (some (ta_40_2 0))))))))], tG q ta_40_0 x_T0, tG q ta_40_1 x_T0, tG q ta_40_2 x_T0]) (xp_idx (n := 6) [5, 0, 1, 2, 3, 4] (by decide +kernel) rfl rfl) (c_X6_init l D q o_36_3 ) (cwI 0 F.1.2.2.2.2 gX1_init_X6_init rfl rfl rfl (F.1.2.2.2.2 _ mw_8) (F.1.2.2.2.2 _ mw_9) (F.1.2.2.2.2 _ mw_10) rfl (by decide +kernel) ⟨Nat.le_of_ble_eq_true rfl, Nat.le_of_ble_eq_true rfl⟩) rfl rfl hl.1 ⟨Nat.le_of_ble_eq_true rfl, Nat.le_of_ble_eq_true rfl⟩ (Nat.le_of_ble_eq_true rfl) dX1_init_40 (fun g1 H locs hp X => ?_)
  obtain ⟨ta_40_3, rfl, hta_40_3⟩ := hp
  have X := X.perm (gs' := [[(h0, .inr (1, [.ref a_7, .int 0, .int 0]))], [(a_7, .inl (q 3, 6, .inr (.inr (.inr (.inr (va_up (va_up (va_up (fun _ => none) 0 (some (ta_40_0 0))) 1 (some (ta_40_1 0))) 2 (some (ta_40_2 0))))))))], tG q ta_40_0 x_T0, tG q ta_40_1 x_T0, tG q ta_40_2 x_T0, tG q ta_40_3 x_T0]) (xp_idx (n := 6) [1, 2, 3, 4, 5, 0] (by decide +kernel) rfl rfl)
  have Y_40_3 := X
  subst hta_40_3
  have X := Y_40_3
  refine x_aast F X (gs' := [[(h0, .inr (1, [.ref a_7, .int 0, .int 0]))], [(a_7, .inl (q 3, 6, .inr (.inr (.inr (.inr (va_up (va_up (va_up (va_up (fun _ => none) 0 (some (ta_40_0 0))) 1 (some (ta_40_1 0))) 2 (some (ta_40_2 0))) 3 (some (ta_40_3 0))))))))], tG q ta_40_0 x_T0, tG q ta_40_1 x_T0, tG q ta_40_2 x_T0, tG q ta_40_3 x_T0]) (k := 3) 1 38 rfl rfl (show vp_in (nI 3) _ from vp_in_nI (by omega) (by omega)) rfl dX1_init_43 rfl (fun H locs X => ?_)
  refine lv_iinc (v := 4) (lv' := [(1, .int 4), (0, .ref h0)]) hx hb dX1_init_44 hl (k := 0) rfl (nI_add 3 1) (by decide) rfl (fun ls hl => ?_)
  refine lv_goto (tgt := 25) hx hb dX1_init_47 (by decide) ?_
  refine lv_iload_n hx hb dX1_init_25 rfl (lv_at hl 0 rfl) ?_
  refine lv_bipush (v := 6) hx hb dX1_init_26 (by decide) ?_
  refine lv_icmp_ge (tgt := 50) hx hb dX1_init_28 (by decide) (fun h => absurd h (by decide)) (fun _ => ?_)
  refine lv_aload_n hx hb dX1_init_31 rfl (lv_at hl 1 rfl) ?_
  refine x_get F X (v := .ref a_7) (C := RX1) (T := TX1) (N := 3) (ci := 1) in_X1 0 rfl rfl 0 (by decide) mw_4 rfl dX1_init_32 ?_
  refine lv_iload_n hx hb dX1_init_35 rfl (lv_at hl 0 rfl) ?_
  refine x_nu F X (C := RX6) (T := TX6) (N := 4) (ci := 6) (fs := [.null, .null, .null, .int 0]) in_X6 tyX6 tyX6_ok mw_3 mw_7 mw_8 rfl (fun j hj => match j, hj with | 0, _ => rfl | 1, _ => rfl | 2, _ => rfl | 3, _ => rfl | (k + 4), h => absurd h (by omega)) (Nat.le_of_ble_eq_true rfl) (Nat.le_of_ble_eq_true rfl) dX1_init_36 (fun o_36_4 H X => ?_)
  have X : xS D A9 s9 [[(h0, .inr (1, [.ref a_7, .int 0, .int 0]))], [(a_7, .inl (q 3, 6, .inr (.inr (.inr (.inr (va_up (va_up (va_up (va_up (fun _ => none) 0 (some (ta_40_0 0))) 1 (some (ta_40_1 0))) 2 (some (ta_40_2 0))) 3 (some (ta_40_3 0))))))))], tG q ta_40_0 x_T0, tG q ta_40_1 x_T0, tG q ta_40_2 x_T0, tG q ta_40_3 x_T0, [(o_36_4, .inr (6, [.null, .null, .null, .int 0]))]] H locs := X
  refine lv_dup hx hb dX1_init_39 rfl ?_
  refine x_cI F X (gc := [[(o_36_4, .inr (6, [.null, .null, .null, .int 0]))]]) (gr := [[(h0, .inr (1, [.ref a_7, .int 0, .int 0]))], [(a_7, .inl (q 3, 6, .inr (.inr (.inr (.inr (va_up (va_up (va_up (va_up (fun _ => none) 0 (some (ta_40_0 0))) 1 (some (ta_40_1 0))) 2 (some (ta_40_2 0))) 3 (some (ta_40_3 0))))))))], tG q ta_40_0 x_T0, tG q ta_40_1 x_T0, tG q ta_40_2 x_T0, tG q ta_40_3 x_T0]) (xp_idx (n := 7) [6, 0, 1, 2, 3, 4, 5] (by decide +kernel) rfl rfl) (c_X6_init l D q o_36_4 ) (cwI 0 F.1.2.2.2.2 gX1_init_X6_init rfl rfl rfl (F.1.2.2.2.2 _ mw_8) (F.1.2.2.2.2 _ mw_9) (F.1.2.2.2.2 _ mw_10) rfl (by decide +kernel) ⟨Nat.le_of_ble_eq_true rfl, Nat.le_of_ble_eq_true rfl⟩) rfl rfl hl.1 ⟨Nat.le_of_ble_eq_true rfl, Nat.le_of_ble_eq_true rfl⟩ (Nat.le_of_ble_eq_true rfl) dX1_init_40 (fun g1 H locs hp X => ?_)
  obtain ⟨ta_40_4, rfl, hta_40_4⟩ := hp
  have X := X.perm (gs' := [[(h0, .inr (1, [.ref a_7, .int 0, .int 0]))], [(a_7, .inl (q 3, 6, .inr (.inr (.inr (.inr (va_up (va_up (va_up (va_up (fun _ => none) 0 (some (ta_40_0 0))) 1 (some (ta_40_1 0))) 2 (some (ta_40_2 0))) 3 (some (ta_40_3 0))))))))], tG q ta_40_0 x_T0, tG q ta_40_1 x_T0, tG q ta_40_2 x_T0, tG q ta_40_3 x_T0, tG q ta_40_4 x_T0]) (xp_idx (n := 7) [1, 2, 3, 4, 5, 6, 0] (by decide +kernel) rfl rfl)
  have Y_40_4 := X
  subst hta_40_4
  have X := Y_40_4
  refine x_aast F X (gs' := [[(h0, .inr (1, [.ref a_7, .int 0, .int 0]))], [(a_7, .inl (q 3, 6, .inr (.inr (.inr (.inr (va_up (va_up (va_up (va_up (va_up (fun _ => none) 0 (some (ta_40_0 0))) 1 (some (ta_40_1 0))) 2 (some (ta_40_2 0))) 3 (some (ta_40_3 0))) 4 (some (ta_40_4 0))))))))], tG q ta_40_0 x_T0, tG q ta_40_1 x_T0, tG q ta_40_2 x_T0, tG q ta_40_3 x_T0, tG q ta_40_4 x_T0]) (k := 4) 1 50 rfl rfl (show vp_in (nI 4) _ from vp_in_nI (by omega) (by omega)) rfl dX1_init_43 rfl (fun H locs X => ?_)
  refine lv_iinc (v := 5) (lv' := [(1, .int 5), (0, .ref h0)]) hx hb dX1_init_44 hl (k := 0) rfl (nI_add 4 1) (by decide) rfl (fun ls hl => ?_)
  refine lv_goto (tgt := 25) hx hb dX1_init_47 (by decide) ?_
  refine lv_iload_n hx hb dX1_init_25 rfl (lv_at hl 0 rfl) ?_
  refine lv_bipush (v := 6) hx hb dX1_init_26 (by decide) ?_
  refine lv_icmp_ge (tgt := 50) hx hb dX1_init_28 (by decide) (fun h => absurd h (by decide)) (fun _ => ?_)
  refine lv_aload_n hx hb dX1_init_31 rfl (lv_at hl 1 rfl) ?_
  refine x_get F X (v := .ref a_7) (C := RX1) (T := TX1) (N := 3) (ci := 1) in_X1 0 rfl rfl 0 (by decide) mw_4 rfl dX1_init_32 ?_
  refine lv_iload_n hx hb dX1_init_35 rfl (lv_at hl 0 rfl) ?_
  refine x_nu F X (C := RX6) (T := TX6) (N := 4) (ci := 6) (fs := [.null, .null, .null, .int 0]) in_X6 tyX6 tyX6_ok mw_3 mw_7 mw_8 rfl (fun j hj => match j, hj with | 0, _ => rfl | 1, _ => rfl | 2, _ => rfl | 3, _ => rfl | (k + 4), h => absurd h (by omega)) (Nat.le_of_ble_eq_true rfl) (Nat.le_of_ble_eq_true rfl) dX1_init_36 (fun o_36_5 H X => ?_)
  have X : xS D A9 s9 [[(h0, .inr (1, [.ref a_7, .int 0, .int 0]))], [(a_7, .inl (q 3, 6, .inr (.inr (.inr (.inr (va_up (va_up (va_up (va_up (va_up (fun _ => none) 0 (some (ta_40_0 0))) 1 (some (ta_40_1 0))) 2 (some (ta_40_2 0))) 3 (some (ta_40_3 0))) 4 (some (ta_40_4 0))))))))], tG q ta_40_0 x_T0, tG q ta_40_1 x_T0, tG q ta_40_2 x_T0, tG q ta_40_3 x_T0, tG q ta_40_4 x_T0, [(o_36_5, .inr (6, [.null, .null, .null, .int 0]))]] H locs := X
  refine lv_dup hx hb dX1_init_39 rfl ?_
  refine x_cI F X (gc := [[(o_36_5, .inr (6, [.null, .null, .null, .int 0]))]]) (gr := [[(h0, .inr (1, [.ref a_7, .int 0, .int 0]))], [(a_7, .inl (q 3, 6, .inr (.inr (.inr (.inr (va_up (va_up (va_up (va_up (va_up (fun _ => none) 0 (some (ta_40_0 0))) 1 (some (ta_40_1 0))) 2 (some (ta_40_2 0))) 3 (some (ta_40_3 0))) 4 (some (ta_40_4 0))))))))], tG q ta_40_0 x_T0, tG q ta_40_1 x_T0, tG q ta_40_2 x_T0, tG q ta_40_3 x_T0, tG q ta_40_4 x_T0]) (xp_idx (n := 8) [7, 0, 1, 2, 3, 4, 5, 6] (by decide +kernel) rfl rfl) (c_X6_init l D q o_36_5 ) (cwI 0 F.1.2.2.2.2 gX1_init_X6_init rfl rfl rfl (F.1.2.2.2.2 _ mw_8) (F.1.2.2.2.2 _ mw_9) (F.1.2.2.2.2 _ mw_10) rfl (by decide +kernel) ⟨Nat.le_of_ble_eq_true rfl, Nat.le_of_ble_eq_true rfl⟩) rfl rfl hl.1 ⟨Nat.le_of_ble_eq_true rfl, Nat.le_of_ble_eq_true rfl⟩ (Nat.le_of_ble_eq_true rfl) dX1_init_40 (fun g1 H locs hp X => ?_)
  obtain ⟨ta_40_5, rfl, hta_40_5⟩ := hp
  have X := X.perm (gs' := [[(h0, .inr (1, [.ref a_7, .int 0, .int 0]))], [(a_7, .inl (q 3, 6, .inr (.inr (.inr (.inr (va_up (va_up (va_up (va_up (va_up (fun _ => none) 0 (some (ta_40_0 0))) 1 (some (ta_40_1 0))) 2 (some (ta_40_2 0))) 3 (some (ta_40_3 0))) 4 (some (ta_40_4 0))))))))], tG q ta_40_0 x_T0, tG q ta_40_1 x_T0, tG q ta_40_2 x_T0, tG q ta_40_3 x_T0, tG q ta_40_4 x_T0, tG q ta_40_5 x_T0]) (xp_idx (n := 8) [1, 2, 3, 4, 5, 6, 7, 0] (by decide +kernel) rfl rfl)
  have Y_40_5 := X
  subst hta_40_5
  have X := Y_40_5
  refine x_aast F X (gs' := [[(h0, .inr (1, [.ref a_7, .int 0, .int 0]))], [(a_7, .inl (q 3, 6, .inr (.inr (.inr (.inr (va_up (va_up (va_up (va_up (va_up (va_up (fun _ => none) 0 (some (ta_40_0 0))) 1 (some (ta_40_1 0))) 2 (some (ta_40_2 0))) 3 (some (ta_40_3 0))) 4 (some (ta_40_4 0))) 5 (some (ta_40_5 0))))))))], tG q ta_40_0 x_T0, tG q ta_40_1 x_T0, tG q ta_40_2 x_T0, tG q ta_40_3 x_T0, tG q ta_40_4 x_T0, tG q ta_40_5 x_T0]) (k := 5) 1 62 rfl rfl (show vp_in (nI 5) _ from vp_in_nI (by omega) (by omega)) rfl dX1_init_43 rfl (fun H locs X => ?_)
  refine lv_iinc (v := 6) (lv' := [(1, .int 6), (0, .ref h0)]) hx hb dX1_init_44 hl (k := 0) rfl (nI_add 5 1) (by decide) rfl (fun ls hl => ?_)
  refine lv_goto (tgt := 25) hx hb dX1_init_47 (by decide) ?_
  refine lv_iload_n hx hb dX1_init_25 rfl (lv_at hl 0 rfl) ?_
  refine lv_bipush (v := 6) hx hb dX1_init_26 (by decide) ?_
  refine lv_icmp_ge (tgt := 50) hx hb dX1_init_28 (by decide) (fun _ => ?_) (fun h => absurd (by decide) h)
  have X := X.impl (gs' := [hiW q h0 a_7 (va_up (va_up (va_up (va_up (va_up (va_up (fun _ => none) 0 (some (ta_40_0 0))) 1 (some (ta_40_1 0))) 2 (some (ta_40_2 0))) 3 (some (ta_40_3 0))) 4 (some (ta_40_4 0))) 5 (some (ta_40_5 0))) 0 0, tG q ta_40_0 x_T0, tG q ta_40_1 x_T0, tG q ta_40_2 x_T0, tG q ta_40_3 x_T0, tG q ta_40_4 x_T0, tG q ta_40_5 x_T0]) (b := hiW q h0 a_7 (va_up (va_up (va_up (va_up (va_up (va_up (fun _ => none) 0 (some (ta_40_0 0))) 1 (some (ta_40_1 0))) 2 (some (ta_40_2 0))) 3 (some (ta_40_3 0))) 4 (some (ta_40_4 0))) 5 (some (ta_40_5 0))) 0 0) 0 2 rfl rfl rfl
  refine hret _ _ _ _ _ ?_ X dX1_init_50
  refine ⟨_, _, (fun i => match i with | 0 => ta_40_0 | 1 => ta_40_1 | 2 => ta_40_2 | 3 => ta_40_3 | 4 => ta_40_4 | _ => ta_40_5), rfl, fun i hi => ?_⟩
  rcases (show i = 0 ∨ i = 1 ∨ i = 2 ∨ i = 3 ∨ i = 4 ∨ i = 5 by omega) with rfl | rfl | rfl | rfl | rfl | rfl <;> rfl
