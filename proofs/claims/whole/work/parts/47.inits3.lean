set_option maxHeartbeats 1000000 in
set_option maxRecDepth 100000 in
theorem c_X1_init (l : Launch) (D : va_G) (q : xQ) (h0 : Nat) : xMv l yX1_init wsX1_init { frames := 3, cells := 73, slots := 864, locals := 60 } D q [.ref h0] [[(h0, .inr (1, [.null, .int 0, .int 0]))]] (fun gw => ∃ (h1 : Nat), ∃ (ad : Nat → Option Nat), ∃ (aa : Nat → Nat → Nat), gw = [hiW q h0 h1 ad 0 0, tG q (aa 0) x_T0, tG q (aa 1) x_T0, tG q (aa 2) x_T0, tG q (aa 3) x_T0, tG q (aa 4) x_T0, tG q (aa 5) x_T0] ∧ (∀ i, i < 6 → ad i = some (aa i 0))) := by
  refine xMv_of (cc := cX1_init) (maxL := 2) (by decide) rfl (Nat.le_of_ble_eq_true rfl) ?_
  intro p9 e9 s9 m9 a9 below meth c9 A9 Z9 ls H locs F hini X hl hret
  have hx := F.1.1
  have hb := F.1.2.1
  have in_X1 : ∀ w ∈ wsX10, w ∈ wsX1_init := by decide +kernel
  have in_X6 : ∀ w ∈ wsX60, w ∈ wsX1_init := by decide +kernel
  have mw_0 : Cond.methodLink RX1 3 objectInit ∈ wsX1_init := by decide +kernel
  have mw_1 : Cond.instanceMethod objectInit ∈ wsX1_init := by decide +kernel
  have mw_2 : Cond.code objectInit ⟨#[0xb1]⟩ 1 none ∈ wsX1_init := by decide +kernel
  have mw_3 : Cond.classLink RX1 9 RX6 ∈ wsX1_init := by decide +kernel
  have mw_4 : Cond.fieldLink RX1 11 "HatWinds$History" "states" "[LHatWinds$Town;" ∈ wsX1_init := by decide +kernel
  have mw_5 : Cond.fieldLink RX1 17 "HatWinds$History" "oldest" "I" ∈ wsX1_init := by decide +kernel
  have mw_6 : Cond.fieldLink RX1 21 "HatWinds$History" "length" "I" ∈ wsX1_init := by decide +kernel
  have mw_7 : Cond.instantiable RX6 4 ∈ wsX1_init := by decide +kernel
  have mw_8 : Cond.initialized RX6 ∈ wsX1_init := by decide +kernel
  have mw_9 : Cond.methodLink RX1 24 yX6_init ∈ wsX1_init := by decide +kernel
  have mw_10 : Cond.instanceMethod yX6_init ∈ wsX1_init := by decide +kernel
  have hl : lv_has ls 2 [(0, .ref h0)] := hl
  refine lv_aload_n hx hb dX1_init_0 rfl (lv_at hl 0 rfl) ?_
  refine x_oinit F hl.1 mw_0 mw_1 mw_2 (Nat.le_of_ble_eq_true rfl) (Nat.le_of_ble_eq_true rfl) dX1_init_1 ?_
  refine lv_aload_n hx hb dX1_init_4 rfl (lv_at hl 0 rfl) ?_
  refine lv_bipush (v := 6) hx hb dX1_init_5 (by decide) ?_
  refine x_newq F X mw_3 (N' := 6) (by decide) rfl (by decide) (Nat.le_of_ble_eq_true rfl) (Nat.le_of_ble_eq_true rfl) dX1_init_7 (fun a_7 H X => ?_)
  have X : xS D A9 s9 [[(h0, .inr (1, [.null, .int 0, .int 0]))], [(a_7, .inl (q 3, 6, .inr (.inr (.inr (.inr (fun _ => none))))))]] H locs := X
  refine x_putF F X (gs' := [[(h0, .inr (1, [.ref a_7, .int 0, .int 0]))], [(a_7, .inl (q 3, 6, .inr (.inr (.inr (.inr (fun _ => none))))))]]) (v := .ref a_7) hini (C := RX1) (T := TX1) (N := 3) (ci := 1) in_X1 tyX1 tyX1_ok nmX1 0 rfl rfl 0 (by decide) mw_4 rfl rfl rfl rfl (Nat.le_of_ble_eq_true rfl) dX1_init_10 rfl (fun H locs X => ?_)
  refine lv_aload_n hx hb dX1_init_13 rfl (lv_at hl 0 rfl) ?_
  refine lv_iconst (v := 0) hx hb dX1_init_14 (by decide) ?_
  refine x_put F X (gs' := [[(h0, .inr (1, [.ref a_7, .int 0, .int 0]))], [(a_7, .inl (q 3, 6, .inr (.inr (.inr (.inr (fun _ => none))))))]]) (v := .int 0) (C := RX1) (T := TX1) (N := 3) (ci := 1) in_X1 tyX1 tyX1_ok nmX1 0 rfl rfl 1 (by decide) mw_5 rfl rfl rfl (Nat.le_of_ble_eq_true rfl) dX1_init_15 rfl (fun H locs X => ?_)
  refine lv_aload_n hx hb dX1_init_18 rfl (lv_at hl 0 rfl) ?_
  refine lv_iconst (v := 0) hx hb dX1_init_19 (by decide) ?_
  refine x_put F X (gs' := [[(h0, .inr (1, [.ref a_7, .int 0, .int 0]))], [(a_7, .inl (q 3, 6, .inr (.inr (.inr (.inr (fun _ => none))))))]]) (v := .int 0) (C := RX1) (T := TX1) (N := 3) (ci := 1) in_X1 tyX1 tyX1_ok nmX1 0 rfl rfl 2 (by decide) mw_6 rfl rfl rfl (Nat.le_of_ble_eq_true rfl) dX1_init_20 rfl (fun H locs X => ?_)
  refine lv_iconst (v := 0) hx hb dX1_init_23 (by decide) ?_
  refine lv_istore_n (lv' := [(1, .int 0), (0, .ref h0)]) hx hb dX1_init_24 rfl hl (by decide) rfl (fun ls hl => ?_)
  refine lv_iload_n hx hb dX1_init_25 rfl (lv_at hl 0 rfl) ?_
  refine lv_bipush (v := 6) hx hb dX1_init_26 (by decide) ?_
  refine lv_icmp_ge (tgt := 50) hx hb dX1_init_28 (by decide) (fun h => absurd h (by decide)) (fun _ => ?_)
  refine lv_aload_n hx hb dX1_init_31 rfl (lv_at hl 1 rfl) ?_
  refine x_get F X (v := .ref a_7) (C := RX1) (T := TX1) (N := 3) (ci := 1) in_X1 0 rfl rfl 0 (by decide) mw_4 rfl dX1_init_32 ?_
  refine lv_iload_n hx hb dX1_init_35 rfl (lv_at hl 0 rfl) ?_
  refine x_nu F X (C := RX6) (T := TX6) (N := 4) (ci := 6) (fs := [.null, .null, .null, .int 0]) in_X6 tyX6 tyX6_ok mw_3 mw_7 mw_8 rfl (fun j hj => match j, hj with | 0, _ => rfl | 1, _ => rfl | 2, _ => rfl | 3, _ => rfl | (k + 4), h => absurd h (by omega)) (Nat.le_of_ble_eq_true rfl) (Nat.le_of_ble_eq_true rfl) dX1_init_36 (fun o_36 H X => ?_)
  have X : xS D A9 s9 [[(h0, .inr (1, [.ref a_7, .int 0, .int 0]))], [(a_7, .inl (q 3, 6, .inr (.inr (.inr (.inr (fun _ => none))))))], [(o_36, .inr (6, [.null, .null, .null, .int 0]))]] H locs := X
  refine lv_dup hx hb dX1_init_39 rfl ?_
  refine x_cI F X (gc := [[(o_36, .inr (6, [.null, .null, .null, .int 0]))]]) (gr := [[(h0, .inr (1, [.ref a_7, .int 0, .int 0]))], [(a_7, .inl (q 3, 6, .inr (.inr (.inr (.inr (fun _ => none))))))]]) (xp_idx (n := 3) [2, 0, 1] (by decide +kernel) rfl rfl) (c_X6_init l D q o_36 ) (cwI 0 F.1.2.2.2.2 gX1_init_X6_init rfl rfl rfl (F.1.2.2.2.2 _ mw_8) (F.1.2.2.2.2 _ mw_9) (F.1.2.2.2.2 _ mw_10) rfl (by decide +kernel) ⟨Nat.le_of_ble_eq_true rfl, Nat.le_of_ble_eq_true rfl⟩) rfl rfl hl.1 ⟨Nat.le_of_ble_eq_true rfl, Nat.le_of_ble_eq_true rfl⟩ (Nat.le_of_ble_eq_true rfl) dX1_init_40 (fun g1 H locs hp X => ?_)
  obtain ⟨ta_40_0, rfl, hta_40_0⟩ := hp
  have X := X.perm (gs' := [[(h0, .inr (1, [.ref a_7, .int 0, .int 0]))], [(a_7, .inl (q 3, 6, .inr (.inr (.inr (.inr (fun _ => none))))))], tG q ta_40_0 x_T0]) (xp_idx (n := 3) [1, 2, 0] (by decide +kernel) rfl rfl)
  have Y_40_0 := X
  subst hta_40_0
  have X := Y_40_0
  refine x_aast F X (gs' := [[(h0, .inr (1, [.ref a_7, .int 0, .int 0]))], [(a_7, .inl (q 3, 6, .inr (.inr (.inr (.inr (va_up (fun _ => none) 0 (some (ta_40_0 0))))))))], tG q ta_40_0 x_T0]) (k := 0) 1 2 rfl rfl (show vp_in (nI 0) _ from vp_in_nI (by omega) (by omega)) rfl dX1_init_43 rfl (fun H locs X => ?_)
  refine lv_iinc (v := 1) (lv' := [(1, .int 1), (0, .ref h0)]) hx hb dX1_init_44 hl (k := 0) rfl (nI_add 0 1) (by decide) rfl (fun ls hl => ?_)
  refine lv_goto (tgt := 25) hx hb dX1_init_47 (by decide) ?_
  refine lv_iload_n hx hb dX1_init_25 rfl (lv_at hl 0 rfl) ?_
  refine lv_bipush (v := 6) hx hb dX1_init_26 (by decide) ?_
  refine lv_icmp_ge (tgt := 50) hx hb dX1_init_28 (by decide) (fun h => absurd h (by decide)) (fun _ => ?_)
  refine lv_aload_n hx hb dX1_init_31 rfl (lv_at hl 1 rfl) ?_
  refine x_get F X (v := .ref a_7) (C := RX1) (T := TX1) (N := 3) (ci := 1) in_X1 0 rfl rfl 0 (by decide) mw_4 rfl dX1_init_32 ?_
  refine lv_iload_n hx hb dX1_init_35 rfl (lv_at hl 0 rfl) ?_
  refine x_nu F X (C := RX6) (T := TX6) (N := 4) (ci := 6) (fs := [.null, .null, .null, .int 0]) in_X6 tyX6 tyX6_ok mw_3 mw_7 mw_8 rfl (fun j hj => match j, hj with | 0, _ => rfl | 1, _ => rfl | 2, _ => rfl | 3, _ => rfl | (k + 4), h => absurd h (by omega)) (Nat.le_of_ble_eq_true rfl) (Nat.le_of_ble_eq_true rfl) dX1_init_36 (fun o_36_1 H X => ?_)
  have X : xS D A9 s9 [[(h0, .inr (1, [.ref a_7, .int 0, .int 0]))], [(a_7, .inl (q 3, 6, .inr (.inr (.inr (.inr (va_up (fun _ => none) 0 (some (ta_40_0 0))))))))], tG q ta_40_0 x_T0, [(o_36_1, .inr (6, [.null, .null, .null, .int 0]))]] H locs := X
  refine lv_dup hx hb dX1_init_39 rfl ?_
  refine x_cI F X (gc := [[(o_36_1, .inr (6, [.null, .null, .null, .int 0]))]]) (gr := [[(h0, .inr (1, [.ref a_7, .int 0, .int 0]))], [(a_7, .inl (q 3, 6, .inr (.inr (.inr (.inr (va_up (fun _ => none) 0 (some (ta_40_0 0))))))))], tG q ta_40_0 x_T0]) (xp_idx (n := 4) [3, 0, 1, 2] (by decide +kernel) rfl rfl) (c_X6_init l D q o_36_1 ) (cwI 0 F.1.2.2.2.2 gX1_init_X6_init rfl rfl rfl (F.1.2.2.2.2 _ mw_8) (F.1.2.2.2.2 _ mw_9) (F.1.2.2.2.2 _ mw_10) rfl (by decide +kernel) ⟨Nat.le_of_ble_eq_true rfl, Nat.le_of_ble_eq_true rfl⟩) rfl rfl hl.1 ⟨Nat.le_of_ble_eq_true rfl, Nat.le_of_ble_eq_true rfl⟩ (Nat.le_of_ble_eq_true rfl) dX1_init_40 (fun g1 H locs hp X => ?_)
  obtain ⟨ta_40_1, rfl, hta_40_1⟩ := hp
  have X := X.perm (gs' := [[(h0, .inr (1, [.ref a_7, .int 0, .int 0]))], [(a_7, .inl (q 3, 6, .inr (.inr (.inr (.inr (va_up (fun _ => none) 0 (some (ta_40_0 0))))))))], tG q ta_40_0 x_T0, tG q ta_40_1 x_T0]) (xp_idx (n := 4) [1, 2, 3, 0] (by decide +kernel) rfl rfl)
  have Y_40_1 := X
  subst hta_40_1
  have X := Y_40_1
  refine x_aast F X (gs' := [[(h0, .inr (1, [.ref a_7, .int 0, .int 0]))], [(a_7, .inl (q 3, 6, .inr (.inr (.inr (.inr (va_up (va_up (fun _ => none) 0 (some (ta_40_0 0))) 1 (some (ta_40_1 0))))))))], tG q ta_40_0 x_T0, tG q ta_40_1 x_T0]) (k := 1) 1 14 rfl rfl (show vp_in (nI 1) _ from vp_in_nI (by omega) (by omega)) rfl dX1_init_43 rfl (fun H locs X => ?_)
  refine lv_iinc (v := 2) (lv' := [(1, .int 2), (0, .ref h0)]) hx hb dX1_init_44 hl (k := 0) rfl (nI_add 1 1) (by decide) rfl (fun ls hl => ?_)
  refine lv_goto (tgt := 25) hx hb dX1_init_47 (by decide) ?_
  refine lv_iload_n hx hb dX1_init_25 rfl (lv_at hl 0 rfl) ?_
  refine lv_bipush (v := 6) hx hb dX1_init_26 (by decide) ?_
  refine lv_icmp_ge (tgt := 50) hx hb dX1_init_28 (by decide) (fun h => absurd h (by decide)) (fun _ => ?_)
  refine lv_aload_n hx hb dX1_init_31 rfl (lv_at hl 1 rfl) ?_
  refine x_get F X (v := .ref a_7) (C := RX1) (T := TX1) (N := 3) (ci := 1) in_X1 0 rfl rfl 0 (by decide) mw_4 rfl dX1_init_32 ?_
  refine lv_iload_n hx hb dX1_init_35 rfl (lv_at hl 0 rfl) ?_
  refine x_nu F X (C := RX6) (T := TX6) (N := 4) (ci := 6) (fs := [.null, .null, .null, .int 0]) in_X6 tyX6 tyX6_ok mw_3 mw_7 mw_8 rfl (fun j hj => match j, hj with | 0, _ => rfl | 1, _ => rfl | 2, _ => rfl | 3, _ => rfl | (k + 4), h => absurd h (by omega)) (Nat.le_of_ble_eq_true rfl) (Nat.le_of_ble_eq_true rfl) dX1_init_36 (fun o_36_2 H X => ?_)
  have X : xS D A9 s9 [[(h0, .inr (1, [.ref a_7, .int 0, .int 0]))], [(a_7, .inl (q 3, 6, .inr (.inr (.inr (.inr (va_up (va_up (fun _ => none) 0 (some (ta_40_0 0))) 1 (some (ta_40_1 0))))))))], tG q ta_40_0 x_T0, tG q ta_40_1 x_T0, [(o_36_2, .inr (6, [.null, .null, .null, .int 0]))]] H locs := X
  refine lv_dup hx hb dX1_init_39 rfl ?_
  refine x_cI F X (gc := [[(o_36_2, .inr (6, [.null, .null, .null, .int 0]))]]) (gr := [[(h0, .inr (1, [.ref a_7, .int 0, .int 0]))], [(a_7, .inl (q 3, 6, .inr (.inr (.inr (.inr (va_up (va_up (fun _ => none) 0 (some (ta_40_0 0))) 1 (some (ta_40_1 0))))))))], tG q ta_40_0 x_T0, tG q ta_40_1 x_T0]) (xp_idx (n := 5) [4, 0, 1, 2, 3] (by decide +kernel) rfl rfl) (c_X6_init l D q o_36_2 ) (cwI 0 F.1.2.2.2.2 gX1_init_X6_init rfl rfl rfl (F.1.2.2.2.2 _ mw_8) (F.1.2.2.2.2 _ mw_9) (F.1.2.2.2.2 _ mw_10) rfl (by decide +kernel) ⟨Nat.le_of_ble_eq_true rfl, Nat.le_of_ble_eq_true rfl⟩) rfl rfl hl.1 ⟨Nat.le_of_ble_eq_true rfl, Nat.le_of_ble_eq_true rfl⟩ (Nat.le_of_ble_eq_true rfl) dX1_init_40 (fun g1 H locs hp X => ?_)
  obtain ⟨ta_40_2, rfl, hta_40_2⟩ := hp
  have X := X.perm (gs' := [[(h0, .inr (1, [.ref a_7, .int 0, .int 0]))], [(a_7, .inl (q 3, 6, .inr (.inr (.inr (.inr (va_up (va_up (fun _ => none) 0 (some (ta_40_0 0))) 1 (some (ta_40_1 0))))))))], tG q ta_40_0 x_T0, tG q ta_40_1 x_T0, tG q ta_40_2 x_T0]) (xp_idx (n := 5) [1, 2, 3, 4, 0] (by decide +kernel) rfl rfl)
  have Y_40_2 := X
  subst hta_40_2
  have X := Y_40_2
  refine x_aast F X (gs' := [[(h0, .inr (1, [.ref a_7, .int 0, .int 0]))], [(a_7, .inl (q 3, 6, .inr (.inr (.inr (.inr (va_up (va_up (va_up (fun _ => none) 0 (some (ta_40_0 0))) 1 (some (ta_40_1 0))) 2 (some (ta_40_2 0))))))))], tG q ta_40_0 x_T0, tG q ta_40_1 x_T0, tG q ta_40_2 x_T0]) (k := 2) 1 26 rfl rfl (show vp_in (nI 2) _ from vp_in_nI (by omega) (by omega)) rfl dX1_init_43 rfl (fun H locs X => ?_)
  refine lv_iinc (v := 3) (lv' := [(1, .int 3), (0, .ref h0)]) hx hb dX1_init_44 hl (k := 0) rfl (nI_add 2 1) (by decide) rfl (fun ls hl => ?_)
  refine lv_goto (tgt := 25) hx hb dX1_init_47 (by decide) ?_
  refine lv_iload_n hx hb dX1_init_25 rfl (lv_at hl 0 rfl) ?_
  refine lv_bipush (v := 6) hx hb dX1_init_26 (by decide) ?_
  refine lv_icmp_ge (tgt := 50) hx hb dX1_init_28 (by decide) (fun h => absurd h (by decide)) (fun _ => ?_)
  refine lv_aload_n hx hb dX1_init_31 rfl (lv_at hl 1 rfl) ?_
  refine x_get F X (v := .ref a_7) (C := RX1) (T := TX1) (N := 3) (ci := 1) in_X1 0 rfl rfl 0 (by decide) mw_4 rfl dX1_init_32 ?_
  refine lv_iload_n hx hb dX1_init_35 rfl (lv_at hl 0 rfl) ?_
  refine x_nu F X (C := RX6) (T := TX6) (N := 4) (ci := 6) (fs := [.null, .null, .null, .int 0]) in_X6 tyX6 tyX6_ok mw_3 mw_7 mw_8 rfl (fun j hj => match j, hj with | 0, _ => rfl | 1, _ => rfl | 2, _ => rfl | 3, _ => rfl | (k + 4), h => absurd h (by omega)) (Nat.le_of_ble_eq_true rfl) (Nat.le_of_ble_eq_true rfl) dX1_init_36 (fun o_36_3 H X => ?_)
  have X : xS D A9 s9 [[(h0, .inr (1, [.ref a_7, .int 0, .int 0]))], [(a_7, .inl (q 3, 6, .inr (.inr (.inr (.inr (va_up (va_up (va_up (fun _ => none) 0 (some (ta_40_0 0))) 1 (some (ta_40_1 0))) 2 (some (ta_40_2 0))))))))], tG q ta_40_0 x_T0, tG q ta_40_1 x_T0, tG q ta_40_2 x_T0, [(o_36_3, .inr (6, [.null, .null, .null, .int 0]))]] H locs := X
  refine lv_dup hx hb dX1_init_39 rfl ?_
  refine x_cI F X (gc := [[(o_36_3, .inr (6, [.null, .null, .null, .int 0]))]]) (gr := [[(h0, .inr (1, [.ref a_7, .int 0, .int 0]))], [(a_7, .inl (q 3, 6, .inr (.inr (.inr (.inr (va_up (va_up (va_up (fun _ => none) 0 (some (ta_40_0 0))) 1 (some (ta_40_1 0))) 2 (some (ta_40_2 0))))))))], tG q ta_40_0 x_T0, tG q ta_40_1 x_T0, tG q ta_40_2 x_T0]) (xp_idx (n := 6) [5, 0, 1, 2, 3, 4] (by decide +kernel) rfl rfl) (c_X6_init l D q o_36_3 ) (cwI 0 F.1.2.2.2.2 gX1_init_X6_init rfl rfl rfl (F.1.2.2.2.2 _ mw_8) (F.1.2.2.2.2 _ mw_9) (F.1.2.2.2.2 _ mw_10) rfl (by decide +kernel) ⟨Nat.le_of_ble_eq_true rfl, Nat.le_of_ble_eq_true rfl⟩) rfl rfl hl.1 ⟨Nat.le_of_ble_eq_true rfl, Nat.le_of_ble_eq_true rfl⟩ (Nat.le_of_ble_eq_true rfl) dX1_init_40 (fun g1 H locs hp X => ?_)
  obtain ⟨ta_40_3, rfl, hta_40_3⟩ := hp
  have X := X.perm (gs' := [[(h0, .inr (1, [.ref a_7, .int 0, .int 0]))], [(a_7, .inl (q 3, 6, .inr (.inr (.inr (.inr (va_up (va_up (va_up (fun _ => none) 0 (some (ta_40_0 0))) 1 (some (ta_40_1 0))) 2 (some (ta_40_2 0))))))))], tG q ta_40_0 x_T0, tG q ta_40_1 x_T0, tG q ta_40_2 x_T0, tG q ta_40_3 x_T0]) (xp_idx (n := 6) [1, 2, 3, 4, 5, 0] (by decide +kernel) rfl rfl)
  have Y_40_3 := X
  subst hta_40_3
  have X := Y_40_3
  refine x_aast F X (gs' := [[(h0, .inr (1, [.ref a_7, .int 0, .int 0]))], [(a_7, .inl (q 3, 6, .inr (.inr (.inr (.inr (va_up (va_up (va_up (va_up (fun _ => none) 0 (some (ta_40_0 0))) 1 (some (ta_40_1 0))) 2 (some (ta_40_2 0))) 3 (some (ta_40_3 0))))))))], tG q ta_40_0 x_T0, tG q ta_40_1 x_T0, tG q ta_40_2 x_T0, tG q ta_40_3 x_T0]) (k := 3) 1 38 rfl rfl (show vp_in (nI 3) _ from vp_in_nI (by omega) (by omega)) rfl dX1_init_43 rfl (fun H locs X => ?_)
  refine lv_iinc (v := 4) (lv' := [(1, .int 4), (0, .ref h0)]) hx hb dX1_init_44 hl (k := 0) rfl (nI_add 3 1) (by decide) rfl (fun ls hl => ?_)
  refine lv_goto (tgt := 25) hx hb dX1_init_47 (by decide) ?_
  refine lv_iload_n hx hb dX1_init_25 rfl (lv_at hl 0 rfl) ?_
  refine lv_bipush (v := 6) hx hb dX1_init_26 (by decide) ?_
  refine lv_icmp_ge (tgt := 50) hx hb dX1_init_28 (by decide) (fun h => absurd h (by decide)) (fun _ => ?_)
  refine lv_aload_n hx hb dX1_init_31 rfl (lv_at hl 1 rfl) ?_
  refine x_get F X (v := .ref a_7) (C := RX1) (T := TX1) (N := 3) (ci := 1) in_X1 0 rfl rfl 0 (by decide) mw_4 rfl dX1_init_32 ?_
  refine lv_iload_n hx hb dX1_init_35 rfl (lv_at hl 0 rfl) ?_
  refine x_nu F X (C := RX6) (T := TX6) (N := 4) (ci := 6) (fs := [.null, .null, .null, .int 0]) in_X6 tyX6 tyX6_ok mw_3 mw_7 mw_8 rfl (fun j hj => match j, hj with | 0, _ => rfl | 1, _ => rfl | 2, _ => rfl | 3, _ => rfl | (k + 4), h => absurd h (by omega)) (Nat.le_of_ble_eq_true rfl) (Nat.le_of_ble_eq_true rfl) dX1_init_36 (fun o_36_4 H X => ?_)
  have X : xS D A9 s9 [[(h0, .inr (1, [.ref a_7, .int 0, .int 0]))], [(a_7, .inl (q 3, 6, .inr (.inr (.inr (.inr (va_up (va_up (va_up (va_up (fun _ => none) 0 (some (ta_40_0 0))) 1 (some (ta_40_1 0))) 2 (some (ta_40_2 0))) 3 (some (ta_40_3 0))))))))], tG q ta_40_0 x_T0, tG q ta_40_1 x_T0, tG q ta_40_2 x_T0, tG q ta_40_3 x_T0, [(o_36_4, .inr (6, [.null, .null, .null, .int 0]))]] H locs := X
  refine lv_dup hx hb dX1_init_39 rfl ?_
  refine x_cI F X (gc := [[(o_36_4, .inr (6, [.null, .null, .null, .int 0]))]]) (gr := [[(h0, .inr (1, [.ref a_7, .int 0, .int 0]))], [(a_7, .inl (q 3, 6, .inr (.inr (.inr (.inr (va_up (va_up (va_up (va_up (fun _ => none) 0 (some (ta_40_0 0))) 1 (some (ta_40_1 0))) 2 (some (ta_40_2 0))) 3 (some (ta_40_3 0))))))))], tG q ta_40_0 x_T0, tG q ta_40_1 x_T0, tG q ta_40_2 x_T0, tG q ta_40_3 x_T0]) (xp_idx (n := 7) [6, 0, 1, 2, 3, 4, 5] (by decide +kernel) rfl rfl) (c_X6_init l D q o_36_4 ) (cwI 0 F.1.2.2.2.2 gX1_init_X6_init rfl rfl rfl (F.1.2.2.2.2 _ mw_8) (F.1.2.2.2.2 _ mw_9) (F.1.2.2.2.2 _ mw_10) rfl (by decide +kernel) ⟨Nat.le_of_ble_eq_true rfl, Nat.le_of_ble_eq_true rfl⟩) rfl rfl hl.1 ⟨Nat.le_of_ble_eq_true rfl, Nat.le_of_ble_eq_true rfl⟩ (Nat.le_of_ble_eq_true rfl) dX1_init_40 (fun g1 H locs hp X => ?_)
  obtain ⟨ta_40_4, rfl, hta_40_4⟩ := hp
  have X := X.perm (gs' := [[(h0, .inr (1, [.ref a_7, .int 0, .int 0]))], [(a_7, .inl (q 3, 6, .inr (.inr (.inr (.inr (va_up (va_up (va_up (va_up (fun _ => none) 0 (some (ta_40_0 0))) 1 (some (ta_40_1 0))) 2 (some (ta_40_2 0))) 3 (some (ta_40_3 0))))))))], tG q ta_40_0 x_T0, tG q ta_40_1 x_T0, tG q ta_40_2 x_T0, tG q ta_40_3 x_T0, tG q ta_40_4 x_T0]) (xp_idx (n := 7) [1, 2, 3, 4, 5, 6, 0] (by decide +kernel) rfl rfl)
  have Y_40_4 := X
  subst hta_40_4
  have X := Y_40_4
  refine x_aast F X (gs' := [[(h0, .inr (1, [.ref a_7, .int 0, .int 0]))], [(a_7, .inl (q 3, 6, .inr (.inr (.inr (.inr (va_up (va_up (va_up (va_up (va_up (fun _ => none) 0 (some (ta_40_0 0))) 1 (some (ta_40_1 0))) 2 (some (ta_40_2 0))) 3 (some (ta_40_3 0))) 4 (some (ta_40_4 0))))))))], tG q ta_40_0 x_T0, tG q ta_40_1 x_T0, tG q ta_40_2 x_T0, tG q ta_40_3 x_T0, tG q ta_40_4 x_T0]) (k := 4) 1 50 rfl rfl (show vp_in (nI 4) _ from vp_in_nI (by omega) (by omega)) rfl dX1_init_43 rfl (fun H locs X => ?_)
  refine lv_iinc (v := 5) (lv' := [(1, .int 5), (0, .ref h0)]) hx hb dX1_init_44 hl (k := 0) rfl (nI_add 4 1) (by decide) rfl (fun ls hl => ?_)
  refine lv_goto (tgt := 25) hx hb dX1_init_47 (by decide) ?_
  refine lv_iload_n hx hb dX1_init_25 rfl (lv_at hl 0 rfl) ?_
  refine lv_bipush (v := 6) hx hb dX1_init_26 (by decide) ?_
  refine lv_icmp_ge (tgt := 50) hx hb dX1_init_28 (by decide) (fun h => absurd h (by decide)) (fun _ => ?_)
  refine lv_aload_n hx hb dX1_init_31 rfl (lv_at hl 1 rfl) ?_
  refine x_get F X (v := .ref a_7) (C := RX1) (T := TX1) (N := 3) (ci := 1) in_X1 0 rfl rfl 0 (by decide) mw_4 rfl dX1_init_32 ?_
  refine lv_iload_n hx hb dX1_init_35 rfl (lv_at hl 0 rfl) ?_
  refine x_nu F X (C := RX6) (T := TX6) (N := 4) (ci := 6) (fs := [.null, .null, .null, .int 0]) in_X6 tyX6 tyX6_ok mw_3 mw_7 mw_8 rfl (fun j hj => match j, hj with | 0, _ => rfl | 1, _ => rfl | 2, _ => rfl | 3, _ => rfl | (k + 4), h => absurd h (by omega)) (Nat.le_of_ble_eq_true rfl) (Nat.le_of_ble_eq_true rfl) dX1_init_36 (fun o_36_5 H X => ?_)
  have X : xS D A9 s9 [[(h0, .inr (1, [.ref a_7, .int 0, .int 0]))], [(a_7, .inl (q 3, 6, .inr (.inr (.inr (.inr (va_up (va_up (va_up (va_up (va_up (fun _ => none) 0 (some (ta_40_0 0))) 1 (some (ta_40_1 0))) 2 (some (ta_40_2 0))) 3 (some (ta_40_3 0))) 4 (some (ta_40_4 0))))))))], tG q ta_40_0 x_T0, tG q ta_40_1 x_T0, tG q ta_40_2 x_T0, tG q ta_40_3 x_T0, tG q ta_40_4 x_T0, [(o_36_5, .inr (6, [.null, .null, .null, .int 0]))]] H locs := X
  refine lv_dup hx hb dX1_init_39 rfl ?_
  refine x_cI F X (gc := [[(o_36_5, .inr (6, [.null, .null, .null, .int 0]))]]) (gr := [[(h0, .inr (1, [.ref a_7, .int 0, .int 0]))], [(a_7, .inl (q 3, 6, .inr (.inr (.inr (.inr (va_up (va_up (va_up (va_up (va_up (fun _ => none) 0 (some (ta_40_0 0))) 1 (some (ta_40_1 0))) 2 (some (ta_40_2 0))) 3 (some (ta_40_3 0))) 4 (some (ta_40_4 0))))))))], tG q ta_40_0 x_T0, tG q ta_40_1 x_T0, tG q ta_40_2 x_T0, tG q ta_40_3 x_T0, tG q ta_40_4 x_T0]) (xp_idx (n := 8) [7, 0, 1, 2, 3, 4, 5, 6] (by decide +kernel) rfl rfl) (c_X6_init l D q o_36_5 ) (cwI 0 F.1.2.2.2.2 gX1_init_X6_init rfl rfl rfl (F.1.2.2.2.2 _ mw_8) (F.1.2.2.2.2 _ mw_9) (F.1.2.2.2.2 _ mw_10) rfl (by decide +kernel) ⟨Nat.le_of_ble_eq_true rfl, Nat.le_of_ble_eq_true rfl⟩) rfl rfl hl.1 ⟨Nat.le_of_ble_eq_true rfl, Nat.le_of_ble_eq_true rfl⟩ (Nat.le_of_ble_eq_true rfl) dX1_init_40 (fun g1 H locs hp X => ?_)
  obtain ⟨ta_40_5, rfl, hta_40_5⟩ := hp
  have X := X.perm (gs' := [[(h0, .inr (1, [.ref a_7, .int 0, .int 0]))], [(a_7, .inl (q 3, 6, .inr (.inr (.inr (.inr (va_up (va_up (va_up (va_up (va_up (fun _ => none) 0 (some (ta_40_0 0))) 1 (some (ta_40_1 0))) 2 (some (ta_40_2 0))) 3 (some (ta_40_3 0))) 4 (some (ta_40_4 0))))))))], tG q ta_40_0 x_T0, tG q ta_40_1 x_T0, tG q ta_40_2 x_T0, tG q ta_40_3 x_T0, tG q ta_40_4 x_T0, tG q ta_40_5 x_T0]) (xp_idx (n := 8) [1, 2, 3, 4, 5, 6, 7, 0] (by decide +kernel) rfl rfl)
  have Y_40_5 := X
  subst hta_40_5
  have X := Y_40_5
  refine x_aast F X (gs' := [[(h0, .inr (1, [.ref a_7, .int 0, .int 0]))], [(a_7, .inl (q 3, 6, .inr (.inr (.inr (.inr (va_up (va_up (va_up (va_up (va_up (va_up (fun _ => none) 0 (some (ta_40_0 0))) 1 (some (ta_40_1 0))) 2 (some (ta_40_2 0))) 3 (some (ta_40_3 0))) 4 (some (ta_40_4 0))) 5 (some (ta_40_5 0))))))))], tG q ta_40_0 x_T0, tG q ta_40_1 x_T0, tG q ta_40_2 x_T0, tG q ta_40_3 x_T0, tG q ta_40_4 x_T0, tG q ta_40_5 x_T0]) (k := 5) 1 62 rfl rfl (show vp_in (nI 5) _ from vp_in_nI (by omega) (by omega)) rfl dX1_init_43 rfl (fun H locs X => ?_)
  refine lv_iinc (v := 6) (lv' := [(1, .int 6), (0, .ref h0)]) hx hb dX1_init_44 hl (k := 0) rfl (nI_add 5 1) (by decide) rfl (fun ls hl => ?_)
  refine lv_goto (tgt := 25) hx hb dX1_init_47 (by decide) ?_
  refine lv_iload_n hx hb dX1_init_25 rfl (lv_at hl 0 rfl) ?_
  refine lv_bipush (v := 6) hx hb dX1_init_26 (by decide) ?_
  refine lv_icmp_ge (tgt := 50) hx hb dX1_init_28 (by decide) (fun _ => ?_) (fun h => absurd (by decide) h)
  have X := X.impl (gs' := [hiW q h0 a_7 (va_up (va_up (va_up (va_up (va_up (va_up (fun _ => none) 0 (some (ta_40_0 0))) 1 (some (ta_40_1 0))) 2 (some (ta_40_2 0))) 3 (some (ta_40_3 0))) 4 (some (ta_40_4 0))) 5 (some (ta_40_5 0))) 0 0, tG q ta_40_0 x_T0, tG q ta_40_1 x_T0, tG q ta_40_2 x_T0, tG q ta_40_3 x_T0, tG q ta_40_4 x_T0, tG q ta_40_5 x_T0]) (b := hiW q h0 a_7 (va_up (va_up (va_up (va_up (va_up (va_up (fun _ => none) 0 (some (ta_40_0 0))) 1 (some (ta_40_1 0))) 2 (some (ta_40_2 0))) 3 (some (ta_40_3 0))) 4 (some (ta_40_4 0))) 5 (some (ta_40_5 0))) 0 0) 0 2 rfl rfl rfl
  refine hret _ _ _ _ _ ?_ X dX1_init_50
  refine ⟨_, _, (fun i => match i with | 0 => ta_40_0 | 1 => ta_40_1 | 2 => ta_40_2 | 3 => ta_40_3 | 4 => ta_40_4 | _ => ta_40_5), rfl, fun i hi => ?_⟩
  rcases (show i = 0 ∨ i = 1 ∨ i = 2 ∨ i = 3 ∨ i = 4 ∨ i = 5 by omega) with rfl | rfl | rfl | rfl | rfl | rfl <;> rfl

set_option maxHeartbeats 1000000 in
set_option maxRecDepth 100000 in
theorem c_X8_init (l : Launch) (D : va_G) (q : xQ) (h0 : Nat) : xMv l yX8_init wsX8_init { frames := 1, cells := 8, slots := 1699, locals := 21 } D q [.ref h0] [[(h0, .inr (8, [.null, .null, .int 0, .null, .null, .null, .int 0, .null, .null, .int 0, .int 0, .int 0, .null, .int 0]))]] (fun gw => ∃ (b1 : Nat), ∃ (b2 : Nat), ∃ (b3 : Nat), ∃ (b4 : Nat), ∃ (b5 : Nat), ∃ (b6 : Nat), ∃ (b7 : Nat), ∃ (b8 : Nat), gw = [mW q h0 b1 b2 b3 b4 b5 b6 b7 b8 x_s0 (fun _ => 0) (fun _ => 0) (fun _ => 0) (fun _ => 0) (fun _ => 0) (fun _ => 0) (fun _ => 0) 0 0 0 0 0 0]) := by
  refine xMv_of (cc := cX8_init) (maxL := 1) (by decide) rfl (Nat.le_of_ble_eq_true rfl) ?_
  intro p9 e9 s9 m9 a9 below meth c9 A9 Z9 ls H locs F hini X hl hret
  have hx := F.1.1
  have hb := F.1.2.1
  have in_X8 : ∀ w ∈ wsX80, w ∈ wsX8_init := by decide +kernel
  have mw_0 : Cond.methodLink RX8 1 objectInit ∈ wsX8_init := by decide +kernel
  have mw_1 : Cond.instanceMethod objectInit ∈ wsX8_init := by decide +kernel
  have mw_2 : Cond.code objectInit ⟨#[0xb1]⟩ 1 none ∈ wsX8_init := by decide +kernel
  have mw_3 : Cond.arrayClass .int ∈ wsX8_init := by decide +kernel
  have mw_4 : Cond.fieldLink RX8 7 "HatWindsModel" "s" "[I" ∈ wsX8_init := by decide +kernel
  have mw_5 : Cond.fieldLink RX8 13 "HatWindsModel" "past" "[I" ∈ wsX8_init := by decide +kernel
  have mw_6 : Cond.fieldLink RX8 16 "HatWindsModel" "slots" "[I" ∈ wsX8_init := by decide +kernel
  have mw_7 : Cond.arrayClass .boolean ∈ wsX8_init := by decide +kernel
  have mw_8 : Cond.fieldLink RX8 19 "HatWindsModel" "isSaved" "[Z" ∈ wsX8_init := by decide +kernel
  have mw_9 : Cond.fieldLink RX8 23 "HatWindsModel" "pad" "[I" ∈ wsX8_init := by decide +kernel
  have mw_10 : Cond.fieldLink RX8 26 "HatWindsModel" "forces" "[I" ∈ wsX8_init := by decide +kernel
  have mw_11 : Cond.fieldLink RX8 29 "HatWindsModel" "told" "[I" ∈ wsX8_init := by decide +kernel
  have mw_12 : Cond.fieldLink RX8 32 "HatWindsModel" "out" "[I" ∈ wsX8_init := by decide +kernel
  have mw_13 : Cond.initialized RX8 ∈ wsX8_init := by decide +kernel
  have hl : lv_has ls 1 [(0, .ref h0)] := hl
  refine lv_aload_n hx hb dX8_init_0 rfl (lv_at hl 0 rfl) ?_
  refine x_oinit F hl.1 mw_0 mw_1 mw_2 (Nat.le_of_ble_eq_true rfl) (Nat.le_of_ble_eq_true rfl) dX8_init_1 ?_
  refine lv_aload_n hx hb dX8_init_4 rfl (lv_at hl 0 rfl) ?_
  refine lv_sipush (v := 133) hx hb dX8_init_5 (by decide) ?_
  refine x_newa F X (atype := .int) (ty := .int) rfl 0 rfl mw_3 (N' := 133) (133, .inl (fun _ => 0)) (fun _ => rfl) (by decide) rfl (by decide) (Nat.le_of_ble_eq_true rfl) (Nat.le_of_ble_eq_true rfl) dX8_init_8 (fun a_8 H X => ?_)
  have X : xS D A9 s9 [[(h0, .inr (8, [.null, .null, .int 0, .null, .null, .null, .int 0, .null, .null, .int 0, .int 0, .int 0, .null, .int 0]))], rW q a_8 133 (fun _ => 0)] H locs := X
  refine x_putF F X (gs' := [[(h0, .inr (8, [.ref a_8, .null, .int 0, .null, .null, .null, .int 0, .null, .null, .int 0, .int 0, .int 0, .null, .int 0]))], rW q a_8 133 (fun _ => 0)]) (v := .ref a_8) hini (C := RX8) (T := TX8) (N := 14) (ci := 8) in_X8 tyX8 tyX8_ok nmX8 0 rfl rfl 0 (by decide) mw_4 rfl rfl rfl rfl (Nat.le_of_ble_eq_true rfl) dX8_init_10 rfl (fun H locs X => ?_)
  refine lv_aload_n hx hb dX8_init_13 rfl (lv_at hl 0 rfl) ?_
  refine lv_sipush (v := 798) hx hb dX8_init_14 (by decide) ?_
  refine x_newa F X (atype := .int) (ty := .int) rfl 0 rfl mw_3 (N' := 798) (798, .inl (fun _ => 0)) (fun _ => rfl) (by decide) rfl (by decide) (Nat.le_of_ble_eq_true rfl) (Nat.le_of_ble_eq_true rfl) dX8_init_17 (fun a_17 H X => ?_)
  have X : xS D A9 s9 [[(h0, .inr (8, [.ref a_8, .null, .int 0, .null, .null, .null, .int 0, .null, .null, .int 0, .int 0, .int 0, .null, .int 0]))], rW q a_8 133 (fun _ => 0), rW q a_17 798 (fun _ => 0)] H locs := X
  refine x_putF F X (gs' := [[(h0, .inr (8, [.ref a_8, .ref a_17, .int 0, .null, .null, .null, .int 0, .null, .null, .int 0, .int 0, .int 0, .null, .int 0]))], rW q a_8 133 (fun _ => 0), rW q a_17 798 (fun _ => 0)]) (v := .ref a_17) hini (C := RX8) (T := TX8) (N := 14) (ci := 8) in_X8 tyX8 tyX8_ok nmX8 0 rfl rfl 1 (by decide) mw_5 rfl rfl rfl rfl (Nat.le_of_ble_eq_true rfl) dX8_init_19 rfl (fun H locs X => ?_)
  refine lv_aload_n hx hb dX8_init_22 rfl (lv_at hl 0 rfl) ?_
  refine lv_sipush (v := 266) hx hb dX8_init_23 (by decide) ?_
  refine x_newa F X (atype := .int) (ty := .int) rfl 0 rfl mw_3 (N' := 266) (266, .inl (fun _ => 0)) (fun _ => rfl) (by decide) rfl (by decide) (Nat.le_of_ble_eq_true rfl) (Nat.le_of_ble_eq_true rfl) dX8_init_26 (fun a_26 H X => ?_)
  have X : xS D A9 s9 [[(h0, .inr (8, [.ref a_8, .ref a_17, .int 0, .null, .null, .null, .int 0, .null, .null, .int 0, .int 0, .int 0, .null, .int 0]))], rW q a_8 133 (fun _ => 0), rW q a_17 798 (fun _ => 0), rW q a_26 266 (fun _ => 0)] H locs := X
  refine x_putF F X (gs' := [[(h0, .inr (8, [.ref a_8, .ref a_17, .int 0, .ref a_26, .null, .null, .int 0, .null, .null, .int 0, .int 0, .int 0, .null, .int 0]))], rW q a_8 133 (fun _ => 0), rW q a_17 798 (fun _ => 0), rW q a_26 266 (fun _ => 0)]) (v := .ref a_26) hini (C := RX8) (T := TX8) (N := 14) (ci := 8) in_X8 tyX8 tyX8_ok nmX8 0 rfl rfl 3 (by decide) mw_6 rfl rfl rfl rfl (Nat.le_of_ble_eq_true rfl) dX8_init_28 rfl (fun H locs X => ?_)
  refine lv_aload_n hx hb dX8_init_31 rfl (lv_at hl 0 rfl) ?_
  refine lv_iconst (v := 2) hx hb dX8_init_32 (by decide) ?_
  refine x_newa F X (atype := .boolean) (ty := .boolean) rfl 2 rfl mw_7 (N' := 2) (2, .inl (fun _ => 0)) (fun _ => rfl) (by decide) rfl (by decide) (Nat.le_of_ble_eq_true rfl) (Nat.le_of_ble_eq_true rfl) dX8_init_33 (fun a_33 H X => ?_)
  have X : xS D A9 s9 [[(h0, .inr (8, [.ref a_8, .ref a_17, .int 0, .ref a_26, .null, .null, .int 0, .null, .null, .int 0, .int 0, .int 0, .null, .int 0]))], rW q a_8 133 (fun _ => 0), rW q a_17 798 (fun _ => 0), rW q a_26 266 (fun _ => 0), [(a_33, .inl (q 2, 2, .inl (fun _ => 0)))]] H locs := X
  refine x_putF F X (gs' := [[(h0, .inr (8, [.ref a_8, .ref a_17, .int 0, .ref a_26, .ref a_33, .null, .int 0, .null, .null, .int 0, .int 0, .int 0, .null, .int 0]))], rW q a_8 133 (fun _ => 0), rW q a_17 798 (fun _ => 0), rW q a_26 266 (fun _ => 0), [(a_33, .inl (q 2, 2, .inl (fun _ => 0)))]]) (v := .ref a_33) hini (C := RX8) (T := TX8) (N := 14) (ci := 8) in_X8 tyX8 tyX8_ok nmX8 0 rfl rfl 4 (by decide) mw_8 rfl rfl rfl rfl (Nat.le_of_ble_eq_true rfl) dX8_init_35 rfl (fun H locs X => ?_)
  refine lv_aload_n hx hb dX8_init_38 rfl (lv_at hl 0 rfl) ?_
  refine lv_bipush (v := 80) hx hb dX8_init_39 (by decide) ?_
  refine x_newa F X (atype := .int) (ty := .int) rfl 0 rfl mw_3 (N' := 80) (80, .inl (fun _ => 0)) (fun _ => rfl) (by decide) rfl (by decide) (Nat.le_of_ble_eq_true rfl) (Nat.le_of_ble_eq_true rfl) dX8_init_41 (fun a_41 H X => ?_)
  have X : xS D A9 s9 [[(h0, .inr (8, [.ref a_8, .ref a_17, .int 0, .ref a_26, .ref a_33, .null, .int 0, .null, .null, .int 0, .int 0, .int 0, .null, .int 0]))], rW q a_8 133 (fun _ => 0), rW q a_17 798 (fun _ => 0), rW q a_26 266 (fun _ => 0), [(a_33, .inl (q 2, 2, .inl (fun _ => 0)))], rW q a_41 80 (fun _ => 0)] H locs := X
  refine x_putF F X (gs' := [[(h0, .inr (8, [.ref a_8, .ref a_17, .int 0, .ref a_26, .ref a_33, .ref a_41, .int 0, .null, .null, .int 0, .int 0, .int 0, .null, .int 0]))], rW q a_8 133 (fun _ => 0), rW q a_17 798 (fun _ => 0), rW q a_26 266 (fun _ => 0), [(a_33, .inl (q 2, 2, .inl (fun _ => 0)))], rW q a_41 80 (fun _ => 0)]) (v := .ref a_41) hini (C := RX8) (T := TX8) (N := 14) (ci := 8) in_X8 tyX8 tyX8_ok nmX8 0 rfl rfl 5 (by decide) mw_9 rfl rfl rfl rfl (Nat.le_of_ble_eq_true rfl) dX8_init_43 rfl (fun H locs X => ?_)
  refine lv_aload_n hx hb dX8_init_46 rfl (lv_at hl 0 rfl) ?_
  refine lv_bipush (v := 20) hx hb dX8_init_47 (by decide) ?_
  refine x_newa F X (atype := .int) (ty := .int) rfl 0 rfl mw_3 (N' := 20) (20, .inl (fun _ => 0)) (fun _ => rfl) (by decide) rfl (by decide) (Nat.le_of_ble_eq_true rfl) (Nat.le_of_ble_eq_true rfl) dX8_init_49 (fun a_49 H X => ?_)
  have X : xS D A9 s9 [[(h0, .inr (8, [.ref a_8, .ref a_17, .int 0, .ref a_26, .ref a_33, .ref a_41, .int 0, .null, .null, .int 0, .int 0, .int 0, .null, .int 0]))], rW q a_8 133 (fun _ => 0), rW q a_17 798 (fun _ => 0), rW q a_26 266 (fun _ => 0), [(a_33, .inl (q 2, 2, .inl (fun _ => 0)))], rW q a_41 80 (fun _ => 0), rW q a_49 20 (fun _ => 0)] H locs := X
  refine x_putF F X (gs' := [[(h0, .inr (8, [.ref a_8, .ref a_17, .int 0, .ref a_26, .ref a_33, .ref a_41, .int 0, .ref a_49, .null, .int 0, .int 0, .int 0, .null, .int 0]))], rW q a_8 133 (fun _ => 0), rW q a_17 798 (fun _ => 0), rW q a_26 266 (fun _ => 0), [(a_33, .inl (q 2, 2, .inl (fun _ => 0)))], rW q a_41 80 (fun _ => 0), rW q a_49 20 (fun _ => 0)]) (v := .ref a_49) hini (C := RX8) (T := TX8) (N := 14) (ci := 8) in_X8 tyX8 tyX8_ok nmX8 0 rfl rfl 7 (by decide) mw_10 rfl rfl rfl rfl (Nat.le_of_ble_eq_true rfl) dX8_init_51 rfl (fun H locs X => ?_)
  refine lv_aload_n hx hb dX8_init_54 rfl (lv_at hl 0 rfl) ?_
  refine lv_bipush (v := 100) hx hb dX8_init_55 (by decide) ?_
  refine x_newa F X (atype := .int) (ty := .int) rfl 0 rfl mw_3 (N' := 100) (100, .inl (fun _ => 0)) (fun _ => rfl) (by decide) rfl (by decide) (Nat.le_of_ble_eq_true rfl) (Nat.le_of_ble_eq_true rfl) dX8_init_57 (fun a_57 H X => ?_)
  have X : xS D A9 s9 [[(h0, .inr (8, [.ref a_8, .ref a_17, .int 0, .ref a_26, .ref a_33, .ref a_41, .int 0, .ref a_49, .null, .int 0, .int 0, .int 0, .null, .int 0]))], rW q a_8 133 (fun _ => 0), rW q a_17 798 (fun _ => 0), rW q a_26 266 (fun _ => 0), [(a_33, .inl (q 2, 2, .inl (fun _ => 0)))], rW q a_41 80 (fun _ => 0), rW q a_49 20 (fun _ => 0), rW q a_57 100 (fun _ => 0)] H locs := X
  refine x_putF F X (gs' := [[(h0, .inr (8, [.ref a_8, .ref a_17, .int 0, .ref a_26, .ref a_33, .ref a_41, .int 0, .ref a_49, .ref a_57, .int 0, .int 0, .int 0, .null, .int 0]))], rW q a_8 133 (fun _ => 0), rW q a_17 798 (fun _ => 0), rW q a_26 266 (fun _ => 0), [(a_33, .inl (q 2, 2, .inl (fun _ => 0)))], rW q a_41 80 (fun _ => 0), rW q a_49 20 (fun _ => 0), rW q a_57 100 (fun _ => 0)]) (v := .ref a_57) hini (C := RX8) (T := TX8) (N := 14) (ci := 8) in_X8 tyX8 tyX8_ok nmX8 0 rfl rfl 8 (by decide) mw_11 rfl rfl rfl rfl (Nat.le_of_ble_eq_true rfl) dX8_init_59 rfl (fun H locs X => ?_)
  refine lv_aload_n hx hb dX8_init_62 rfl (lv_at hl 0 rfl) ?_
  refine lv_sipush (v := 300) hx hb dX8_init_63 (by decide) ?_
  refine x_newa F X (atype := .int) (ty := .int) rfl 0 rfl mw_3 (N' := 300) (300, .inl (fun _ => 0)) (fun _ => rfl) (by decide) rfl (by decide) (Nat.le_of_ble_eq_true rfl) (Nat.le_of_ble_eq_true rfl) dX8_init_66 (fun a_66 H X => ?_)
  have X : xS D A9 s9 [[(h0, .inr (8, [.ref a_8, .ref a_17, .int 0, .ref a_26, .ref a_33, .ref a_41, .int 0, .ref a_49, .ref a_57, .int 0, .int 0, .int 0, .null, .int 0]))], rW q a_8 133 (fun _ => 0), rW q a_17 798 (fun _ => 0), rW q a_26 266 (fun _ => 0), [(a_33, .inl (q 2, 2, .inl (fun _ => 0)))], rW q a_41 80 (fun _ => 0), rW q a_49 20 (fun _ => 0), rW q a_57 100 (fun _ => 0), rW q a_66 300 (fun _ => 0)] H locs := X
  refine x_putF F X (gs' := [[(h0, .inr (8, [.ref a_8, .ref a_17, .int 0, .ref a_26, .ref a_33, .ref a_41, .int 0, .ref a_49, .ref a_57, .int 0, .int 0, .int 0, .ref a_66, .int 0]))], rW q a_8 133 (fun _ => 0), rW q a_17 798 (fun _ => 0), rW q a_26 266 (fun _ => 0), [(a_33, .inl (q 2, 2, .inl (fun _ => 0)))], rW q a_41 80 (fun _ => 0), rW q a_49 20 (fun _ => 0), rW q a_57 100 (fun _ => 0), rW q a_66 300 (fun _ => 0)]) (v := .ref a_66) hini (C := RX8) (T := TX8) (N := 14) (ci := 8) in_X8 tyX8 tyX8_ok nmX8 0 rfl rfl 12 (by decide) mw_12 rfl rfl rfl rfl (Nat.le_of_ble_eq_true rfl) dX8_init_68 rfl (fun H locs X => ?_)
  refine lv_aload_n hx hb dX8_init_71 rfl (lv_at hl 0 rfl) ?_
  refine x_get F X (v := .ref a_8) (C := RX8) (T := TX8) (N := 14) (ci := 8) in_X8 0 rfl rfl 0 (by decide) mw_4 rfl dX8_init_72 ?_
  refine lv_iconst (v := 0) hx hb dX8_init_75 (by decide) ?_
  refine lv_bipush (v := 8) hx hb dX8_init_76 (by decide) ?_
  refine x_iast F X (gs' := [[(h0, .inr (8, [.ref a_8, .ref a_17, .int 0, .ref a_26, .ref a_33, .ref a_41, .int 0, .ref a_49, .ref a_57, .int 0, .int 0, .int 0, .ref a_66, .int 0]))], rW q a_8 133 (upd (fun _ => 0) 0 8), rW q a_17 798 (fun _ => 0), rW q a_26 266 (fun _ => 0), [(a_33, .inl (q 2, 2, .inl (fun _ => 0)))], rW q a_41 80 (fun _ => 0), rW q a_49 20 (fun _ => 0), rW q a_57 100 (fun _ => 0), rW q a_66 300 (fun _ => 0)]) (n := 133) (f := (fun _ => 0)) (k := 0) 1 rfl (show vp_in (nI 0) _ from vp_in_nI (by omega) (by omega)) rfl dX8_init_78 rfl (fun H locs X => ?_)
  refine lv_aload_n hx hb dX8_init_79 rfl (lv_at hl 0 rfl) ?_
  refine x_get F X (v := .ref a_8) (C := RX8) (T := TX8) (N := 14) (ci := 8) in_X8 0 rfl rfl 0 (by decide) mw_4 rfl dX8_init_80 ?_
  refine lv_iconst (v := 1) hx hb dX8_init_83 (by decide) ?_
  refine lv_bipush (v := 20) hx hb dX8_init_84 (by decide) ?_
  refine x_iast F X (gs' := [[(h0, .inr (8, [.ref a_8, .ref a_17, .int 0, .ref a_26, .ref a_33, .ref a_41, .int 0, .ref a_49, .ref a_57, .int 0, .int 0, .int 0, .ref a_66, .int 0]))], rW q a_8 133 (upd (upd (fun _ => 0) 0 8) 1 20), rW q a_17 798 (fun _ => 0), rW q a_26 266 (fun _ => 0), [(a_33, .inl (q 2, 2, .inl (fun _ => 0)))], rW q a_41 80 (fun _ => 0), rW q a_49 20 (fun _ => 0), rW q a_57 100 (fun _ => 0), rW q a_66 300 (fun _ => 0)]) (n := 133) (f := (upd (fun _ => 0) 0 8)) (k := 1) 1 rfl (show vp_in (nI 1) _ from vp_in_nI (by omega) (by omega)) rfl dX8_init_86 rfl (fun H locs X => ?_)
  refine lv_aload_n hx hb dX8_init_87 rfl (lv_at hl 0 rfl) ?_
  refine x_get F X (v := .ref a_8) (C := RX8) (T := TX8) (N := 14) (ci := 8) in_X8 0 rfl rfl 0 (by decide) mw_4 rfl dX8_init_88 ?_
  refine lv_iconst (v := 2) hx hb dX8_init_91 (by decide) ?_
  refine lv_bipush (v := 30) hx hb dX8_init_92 (by decide) ?_
  refine x_iast F X (gs' := [[(h0, .inr (8, [.ref a_8, .ref a_17, .int 0, .ref a_26, .ref a_33, .ref a_41, .int 0, .ref a_49, .ref a_57, .int 0, .int 0, .int 0, .ref a_66, .int 0]))], rW q a_8 133 (upd (upd (upd (fun _ => 0) 0 8) 1 20) 2 30), rW q a_17 798 (fun _ => 0), rW q a_26 266 (fun _ => 0), [(a_33, .inl (q 2, 2, .inl (fun _ => 0)))], rW q a_41 80 (fun _ => 0), rW q a_49 20 (fun _ => 0), rW q a_57 100 (fun _ => 0), rW q a_66 300 (fun _ => 0)]) (n := 133) (f := (upd (upd (fun _ => 0) 0 8) 1 20)) (k := 2) 1 rfl (show vp_in (nI 2) _ from vp_in_nI (by omega) (by omega)) rfl dX8_init_94 rfl (fun H locs X => ?_)
  refine lv_aload_n hx hb dX8_init_95 rfl (lv_at hl 0 rfl) ?_
  refine x_get F X (v := .ref a_8) (C := RX8) (T := TX8) (N := 14) (ci := 8) in_X8 0 rfl rfl 0 (by decide) mw_4 rfl dX8_init_96 ?_
  refine lv_iconst (v := 3) hx hb dX8_init_99 (by decide) ?_
  refine lv_bipush (v := 12) hx hb dX8_init_100 (by decide) ?_
  refine x_iast F X (gs' := [[(h0, .inr (8, [.ref a_8, .ref a_17, .int 0, .ref a_26, .ref a_33, .ref a_41, .int 0, .ref a_49, .ref a_57, .int 0, .int 0, .int 0, .ref a_66, .int 0]))], rW q a_8 133 (upd (upd (upd (upd (fun _ => 0) 0 8) 1 20) 2 30) 3 12), rW q a_17 798 (fun _ => 0), rW q a_26 266 (fun _ => 0), [(a_33, .inl (q 2, 2, .inl (fun _ => 0)))], rW q a_41 80 (fun _ => 0), rW q a_49 20 (fun _ => 0), rW q a_57 100 (fun _ => 0), rW q a_66 300 (fun _ => 0)]) (n := 133) (f := (upd (upd (upd (fun _ => 0) 0 8) 1 20) 2 30)) (k := 3) 1 rfl (show vp_in (nI 3) _ from vp_in_nI (by omega) (by omega)) rfl dX8_init_102 rfl (fun H locs X => ?_)
  refine lv_aload_n hx hb dX8_init_103 rfl (lv_at hl 0 rfl) ?_
  refine x_get F X (v := .ref a_8) (C := RX8) (T := TX8) (N := 14) (ci := 8) in_X8 0 rfl rfl 0 (by decide) mw_4 rfl dX8_init_104 ?_
  refine lv_iconst (v := 5) hx hb dX8_init_107 (by decide) ?_
  refine lv_iconst (v := 1) hx hb dX8_init_108 (by decide) ?_
  refine x_iast F X (gs' := [[(h0, .inr (8, [.ref a_8, .ref a_17, .int 0, .ref a_26, .ref a_33, .ref a_41, .int 0, .ref a_49, .ref a_57, .int 0, .int 0, .int 0, .ref a_66, .int 0]))], rW q a_8 133 (upd (upd (upd (upd (upd (fun _ => 0) 0 8) 1 20) 2 30) 3 12) 5 1), rW q a_17 798 (fun _ => 0), rW q a_26 266 (fun _ => 0), [(a_33, .inl (q 2, 2, .inl (fun _ => 0)))], rW q a_41 80 (fun _ => 0), rW q a_49 20 (fun _ => 0), rW q a_57 100 (fun _ => 0), rW q a_66 300 (fun _ => 0)]) (n := 133) (f := (upd (upd (upd (upd (fun _ => 0) 0 8) 1 20) 2 30) 3 12)) (k := 5) 1 rfl (show vp_in (nI 5) _ from vp_in_nI (by omega) (by omega)) rfl dX8_init_109 rfl (fun H locs X => ?_)
  refine lv_aload_n hx hb dX8_init_110 rfl (lv_at hl 0 rfl) ?_
  refine x_get F X (v := .ref a_8) (C := RX8) (T := TX8) (N := 14) (ci := 8) in_X8 0 rfl rfl 0 (by decide) mw_4 rfl dX8_init_111 ?_
  refine lv_iconst (v := 0) hx hb dX8_init_114 (by decide) ?_
  refine lv_iconst (v := 0) hx hb dX8_init_115 (by decide) ?_
  refine x_cSi F X (gc := []) (gr := [[(h0, .inr (8, [.ref a_8, .ref a_17, .int 0, .ref a_26, .ref a_33, .ref a_41, .int 0, .ref a_49, .ref a_57, .int 0, .int 0, .int 0, .ref a_66, .int 0]))], rW q a_8 133 (upd (upd (upd (upd (upd (fun _ => 0) 0 8) 1 20) 2 30) 3 12) 5 1), rW q a_17 798 (fun _ => 0), rW q a_26 266 (fun _ => 0), [(a_33, .inl (q 2, 2, .inl (fun _ => 0)))], rW q a_41 80 (fun _ => 0), rW q a_49 20 (fun _ => 0), rW q a_57 100 (fun _ => 0), rW q a_66 300 (fun _ => 0)]) (xp_idx (n := 9) [0, 1, 2, 3, 4, 5, 6, 7, 8] (by decide +kernel) rfl rfl) (c_X8_at l D q 0 0 (by first | assumption | omega) (by first | assumption | omega)) (va_cwS 2 F.1.2.2.2.2 gX8_init_X8_at rfl rfl rfl (by decide +kernel) ⟨Nat.le_of_ble_eq_true rfl, Nat.le_of_ble_eq_true rfl⟩) rfl rfl hl.1 ⟨Nat.le_of_ble_eq_true rfl, Nat.le_of_ble_eq_true rfl⟩ (Nat.le_of_ble_eq_true rfl) dX8_init_116 (fun r_116 g1 H locs hp X => ?_)
  obtain ⟨rfl, rfl⟩ := hp
  have X : xS D A9 s9 [[(h0, .inr (8, [.ref a_8, .ref a_17, .int 0, .ref a_26, .ref a_33, .ref a_41, .int 0, .ref a_49, .ref a_57, .int 0, .int 0, .int 0, .ref a_66, .int 0]))], rW q a_8 133 (upd (upd (upd (upd (upd (fun _ => 0) 0 8) 1 20) 2 30) 3 12) 5 1), rW q a_17 798 (fun _ => 0), rW q a_26 266 (fun _ => 0), [(a_33, .inl (q 2, 2, .inl (fun _ => 0)))], rW q a_41 80 (fun _ => 0), rW q a_49 20 (fun _ => 0), rW q a_57 100 (fun _ => 0), rW q a_66 300 (fun _ => 0)] H locs := X
  refine lv_iconst (v := (-1)) hx hb dX8_init_119 (by decide) ?_
  refine x_iast F X (gs' := [[(h0, .inr (8, [.ref a_8, .ref a_17, .int 0, .ref a_26, .ref a_33, .ref a_41, .int 0, .ref a_49, .ref a_57, .int 0, .int 0, .int 0, .ref a_66, .int 0]))], rW q a_8 133 (upd (upd (upd (upd (upd (upd (fun _ => 0) 0 8) 1 20) 2 30) 3 12) 5 1) (33 + 5 * 0 + 0) (-1)), rW q a_17 798 (fun _ => 0), rW q a_26 266 (fun _ => 0), [(a_33, .inl (q 2, 2, .inl (fun _ => 0)))], rW q a_41 80 (fun _ => 0), rW q a_49 20 (fun _ => 0), rW q a_57 100 (fun _ => 0), rW q a_66 300 (fun _ => 0)]) (n := 133) (f := (upd (upd (upd (upd (upd (fun _ => 0) 0 8) 1 20) 2 30) 3 12) 5 1)) (k := (33 + 5 * 0 + 0)) 1 rfl (vp_in_nI (by omega) (by omega)) (nI_clamp (by omega)) dX8_init_120 rfl (fun H locs X => ?_)
  refine lv_aload_n hx hb dX8_init_121 rfl (lv_at hl 0 rfl) ?_
  refine x_get F X (v := .ref a_8) (C := RX8) (T := TX8) (N := 14) (ci := 8) in_X8 0 rfl rfl 0 (by decide) mw_4 rfl dX8_init_122 ?_
  refine lv_iconst (v := 0) hx hb dX8_init_125 (by decide) ?_
  refine lv_iconst (v := 1) hx hb dX8_init_126 (by decide) ?_
  refine x_cSi F X (gc := []) (gr := [[(h0, .inr (8, [.ref a_8, .ref a_17, .int 0, .ref a_26, .ref a_33, .ref a_41, .int 0, .ref a_49, .ref a_57, .int 0, .int 0, .int 0, .ref a_66, .int 0]))], rW q a_8 133 (upd (upd (upd (upd (upd (upd (fun _ => 0) 0 8) 1 20) 2 30) 3 12) 5 1) (33 + 5 * 0 + 0) (-1)), rW q a_17 798 (fun _ => 0), rW q a_26 266 (fun _ => 0), [(a_33, .inl (q 2, 2, .inl (fun _ => 0)))], rW q a_41 80 (fun _ => 0), rW q a_49 20 (fun _ => 0), rW q a_57 100 (fun _ => 0), rW q a_66 300 (fun _ => 0)]) (xp_idx (n := 9) [0, 1, 2, 3, 4, 5, 6, 7, 8] (by decide +kernel) rfl rfl) (c_X8_at l D q 0 1 (by first | assumption | omega) (by first | assumption | omega)) (va_cwS 2 F.1.2.2.2.2 gX8_init_X8_at rfl rfl rfl (by decide +kernel) ⟨Nat.le_of_ble_eq_true rfl, Nat.le_of_ble_eq_true rfl⟩) rfl rfl hl.1 ⟨Nat.le_of_ble_eq_true rfl, Nat.le_of_ble_eq_true rfl⟩ (Nat.le_of_ble_eq_true rfl) dX8_init_127 (fun r_127 g1 H locs hp X => ?_)
  obtain ⟨rfl, rfl⟩ := hp
  have X : xS D A9 s9 [[(h0, .inr (8, [.ref a_8, .ref a_17, .int 0, .ref a_26, .ref a_33, .ref a_41, .int 0, .ref a_49, .ref a_57, .int 0, .int 0, .int 0, .ref a_66, .int 0]))], rW q a_8 133 (upd (upd (upd (upd (upd (upd (fun _ => 0) 0 8) 1 20) 2 30) 3 12) 5 1) (33 + 5 * 0 + 0) (-1)), rW q a_17 798 (fun _ => 0), rW q a_26 266 (fun _ => 0), [(a_33, .inl (q 2, 2, .inl (fun _ => 0)))], rW q a_41 80 (fun _ => 0), rW q a_49 20 (fun _ => 0), rW q a_57 100 (fun _ => 0), rW q a_66 300 (fun _ => 0)] H locs := X
  refine lv_iconst (v := 1) hx hb dX8_init_130 (by decide) ?_
  refine x_iast F X (gs' := [[(h0, .inr (8, [.ref a_8, .ref a_17, .int 0, .ref a_26, .ref a_33, .ref a_41, .int 0, .ref a_49, .ref a_57, .int 0, .int 0, .int 0, .ref a_66, .int 0]))], rW q a_8 133 (upd (upd (upd (upd (upd (upd (upd (fun _ => 0) 0 8) 1 20) 2 30) 3 12) 5 1) (33 + 5 * 0 + 0) (-1)) (33 + 5 * 0 + 1) 1), rW q a_17 798 (fun _ => 0), rW q a_26 266 (fun _ => 0), [(a_33, .inl (q 2, 2, .inl (fun _ => 0)))], rW q a_41 80 (fun _ => 0), rW q a_49 20 (fun _ => 0), rW q a_57 100 (fun _ => 0), rW q a_66 300 (fun _ => 0)]) (n := 133) (f := (upd (upd (upd (upd (upd (upd (fun _ => 0) 0 8) 1 20) 2 30) 3 12) 5 1) (33 + 5 * 0 + 0) (-1))) (k := (33 + 5 * 0 + 1)) 1 rfl (vp_in_nI (by omega) (by omega)) (nI_clamp (by omega)) dX8_init_131 rfl (fun H locs X => ?_)
  have X := X.impl (gs' := [mW q h0 a_8 a_17 a_26 a_33 a_41 a_49 a_57 a_66 (upd (upd (upd (upd (upd (upd (upd (fun _ => 0) 0 8) 1 20) 2 30) 3 12) 5 1) (33 + 5 * 0 + 0) (-1)) (33 + 5 * 0 + 1) 1) (fun _ => 0) (fun _ => 0) (fun _ => 0) (fun _ => 0) (fun _ => 0) (fun _ => 0) (fun _ => 0) 0 0 0 0 0 0]) (b := mW q h0 a_8 a_17 a_26 a_33 a_41 a_49 a_57 a_66 (upd (upd (upd (upd (upd (upd (upd (fun _ => 0) 0 8) 1 20) 2 30) 3 12) 5 1) (33 + 5 * 0 + 0) (-1)) (33 + 5 * 0 + 1) 1) (fun _ => 0) (fun _ => 0) (fun _ => 0) (fun _ => 0) (fun _ => 0) (fun _ => 0) (fun _ => 0) 0 0 0 0 0 0) 0 9 rfl rfl rfl
  exact hret _ _ _ _ _ (by exact ⟨_, _, _, _, _, _, _, _, rfl⟩) X dX8_init_132

