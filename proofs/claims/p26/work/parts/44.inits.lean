set_option maxHeartbeats 1000000 in
set_option maxRecDepth 100000 in
theorem c_X5_init (l : Launch) (D : va_G) (q : xQ) (h0 : Nat) : xMv l yX5_init wsX5_init { frames := 1, cells := 5, slots := 100, locals := 20 } D q [.ref h0] [[(h0, .inr (5, [.null, .null, .null, .null, .null, .int 0]))]] (fun gw => ∃ (s1 : Nat), ∃ (s2 : Nat), ∃ (s3 : Nat), ∃ (s4 : Nat), ∃ (s5 : Nat), gw = [sW q h0 s1 s2 s3 s4 s5 (fun _ => 0) (fun _ => 0) (fun _ => 0) (fun _ => 0) (fun _ => 0) 0]) := by
  refine xMv_of (cc := cX5_init) (maxL := 1) (by decide) rfl (Nat.le_of_ble_eq_true rfl) ?_
  intro p9 e9 s9 m9 a9 below meth c9 A9 Z9 ls H locs F hini X hl hret
  have hx := F.1.1
  have hb := F.1.2.1
  have in_X5 : ∀ w ∈ wsX50, w ∈ wsX5_init := by decide +kernel
  have mw_0 : Cond.methodLink RX5 3 objectInit ∈ wsX5_init := by decide +kernel
  have mw_1 : Cond.instanceMethod objectInit ∈ wsX5_init := by decide +kernel
  have mw_2 : Cond.code objectInit ⟨#[0xb1]⟩ 1 none ∈ wsX5_init := by decide +kernel
  have mw_3 : Cond.arrayClass .int ∈ wsX5_init := by decide +kernel
  have mw_4 : Cond.fieldLink RX5 9 "HatWinds$Streets" "from" "[I" ∈ wsX5_init := by decide +kernel
  have mw_5 : Cond.fieldLink RX5 15 "HatWinds$Streets" "width" "[I" ∈ wsX5_init := by decide +kernel
  have mw_6 : Cond.fieldLink RX5 18 "HatWinds$Streets" "cloth" "[I" ∈ wsX5_init := by decide +kernel
  have mw_7 : Cond.fieldLink RX5 21 "HatWinds$Streets" "smoke" "[I" ∈ wsX5_init := by decide +kernel
  have mw_8 : Cond.fieldLink RX5 24 "HatWinds$Streets" "people" "[I" ∈ wsX5_init := by decide +kernel
  have mw_9 : Cond.fieldLink RX5 27 "HatWinds$Streets" "number" "I" ∈ wsX5_init := by decide +kernel
  have hl : lv_has ls 1 [(0, .ref h0)] := hl
  refine lv_aload_n hx hb dX5_init_0 rfl (lv_at hl 0 rfl) ?_
  refine x_oinit F hl.1 mw_0 mw_1 mw_2 (Nat.le_of_ble_eq_true rfl) (Nat.le_of_ble_eq_true rfl) dX5_init_1 ?_
  refine lv_aload_n hx hb dX5_init_4 rfl (lv_at hl 0 rfl) ?_
  refine lv_bipush (v := 20) hx hb dX5_init_5 (by decide) ?_
  refine x_newa F X (atype := .int) (ty := .int) rfl 0 rfl mw_3 (N' := 20) (20, .inl (fun _ => 0)) (fun _ => rfl) (by decide) rfl (by decide) (Nat.le_of_ble_eq_true rfl) (Nat.le_of_ble_eq_true rfl) dX5_init_7 (fun a_7 H X => ?_)
  have X : xS D A9 s9 [[(h0, .inr (5, [.null, .null, .null, .null, .null, .int 0]))], rW q a_7 20 (fun _ => 0)] H locs := X
  refine x_putF F X (gs' := [[(h0, .inr (5, [.ref a_7, .null, .null, .null, .null, .int 0]))], rW q a_7 20 (fun _ => 0)]) (v := .ref a_7) hini (C := RX5) (T := TX5) (N := 6) (ci := 5) in_X5 tyX5 tyX5_ok nmX5 0 rfl rfl 0 (by decide) mw_4 rfl rfl rfl rfl (Nat.le_of_ble_eq_true rfl) dX5_init_9 rfl (fun H locs X => ?_)
  refine lv_aload_n hx hb dX5_init_12 rfl (lv_at hl 0 rfl) ?_
  refine lv_bipush (v := 20) hx hb dX5_init_13 (by decide) ?_
  refine x_newa F X (atype := .int) (ty := .int) rfl 0 rfl mw_3 (N' := 20) (20, .inl (fun _ => 0)) (fun _ => rfl) (by decide) rfl (by decide) (Nat.le_of_ble_eq_true rfl) (Nat.le_of_ble_eq_true rfl) dX5_init_15 (fun a_15 H X => ?_)
  have X : xS D A9 s9 [[(h0, .inr (5, [.ref a_7, .null, .null, .null, .null, .int 0]))], rW q a_7 20 (fun _ => 0), rW q a_15 20 (fun _ => 0)] H locs := X
  refine x_putF F X (gs' := [[(h0, .inr (5, [.ref a_7, .ref a_15, .null, .null, .null, .int 0]))], rW q a_7 20 (fun _ => 0), rW q a_15 20 (fun _ => 0)]) (v := .ref a_15) hini (C := RX5) (T := TX5) (N := 6) (ci := 5) in_X5 tyX5 tyX5_ok nmX5 0 rfl rfl 1 (by decide) mw_5 rfl rfl rfl rfl (Nat.le_of_ble_eq_true rfl) dX5_init_17 rfl (fun H locs X => ?_)
  refine lv_aload_n hx hb dX5_init_20 rfl (lv_at hl 0 rfl) ?_
  refine lv_bipush (v := 20) hx hb dX5_init_21 (by decide) ?_
  refine x_newa F X (atype := .int) (ty := .int) rfl 0 rfl mw_3 (N' := 20) (20, .inl (fun _ => 0)) (fun _ => rfl) (by decide) rfl (by decide) (Nat.le_of_ble_eq_true rfl) (Nat.le_of_ble_eq_true rfl) dX5_init_23 (fun a_23 H X => ?_)
  have X : xS D A9 s9 [[(h0, .inr (5, [.ref a_7, .ref a_15, .null, .null, .null, .int 0]))], rW q a_7 20 (fun _ => 0), rW q a_15 20 (fun _ => 0), rW q a_23 20 (fun _ => 0)] H locs := X
  refine x_putF F X (gs' := [[(h0, .inr (5, [.ref a_7, .ref a_15, .ref a_23, .null, .null, .int 0]))], rW q a_7 20 (fun _ => 0), rW q a_15 20 (fun _ => 0), rW q a_23 20 (fun _ => 0)]) (v := .ref a_23) hini (C := RX5) (T := TX5) (N := 6) (ci := 5) in_X5 tyX5 tyX5_ok nmX5 0 rfl rfl 2 (by decide) mw_6 rfl rfl rfl rfl (Nat.le_of_ble_eq_true rfl) dX5_init_25 rfl (fun H locs X => ?_)
  refine lv_aload_n hx hb dX5_init_28 rfl (lv_at hl 0 rfl) ?_
  refine lv_bipush (v := 20) hx hb dX5_init_29 (by decide) ?_
  refine x_newa F X (atype := .int) (ty := .int) rfl 0 rfl mw_3 (N' := 20) (20, .inl (fun _ => 0)) (fun _ => rfl) (by decide) rfl (by decide) (Nat.le_of_ble_eq_true rfl) (Nat.le_of_ble_eq_true rfl) dX5_init_31 (fun a_31 H X => ?_)
  have X : xS D A9 s9 [[(h0, .inr (5, [.ref a_7, .ref a_15, .ref a_23, .null, .null, .int 0]))], rW q a_7 20 (fun _ => 0), rW q a_15 20 (fun _ => 0), rW q a_23 20 (fun _ => 0), rW q a_31 20 (fun _ => 0)] H locs := X
  refine x_putF F X (gs' := [[(h0, .inr (5, [.ref a_7, .ref a_15, .ref a_23, .ref a_31, .null, .int 0]))], rW q a_7 20 (fun _ => 0), rW q a_15 20 (fun _ => 0), rW q a_23 20 (fun _ => 0), rW q a_31 20 (fun _ => 0)]) (v := .ref a_31) hini (C := RX5) (T := TX5) (N := 6) (ci := 5) in_X5 tyX5 tyX5_ok nmX5 0 rfl rfl 3 (by decide) mw_7 rfl rfl rfl rfl (Nat.le_of_ble_eq_true rfl) dX5_init_33 rfl (fun H locs X => ?_)
  refine lv_aload_n hx hb dX5_init_36 rfl (lv_at hl 0 rfl) ?_
  refine lv_bipush (v := 20) hx hb dX5_init_37 (by decide) ?_
  refine x_newa F X (atype := .int) (ty := .int) rfl 0 rfl mw_3 (N' := 20) (20, .inl (fun _ => 0)) (fun _ => rfl) (by decide) rfl (by decide) (Nat.le_of_ble_eq_true rfl) (Nat.le_of_ble_eq_true rfl) dX5_init_39 (fun a_39 H X => ?_)
  have X : xS D A9 s9 [[(h0, .inr (5, [.ref a_7, .ref a_15, .ref a_23, .ref a_31, .null, .int 0]))], rW q a_7 20 (fun _ => 0), rW q a_15 20 (fun _ => 0), rW q a_23 20 (fun _ => 0), rW q a_31 20 (fun _ => 0), rW q a_39 20 (fun _ => 0)] H locs := X
  refine x_putF F X (gs' := [[(h0, .inr (5, [.ref a_7, .ref a_15, .ref a_23, .ref a_31, .ref a_39, .int 0]))], rW q a_7 20 (fun _ => 0), rW q a_15 20 (fun _ => 0), rW q a_23 20 (fun _ => 0), rW q a_31 20 (fun _ => 0), rW q a_39 20 (fun _ => 0)]) (v := .ref a_39) hini (C := RX5) (T := TX5) (N := 6) (ci := 5) in_X5 tyX5 tyX5_ok nmX5 0 rfl rfl 4 (by decide) mw_8 rfl rfl rfl rfl (Nat.le_of_ble_eq_true rfl) dX5_init_41 rfl (fun H locs X => ?_)
  refine lv_aload_n hx hb dX5_init_44 rfl (lv_at hl 0 rfl) ?_
  refine lv_iconst (v := 0) hx hb dX5_init_45 (by decide) ?_
  refine x_put F X (gs' := [[(h0, .inr (5, [.ref a_7, .ref a_15, .ref a_23, .ref a_31, .ref a_39, .int 0]))], rW q a_7 20 (fun _ => 0), rW q a_15 20 (fun _ => 0), rW q a_23 20 (fun _ => 0), rW q a_31 20 (fun _ => 0), rW q a_39 20 (fun _ => 0)]) (v := .int 0) (C := RX5) (T := TX5) (N := 6) (ci := 5) in_X5 tyX5 tyX5_ok nmX5 0 rfl rfl 5 (by decide) mw_9 rfl rfl rfl (Nat.le_of_ble_eq_true rfl) dX5_init_46 rfl (fun H locs X => ?_)
  have X := X.impl (gs' := [sW q h0 a_7 a_15 a_23 a_31 a_39 (fun _ => 0) (fun _ => 0) (fun _ => 0) (fun _ => 0) (fun _ => 0) 0]) (b := sW q h0 a_7 a_15 a_23 a_31 a_39 (fun _ => 0) (fun _ => 0) (fun _ => 0) (fun _ => 0) (fun _ => 0) 0) 0 6 rfl rfl rfl
  exact hret _ _ _ _ _ (by exact ⟨_, _, _, _, _, rfl⟩) X dX5_init_49

set_option maxHeartbeats 1000000 in
set_option maxRecDepth 100000 in
theorem c_X2_init (l : Launch) (D : va_G) (q : xQ) (h0 : Nat) : xMv l yX2_init wsX2_init { frames := 1, cells := 3, slots := 24, locals := 20 } D q [.ref h0] [[(h0, .inr (2, [.null, .null, .null, .int 0, .int 0]))]] (fun gw => ∃ (t1 : Nat), ∃ (t2 : Nat), ∃ (t3 : Nat), gw = [hW q h0 t1 t2 t3 (fun _ => 0) (fun _ => 0) (fun _ => 0) 0 0]) := by
  refine xMv_of (cc := cX2_init) (maxL := 1) (by decide) rfl (Nat.le_of_ble_eq_true rfl) ?_
  intro p9 e9 s9 m9 a9 below meth c9 A9 Z9 ls H locs F hini X hl hret
  have hx := F.1.1
  have hb := F.1.2.1
  have in_X2 : ∀ w ∈ wsX20, w ∈ wsX2_init := by decide +kernel
  have mw_0 : Cond.methodLink RX2 3 objectInit ∈ wsX2_init := by decide +kernel
  have mw_1 : Cond.instanceMethod objectInit ∈ wsX2_init := by decide +kernel
  have mw_2 : Cond.code objectInit ⟨#[0xb1]⟩ 1 none ∈ wsX2_init := by decide +kernel
  have mw_3 : Cond.arrayClass .int ∈ wsX2_init := by decide +kernel
  have mw_4 : Cond.fieldLink RX2 9 "HatWinds$Hours" "forces" "[I" ∈ wsX2_init := by decide +kernel
  have mw_5 : Cond.fieldLink RX2 15 "HatWinds$Hours" "lost" "[I" ∈ wsX2_init := by decide +kernel
  have mw_6 : Cond.fieldLink RX2 18 "HatWinds$Hours" "worst" "[I" ∈ wsX2_init := by decide +kernel
  have mw_7 : Cond.fieldLink RX2 21 "HatWinds$Hours" "passed" "I" ∈ wsX2_init := by decide +kernel
  have mw_8 : Cond.fieldLink RX2 25 "HatWinds$Hours" "lostSoFar" "I" ∈ wsX2_init := by decide +kernel
  have hl : lv_has ls 1 [(0, .ref h0)] := hl
  refine lv_aload_n hx hb dX2_init_0 rfl (lv_at hl 0 rfl) ?_
  refine x_oinit F hl.1 mw_0 mw_1 mw_2 (Nat.le_of_ble_eq_true rfl) (Nat.le_of_ble_eq_true rfl) dX2_init_1 ?_
  refine lv_aload_n hx hb dX2_init_4 rfl (lv_at hl 0 rfl) ?_
  refine lv_bipush (v := 8) hx hb dX2_init_5 (by decide) ?_
  refine x_newa F X (atype := .int) (ty := .int) rfl 0 rfl mw_3 (N' := 8) (8, .inl (fun _ => 0)) (fun _ => rfl) (by decide) rfl (by decide) (Nat.le_of_ble_eq_true rfl) (Nat.le_of_ble_eq_true rfl) dX2_init_7 (fun a_7 H X => ?_)
  have X : xS D A9 s9 [[(h0, .inr (2, [.null, .null, .null, .int 0, .int 0]))], rW q a_7 8 (fun _ => 0)] H locs := X
  refine x_putF F X (gs' := [[(h0, .inr (2, [.ref a_7, .null, .null, .int 0, .int 0]))], rW q a_7 8 (fun _ => 0)]) (v := .ref a_7) hini (C := RX2) (T := TX2) (N := 5) (ci := 2) in_X2 tyX2 tyX2_ok nmX2 0 rfl rfl 0 (by decide) mw_4 rfl rfl rfl rfl (Nat.le_of_ble_eq_true rfl) dX2_init_9 rfl (fun H locs X => ?_)
  refine lv_aload_n hx hb dX2_init_12 rfl (lv_at hl 0 rfl) ?_
  refine lv_bipush (v := 8) hx hb dX2_init_13 (by decide) ?_
  refine x_newa F X (atype := .int) (ty := .int) rfl 0 rfl mw_3 (N' := 8) (8, .inl (fun _ => 0)) (fun _ => rfl) (by decide) rfl (by decide) (Nat.le_of_ble_eq_true rfl) (Nat.le_of_ble_eq_true rfl) dX2_init_15 (fun a_15 H X => ?_)
  have X : xS D A9 s9 [[(h0, .inr (2, [.ref a_7, .null, .null, .int 0, .int 0]))], rW q a_7 8 (fun _ => 0), rW q a_15 8 (fun _ => 0)] H locs := X
  refine x_putF F X (gs' := [[(h0, .inr (2, [.ref a_7, .ref a_15, .null, .int 0, .int 0]))], rW q a_7 8 (fun _ => 0), rW q a_15 8 (fun _ => 0)]) (v := .ref a_15) hini (C := RX2) (T := TX2) (N := 5) (ci := 2) in_X2 tyX2 tyX2_ok nmX2 0 rfl rfl 1 (by decide) mw_5 rfl rfl rfl rfl (Nat.le_of_ble_eq_true rfl) dX2_init_17 rfl (fun H locs X => ?_)
  refine lv_aload_n hx hb dX2_init_20 rfl (lv_at hl 0 rfl) ?_
  refine lv_bipush (v := 8) hx hb dX2_init_21 (by decide) ?_
  refine x_newa F X (atype := .int) (ty := .int) rfl 0 rfl mw_3 (N' := 8) (8, .inl (fun _ => 0)) (fun _ => rfl) (by decide) rfl (by decide) (Nat.le_of_ble_eq_true rfl) (Nat.le_of_ble_eq_true rfl) dX2_init_23 (fun a_23 H X => ?_)
  have X : xS D A9 s9 [[(h0, .inr (2, [.ref a_7, .ref a_15, .null, .int 0, .int 0]))], rW q a_7 8 (fun _ => 0), rW q a_15 8 (fun _ => 0), rW q a_23 8 (fun _ => 0)] H locs := X
  refine x_putF F X (gs' := [[(h0, .inr (2, [.ref a_7, .ref a_15, .ref a_23, .int 0, .int 0]))], rW q a_7 8 (fun _ => 0), rW q a_15 8 (fun _ => 0), rW q a_23 8 (fun _ => 0)]) (v := .ref a_23) hini (C := RX2) (T := TX2) (N := 5) (ci := 2) in_X2 tyX2 tyX2_ok nmX2 0 rfl rfl 2 (by decide) mw_6 rfl rfl rfl rfl (Nat.le_of_ble_eq_true rfl) dX2_init_25 rfl (fun H locs X => ?_)
  refine lv_aload_n hx hb dX2_init_28 rfl (lv_at hl 0 rfl) ?_
  refine lv_iconst (v := 0) hx hb dX2_init_29 (by decide) ?_
  refine x_put F X (gs' := [[(h0, .inr (2, [.ref a_7, .ref a_15, .ref a_23, .int 0, .int 0]))], rW q a_7 8 (fun _ => 0), rW q a_15 8 (fun _ => 0), rW q a_23 8 (fun _ => 0)]) (v := .int 0) (C := RX2) (T := TX2) (N := 5) (ci := 2) in_X2 tyX2 tyX2_ok nmX2 0 rfl rfl 3 (by decide) mw_7 rfl rfl rfl (Nat.le_of_ble_eq_true rfl) dX2_init_30 rfl (fun H locs X => ?_)
  refine lv_aload_n hx hb dX2_init_33 rfl (lv_at hl 0 rfl) ?_
  refine lv_iconst (v := 0) hx hb dX2_init_34 (by decide) ?_
  refine x_put F X (gs' := [[(h0, .inr (2, [.ref a_7, .ref a_15, .ref a_23, .int 0, .int 0]))], rW q a_7 8 (fun _ => 0), rW q a_15 8 (fun _ => 0), rW q a_23 8 (fun _ => 0)]) (v := .int 0) (C := RX2) (T := TX2) (N := 5) (ci := 2) in_X2 tyX2 tyX2_ok nmX2 0 rfl rfl 4 (by decide) mw_8 rfl rfl rfl (Nat.le_of_ble_eq_true rfl) dX2_init_35 rfl (fun H locs X => ?_)
  have X := X.impl (gs' := [hW q h0 a_7 a_15 a_23 (fun _ => 0) (fun _ => 0) (fun _ => 0) 0 0]) (b := hW q h0 a_7 a_15 a_23 (fun _ => 0) (fun _ => 0) (fun _ => 0) 0 0) 0 4 rfl rfl rfl
  exact hret _ _ _ _ _ (by exact ⟨_, _, _, rfl⟩) X dX2_init_38

set_option maxHeartbeats 1000000 in
set_option maxRecDepth 100000 in
theorem c_X0_init (l : Launch) (D : va_G) (q : xQ) (h0 : Nat) : xMv l yX0_init wsX0_init { frames := 1, cells := 3, slots := 60, locals := 20 } D q [.ref h0] [[(h0, .inr (0, [.null, .null, .null]))]] (fun gw => ∃ (t1 : Nat), ∃ (t2 : Nat), ∃ (t3 : Nat), gw = [aW q h0 t1 t2 t3 (fun _ => 0) (fun _ => 0) (fun _ => 0)]) := by
  refine xMv_of (cc := cX0_init) (maxL := 1) (by decide) rfl (Nat.le_of_ble_eq_true rfl) ?_
  intro p9 e9 s9 m9 a9 below meth c9 A9 Z9 ls H locs F hini X hl hret
  have hx := F.1.1
  have hb := F.1.2.1
  have in_X0 : ∀ w ∈ wsX00, w ∈ wsX0_init := by decide +kernel
  have mw_0 : Cond.methodLink RX0 3 objectInit ∈ wsX0_init := by decide +kernel
  have mw_1 : Cond.instanceMethod objectInit ∈ wsX0_init := by decide +kernel
  have mw_2 : Cond.code objectInit ⟨#[0xb1]⟩ 1 none ∈ wsX0_init := by decide +kernel
  have mw_3 : Cond.arrayClass .int ∈ wsX0_init := by decide +kernel
  have mw_4 : Cond.fieldLink RX0 9 "HatWinds$Air" "together" "[I" ∈ wsX0_init := by decide +kernel
  have mw_5 : Cond.fieldLink RX0 15 "HatWinds$Air" "narrower" "[I" ∈ wsX0_init := by decide +kernel
  have mw_6 : Cond.fieldLink RX0 18 "HatWinds$Air" "force" "[I" ∈ wsX0_init := by decide +kernel
  have hl : lv_has ls 1 [(0, .ref h0)] := hl
  refine lv_aload_n hx hb dX0_init_0 rfl (lv_at hl 0 rfl) ?_
  refine x_oinit F hl.1 mw_0 mw_1 mw_2 (Nat.le_of_ble_eq_true rfl) (Nat.le_of_ble_eq_true rfl) dX0_init_1 ?_
  refine lv_aload_n hx hb dX0_init_4 rfl (lv_at hl 0 rfl) ?_
  refine lv_bipush (v := 20) hx hb dX0_init_5 (by decide) ?_
  refine x_newa F X (atype := .int) (ty := .int) rfl 0 rfl mw_3 (N' := 20) (20, .inl (fun _ => 0)) (fun _ => rfl) (by decide) rfl (by decide) (Nat.le_of_ble_eq_true rfl) (Nat.le_of_ble_eq_true rfl) dX0_init_7 (fun a_7 H X => ?_)
  have X : xS D A9 s9 [[(h0, .inr (0, [.null, .null, .null]))], rW q a_7 20 (fun _ => 0)] H locs := X
  refine x_putF F X (gs' := [[(h0, .inr (0, [.ref a_7, .null, .null]))], rW q a_7 20 (fun _ => 0)]) (v := .ref a_7) hini (C := RX0) (T := TX0) (N := 3) (ci := 0) in_X0 tyX0 tyX0_ok nmX0 0 rfl rfl 0 (by decide) mw_4 rfl rfl rfl rfl (Nat.le_of_ble_eq_true rfl) dX0_init_9 rfl (fun H locs X => ?_)
  refine lv_aload_n hx hb dX0_init_12 rfl (lv_at hl 0 rfl) ?_
  refine lv_bipush (v := 20) hx hb dX0_init_13 (by decide) ?_
  refine x_newa F X (atype := .int) (ty := .int) rfl 0 rfl mw_3 (N' := 20) (20, .inl (fun _ => 0)) (fun _ => rfl) (by decide) rfl (by decide) (Nat.le_of_ble_eq_true rfl) (Nat.le_of_ble_eq_true rfl) dX0_init_15 (fun a_15 H X => ?_)
  have X : xS D A9 s9 [[(h0, .inr (0, [.ref a_7, .null, .null]))], rW q a_7 20 (fun _ => 0), rW q a_15 20 (fun _ => 0)] H locs := X
  refine x_putF F X (gs' := [[(h0, .inr (0, [.ref a_7, .ref a_15, .null]))], rW q a_7 20 (fun _ => 0), rW q a_15 20 (fun _ => 0)]) (v := .ref a_15) hini (C := RX0) (T := TX0) (N := 3) (ci := 0) in_X0 tyX0 tyX0_ok nmX0 0 rfl rfl 1 (by decide) mw_5 rfl rfl rfl rfl (Nat.le_of_ble_eq_true rfl) dX0_init_17 rfl (fun H locs X => ?_)
  refine lv_aload_n hx hb dX0_init_20 rfl (lv_at hl 0 rfl) ?_
  refine lv_bipush (v := 20) hx hb dX0_init_21 (by decide) ?_
  refine x_newa F X (atype := .int) (ty := .int) rfl 0 rfl mw_3 (N' := 20) (20, .inl (fun _ => 0)) (fun _ => rfl) (by decide) rfl (by decide) (Nat.le_of_ble_eq_true rfl) (Nat.le_of_ble_eq_true rfl) dX0_init_23 (fun a_23 H X => ?_)
  have X : xS D A9 s9 [[(h0, .inr (0, [.ref a_7, .ref a_15, .null]))], rW q a_7 20 (fun _ => 0), rW q a_15 20 (fun _ => 0), rW q a_23 20 (fun _ => 0)] H locs := X
  refine x_putF F X (gs' := [[(h0, .inr (0, [.ref a_7, .ref a_15, .ref a_23]))], rW q a_7 20 (fun _ => 0), rW q a_15 20 (fun _ => 0), rW q a_23 20 (fun _ => 0)]) (v := .ref a_23) hini (C := RX0) (T := TX0) (N := 3) (ci := 0) in_X0 tyX0 tyX0_ok nmX0 0 rfl rfl 2 (by decide) mw_6 rfl rfl rfl rfl (Nat.le_of_ble_eq_true rfl) dX0_init_25 rfl (fun H locs X => ?_)
  have X := X.impl (gs' := [aW q h0 a_7 a_15 a_23 (fun _ => 0) (fun _ => 0) (fun _ => 0)]) (b := aW q h0 a_7 a_15 a_23 (fun _ => 0) (fun _ => 0) (fun _ => 0)) 0 4 rfl rfl rfl
  exact hret _ _ _ _ _ (by exact ⟨_, _, _, rfl⟩) X dX0_init_28

set_option maxHeartbeats 1000000 in
set_option maxRecDepth 100000 in
theorem c_X3_init (l : Launch) (D : va_G) (q : xQ) (h0 : Nat) : xMv l yX3_init wsX3_init { frames := 1, cells := 1, slots := 80, locals := 20 } D q [.ref h0] [[(h0, .inr (3, [.null, .int 0, .int 0]))]] (fun gw => ∃ (t1 : Nat), gw = [pW q h0 t1 (fun _ => 0) 0 0]) := by
  refine xMv_of (cc := cX3_init) (maxL := 1) (by decide) rfl (Nat.le_of_ble_eq_true rfl) ?_
  intro p9 e9 s9 m9 a9 below meth c9 A9 Z9 ls H locs F hini X hl hret
  have hx := F.1.1
  have hb := F.1.2.1
  have in_X3 : ∀ w ∈ wsX30, w ∈ wsX3_init := by decide +kernel
  have mw_0 : Cond.methodLink RX3 3 objectInit ∈ wsX3_init := by decide +kernel
  have mw_1 : Cond.instanceMethod objectInit ∈ wsX3_init := by decide +kernel
  have mw_2 : Cond.code objectInit ⟨#[0xb1]⟩ 1 none ∈ wsX3_init := by decide +kernel
  have mw_3 : Cond.arrayClass .char ∈ wsX3_init := by decide +kernel
  have mw_4 : Cond.fieldLink RX3 9 "HatWinds$Pad" "signs" "[C" ∈ wsX3_init := by decide +kernel
  have mw_5 : Cond.fieldLink RX3 15 "HatWinds$Pad" "length" "I" ∈ wsX3_init := by decide +kernel
  have mw_6 : Cond.fieldLink RX3 19 "HatWinds$Pad" "overflowed" "Z" ∈ wsX3_init := by decide +kernel
  have hl : lv_has ls 1 [(0, .ref h0)] := hl
  refine lv_aload_n hx hb dX3_init_0 rfl (lv_at hl 0 rfl) ?_
  refine x_oinit F hl.1 mw_0 mw_1 mw_2 (Nat.le_of_ble_eq_true rfl) (Nat.le_of_ble_eq_true rfl) dX3_init_1 ?_
  refine lv_aload_n hx hb dX3_init_4 rfl (lv_at hl 0 rfl) ?_
  refine lv_bipush (v := 80) hx hb dX3_init_5 (by decide) ?_
  refine x_newa F X (atype := .char) (ty := .char) rfl 1 rfl mw_3 (N' := 80) (80, .inl (fun _ => 0)) (fun _ => rfl) (by decide) rfl (by decide) (Nat.le_of_ble_eq_true rfl) (Nat.le_of_ble_eq_true rfl) dX3_init_7 (fun a_7 H X => ?_)
  have X : xS D A9 s9 [[(h0, .inr (3, [.null, .int 0, .int 0]))], [(a_7, .inl (q 1, 80, .inl (fun _ => 0)))]] H locs := X
  refine x_putF F X (gs' := [[(h0, .inr (3, [.ref a_7, .int 0, .int 0]))], [(a_7, .inl (q 1, 80, .inl (fun _ => 0)))]]) (v := .ref a_7) hini (C := RX3) (T := TX3) (N := 3) (ci := 3) in_X3 tyX3 tyX3_ok nmX3 0 rfl rfl 0 (by decide) mw_4 rfl rfl rfl rfl (Nat.le_of_ble_eq_true rfl) dX3_init_9 rfl (fun H locs X => ?_)
  refine lv_aload_n hx hb dX3_init_12 rfl (lv_at hl 0 rfl) ?_
  refine lv_iconst (v := 0) hx hb dX3_init_13 (by decide) ?_
  refine x_put F X (gs' := [[(h0, .inr (3, [.ref a_7, .int 0, .int 0]))], [(a_7, .inl (q 1, 80, .inl (fun _ => 0)))]]) (v := .int 0) (C := RX3) (T := TX3) (N := 3) (ci := 3) in_X3 tyX3 tyX3_ok nmX3 0 rfl rfl 1 (by decide) mw_5 rfl rfl rfl (Nat.le_of_ble_eq_true rfl) dX3_init_14 rfl (fun H locs X => ?_)
  refine lv_aload_n hx hb dX3_init_17 rfl (lv_at hl 0 rfl) ?_
  refine lv_iconst (v := 0) hx hb dX3_init_18 (by decide) ?_
  refine x_put F X (gs' := [[(h0, .inr (3, [.ref a_7, .int 0, .int 0]))], [(a_7, .inl (q 1, 80, .inl (fun _ => 0)))]]) (v := .int 0) (C := RX3) (T := TX3) (N := 3) (ci := 3) in_X3 tyX3 tyX3_ok nmX3 0 rfl rfl 2 (by decide) mw_6 rfl rfl rfl (Nat.le_of_ble_eq_true rfl) dX3_init_19 rfl (fun H locs X => ?_)
  have X := X.impl (gs' := [pW q h0 a_7 (fun _ => 0) 0 0]) (b := pW q h0 a_7 (fun _ => 0) 0 0) 0 2 rfl rfl rfl
  exact hret _ _ _ _ _ (by exact ⟨_, rfl⟩) X dX3_init_22
