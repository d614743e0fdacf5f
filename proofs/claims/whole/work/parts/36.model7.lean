set_option maxHeartbeats 1000000 in
set_option maxRecDepth 100000 in
theorem c_X8_turns (l : Launch) (D : va_G) (q : xQ) (b0 : Nat) (b1 : Nat) (b2 : Nat) (b3 : Nat) (b4 : Nat) (b5 : Nat) (b6 : Nat) (b7 : Nat) (b8 : Nat) (s : Nat → Int32) (p : Nat → Int32) (sl : Nat → Int32) (sv : Nat → Int32) (pd : Nat → Int32) (fo : Nat → Int32) (to : Nat → Int32) (ou : Nat → Int32) (kn : Int32) (ln : Int32) (mn : Nat) (la : Nat) (op : Int32) (wr : Int32) (c : Nat) (hpk : x_pk mn la op to) (hc : c = 40 ∨ c = 44 ∨ c = 41) (hz0 : la ≠ 0) : xMi l yX8_turns wsX8_turns { frames := 0, cells := 0, slots := 0, locals := 0 } D q [.ref b0, .int (nI c)] [mW q b0 b1 b2 b3 b4 b5 b6 b7 b8 s p sl sv pd fo to ou kn ln (nI mn) (nI la) op wr] (fun r gw => ∃ (mn2 : Nat), ∃ (la2 : Nat), ∃ (op2 : Int32), ∃ (to2 : Nat → Int32), gw = [mW q b0 b1 b2 b3 b4 b5 b6 b7 b8 s p sl sv pd fo to2 ou kn ln (nI mn2) (nI la2) op2 wr] ∧ ((r = 1 ∧ (x_step c mn la op to = some (mn2, la2, op2, to2))) ∨ (r = 0 ∧ (x_step c mn la op to = none)))) := by
  refine xMi_of (cc := cX8_turns) (maxL := 2) (rt := .boolean) (by decide) rfl (Nat.le_of_ble_eq_true rfl) (fun v w h => by obtain ⟨_, _, _, _, _, (⟨rfl, _⟩ | ⟨rfl, _⟩)⟩ := h <;> rfl) ?_
  intro p9 e9 s9 m9 a9 below meth c9 A9 Z9 ls H locs F X hl hret
  have hx := F.1.1
  have hb := F.1.2.1
  have in_X8 : ∀ w ∈ wsX80, w ∈ wsX8_turns := by decide +kernel
  have mw_0 : Cond.fieldLink RX8 123 "HatWindsModel" "last" "I" ∈ wsX8_turns := by decide +kernel
  have mw_1 : Cond.fieldLink RX8 120 "HatWindsModel" "open" "I" ∈ wsX8_turns := by decide +kernel
  have mw_2 : Cond.fieldLink RX8 29 "HatWindsModel" "told" "[I" ∈ wsX8_turns := by decide +kernel
  have mw_3 : Cond.fieldLink RX8 117 "HatWindsModel" "many" "I" ∈ wsX8_turns := by decide +kernel
  have hl : lv_has ls 2 [(0, .ref b0), (1, .int (nI c))] := hl
  have hm20 := hpk.1
  have hmn := x_pk_mn hpk hz0
  have hla7 := hpk.2.1
  refine lv_aload_n hx hb dX8_turns_0 rfl (lv_at hl 0 rfl) ?_
  refine x_get F X (v := .int (nI la)) (C := RX8) (T := TX8) (N := 14) (ci := 8) in_X8 0 rfl rfl 10 (by decide) mw_0 rfl dX8_turns_1 ?_
  refine lv_if_eq (tgt := 43) hx hb dX8_turns_4 (by decide) (fun c_4 => ?_) (fun c_4 => ?_)
  · exfalso
    have c_4 : la = 0 := (nI_eq (a := la) (b := 0) (by omega) (by omega)).mp c_4
    omega
  have c_4 : ¬ (la = 0) := fun h => c_4 ((nI_eq (a := la) (b := 0) (by omega) (by omega)).mpr h)
  refine lv_aload_n hx hb dX8_turns_7 rfl (lv_at hl 0 rfl) ?_
  refine x_get F X (v := .int (nI la)) (C := RX8) (T := TX8) (N := 14) (ci := 8) in_X8 0 rfl rfl 10 (by decide) mw_0 rfl dX8_turns_8 ?_
  refine lv_iconst (v := 4) hx hb dX8_turns_11 (by decide) ?_
  refine lv_icmp_eq (tgt := 43) hx hb dX8_turns_12 (by decide) (fun c_12 => ?_) (fun c_12 => ?_)
  · have c_12 : la = 4 := (nI_eq (a := la) (b := 4) (by omega) (by omega)).mp c_12
    refine lv_iconst (v := 0) hx hb dX8_turns_43 (by decide) ?_
    refine hret _ _ _ _ _ _ ?_ X dX8_turns_44
    refine ⟨_, _, _, _, rfl, Or.inr ⟨rfl, ?_⟩⟩
    rcases hc with rfl | rfl | rfl <;> first | (exfalso; omega) | skip
    all_goals unfold x_step
    all_goals repeat (first | rw [if_pos (by omega)] | rw [if_neg (by omega)])
  · have c_12 : ¬ (la = 4) := fun h => c_12 ((nI_eq (a := la) (b := 4) (by omega) (by omega)).mpr h)
    refine lv_iload_n hx hb dX8_turns_15 rfl (lv_at hl 1 rfl) ?_
    refine lv_bipush (v := 40) hx hb dX8_turns_16 (by decide) ?_
    refine lv_icmp_ne (tgt := 30) hx hb dX8_turns_18 (by decide) (fun c_18 => ?_) (fun c_18 => ?_)
    · have c_18 : ¬ (c = 40) := fun h => c_18 ((nI_eq (a := c) (b := 40) (by omega) (by omega)).mpr h)
      refine lv_iload_n hx hb dX8_turns_30 rfl (lv_at hl 1 rfl) ?_
      refine lv_bipush (v := 40) hx hb dX8_turns_31 (by decide) ?_
      refine lv_icmp_eq (tgt := 45) hx hb dX8_turns_33 (by decide) (fun c_33 => ?_) (fun c_33 => ?_)
      · have c_33 : c = 40 := (nI_eq (a := c) (b := 40) (by omega) (by omega)).mp c_33
        exfalso; omega
      · have c_33 : ¬ (c = 40) := fun h => c_33 ((nI_eq (a := c) (b := 40) (by omega) (by omega)).mpr h)
        refine lv_aload_n hx hb dX8_turns_36 rfl (lv_at hl 0 rfl) ?_
        refine x_get F X (v := .int op) (C := RX8) (T := TX8) (N := 14) (ci := 8) in_X8 0 rfl rfl 11 (by decide) mw_1 rfl dX8_turns_37 ?_
        refine lv_if_ge (tgt := 45) hx hb dX8_turns_40 (by decide) (fun c_40 => ?_) (fun c_40 => ?_)
        · obtain ⟨o, ho, eo⟩ := (x_pk_op hpk).resolve_left (fun e => absurd (show op < 0 by rw [e]; decide) (Int32.not_lt.mpr c_40))
          refine lv_iload_n hx hb dX8_turns_45 rfl (lv_at hl 1 rfl) ?_
          refine lv_bipush (v := 40) hx hb dX8_turns_46 (by decide) ?_
          refine lv_icmp_ne (tgt := 61) hx hb dX8_turns_48 (by decide) (fun c_48 => ?_) (fun c_48 => ?_)
          · have c_48 : ¬ (c = 40) := fun h => c_48 ((nI_eq (a := c) (b := 40) (by omega) (by omega)).mpr h)
            refine lv_aload_n hx hb dX8_turns_61 rfl (lv_at hl 0 rfl) ?_
            refine lv_iload_n hx hb dX8_turns_62 rfl (lv_at hl 1 rfl) ?_
            refine lv_bipush (v := 41) hx hb dX8_turns_63 (by decide) ?_
            refine lv_icmp_ne (tgt := 73) hx hb dX8_turns_65 (by decide) (fun c_65 => ?_) (fun c_65 => ?_)
            · have c_65 : ¬ (c = 41) := fun h => c_65 ((nI_eq (a := c) (b := 41) (by omega) (by omega)).mpr h)
              refine lv_iconst (v := 0) hx hb dX8_turns_73 (by decide) ?_
              refine x_put F X (gs' := [mW q b0 b1 b2 b3 b4 b5 b6 b7 b8 s p sl sv pd fo to ou kn ln (nI mn) 0 op wr]) (v := .int 0) (C := RX8) (T := TX8) (N := 14) (ci := 8) in_X8 tyX8 tyX8_ok nmX8 0 rfl rfl 10 (by decide) mw_0 rfl rfl rfl (Nat.le_of_ble_eq_true rfl) dX8_turns_74 rfl (fun H locs X => ?_)
              refine lv_aload_n hx hb dX8_turns_77 rfl (lv_at hl 0 rfl) ?_
              refine lv_iload_n hx hb dX8_turns_78 rfl (lv_at hl 1 rfl) ?_
              refine lv_bipush (v := 41) hx hb dX8_turns_79 (by decide) ?_
              refine lv_icmp_ne (tgt := 100) hx hb dX8_turns_81 (by decide) (fun c_81 => ?_) (fun c_81 => ?_)
              · have c_81 : ¬ (c = 41) := fun h => c_81 ((nI_eq (a := c) (b := 41) (by omega) (by omega)).mpr h)
                refine lv_aload_n hx hb dX8_turns_100 rfl (lv_at hl 0 rfl) ?_
                refine x_get F X (v := .int op) (C := RX8) (T := TX8) (N := 14) (ci := 8) in_X8 0 rfl rfl 11 (by decide) mw_1 rfl dX8_turns_101 ?_
                refine x_put F X (gs' := [mW q b0 b1 b2 b3 b4 b5 b6 b7 b8 s p sl sv pd fo to ou kn ln (nI mn) 0 op wr]) (v := .int op) (C := RX8) (T := TX8) (N := 14) (ci := 8) in_X8 tyX8 tyX8_ok nmX8 0 rfl rfl 11 (by decide) mw_1 rfl rfl rfl (Nat.le_of_ble_eq_true rfl) dX8_turns_104 rfl (fun H locs X => ?_)
                refine lv_iconst (v := 1) hx hb dX8_turns_107 (by decide) ?_
                refine hret _ _ _ _ _ _ ?_ X dX8_turns_108
                refine ⟨mn, 0, op, to, rfl, Or.inl ⟨rfl, ?_⟩⟩
                rcases hc with rfl | rfl | rfl <;> first | (exfalso; omega) | skip
                all_goals unfold x_step
                all_goals repeat (first | rw [if_pos (by omega)] | rw [if_neg (by omega)])
                rw [if_neg (fun h => h.elim (fun q => by omega) (fun q => absurd q (Int32.not_lt.mpr c_40)))]
              · have c_81 : c = 41 := (nI_eq (a := c) (b := 41) (by omega) (by omega)).mp c_81
                exfalso; omega
            · have c_65 : c = 41 := (nI_eq (a := c) (b := 41) (by omega) (by omega)).mp c_65
              refine lv_bipush (v := 7) hx hb dX8_turns_68 (by decide) ?_
              refine lv_goto (tgt := 74) hx hb dX8_turns_70 (by decide) ?_
              refine x_put F X (gs' := [mW q b0 b1 b2 b3 b4 b5 b6 b7 b8 s p sl sv pd fo to ou kn ln (nI mn) 7 op wr]) (v := .int 7) (C := RX8) (T := TX8) (N := 14) (ci := 8) in_X8 tyX8 tyX8_ok nmX8 0 rfl rfl 10 (by decide) mw_0 rfl rfl rfl (Nat.le_of_ble_eq_true rfl) dX8_turns_74 rfl (fun H locs X => ?_)
              refine lv_aload_n hx hb dX8_turns_77 rfl (lv_at hl 0 rfl) ?_
              refine lv_iload_n hx hb dX8_turns_78 rfl (lv_at hl 1 rfl) ?_
              refine lv_bipush (v := 41) hx hb dX8_turns_79 (by decide) ?_
              refine lv_icmp_ne (tgt := 100) hx hb dX8_turns_81 (by decide) (fun c_81 => ?_) (fun c_81 => ?_)
              · have c_81 : ¬ (c = 41) := fun h => c_81 ((nI_eq (a := c) (b := 41) (by omega) (by omega)).mpr h)
                exfalso; omega
              · have c_81 : c = 41 := (nI_eq (a := c) (b := 41) (by omega) (by omega)).mp c_81
                refine lv_aload_n hx hb dX8_turns_84 rfl (lv_at hl 0 rfl) ?_
                refine x_get F X (v := .ref b7) (C := RX8) (T := TX8) (N := 14) (ci := 8) in_X8 0 rfl rfl 8 (by decide) mw_2 rfl dX8_turns_85 ?_
                refine lv_iconst (v := 5) hx hb dX8_turns_88 (by decide) ?_
                refine lv_aload_n hx hb dX8_turns_89 rfl (lv_at hl 0 rfl) ?_
                refine x_get F X (v := .int op) (C := RX8) (T := TX8) (N := 14) (ci := 8) in_X8 0 rfl rfl 11 (by decide) mw_1 rfl dX8_turns_90 ?_
                refine x_i (y := (nI o)) (eo) ?_
                refine lv_imul hx hb dX8_turns_93 ?_
                refine x_i (y := (nI (5 * o))) (pk_mul 5 o) ?_
                refine lv_iconst (v := 0) hx hb dX8_turns_94 (by decide) ?_
                refine lv_iadd hx hb dX8_turns_95 ?_
                refine x_i (y := (nI (5 * o + 0))) (nI_add (5 * o) 0) ?_
                refine x_iald F X (v := (to (5 * o + 0))) (n := 100) (f := to) 7 rfl (vp_in_nI (by omega) (by omega)) (x_cl (by omega)) dX8_turns_96 ?_
                refine lv_goto (tgt := 104) hx hb dX8_turns_97 (by decide) ?_
                refine x_put F X (gs' := [mW q b0 b1 b2 b3 b4 b5 b6 b7 b8 s p sl sv pd fo to ou kn ln (nI mn) 7 (to (5 * o + 0)) wr]) (v := .int (to (5 * o + 0))) (C := RX8) (T := TX8) (N := 14) (ci := 8) in_X8 tyX8 tyX8_ok nmX8 0 rfl rfl 11 (by decide) mw_1 rfl rfl rfl (Nat.le_of_ble_eq_true rfl) dX8_turns_104 rfl (fun H locs X => ?_)
                refine lv_iconst (v := 1) hx hb dX8_turns_107 (by decide) ?_
                refine hret _ _ _ _ _ _ ?_ X dX8_turns_108
                refine ⟨mn, 7, _, to, rfl, Or.inl ⟨rfl, ?_⟩⟩
                rcases hc with rfl | rfl | rfl <;> first | (exfalso; omega) | skip
                all_goals unfold x_step
                all_goals repeat (first | rw [if_pos (by omega)] | rw [if_neg (by omega)])
                rw [if_neg (fun h => h.elim (fun q => by omega) (fun q => absurd q (Int32.not_lt.mpr c_40))), show op = nI o from eo, nI_clamp (by omega)]
          · have c_48 : c = 40 := (nI_eq (a := c) (b := 40) (by omega) (by omega)).mp c_48
            exfalso; omega
        · refine lv_iconst (v := 0) hx hb dX8_turns_43 (by decide) ?_
          refine hret _ _ _ _ _ _ ?_ X dX8_turns_44
          refine ⟨_, _, _, _, rfl, Or.inr ⟨rfl, ?_⟩⟩
          rcases hc with rfl | rfl | rfl <;> first | (exfalso; omega) | skip
          all_goals unfold x_step
          all_goals repeat (first | rw [if_pos (by omega)] | rw [if_neg (by omega)])
          all_goals rw [if_pos (Or.inr (Int32.not_le.mp c_40))]
    · have c_18 : c = 40 := (nI_eq (a := c) (b := 40) (by omega) (by omega)).mp c_18
      refine lv_aload_n hx hb dX8_turns_21 rfl (lv_at hl 0 rfl) ?_
      refine x_get F X (v := .int (nI la)) (C := RX8) (T := TX8) (N := 14) (ci := 8) in_X8 0 rfl rfl 10 (by decide) mw_0 rfl dX8_turns_22 ?_
      refine lv_bipush (v := 7) hx hb dX8_turns_25 (by decide) ?_
      refine lv_icmp_eq (tgt := 43) hx hb dX8_turns_27 (by decide) (fun c_27 => ?_) (fun c_27 => ?_)
      · have c_27 : la = 7 := (nI_eq (a := la) (b := 7) (by omega) (by omega)).mp c_27
        refine lv_iconst (v := 0) hx hb dX8_turns_43 (by decide) ?_
        refine hret _ _ _ _ _ _ ?_ X dX8_turns_44
        refine ⟨_, _, _, _, rfl, Or.inr ⟨rfl, ?_⟩⟩
        rcases hc with rfl | rfl | rfl <;> first | (exfalso; omega) | skip
        all_goals unfold x_step
        all_goals repeat (first | rw [if_pos (by omega)] | rw [if_neg (by omega)])
      · have c_27 : ¬ (la = 7) := fun h => c_27 ((nI_eq (a := la) (b := 7) (by omega) (by omega)).mpr h)
        refine lv_iload_n hx hb dX8_turns_30 rfl (lv_at hl 1 rfl) ?_
        refine lv_bipush (v := 40) hx hb dX8_turns_31 (by decide) ?_
        refine lv_icmp_eq (tgt := 45) hx hb dX8_turns_33 (by decide) (fun c_33 => ?_) (fun c_33 => ?_)
        · have c_33 : c = 40 := (nI_eq (a := c) (b := 40) (by omega) (by omega)).mp c_33
          refine lv_iload_n hx hb dX8_turns_45 rfl (lv_at hl 1 rfl) ?_
          refine lv_bipush (v := 40) hx hb dX8_turns_46 (by decide) ?_
          refine lv_icmp_ne (tgt := 61) hx hb dX8_turns_48 (by decide) (fun c_48 => ?_) (fun c_48 => ?_)
          · have c_48 : ¬ (c = 40) := fun h => c_48 ((nI_eq (a := c) (b := 40) (by omega) (by omega)).mpr h)
            exfalso; omega
          · have c_48 : c = 40 := (nI_eq (a := c) (b := 40) (by omega) (by omega)).mp c_48
            refine lv_aload_n hx hb dX8_turns_51 rfl (lv_at hl 0 rfl) ?_
            refine lv_aload_n hx hb dX8_turns_52 rfl (lv_at hl 0 rfl) ?_
            refine x_get F X (v := .int (nI mn)) (C := RX8) (T := TX8) (N := 14) (ci := 8) in_X8 0 rfl rfl 9 (by decide) mw_3 rfl dX8_turns_53 ?_
            refine lv_iconst (v := 1) hx hb dX8_turns_56 (by decide) ?_
            refine lv_isub hx hb dX8_turns_57 ?_
            refine x_i (y := (nI (mn - 1))) (pk_sub (a := mn) (b := 1) (by omega)) ?_
            refine x_put F X (gs' := [mW q b0 b1 b2 b3 b4 b5 b6 b7 b8 s p sl sv pd fo to ou kn ln (nI mn) (nI la) (nI (mn - 1)) wr]) (v := .int (nI (mn - 1))) (C := RX8) (T := TX8) (N := 14) (ci := 8) in_X8 tyX8 tyX8_ok nmX8 0 rfl rfl 11 (by decide) mw_1 rfl rfl rfl (Nat.le_of_ble_eq_true rfl) dX8_turns_58 rfl (fun H locs X => ?_)
            refine lv_aload_n hx hb dX8_turns_61 rfl (lv_at hl 0 rfl) ?_
            refine lv_iload_n hx hb dX8_turns_62 rfl (lv_at hl 1 rfl) ?_
            refine lv_bipush (v := 41) hx hb dX8_turns_63 (by decide) ?_
            refine lv_icmp_ne (tgt := 73) hx hb dX8_turns_65 (by decide) (fun c_65 => ?_) (fun c_65 => ?_)
            · have c_65 : ¬ (c = 41) := fun h => c_65 ((nI_eq (a := c) (b := 41) (by omega) (by omega)).mpr h)
              refine lv_iconst (v := 0) hx hb dX8_turns_73 (by decide) ?_
              refine x_put F X (gs' := [mW q b0 b1 b2 b3 b4 b5 b6 b7 b8 s p sl sv pd fo to ou kn ln (nI mn) 0 (nI (mn - 1)) wr]) (v := .int 0) (C := RX8) (T := TX8) (N := 14) (ci := 8) in_X8 tyX8 tyX8_ok nmX8 0 rfl rfl 10 (by decide) mw_0 rfl rfl rfl (Nat.le_of_ble_eq_true rfl) dX8_turns_74 rfl (fun H locs X => ?_)
              refine lv_aload_n hx hb dX8_turns_77 rfl (lv_at hl 0 rfl) ?_
              refine lv_iload_n hx hb dX8_turns_78 rfl (lv_at hl 1 rfl) ?_
              refine lv_bipush (v := 41) hx hb dX8_turns_79 (by decide) ?_
              refine lv_icmp_ne (tgt := 100) hx hb dX8_turns_81 (by decide) (fun c_81 => ?_) (fun c_81 => ?_)
              · have c_81 : ¬ (c = 41) := fun h => c_81 ((nI_eq (a := c) (b := 41) (by omega) (by omega)).mpr h)
                refine lv_aload_n hx hb dX8_turns_100 rfl (lv_at hl 0 rfl) ?_
                refine x_get F X (v := .int (nI (mn - 1))) (C := RX8) (T := TX8) (N := 14) (ci := 8) in_X8 0 rfl rfl 11 (by decide) mw_1 rfl dX8_turns_101 ?_
                refine x_put F X (gs' := [mW q b0 b1 b2 b3 b4 b5 b6 b7 b8 s p sl sv pd fo to ou kn ln (nI mn) 0 (nI (mn - 1)) wr]) (v := .int (nI (mn - 1))) (C := RX8) (T := TX8) (N := 14) (ci := 8) in_X8 tyX8 tyX8_ok nmX8 0 rfl rfl 11 (by decide) mw_1 rfl rfl rfl (Nat.le_of_ble_eq_true rfl) dX8_turns_104 rfl (fun H locs X => ?_)
                refine lv_iconst (v := 1) hx hb dX8_turns_107 (by decide) ?_
                refine hret _ _ _ _ _ _ ?_ X dX8_turns_108
                refine ⟨mn, 0, nI (mn - 1), to, rfl, Or.inl ⟨rfl, ?_⟩⟩
                rcases hc with rfl | rfl | rfl <;> first | (exfalso; omega) | skip
                all_goals unfold x_step
                all_goals repeat (first | rw [if_pos (by omega)] | rw [if_neg (by omega)])
              · have c_81 : c = 41 := (nI_eq (a := c) (b := 41) (by omega) (by omega)).mp c_81
                exfalso; omega
            · have c_65 : c = 41 := (nI_eq (a := c) (b := 41) (by omega) (by omega)).mp c_65
              exfalso; omega
        · have c_33 : ¬ (c = 40) := fun h => c_33 ((nI_eq (a := c) (b := 40) (by omega) (by omega)).mpr h)
          exfalso; omega

set_option maxHeartbeats 1000000 in
set_option maxRecDepth 100000 in
theorem c_X8_goes (l : Launch) (D : va_G) (q : xQ) (b0 : Nat) (b1 : Nat) (b2 : Nat) (b3 : Nat) (b4 : Nat) (b5 : Nat) (b6 : Nat) (b7 : Nat) (b8 : Nat) (s : Nat → Int32) (p : Nat → Int32) (sl : Nat → Int32) (sv : Nat → Int32) (pd : Nat → Int32) (fo : Nat → Int32) (to : Nat → Int32) (ou : Nat → Int32) (kn : Int32) (ln : Int32) (mn : Nat) (la : Nat) (op : Int32) (wr : Int32) (c : Nat) (hpk : x_pk mn la op to) (hc : c < 65536) : xMi l yX8_goes wsX8_goes { frames := 2, cells := 0, slots := 0, locals := 45 } D q [.ref b0, .int (nI c)] [mW q b0 b1 b2 b3 b4 b5 b6 b7 b8 s p sl sv pd fo to ou kn ln (nI mn) (nI la) op wr] (fun r gw => ∃ (mn2 : Nat), ∃ (la2 : Nat), ∃ (op2 : Int32), ∃ (to2 : Nat → Int32), gw = [mW q b0 b1 b2 b3 b4 b5 b6 b7 b8 s p sl sv pd fo to2 ou kn ln (nI mn2) (nI la2) op2 wr] ∧ ((r = 1 ∧ (x_step c mn la op to = some (mn2, la2, op2, to2))) ∨ (r = 0 ∧ (x_step c mn la op to = none)))) := by
  refine xMi_of (cc := cX8_goes) (maxL := 3) (rt := .boolean) (by decide) rfl (Nat.le_of_ble_eq_true rfl) (fun v w h => by obtain ⟨_, _, _, _, _, (⟨rfl, _⟩ | ⟨rfl, _⟩)⟩ := h <;> rfl) ?_
  intro p9 e9 s9 m9 a9 below meth c9 A9 Z9 ls H locs F X hl hret
  have hx := F.1.1
  have hb := F.1.2.1
  have in_X8 : ∀ w ∈ wsX80, w ∈ wsX8_goes := by decide +kernel
  have mw_0 : Cond.initialized RX8 ∈ wsX8_goes := by decide +kernel
  have mw_1 : Cond.fieldLink RX8 123 "HatWindsModel" "last" "I" ∈ wsX8_goes := by decide +kernel
  have mw_2 : Cond.fieldLink RX8 29 "HatWindsModel" "told" "[I" ∈ wsX8_goes := by decide +kernel
  have mw_3 : Cond.fieldLink RX8 117 "HatWindsModel" "many" "I" ∈ wsX8_goes := by decide +kernel
  have hl : lv_has ls 3 [(0, .ref b0), (1, .int (nI c))] := hl
  have hm20 := hpk.1
  have hla7 := hpk.2.1
  refine lv_iload_n hx hb dX8_goes_0 rfl (lv_at hl 1 rfl) ?_
  refine lv_bipush (v := 48) hx hb dX8_goes_1 (by decide) ?_
  refine lv_bipush (v := 57) hx hb dX8_goes_3 (by decide) ?_
  refine x_cSi F X (gc := []) (gr := [mW q b0 b1 b2 b3 b4 b5 b6 b7 b8 s p sl sv pd fo to ou kn ln (nI mn) (nI la) op wr]) (xp_idx (n := 1) [0] (by decide +kernel) rfl rfl) (c_X8_inN l D q c 48 57 (by first | assumption | omega) (by first | assumption | omega) (by first | assumption | omega)) (va_cwS 3 F.1.2.2.2.2 gX8_goes_X8_in rfl rfl rfl (by decide +kernel) ⟨Nat.le_of_ble_eq_true rfl, Nat.le_of_ble_eq_true rfl⟩) rfl rfl hl.1 ⟨Nat.le_of_ble_eq_true rfl, Nat.le_of_ble_eq_true rfl⟩ (Nat.le_of_ble_eq_true rfl) dX8_goes_5 (fun r_5 g1 H locs hp X => ?_)
  obtain ⟨rfl, hz⟩ := hp
  have X : xS D A9 s9 [mW q b0 b1 b2 b3 b4 b5 b6 b7 b8 s p sl sv pd fo to ou kn ln (nI mn) (nI la) op wr] H locs := X
  rcases hz with ⟨rfl, b_5⟩ | ⟨rfl, b_5⟩
  · refine lv_if_eq (tgt := 18) hx hb dX8_goes_8 (by decide) (fun h => absurd h (by decide)) (fun _ => ?_)
    refine lv_iload_n hx hb dX8_goes_11 rfl (lv_at hl 1 rfl) ?_
    refine lv_bipush (v := 48) hx hb dX8_goes_12 (by decide) ?_
    refine lv_isub hx hb dX8_goes_14 ?_
    refine x_i (y := (nI (c - 48))) (pk_sub (a := c) (b := 48) (by omega)) ?_
    refine lv_goto (tgt := 19) hx hb dX8_goes_15 (by decide) ?_
    refine lv_istore_n (lv' := [(2, .int (nI (c - 48))), (0, .ref b0), (1, .int (nI c))]) hx hb dX8_goes_19 rfl hl (by decide) rfl (fun ls hl => ?_)
    refine lv_aload_n hx hb dX8_goes_20 rfl (lv_at hl 1 rfl) ?_
    refine x_get F X (v := .int (nI la)) (C := RX8) (T := TX8) (N := 14) (ci := 8) in_X8 0 rfl rfl 10 (by decide) mw_1 rfl dX8_goes_21 ?_
    refine lv_if_ne (tgt := 33) hx hb dX8_goes_24 (by decide) (fun c_24 => ?_) (fun c_24 => ?_)
    · have c_24 : ¬ (la = 0) := fun h => c_24 ((nI_eq (a := la) (b := 0) (by omega) (by omega)).mpr h)
      have hz0 : la ≠ 0 := c_24
      have hmn := x_pk_mn hpk hz0
      refine lv_iload_n hx hb dX8_goes_33 rfl (lv_at hl 2 rfl) ?_
      refine lv_bipush (v := 97) hx hb dX8_goes_34 (by decide) ?_
      refine lv_bipush (v := 101) hx hb dX8_goes_36 (by decide) ?_
      refine x_cSi F X (gc := []) (gr := [mW q b0 b1 b2 b3 b4 b5 b6 b7 b8 s p sl sv pd fo to ou kn ln (nI mn) (nI la) op wr]) (xp_idx (n := 1) [0] (by decide +kernel) rfl rfl) (c_X8_inN l D q c 97 101 (by first | assumption | omega) (by first | assumption | omega) (by first | assumption | omega)) (va_cwS 3 F.1.2.2.2.2 gX8_goes_X8_in rfl rfl rfl (by decide +kernel) ⟨Nat.le_of_ble_eq_true rfl, Nat.le_of_ble_eq_true rfl⟩) rfl rfl hl.1 ⟨Nat.le_of_ble_eq_true rfl, Nat.le_of_ble_eq_true rfl⟩ (Nat.le_of_ble_eq_true rfl) dX8_goes_38 (fun r_38 g1 H locs hp X => ?_)
      obtain ⟨rfl, hz⟩ := hp
      have X : xS D A9 s9 [mW q b0 b1 b2 b3 b4 b5 b6 b7 b8 s p sl sv pd fo to ou kn ln (nI mn) (nI la) op wr] H locs := X
      rcases hz with ⟨rfl, b_38⟩ | ⟨rfl, b_38⟩
      · refine lv_if_eq (tgt := 80) hx hb dX8_goes_41 (by decide) (fun h => absurd h (by decide)) (fun _ => ?_)
        exfalso; omega
      · refine lv_if_eq (tgt := 80) hx hb dX8_goes_41 (by decide) (fun _ => ?_) (fun h => absurd (by decide) h)
        refine lv_iload_n hx hb dX8_goes_80 rfl (lv_at hl 2 rfl) ?_
        refine lv_bipush (v := 33) hx hb dX8_goes_81 (by decide) ?_
        refine lv_icmp_ne (tgt := 125) hx hb dX8_goes_83 (by decide) (fun c_83 => ?_) (fun c_83 => ?_)
        · have c_83 : ¬ (c = 33) := fun h => c_83 ((nI_eq (a := c) (b := 33) (by omega) (by omega)).mpr h)
          refine lv_iload_n hx hb dX8_goes_125 rfl (lv_at hl 2 rfl) ?_
          refine lv_bipush (v := 42) hx hb dX8_goes_126 (by decide) ?_
          refine lv_icmp_ne (tgt := 150) hx hb dX8_goes_128 (by decide) (fun c_128 => ?_) (fun c_128 => ?_)
          · have c_128 : ¬ (c = 42) := fun h => c_128 ((nI_eq (a := c) (b := 42) (by omega) (by omega)).mpr h)
            refine lv_iload_n hx hb dX8_goes_150 rfl (lv_at hl 2 rfl) ?_
            refine lv_bipush (v := 40) hx hb dX8_goes_151 (by decide) ?_
            refine lv_icmp_eq (tgt := 168) hx hb dX8_goes_153 (by decide) (fun c_153 => ?_) (fun c_153 => ?_)
            · have c_153 : c = 40 := (nI_eq (a := c) (b := 40) (by omega) (by omega)).mp c_153
              exfalso; omega
            · have c_153 : ¬ (c = 40) := fun h => c_153 ((nI_eq (a := c) (b := 40) (by omega) (by omega)).mpr h)
              refine lv_iload_n hx hb dX8_goes_156 rfl (lv_at hl 2 rfl) ?_
              refine lv_bipush (v := 44) hx hb dX8_goes_157 (by decide) ?_
              refine lv_icmp_eq (tgt := 168) hx hb dX8_goes_159 (by decide) (fun c_159 => ?_) (fun c_159 => ?_)
              · have c_159 : c = 44 := (nI_eq (a := c) (b := 44) (by omega) (by omega)).mp c_159
                exfalso; omega
              · have c_159 : ¬ (c = 44) := fun h => c_159 ((nI_eq (a := c) (b := 44) (by omega) (by omega)).mpr h)
                refine lv_iload_n hx hb dX8_goes_162 rfl (lv_at hl 2 rfl) ?_
                refine lv_bipush (v := 41) hx hb dX8_goes_163 (by decide) ?_
                refine lv_icmp_ne (tgt := 176) hx hb dX8_goes_165 (by decide) (fun c_165 => ?_) (fun c_165 => ?_)
                · have c_165 : ¬ (c = 41) := fun h => c_165 ((nI_eq (a := c) (b := 41) (by omega) (by omega)).mpr h)
                  refine lv_aload_n hx hb dX8_goes_176 rfl (lv_at hl 1 rfl) ?_
                  refine lv_iload_n hx hb dX8_goes_177 rfl (lv_at hl 0 rfl) ?_
                  refine x_cVi F X (gc := [mW q b0 b1 b2 b3 b4 b5 b6 b7 b8 s p sl sv pd fo to ou kn ln (nI mn) (nI la) op wr]) (gr := []) (xp_idx (n := 1) [0] (by decide +kernel) rfl rfl) (c_X8_counts l D q b0 b1 b2 b3 b4 b5 b6 b7 b8 s p sl sv pd fo to ou kn ln mn la op wr (nI (c - 48)) (by first | assumption | omega) (by first | assumption | omega)) (cwV 1 F.1.2.2.2.2 gX8_goes_X8_counts rfl rfl rfl (by decide +kernel) ⟨Nat.le_of_ble_eq_true rfl, Nat.le_of_ble_eq_true rfl⟩) rfl rfl (r0 := 0) (ci := 8) (T := TX8) (N := 14) rfl rfl hl.1 ⟨Nat.le_of_ble_eq_true rfl, Nat.le_of_ble_eq_true rfl⟩ (Nat.le_of_ble_eq_true rfl) dX8_goes_178 (fun r_178 g1 H locs hp X => ?_)
                  obtain ⟨mn2_178, la2_178, op2_178, to2_178, rfl, hz⟩ := hp
                  have X : xS D A9 s9 [mW q b0 b1 b2 b3 b4 b5 b6 b7 b8 s p sl sv pd fo to2_178 ou kn ln (nI mn2_178) (nI la2_178) op2_178 wr] H locs := X
                  rcases hz with ⟨rfl, b_178⟩ | ⟨rfl, b_178⟩
                  · refine hret _ _ _ _ _ _ ?_ X dX8_goes_181
                    obtain ⟨⟨h1, h2⟩, rfl, rfl, rfl, rfl⟩ := b_178
                    refine ⟨_, _, _, _, rfl, Or.inl ⟨rfl, ?_⟩⟩
                    unfold x_step
                    repeat (first | rw [if_pos (by omega)] | rw [if_neg (by omega)])
                    have e0 : nI (c - 48) = 0 ↔ c = 48 := ⟨fun e => by have := (nI_eq (a := c - 48) (b := 0) (by omega) (by omega)).mp e; omega, fun e => by subst e; rfl⟩
                    by_cases q : la = 5 ∨ c = 48
                    · rw [if_pos q, if_pos (q.imp id e0.mpr)]
                    · rw [if_neg q, if_neg (fun z => q (z.imp id e0.mp))]
                  · refine hret _ _ _ _ _ _ ?_ X dX8_goes_181
                    refine ⟨_, _, _, _, rfl, Or.inr ⟨rfl, ?_⟩⟩
                    have h9 : ¬ (la = 4 ∨ la = 5) := fun z => b_178 ⟨z, nI_le (a := 0) (by omega) (by omega)⟩
                    unfold x_step
                    repeat (first | rw [if_pos (by omega)] | rw [if_neg (by omega)])
                · have c_165 : c = 41 := (nI_eq (a := c) (b := 41) (by omega) (by omega)).mp c_165
                  exfalso; omega
          · have c_128 : c = 42 := (nI_eq (a := c) (b := 42) (by omega) (by omega)).mp c_128
            exfalso; omega
        · have c_83 : c = 33 := (nI_eq (a := c) (b := 33) (by omega) (by omega)).mp c_83
          exfalso; omega
    · have c_24 : la = 0 := (nI_eq (a := la) (b := 0) (by omega) (by omega)).mp c_24
      refine lv_aload_n hx hb dX8_goes_27 rfl (lv_at hl 1 rfl) ?_
      refine lv_iload_n hx hb dX8_goes_28 rfl (lv_at hl 0 rfl) ?_
      refine x_cVi F X (gc := [mW q b0 b1 b2 b3 b4 b5 b6 b7 b8 s p sl sv pd fo to ou kn ln (nI mn) (nI la) op wr]) (gr := []) (xp_idx (n := 1) [0] (by decide +kernel) rfl rfl) (c_X8_begins l D q b0 b1 b2 b3 b4 b5 b6 b7 b8 s p sl sv pd fo to ou kn ln mn la op wr (nI (c - 48)) (by first | assumption | omega)) (cwV 1 F.1.2.2.2.2 gX8_goes_X8_begins rfl rfl rfl (by decide +kernel) ⟨Nat.le_of_ble_eq_true rfl, Nat.le_of_ble_eq_true rfl⟩) rfl rfl (r0 := 0) (ci := 8) (T := TX8) (N := 14) rfl rfl hl.1 ⟨Nat.le_of_ble_eq_true rfl, Nat.le_of_ble_eq_true rfl⟩ (Nat.le_of_ble_eq_true rfl) dX8_goes_29 (fun r_29 g1 H locs hp X => ?_)
      obtain ⟨mn2_29, la2_29, op2_29, to2_29, rfl, hz⟩ := hp
      have X : xS D A9 s9 [mW q b0 b1 b2 b3 b4 b5 b6 b7 b8 s p sl sv pd fo to2_29 ou kn ln (nI mn2_29) (nI la2_29) op2_29 wr] H locs := X
      rcases hz with ⟨rfl, b_29⟩ | ⟨rfl, b_29⟩
      · refine hret _ _ _ _ _ _ ?_ X dX8_goes_32
        obtain ⟨⟨⟨h1, h2⟩, h3⟩, rfl, rfl, rfl, rfl⟩ := b_29
        refine ⟨_, _, _, _, rfl, Or.inl ⟨rfl, ?_⟩⟩
        have h4 := (nI_leI (a := 1) (b := c - 48) (by omega) (by omega)).mp h1
        unfold x_step
        rw [if_pos (by omega), if_pos ⟨by omega, h3⟩]
      · refine hret _ _ _ _ _ _ ?_ X dX8_goes_32
        refine ⟨_, _, _, _, rfl, Or.inr ⟨rfl, ?_⟩⟩
        unfold x_step
        rw [if_pos (by omega), if_neg (fun h => b_29 ⟨⟨nI_le (a := 1) (by omega) (by omega), nI_le (b := 9) (by omega) (by omega)⟩, h.2⟩)]
  · refine lv_if_eq (tgt := 18) hx hb dX8_goes_8 (by decide) (fun _ => ?_) (fun h => absurd (by decide) h)
    refine lv_iconst (v := (-1)) hx hb dX8_goes_18 (by decide) ?_
    refine lv_istore_n (lv' := [(2, .int (-1)), (0, .ref b0), (1, .int (nI c))]) hx hb dX8_goes_19 rfl hl (by decide) rfl (fun ls hl => ?_)
    refine lv_aload_n hx hb dX8_goes_20 rfl (lv_at hl 1 rfl) ?_
    refine x_get F X (v := .int (nI la)) (C := RX8) (T := TX8) (N := 14) (ci := 8) in_X8 0 rfl rfl 10 (by decide) mw_1 rfl dX8_goes_21 ?_
    refine lv_if_ne (tgt := 33) hx hb dX8_goes_24 (by decide) (fun c_24 => ?_) (fun c_24 => ?_)
    · have c_24 : ¬ (la = 0) := fun h => c_24 ((nI_eq (a := la) (b := 0) (by omega) (by omega)).mpr h)
      have hz0 : la ≠ 0 := c_24
      have hmn := x_pk_mn hpk hz0
      refine lv_iload_n hx hb dX8_goes_33 rfl (lv_at hl 2 rfl) ?_
      refine lv_bipush (v := 97) hx hb dX8_goes_34 (by decide) ?_
      refine lv_bipush (v := 101) hx hb dX8_goes_36 (by decide) ?_
      refine x_cSi F X (gc := []) (gr := [mW q b0 b1 b2 b3 b4 b5 b6 b7 b8 s p sl sv pd fo to ou kn ln (nI mn) (nI la) op wr]) (xp_idx (n := 1) [0] (by decide +kernel) rfl rfl) (c_X8_inN l D q c 97 101 (by first | assumption | omega) (by first | assumption | omega) (by first | assumption | omega)) (va_cwS 3 F.1.2.2.2.2 gX8_goes_X8_in rfl rfl rfl (by decide +kernel) ⟨Nat.le_of_ble_eq_true rfl, Nat.le_of_ble_eq_true rfl⟩) rfl rfl hl.1 ⟨Nat.le_of_ble_eq_true rfl, Nat.le_of_ble_eq_true rfl⟩ (Nat.le_of_ble_eq_true rfl) dX8_goes_38 (fun r_38 g1 H locs hp X => ?_)
      obtain ⟨rfl, hz⟩ := hp
      have X : xS D A9 s9 [mW q b0 b1 b2 b3 b4 b5 b6 b7 b8 s p sl sv pd fo to ou kn ln (nI mn) (nI la) op wr] H locs := X
      rcases hz with ⟨rfl, b_38⟩ | ⟨rfl, b_38⟩
      · refine lv_if_eq (tgt := 80) hx hb dX8_goes_41 (by decide) (fun h => absurd h (by decide)) (fun _ => ?_)
        refine lv_aload_n hx hb dX8_goes_44 rfl (lv_at hl 1 rfl) ?_
        refine x_get F X (v := .int (nI la)) (C := RX8) (T := TX8) (N := 14) (ci := 8) in_X8 0 rfl rfl 10 (by decide) mw_1 rfl dX8_goes_45 ?_
        refine lv_iconst (v := 1) hx hb dX8_goes_48 (by decide) ?_
        refine lv_icmp_ne (tgt := 80) hx hb dX8_goes_49 (by decide) (fun c_49 => ?_) (fun c_49 => ?_)
        · have c_49 : ¬ (la = 1) := fun h => c_49 ((nI_eq (a := la) (b := 1) (by omega) (by omega)).mpr h)
          refine lv_iload_n hx hb dX8_goes_80 rfl (lv_at hl 2 rfl) ?_
          refine lv_bipush (v := 33) hx hb dX8_goes_81 (by decide) ?_
          refine lv_icmp_ne (tgt := 125) hx hb dX8_goes_83 (by decide) (fun c_83 => ?_) (fun c_83 => ?_)
          · have c_83 : ¬ (c = 33) := fun h => c_83 ((nI_eq (a := c) (b := 33) (by omega) (by omega)).mpr h)
            refine lv_iload_n hx hb dX8_goes_125 rfl (lv_at hl 2 rfl) ?_
            refine lv_bipush (v := 42) hx hb dX8_goes_126 (by decide) ?_
            refine lv_icmp_ne (tgt := 150) hx hb dX8_goes_128 (by decide) (fun c_128 => ?_) (fun c_128 => ?_)
            · have c_128 : ¬ (c = 42) := fun h => c_128 ((nI_eq (a := c) (b := 42) (by omega) (by omega)).mpr h)
              refine lv_iload_n hx hb dX8_goes_150 rfl (lv_at hl 2 rfl) ?_
              refine lv_bipush (v := 40) hx hb dX8_goes_151 (by decide) ?_
              refine lv_icmp_eq (tgt := 168) hx hb dX8_goes_153 (by decide) (fun c_153 => ?_) (fun c_153 => ?_)
              · have c_153 : c = 40 := (nI_eq (a := c) (b := 40) (by omega) (by omega)).mp c_153
                exfalso; omega
              · have c_153 : ¬ (c = 40) := fun h => c_153 ((nI_eq (a := c) (b := 40) (by omega) (by omega)).mpr h)
                refine lv_iload_n hx hb dX8_goes_156 rfl (lv_at hl 2 rfl) ?_
                refine lv_bipush (v := 44) hx hb dX8_goes_157 (by decide) ?_
                refine lv_icmp_eq (tgt := 168) hx hb dX8_goes_159 (by decide) (fun c_159 => ?_) (fun c_159 => ?_)
                · have c_159 : c = 44 := (nI_eq (a := c) (b := 44) (by omega) (by omega)).mp c_159
                  exfalso; omega
                · have c_159 : ¬ (c = 44) := fun h => c_159 ((nI_eq (a := c) (b := 44) (by omega) (by omega)).mpr h)
                  refine lv_iload_n hx hb dX8_goes_162 rfl (lv_at hl 2 rfl) ?_
                  refine lv_bipush (v := 41) hx hb dX8_goes_163 (by decide) ?_
                  refine lv_icmp_ne (tgt := 176) hx hb dX8_goes_165 (by decide) (fun c_165 => ?_) (fun c_165 => ?_)
                  · have c_165 : ¬ (c = 41) := fun h => c_165 ((nI_eq (a := c) (b := 41) (by omega) (by omega)).mpr h)
                    refine lv_aload_n hx hb dX8_goes_176 rfl (lv_at hl 1 rfl) ?_
                    refine lv_iload_n hx hb dX8_goes_177 rfl (lv_at hl 0 rfl) ?_
                    refine x_cVi F X (gc := [mW q b0 b1 b2 b3 b4 b5 b6 b7 b8 s p sl sv pd fo to ou kn ln (nI mn) (nI la) op wr]) (gr := []) (xp_idx (n := 1) [0] (by decide +kernel) rfl rfl) (c_X8_counts l D q b0 b1 b2 b3 b4 b5 b6 b7 b8 s p sl sv pd fo to ou kn ln mn la op wr (-1) (by first | assumption | omega) (by first | assumption | omega)) (cwV 1 F.1.2.2.2.2 gX8_goes_X8_counts rfl rfl rfl (by decide +kernel) ⟨Nat.le_of_ble_eq_true rfl, Nat.le_of_ble_eq_true rfl⟩) rfl rfl (r0 := 0) (ci := 8) (T := TX8) (N := 14) rfl rfl hl.1 ⟨Nat.le_of_ble_eq_true rfl, Nat.le_of_ble_eq_true rfl⟩ (Nat.le_of_ble_eq_true rfl) dX8_goes_178 (fun r_178 g1 H locs hp X => ?_)
                    obtain ⟨mn2_178, la2_178, op2_178, to2_178, rfl, hz⟩ := hp
                    have X : xS D A9 s9 [mW q b0 b1 b2 b3 b4 b5 b6 b7 b8 s p sl sv pd fo to2_178 ou kn ln (nI mn2_178) (nI la2_178) op2_178 wr] H locs := X
                    rcases hz with ⟨rfl, b_178⟩ | ⟨rfl, b_178⟩
                    · refine hret _ _ _ _ _ _ ?_ X dX8_goes_181
                      obtain ⟨⟨h1, h2⟩, -⟩ := b_178
                      exact absurd h2 (by decide)
                    · refine hret _ _ _ _ _ _ ?_ X dX8_goes_181
                      refine ⟨_, _, _, _, rfl, Or.inr ⟨rfl, ?_⟩⟩
                      unfold x_step
                      repeat (first | rw [if_pos (by omega)] | rw [if_neg (by omega)])
                  · have c_165 : c = 41 := (nI_eq (a := c) (b := 41) (by omega) (by omega)).mp c_165
                    exfalso; omega
            · have c_128 : c = 42 := (nI_eq (a := c) (b := 42) (by omega) (by omega)).mp c_128
              exfalso; omega
          · have c_83 : c = 33 := (nI_eq (a := c) (b := 33) (by omega) (by omega)).mp c_83
            exfalso; omega
        · have c_49 : la = 1 := (nI_eq (a := la) (b := 1) (by omega) (by omega)).mp c_49
          refine lv_aload_n hx hb dX8_goes_52 rfl (lv_at hl 1 rfl) ?_
          refine x_get F X (v := .ref b7) (C := RX8) (T := TX8) (N := 14) (ci := 8) in_X8 0 rfl rfl 8 (by decide) mw_2 rfl dX8_goes_53 ?_
          refine lv_iconst (v := 5) hx hb dX8_goes_56 (by decide) ?_
          refine lv_aload_n hx hb dX8_goes_57 rfl (lv_at hl 1 rfl) ?_
          refine x_get F X (v := .int (nI mn)) (C := RX8) (T := TX8) (N := 14) (ci := 8) in_X8 0 rfl rfl 9 (by decide) mw_3 rfl dX8_goes_58 ?_
          refine lv_imul hx hb dX8_goes_61 ?_
          refine x_i (y := (nI (5 * mn))) (pk_mul 5 mn) ?_
          refine lv_iconst (v := 5) hx hb dX8_goes_62 (by decide) ?_
          refine lv_isub hx hb dX8_goes_63 ?_
          refine x_i (y := (nI ((5 * mn) - 5))) (pk_sub (a := (5 * mn)) (b := 5) (by omega)) ?_
          refine lv_iconst (v := 2) hx hb dX8_goes_64 (by decide) ?_
          refine lv_iadd hx hb dX8_goes_65 ?_
          refine x_i (y := (nI ((5 * mn) - 5 + 2))) (nI_add ((5 * mn) - 5) 2) ?_
          refine lv_iload_n hx hb dX8_goes_66 rfl (lv_at hl 2 rfl) ?_
          refine lv_bipush (v := 97) hx hb dX8_goes_67 (by decide) ?_
          refine lv_isub hx hb dX8_goes_69 ?_
          refine x_i (y := (nI (c - 97))) (pk_sub (a := c) (b := 97) (by omega)) ?_
          refine lv_iconst (v := 1) hx hb dX8_goes_70 (by decide) ?_
          refine lv_iadd hx hb dX8_goes_71 ?_
          refine x_i (y := (nI (c - 97 + 1))) (nI_add (c - 97) 1) ?_
          refine x_iast F X (gs' := [mW q b0 b1 b2 b3 b4 b5 b6 b7 b8 s p sl sv pd fo (upd to ((5 * mn) - 5 + 2) (nI (c - 97 + 1))) ou kn ln (nI mn) (nI la) op wr]) (n := 100) (f := to) (k := ((5 * mn) - 5 + 2)) 7 rfl (vp_in_nI (by omega) (by omega)) (nI_clamp (by omega)) dX8_goes_72 rfl (fun H locs X => ?_)
          refine lv_aload_n hx hb dX8_goes_73 rfl (lv_at hl 1 rfl) ?_
          refine lv_iconst (v := 2) hx hb dX8_goes_74 (by decide) ?_
          refine x_put F X (gs' := [mW q b0 b1 b2 b3 b4 b5 b6 b7 b8 s p sl sv pd fo (upd to ((5 * mn) - 5 + 2) (nI (c - 97 + 1))) ou kn ln (nI mn) 2 op wr]) (v := .int 2) (C := RX8) (T := TX8) (N := 14) (ci := 8) in_X8 tyX8 tyX8_ok nmX8 0 rfl rfl 10 (by decide) mw_1 rfl rfl rfl (Nat.le_of_ble_eq_true rfl) dX8_goes_75 rfl (fun H locs X => ?_)
          refine lv_iconst (v := 1) hx hb dX8_goes_78 (by decide) ?_
          refine hret _ _ _ _ _ _ ?_ X dX8_goes_79
          refine ⟨mn, 2, op, _, rfl, Or.inl ⟨rfl, ?_⟩⟩
          unfold x_step
          repeat (first | rw [if_pos (by omega)] | rw [if_neg (by omega)])
      · refine lv_if_eq (tgt := 80) hx hb dX8_goes_41 (by decide) (fun _ => ?_) (fun h => absurd (by decide) h)
        refine lv_iload_n hx hb dX8_goes_80 rfl (lv_at hl 2 rfl) ?_
        refine lv_bipush (v := 33) hx hb dX8_goes_81 (by decide) ?_
        refine lv_icmp_ne (tgt := 125) hx hb dX8_goes_83 (by decide) (fun c_83 => ?_) (fun c_83 => ?_)
        · have c_83 : ¬ (c = 33) := fun h => c_83 ((nI_eq (a := c) (b := 33) (by omega) (by omega)).mpr h)
          refine lv_iload_n hx hb dX8_goes_125 rfl (lv_at hl 2 rfl) ?_
          refine lv_bipush (v := 42) hx hb dX8_goes_126 (by decide) ?_
          refine lv_icmp_ne (tgt := 150) hx hb dX8_goes_128 (by decide) (fun c_128 => ?_) (fun c_128 => ?_)
          · have c_128 : ¬ (c = 42) := fun h => c_128 ((nI_eq (a := c) (b := 42) (by omega) (by omega)).mpr h)
            refine lv_iload_n hx hb dX8_goes_150 rfl (lv_at hl 2 rfl) ?_
            refine lv_bipush (v := 40) hx hb dX8_goes_151 (by decide) ?_
            refine lv_icmp_eq (tgt := 168) hx hb dX8_goes_153 (by decide) (fun c_153 => ?_) (fun c_153 => ?_)
            · have c_153 : c = 40 := (nI_eq (a := c) (b := 40) (by omega) (by omega)).mp c_153
              refine lv_aload_n hx hb dX8_goes_168 rfl (lv_at hl 1 rfl) ?_
              refine lv_iload_n hx hb dX8_goes_169 rfl (lv_at hl 2 rfl) ?_
              refine x_cVi F X (gc := [mW q b0 b1 b2 b3 b4 b5 b6 b7 b8 s p sl sv pd fo to ou kn ln (nI mn) (nI la) op wr]) (gr := []) (xp_idx (n := 1) [0] (by decide +kernel) rfl rfl) (c_X8_turns l D q b0 b1 b2 b3 b4 b5 b6 b7 b8 s p sl sv pd fo to ou kn ln mn la op wr c (by first | assumption | omega) (by omega) (by first | assumption | omega)) (cwV 1 F.1.2.2.2.2 gX8_goes_X8_turns rfl rfl rfl (by decide +kernel) ⟨Nat.le_of_ble_eq_true rfl, Nat.le_of_ble_eq_true rfl⟩) rfl rfl (r0 := 0) (ci := 8) (T := TX8) (N := 14) rfl rfl hl.1 ⟨Nat.le_of_ble_eq_true rfl, Nat.le_of_ble_eq_true rfl⟩ (Nat.le_of_ble_eq_true rfl) dX8_goes_170 (fun r_170 g1 H locs hp X => ?_)
              obtain ⟨mn2_170, la2_170, op2_170, to2_170, rfl, hz⟩ := hp
              have X : xS D A9 s9 [mW q b0 b1 b2 b3 b4 b5 b6 b7 b8 s p sl sv pd fo to2_170 ou kn ln (nI mn2_170) (nI la2_170) op2_170 wr] H locs := X
              rcases hz with ⟨rfl, b_170⟩ | ⟨rfl, b_170⟩
              · refine lv_goto (tgt := 181) hx hb dX8_goes_173 (by decide) ?_
                exact hret _ _ _ _ _ _ (by exact ⟨_, _, _, _, rfl, Or.inl ⟨rfl, b_170⟩⟩) X dX8_goes_181
              · refine lv_goto (tgt := 181) hx hb dX8_goes_173 (by decide) ?_
                exact hret _ _ _ _ _ _ (by exact ⟨_, _, _, _, rfl, Or.inr ⟨rfl, b_170⟩⟩) X dX8_goes_181
            · have c_153 : ¬ (c = 40) := fun h => c_153 ((nI_eq (a := c) (b := 40) (by omega) (by omega)).mpr h)
              refine lv_iload_n hx hb dX8_goes_156 rfl (lv_at hl 2 rfl) ?_
              refine lv_bipush (v := 44) hx hb dX8_goes_157 (by decide) ?_
              refine lv_icmp_eq (tgt := 168) hx hb dX8_goes_159 (by decide) (fun c_159 => ?_) (fun c_159 => ?_)
              · have c_159 : c = 44 := (nI_eq (a := c) (b := 44) (by omega) (by omega)).mp c_159
                refine lv_aload_n hx hb dX8_goes_168 rfl (lv_at hl 1 rfl) ?_
                refine lv_iload_n hx hb dX8_goes_169 rfl (lv_at hl 2 rfl) ?_
                refine x_cVi F X (gc := [mW q b0 b1 b2 b3 b4 b5 b6 b7 b8 s p sl sv pd fo to ou kn ln (nI mn) (nI la) op wr]) (gr := []) (xp_idx (n := 1) [0] (by decide +kernel) rfl rfl) (c_X8_turns l D q b0 b1 b2 b3 b4 b5 b6 b7 b8 s p sl sv pd fo to ou kn ln mn la op wr c (by first | assumption | omega) (by omega) (by first | assumption | omega)) (cwV 1 F.1.2.2.2.2 gX8_goes_X8_turns rfl rfl rfl (by decide +kernel) ⟨Nat.le_of_ble_eq_true rfl, Nat.le_of_ble_eq_true rfl⟩) rfl rfl (r0 := 0) (ci := 8) (T := TX8) (N := 14) rfl rfl hl.1 ⟨Nat.le_of_ble_eq_true rfl, Nat.le_of_ble_eq_true rfl⟩ (Nat.le_of_ble_eq_true rfl) dX8_goes_170 (fun r_170 g1 H locs hp X => ?_)
                obtain ⟨mn2_170, la2_170, op2_170, to2_170, rfl, hz⟩ := hp
                have X : xS D A9 s9 [mW q b0 b1 b2 b3 b4 b5 b6 b7 b8 s p sl sv pd fo to2_170 ou kn ln (nI mn2_170) (nI la2_170) op2_170 wr] H locs := X
                rcases hz with ⟨rfl, b_170⟩ | ⟨rfl, b_170⟩
                · refine lv_goto (tgt := 181) hx hb dX8_goes_173 (by decide) ?_
                  exact hret _ _ _ _ _ _ (by exact ⟨_, _, _, _, rfl, Or.inl ⟨rfl, b_170⟩⟩) X dX8_goes_181
                · refine lv_goto (tgt := 181) hx hb dX8_goes_173 (by decide) ?_
                  exact hret _ _ _ _ _ _ (by exact ⟨_, _, _, _, rfl, Or.inr ⟨rfl, b_170⟩⟩) X dX8_goes_181
              · have c_159 : ¬ (c = 44) := fun h => c_159 ((nI_eq (a := c) (b := 44) (by omega) (by omega)).mpr h)
                refine lv_iload_n hx hb dX8_goes_162 rfl (lv_at hl 2 rfl) ?_
                refine lv_bipush (v := 41) hx hb dX8_goes_163 (by decide) ?_
                refine lv_icmp_ne (tgt := 176) hx hb dX8_goes_165 (by decide) (fun c_165 => ?_) (fun c_165 => ?_)
                · have c_165 : ¬ (c = 41) := fun h => c_165 ((nI_eq (a := c) (b := 41) (by omega) (by omega)).mpr h)
                  refine lv_aload_n hx hb dX8_goes_176 rfl (lv_at hl 1 rfl) ?_
                  refine lv_iload_n hx hb dX8_goes_177 rfl (lv_at hl 0 rfl) ?_
                  refine x_cVi F X (gc := [mW q b0 b1 b2 b3 b4 b5 b6 b7 b8 s p sl sv pd fo to ou kn ln (nI mn) (nI la) op wr]) (gr := []) (xp_idx (n := 1) [0] (by decide +kernel) rfl rfl) (c_X8_counts l D q b0 b1 b2 b3 b4 b5 b6 b7 b8 s p sl sv pd fo to ou kn ln mn la op wr (-1) (by first | assumption | omega) (by first | assumption | omega)) (cwV 1 F.1.2.2.2.2 gX8_goes_X8_counts rfl rfl rfl (by decide +kernel) ⟨Nat.le_of_ble_eq_true rfl, Nat.le_of_ble_eq_true rfl⟩) rfl rfl (r0 := 0) (ci := 8) (T := TX8) (N := 14) rfl rfl hl.1 ⟨Nat.le_of_ble_eq_true rfl, Nat.le_of_ble_eq_true rfl⟩ (Nat.le_of_ble_eq_true rfl) dX8_goes_178 (fun r_178 g1 H locs hp X => ?_)
                  obtain ⟨mn2_178, la2_178, op2_178, to2_178, rfl, hz⟩ := hp
                  have X : xS D A9 s9 [mW q b0 b1 b2 b3 b4 b5 b6 b7 b8 s p sl sv pd fo to2_178 ou kn ln (nI mn2_178) (nI la2_178) op2_178 wr] H locs := X
                  rcases hz with ⟨rfl, b_178⟩ | ⟨rfl, b_178⟩
                  · refine hret _ _ _ _ _ _ ?_ X dX8_goes_181
                    obtain ⟨⟨h1, h2⟩, -⟩ := b_178
                    exact absurd h2 (by decide)
                  · refine hret _ _ _ _ _ _ ?_ X dX8_goes_181
                    refine ⟨_, _, _, _, rfl, Or.inr ⟨rfl, ?_⟩⟩
                    unfold x_step
                    repeat (first | rw [if_pos (by omega)] | rw [if_neg (by omega)])
                · have c_165 : c = 41 := (nI_eq (a := c) (b := 41) (by omega) (by omega)).mp c_165
                  refine lv_aload_n hx hb dX8_goes_168 rfl (lv_at hl 1 rfl) ?_
                  refine lv_iload_n hx hb dX8_goes_169 rfl (lv_at hl 2 rfl) ?_
                  refine x_cVi F X (gc := [mW q b0 b1 b2 b3 b4 b5 b6 b7 b8 s p sl sv pd fo to ou kn ln (nI mn) (nI la) op wr]) (gr := []) (xp_idx (n := 1) [0] (by decide +kernel) rfl rfl) (c_X8_turns l D q b0 b1 b2 b3 b4 b5 b6 b7 b8 s p sl sv pd fo to ou kn ln mn la op wr c (by first | assumption | omega) (by omega) (by first | assumption | omega)) (cwV 1 F.1.2.2.2.2 gX8_goes_X8_turns rfl rfl rfl (by decide +kernel) ⟨Nat.le_of_ble_eq_true rfl, Nat.le_of_ble_eq_true rfl⟩) rfl rfl (r0 := 0) (ci := 8) (T := TX8) (N := 14) rfl rfl hl.1 ⟨Nat.le_of_ble_eq_true rfl, Nat.le_of_ble_eq_true rfl⟩ (Nat.le_of_ble_eq_true rfl) dX8_goes_170 (fun r_170 g1 H locs hp X => ?_)
                  obtain ⟨mn2_170, la2_170, op2_170, to2_170, rfl, hz⟩ := hp
                  have X : xS D A9 s9 [mW q b0 b1 b2 b3 b4 b5 b6 b7 b8 s p sl sv pd fo to2_170 ou kn ln (nI mn2_170) (nI la2_170) op2_170 wr] H locs := X
                  rcases hz with ⟨rfl, b_170⟩ | ⟨rfl, b_170⟩
                  · refine lv_goto (tgt := 181) hx hb dX8_goes_173 (by decide) ?_
                    exact hret _ _ _ _ _ _ (by exact ⟨_, _, _, _, rfl, Or.inl ⟨rfl, b_170⟩⟩) X dX8_goes_181
                  · refine lv_goto (tgt := 181) hx hb dX8_goes_173 (by decide) ?_
                    exact hret _ _ _ _ _ _ (by exact ⟨_, _, _, _, rfl, Or.inr ⟨rfl, b_170⟩⟩) X dX8_goes_181
          · have c_128 : c = 42 := (nI_eq (a := c) (b := 42) (by omega) (by omega)).mp c_128
            refine lv_aload_n hx hb dX8_goes_131 rfl (lv_at hl 1 rfl) ?_
            refine x_get F X (v := .int (nI la)) (C := RX8) (T := TX8) (N := 14) (ci := 8) in_X8 0 rfl rfl 10 (by decide) mw_1 rfl dX8_goes_132 ?_
            refine lv_iconst (v := 1) hx hb dX8_goes_135 (by decide) ?_
            refine lv_iconst (v := 3) hx hb dX8_goes_136 (by decide) ?_
            refine x_cSi F X (gc := []) (gr := [mW q b0 b1 b2 b3 b4 b5 b6 b7 b8 s p sl sv pd fo to ou kn ln (nI mn) (nI la) op wr]) (xp_idx (n := 1) [0] (by decide +kernel) rfl rfl) (c_X8_inN l D q la 1 3 (by first | assumption | omega) (by first | assumption | omega) (by first | assumption | omega)) (va_cwS 3 F.1.2.2.2.2 gX8_goes_X8_in rfl rfl rfl (by decide +kernel) ⟨Nat.le_of_ble_eq_true rfl, Nat.le_of_ble_eq_true rfl⟩) rfl rfl hl.1 ⟨Nat.le_of_ble_eq_true rfl, Nat.le_of_ble_eq_true rfl⟩ (Nat.le_of_ble_eq_true rfl) dX8_goes_137 (fun r_137 g1 H locs hp X => ?_)
            obtain ⟨rfl, hz⟩ := hp
            have X : xS D A9 s9 [mW q b0 b1 b2 b3 b4 b5 b6 b7 b8 s p sl sv pd fo to ou kn ln (nI mn) (nI la) op wr] H locs := X
            rcases hz with ⟨rfl, b_137⟩ | ⟨rfl, b_137⟩
            · refine lv_if_eq (tgt := 150) hx hb dX8_goes_140 (by decide) (fun h => absurd h (by decide)) (fun _ => ?_)
              refine lv_aload_n hx hb dX8_goes_143 rfl (lv_at hl 1 rfl) ?_
              refine lv_iconst (v := 4) hx hb dX8_goes_144 (by decide) ?_
              refine x_put F X (gs' := [mW q b0 b1 b2 b3 b4 b5 b6 b7 b8 s p sl sv pd fo to ou kn ln (nI mn) 4 op wr]) (v := .int 4) (C := RX8) (T := TX8) (N := 14) (ci := 8) in_X8 tyX8 tyX8_ok nmX8 0 rfl rfl 10 (by decide) mw_1 rfl rfl rfl (Nat.le_of_ble_eq_true rfl) dX8_goes_145 rfl (fun H locs X => ?_)
              refine lv_iconst (v := 1) hx hb dX8_goes_148 (by decide) ?_
              refine hret _ _ _ _ _ _ ?_ X dX8_goes_149
              refine ⟨mn, 4, op, to, rfl, Or.inl ⟨rfl, ?_⟩⟩
              unfold x_step
              repeat (first | rw [if_pos (by omega)] | rw [if_neg (by omega)])
            · refine lv_if_eq (tgt := 150) hx hb dX8_goes_140 (by decide) (fun _ => ?_) (fun h => absurd (by decide) h)
              refine lv_iload_n hx hb dX8_goes_150 rfl (lv_at hl 2 rfl) ?_
              refine lv_bipush (v := 40) hx hb dX8_goes_151 (by decide) ?_
              refine lv_icmp_eq (tgt := 168) hx hb dX8_goes_153 (by decide) (fun c_153 => ?_) (fun c_153 => ?_)
              · have c_153 : c = 40 := (nI_eq (a := c) (b := 40) (by omega) (by omega)).mp c_153
                exfalso; omega
              · have c_153 : ¬ (c = 40) := fun h => c_153 ((nI_eq (a := c) (b := 40) (by omega) (by omega)).mpr h)
                refine lv_iload_n hx hb dX8_goes_156 rfl (lv_at hl 2 rfl) ?_
                refine lv_bipush (v := 44) hx hb dX8_goes_157 (by decide) ?_
                refine lv_icmp_eq (tgt := 168) hx hb dX8_goes_159 (by decide) (fun c_159 => ?_) (fun c_159 => ?_)
                · have c_159 : c = 44 := (nI_eq (a := c) (b := 44) (by omega) (by omega)).mp c_159
                  exfalso; omega
                · have c_159 : ¬ (c = 44) := fun h => c_159 ((nI_eq (a := c) (b := 44) (by omega) (by omega)).mpr h)
                  refine lv_iload_n hx hb dX8_goes_162 rfl (lv_at hl 2 rfl) ?_
                  refine lv_bipush (v := 41) hx hb dX8_goes_163 (by decide) ?_
                  refine lv_icmp_ne (tgt := 176) hx hb dX8_goes_165 (by decide) (fun c_165 => ?_) (fun c_165 => ?_)
                  · have c_165 : ¬ (c = 41) := fun h => c_165 ((nI_eq (a := c) (b := 41) (by omega) (by omega)).mpr h)
                    refine lv_aload_n hx hb dX8_goes_176 rfl (lv_at hl 1 rfl) ?_
                    refine lv_iload_n hx hb dX8_goes_177 rfl (lv_at hl 0 rfl) ?_
                    refine x_cVi F X (gc := [mW q b0 b1 b2 b3 b4 b5 b6 b7 b8 s p sl sv pd fo to ou kn ln (nI mn) (nI la) op wr]) (gr := []) (xp_idx (n := 1) [0] (by decide +kernel) rfl rfl) (c_X8_counts l D q b0 b1 b2 b3 b4 b5 b6 b7 b8 s p sl sv pd fo to ou kn ln mn la op wr (-1) (by first | assumption | omega) (by first | assumption | omega)) (cwV 1 F.1.2.2.2.2 gX8_goes_X8_counts rfl rfl rfl (by decide +kernel) ⟨Nat.le_of_ble_eq_true rfl, Nat.le_of_ble_eq_true rfl⟩) rfl rfl (r0 := 0) (ci := 8) (T := TX8) (N := 14) rfl rfl hl.1 ⟨Nat.le_of_ble_eq_true rfl, Nat.le_of_ble_eq_true rfl⟩ (Nat.le_of_ble_eq_true rfl) dX8_goes_178 (fun r_178 g1 H locs hp X => ?_)
                    obtain ⟨mn2_178, la2_178, op2_178, to2_178, rfl, hz⟩ := hp
                    have X : xS D A9 s9 [mW q b0 b1 b2 b3 b4 b5 b6 b7 b8 s p sl sv pd fo to2_178 ou kn ln (nI mn2_178) (nI la2_178) op2_178 wr] H locs := X
                    rcases hz with ⟨rfl, b_178⟩ | ⟨rfl, b_178⟩
                    · refine hret _ _ _ _ _ _ ?_ X dX8_goes_181
                      obtain ⟨⟨h1, h2⟩, -⟩ := b_178
                      exact absurd h2 (by decide)
                    · refine hret _ _ _ _ _ _ ?_ X dX8_goes_181
                      refine ⟨_, _, _, _, rfl, Or.inr ⟨rfl, ?_⟩⟩
                      unfold x_step
                      repeat (first | rw [if_pos (by omega)] | rw [if_neg (by omega)])
                  · have c_165 : c = 41 := (nI_eq (a := c) (b := 41) (by omega) (by omega)).mp c_165
                    exfalso; omega
        · have c_83 : c = 33 := (nI_eq (a := c) (b := 33) (by omega) (by omega)).mp c_83
          refine lv_aload_n hx hb dX8_goes_86 rfl (lv_at hl 1 rfl) ?_
          refine x_get F X (v := .int (nI la)) (C := RX8) (T := TX8) (N := 14) (ci := 8) in_X8 0 rfl rfl 10 (by decide) mw_1 rfl dX8_goes_87 ?_
          refine lv_iconst (v := 1) hx hb dX8_goes_90 (by decide) ?_
          refine lv_icmp_eq (tgt := 102) hx hb dX8_goes_91 (by decide) (fun c_91 => ?_) (fun c_91 => ?_)
          · have c_91 : la = 1 := (nI_eq (a := la) (b := 1) (by omega) (by omega)).mp c_91
            refine lv_aload_n hx hb dX8_goes_102 rfl (lv_at hl 1 rfl) ?_
            refine x_get F X (v := .ref b7) (C := RX8) (T := TX8) (N := 14) (ci := 8) in_X8 0 rfl rfl 8 (by decide) mw_2 rfl dX8_goes_103 ?_
            refine lv_iconst (v := 5) hx hb dX8_goes_106 (by decide) ?_
            refine lv_aload_n hx hb dX8_goes_107 rfl (lv_at hl 1 rfl) ?_
            refine x_get F X (v := .int (nI mn)) (C := RX8) (T := TX8) (N := 14) (ci := 8) in_X8 0 rfl rfl 9 (by decide) mw_3 rfl dX8_goes_108 ?_
            refine lv_imul hx hb dX8_goes_111 ?_
            refine x_i (y := (nI (5 * mn))) (pk_mul 5 mn) ?_
            refine lv_iconst (v := 5) hx hb dX8_goes_112 (by decide) ?_
            refine lv_isub hx hb dX8_goes_113 ?_
            refine x_i (y := (nI ((5 * mn) - 5))) (pk_sub (a := (5 * mn)) (b := 5) (by omega)) ?_
            refine lv_iconst (v := 3) hx hb dX8_goes_114 (by decide) ?_
            refine lv_iadd hx hb dX8_goes_115 ?_
            refine x_i (y := (nI ((5 * mn) - 5 + 3))) (nI_add ((5 * mn) - 5) 3) ?_
            refine lv_iconst (v := 1) hx hb dX8_goes_116 (by decide) ?_
            refine x_iast F X (gs' := [mW q b0 b1 b2 b3 b4 b5 b6 b7 b8 s p sl sv pd fo (upd to ((5 * mn) - 5 + 3) 1) ou kn ln (nI mn) (nI la) op wr]) (n := 100) (f := to) (k := ((5 * mn) - 5 + 3)) 7 rfl (vp_in_nI (by omega) (by omega)) (nI_clamp (by omega)) dX8_goes_117 rfl (fun H locs X => ?_)
            refine lv_aload_n hx hb dX8_goes_118 rfl (lv_at hl 1 rfl) ?_
            refine lv_iconst (v := 3) hx hb dX8_goes_119 (by decide) ?_
            refine x_put F X (gs' := [mW q b0 b1 b2 b3 b4 b5 b6 b7 b8 s p sl sv pd fo (upd to ((5 * mn) - 5 + 3) 1) ou kn ln (nI mn) 3 op wr]) (v := .int 3) (C := RX8) (T := TX8) (N := 14) (ci := 8) in_X8 tyX8 tyX8_ok nmX8 0 rfl rfl 10 (by decide) mw_1 rfl rfl rfl (Nat.le_of_ble_eq_true rfl) dX8_goes_120 rfl (fun H locs X => ?_)
            refine lv_iconst (v := 1) hx hb dX8_goes_123 (by decide) ?_
            refine hret _ _ _ _ _ _ ?_ X dX8_goes_124
            refine ⟨mn, 3, op, _, rfl, Or.inl ⟨rfl, ?_⟩⟩
            unfold x_step
            repeat (first | rw [if_pos (by omega)] | rw [if_neg (by omega)])
          · have c_91 : ¬ (la = 1) := fun h => c_91 ((nI_eq (a := la) (b := 1) (by omega) (by omega)).mpr h)
            refine lv_aload_n hx hb dX8_goes_94 rfl (lv_at hl 1 rfl) ?_
            refine x_get F X (v := .int (nI la)) (C := RX8) (T := TX8) (N := 14) (ci := 8) in_X8 0 rfl rfl 10 (by decide) mw_1 rfl dX8_goes_95 ?_
            refine lv_iconst (v := 2) hx hb dX8_goes_98 (by decide) ?_
            refine lv_icmp_ne (tgt := 125) hx hb dX8_goes_99 (by decide) (fun c_99 => ?_) (fun c_99 => ?_)
            · have c_99 : ¬ (la = 2) := fun h => c_99 ((nI_eq (a := la) (b := 2) (by omega) (by omega)).mpr h)
              refine lv_iload_n hx hb dX8_goes_125 rfl (lv_at hl 2 rfl) ?_
              refine lv_bipush (v := 42) hx hb dX8_goes_126 (by decide) ?_
              refine lv_icmp_ne (tgt := 150) hx hb dX8_goes_128 (by decide) (fun c_128 => ?_) (fun c_128 => ?_)
              · have c_128 : ¬ (c = 42) := fun h => c_128 ((nI_eq (a := c) (b := 42) (by omega) (by omega)).mpr h)
                refine lv_iload_n hx hb dX8_goes_150 rfl (lv_at hl 2 rfl) ?_
                refine lv_bipush (v := 40) hx hb dX8_goes_151 (by decide) ?_
                refine lv_icmp_eq (tgt := 168) hx hb dX8_goes_153 (by decide) (fun c_153 => ?_) (fun c_153 => ?_)
                · have c_153 : c = 40 := (nI_eq (a := c) (b := 40) (by omega) (by omega)).mp c_153
                  exfalso; omega
                · have c_153 : ¬ (c = 40) := fun h => c_153 ((nI_eq (a := c) (b := 40) (by omega) (by omega)).mpr h)
                  refine lv_iload_n hx hb dX8_goes_156 rfl (lv_at hl 2 rfl) ?_
                  refine lv_bipush (v := 44) hx hb dX8_goes_157 (by decide) ?_
                  refine lv_icmp_eq (tgt := 168) hx hb dX8_goes_159 (by decide) (fun c_159 => ?_) (fun c_159 => ?_)
                  · have c_159 : c = 44 := (nI_eq (a := c) (b := 44) (by omega) (by omega)).mp c_159
                    exfalso; omega
                  · have c_159 : ¬ (c = 44) := fun h => c_159 ((nI_eq (a := c) (b := 44) (by omega) (by omega)).mpr h)
                    refine lv_iload_n hx hb dX8_goes_162 rfl (lv_at hl 2 rfl) ?_
                    refine lv_bipush (v := 41) hx hb dX8_goes_163 (by decide) ?_
                    refine lv_icmp_ne (tgt := 176) hx hb dX8_goes_165 (by decide) (fun c_165 => ?_) (fun c_165 => ?_)
                    · have c_165 : ¬ (c = 41) := fun h => c_165 ((nI_eq (a := c) (b := 41) (by omega) (by omega)).mpr h)
                      refine lv_aload_n hx hb dX8_goes_176 rfl (lv_at hl 1 rfl) ?_
                      refine lv_iload_n hx hb dX8_goes_177 rfl (lv_at hl 0 rfl) ?_
                      refine x_cVi F X (gc := [mW q b0 b1 b2 b3 b4 b5 b6 b7 b8 s p sl sv pd fo to ou kn ln (nI mn) (nI la) op wr]) (gr := []) (xp_idx (n := 1) [0] (by decide +kernel) rfl rfl) (c_X8_counts l D q b0 b1 b2 b3 b4 b5 b6 b7 b8 s p sl sv pd fo to ou kn ln mn la op wr (-1) (by first | assumption | omega) (by first | assumption | omega)) (cwV 1 F.1.2.2.2.2 gX8_goes_X8_counts rfl rfl rfl (by decide +kernel) ⟨Nat.le_of_ble_eq_true rfl, Nat.le_of_ble_eq_true rfl⟩) rfl rfl (r0 := 0) (ci := 8) (T := TX8) (N := 14) rfl rfl hl.1 ⟨Nat.le_of_ble_eq_true rfl, Nat.le_of_ble_eq_true rfl⟩ (Nat.le_of_ble_eq_true rfl) dX8_goes_178 (fun r_178 g1 H locs hp X => ?_)
                      obtain ⟨mn2_178, la2_178, op2_178, to2_178, rfl, hz⟩ := hp
                      have X : xS D A9 s9 [mW q b0 b1 b2 b3 b4 b5 b6 b7 b8 s p sl sv pd fo to2_178 ou kn ln (nI mn2_178) (nI la2_178) op2_178 wr] H locs := X
                      rcases hz with ⟨rfl, b_178⟩ | ⟨rfl, b_178⟩
                      · refine hret _ _ _ _ _ _ ?_ X dX8_goes_181
                        obtain ⟨⟨h1, h2⟩, -⟩ := b_178
                        exact absurd h2 (by decide)
                      · refine hret _ _ _ _ _ _ ?_ X dX8_goes_181
                        refine ⟨_, _, _, _, rfl, Or.inr ⟨rfl, ?_⟩⟩
                        unfold x_step
                        repeat (first | rw [if_pos (by omega)] | rw [if_neg (by omega)])
                    · have c_165 : c = 41 := (nI_eq (a := c) (b := 41) (by omega) (by omega)).mp c_165
                      exfalso; omega
              · have c_128 : c = 42 := (nI_eq (a := c) (b := 42) (by omega) (by omega)).mp c_128
                exfalso; omega
            · have c_99 : la = 2 := (nI_eq (a := la) (b := 2) (by omega) (by omega)).mp c_99
              refine lv_aload_n hx hb dX8_goes_102 rfl (lv_at hl 1 rfl) ?_
              refine x_get F X (v := .ref b7) (C := RX8) (T := TX8) (N := 14) (ci := 8) in_X8 0 rfl rfl 8 (by decide) mw_2 rfl dX8_goes_103 ?_
              refine lv_iconst (v := 5) hx hb dX8_goes_106 (by decide) ?_
              refine lv_aload_n hx hb dX8_goes_107 rfl (lv_at hl 1 rfl) ?_
              refine x_get F X (v := .int (nI mn)) (C := RX8) (T := TX8) (N := 14) (ci := 8) in_X8 0 rfl rfl 9 (by decide) mw_3 rfl dX8_goes_108 ?_
              refine lv_imul hx hb dX8_goes_111 ?_
              refine x_i (y := (nI (5 * mn))) (pk_mul 5 mn) ?_
              refine lv_iconst (v := 5) hx hb dX8_goes_112 (by decide) ?_
              refine lv_isub hx hb dX8_goes_113 ?_
              refine x_i (y := (nI ((5 * mn) - 5))) (pk_sub (a := (5 * mn)) (b := 5) (by omega)) ?_
              refine lv_iconst (v := 3) hx hb dX8_goes_114 (by decide) ?_
              refine lv_iadd hx hb dX8_goes_115 ?_
              refine x_i (y := (nI ((5 * mn) - 5 + 3))) (nI_add ((5 * mn) - 5) 3) ?_
              refine lv_iconst (v := 1) hx hb dX8_goes_116 (by decide) ?_
              refine x_iast F X (gs' := [mW q b0 b1 b2 b3 b4 b5 b6 b7 b8 s p sl sv pd fo (upd to ((5 * mn) - 5 + 3) 1) ou kn ln (nI mn) (nI la) op wr]) (n := 100) (f := to) (k := ((5 * mn) - 5 + 3)) 7 rfl (vp_in_nI (by omega) (by omega)) (nI_clamp (by omega)) dX8_goes_117 rfl (fun H locs X => ?_)
              refine lv_aload_n hx hb dX8_goes_118 rfl (lv_at hl 1 rfl) ?_
              refine lv_iconst (v := 3) hx hb dX8_goes_119 (by decide) ?_
              refine x_put F X (gs' := [mW q b0 b1 b2 b3 b4 b5 b6 b7 b8 s p sl sv pd fo (upd to ((5 * mn) - 5 + 3) 1) ou kn ln (nI mn) 3 op wr]) (v := .int 3) (C := RX8) (T := TX8) (N := 14) (ci := 8) in_X8 tyX8 tyX8_ok nmX8 0 rfl rfl 10 (by decide) mw_1 rfl rfl rfl (Nat.le_of_ble_eq_true rfl) dX8_goes_120 rfl (fun H locs X => ?_)
              refine lv_iconst (v := 1) hx hb dX8_goes_123 (by decide) ?_
              refine hret _ _ _ _ _ _ ?_ X dX8_goes_124
              refine ⟨mn, 3, op, _, rfl, Or.inl ⟨rfl, ?_⟩⟩
              unfold x_step
              repeat (first | rw [if_pos (by omega)] | rw [if_neg (by omega)])
    · have c_24 : la = 0 := (nI_eq (a := la) (b := 0) (by omega) (by omega)).mp c_24
      refine lv_aload_n hx hb dX8_goes_27 rfl (lv_at hl 1 rfl) ?_
      refine lv_iload_n hx hb dX8_goes_28 rfl (lv_at hl 0 rfl) ?_
      refine x_cVi F X (gc := [mW q b0 b1 b2 b3 b4 b5 b6 b7 b8 s p sl sv pd fo to ou kn ln (nI mn) (nI la) op wr]) (gr := []) (xp_idx (n := 1) [0] (by decide +kernel) rfl rfl) (c_X8_begins l D q b0 b1 b2 b3 b4 b5 b6 b7 b8 s p sl sv pd fo to ou kn ln mn la op wr (-1) (by first | assumption | omega)) (cwV 1 F.1.2.2.2.2 gX8_goes_X8_begins rfl rfl rfl (by decide +kernel) ⟨Nat.le_of_ble_eq_true rfl, Nat.le_of_ble_eq_true rfl⟩) rfl rfl (r0 := 0) (ci := 8) (T := TX8) (N := 14) rfl rfl hl.1 ⟨Nat.le_of_ble_eq_true rfl, Nat.le_of_ble_eq_true rfl⟩ (Nat.le_of_ble_eq_true rfl) dX8_goes_29 (fun r_29 g1 H locs hp X => ?_)
      obtain ⟨mn2_29, la2_29, op2_29, to2_29, rfl, hz⟩ := hp
      have X : xS D A9 s9 [mW q b0 b1 b2 b3 b4 b5 b6 b7 b8 s p sl sv pd fo to2_29 ou kn ln (nI mn2_29) (nI la2_29) op2_29 wr] H locs := X
      rcases hz with ⟨rfl, b_29⟩ | ⟨rfl, b_29⟩
      · refine hret _ _ _ _ _ _ ?_ X dX8_goes_32
        obtain ⟨⟨⟨h1, h2⟩, h3⟩, -⟩ := b_29
        exact absurd h1 (by decide)
      · refine hret _ _ _ _ _ _ ?_ X dX8_goes_32
        refine ⟨_, _, _, _, rfl, Or.inr ⟨rfl, ?_⟩⟩
        unfold x_step
        rw [if_pos (by omega), if_neg (fun h => by omega)]

