set_option maxHeartbeats 1000000 in
set_option maxRecDepth 100000 in
theorem c_X8_fault (l : Launch) (D : va_G) (q : xQ) (b0 : Nat) (b1 : Nat) (b2 : Nat) (b3 : Nat) (b4 : Nat) (b5 : Nat) (b6 : Nat) (b7 : Nat) (b8 : Nat) (s : Nat → Int32) (p : Nat → Int32) (sl : Nat → Int32) (sv : Nat → Int32) (pd : Nat → Int32) (fo : Nat → Int32) (to : Nat → Int32) (ou : Nat → Int32) (kn : Int32) (ln : Nat) (mn : Int32) (la : Int32) (op : Int32) (wr : Int32) (Pd : Nat → Nat) (hln : ln ≤ 80) (hpd : ∀ j, j < ln → pd j = nI (Pd j) ∧ Pd j < 65536) : xMi l yX8_fault wsX8_fault { frames := 3, cells := 0, slots := 0, locals := 67 } D q [.ref b0] [mW q b0 b1 b2 b3 b4 b5 b6 b7 b8 s p sl sv pd fo to ou kn (nI ln) mn la op wr] (fun r gw => ∃ (mn2 : Nat), ∃ (la2 : Nat), ∃ (op2 : Int32), ∃ (to2 : Nat → Int32), gw = [mW q b0 b1 b2 b3 b4 b5 b6 b7 b8 s p sl sv pd fo to2 ou kn (nI ln) (nI mn2) (nI la2) op2 wr] ∧ (x_fr Pd to ln r ∧ (r = -6 → (x_run Pd to ln = some (mn2, la2, op2, to2)) ∧ op2 < 0 ∧ la2 ≠ 0 ∧ la2 ≠ 4))) := by
  refine xMi_of (cc := cX8_fault) (maxL := 2) (rt := .int) (by decide) rfl (Nat.le_of_ble_eq_true rfl) (fun _ _ _ => rfl) ?_
  intro p9 e9 s9 m9 a9 below meth c9 A9 Z9 ls H locs F X hl hret
  have hx := F.1.1
  have hb := F.1.2.1
  have in_X8 : ∀ w ∈ wsX80, w ∈ wsX8_fault := by decide +kernel
  have mw_0 : Cond.fieldLink RX8 117 "HatWindsModel" "many" "I" ∈ wsX8_fault := by decide +kernel
  have mw_1 : Cond.fieldLink RX8 123 "HatWindsModel" "last" "I" ∈ wsX8_fault := by decide +kernel
  have mw_2 : Cond.fieldLink RX8 120 "HatWindsModel" "open" "I" ∈ wsX8_fault := by decide +kernel
  have mw_3 : Cond.fieldLink RX8 106 "HatWindsModel" "length" "I" ∈ wsX8_fault := by decide +kernel
  have mw_4 : Cond.fieldLink RX8 23 "HatWindsModel" "pad" "[I" ∈ wsX8_fault := by decide +kernel
  have mw_5 : Cond.initialized RX8 ∈ wsX8_fault := by decide +kernel
  have hl : lv_has ls 2 [(0, .ref b0)] := hl
  refine lv_aload_n hx hb dX8_fault_0 rfl (lv_at hl 0 rfl) ?_
  refine lv_iconst (v := 0) hx hb dX8_fault_1 (by decide) ?_
  refine x_put F X (gs' := [mW q b0 b1 b2 b3 b4 b5 b6 b7 b8 s p sl sv pd fo to ou kn (nI ln) 0 la op wr]) (v := .int 0) (C := RX8) (T := TX8) (N := 14) (ci := 8) in_X8 tyX8 tyX8_ok nmX8 0 rfl rfl 9 (by decide) mw_0 rfl rfl rfl (Nat.le_of_ble_eq_true rfl) dX8_fault_2 rfl (fun H locs X => ?_)
  refine lv_aload_n hx hb dX8_fault_5 rfl (lv_at hl 0 rfl) ?_
  refine lv_iconst (v := 0) hx hb dX8_fault_6 (by decide) ?_
  refine x_put F X (gs' := [mW q b0 b1 b2 b3 b4 b5 b6 b7 b8 s p sl sv pd fo to ou kn (nI ln) 0 0 op wr]) (v := .int 0) (C := RX8) (T := TX8) (N := 14) (ci := 8) in_X8 tyX8 tyX8_ok nmX8 0 rfl rfl 10 (by decide) mw_1 rfl rfl rfl (Nat.le_of_ble_eq_true rfl) dX8_fault_7 rfl (fun H locs X => ?_)
  refine lv_aload_n hx hb dX8_fault_10 rfl (lv_at hl 0 rfl) ?_
  refine lv_iconst (v := (-1)) hx hb dX8_fault_11 (by decide) ?_
  refine x_put F X (gs' := [mW q b0 b1 b2 b3 b4 b5 b6 b7 b8 s p sl sv pd fo to ou kn (nI ln) 0 0 (-1) wr]) (v := .int (-1)) (C := RX8) (T := TX8) (N := 14) (ci := 8) in_X8 tyX8 tyX8_ok nmX8 0 rfl rfl 11 (by decide) mw_2 rfl rfl rfl (Nat.le_of_ble_eq_true rfl) dX8_fault_12 rfl (fun H locs X => ?_)
  refine lv_iconst (v := 0) hx hb dX8_fault_15 (by decide) ?_
  refine lv_istore_n (lv' := [(1, .int 0), (0, .ref b0)]) hx hb dX8_fault_16 rfl hl (by decide) rfl (fun ls hl => ?_)
  have L_17 : ∀ (nn : Nat) (i mn2 la2 : Nat) (op2 : Int32) (to2 : Nat → Int32) (H : Heap) (locs : List Loc) (ls : Array Slot), xS D A9 s9 [mW q b0 b1 b2 b3 b4 b5 b6 b7 b8 s p sl sv pd fo to2 ou kn (nI ln) (nI mn2) (nI la2) op2 wr] H locs → lv_has ls 2 [(1, .int (nI i)), (0, .ref b0)] → (ln < i + nn) → (i ≤ ln) → (x_run Pd to i = some (mn2, la2, op2, to2)) → W p9 l e9 { frames := 3, cells := 0, slots := 0, locals := 67 } s9 m9 a9 below meth c9 H locs 0 0 Z9 (F0 m9 17 ls []) := by
    intro nn
    induction nn with
    | zero => intro i mn2 la2 op2 to2 H locs ls X hl hfuel hi hrun; exact absurd hfuel (by omega)
    | succ nn ih_17 =>
      intro i mn2 la2 op2 to2 H locs ls X hl hfuel hi hrun
      refine lv_iload_n hx hb dX8_fault_17 rfl (lv_at hl 0 rfl) ?_
      refine lv_aload_n hx hb dX8_fault_18 rfl (lv_at hl 1 rfl) ?_
      refine x_get F X (v := .int (nI ln)) (C := RX8) (T := TX8) (N := 14) (ci := 8) in_X8 0 rfl rfl 6 (by decide) mw_3 rfl dX8_fault_19 ?_
      refine lv_icmp_ge (tgt := 46) hx hb dX8_fault_22 (by decide) (fun c_22 => ?_) (fun c_22 => ?_)
      · have c_22 : ln ≤ i := (nI_leI (a := ln) (b := i) (by omega) (by omega)).mp c_22
        have hpk := x_run_pk hrun
        have hla7 := hpk.2.1
        refine lv_aload_n hx hb dX8_fault_46 rfl (lv_at hl 1 rfl) ?_
        refine x_get F X (v := .int op2) (C := RX8) (T := TX8) (N := 14) (ci := 8) in_X8 0 rfl rfl 11 (by decide) mw_2 rfl dX8_fault_47 ?_
        refine lv_if_ge (tgt := 73) hx hb dX8_fault_50 (by decide) (fun c_50 => ?_) (fun c_50 => ?_)
        · refine lv_aload_n hx hb dX8_fault_73 rfl (lv_at hl 1 rfl) ?_
          refine x_get F X (v := .int (nI ln)) (C := RX8) (T := TX8) (N := 14) (ci := 8) in_X8 0 rfl rfl 6 (by decide) mw_3 rfl dX8_fault_74 ?_
          refine hret _ _ _ _ _ _ ?_ X dX8_fault_77
          obtain rfl : i = ln := by omega
          exact ⟨mn2, la2, op2, to2, rfl, Or.inr ⟨mn2, la2, op2, to2, hrun, (if_neg (fun h => absurd h.1 (Int32.not_lt.mpr c_50))).symm⟩, fun e => absurd e.symm (x_m6 i (by omega))⟩
        · refine lv_aload_n hx hb dX8_fault_53 rfl (lv_at hl 1 rfl) ?_
          refine x_get F X (v := .int (nI la2)) (C := RX8) (T := TX8) (N := 14) (ci := 8) in_X8 0 rfl rfl 10 (by decide) mw_1 rfl dX8_fault_54 ?_
          refine lv_if_eq (tgt := 73) hx hb dX8_fault_57 (by decide) (fun c_57 => ?_) (fun c_57 => ?_)
          · have c_57 : la2 = 0 := (nI_eq (a := la2) (b := 0) (by omega) (by omega)).mp c_57
            refine lv_aload_n hx hb dX8_fault_73 rfl (lv_at hl 1 rfl) ?_
            refine x_get F X (v := .int (nI ln)) (C := RX8) (T := TX8) (N := 14) (ci := 8) in_X8 0 rfl rfl 6 (by decide) mw_3 rfl dX8_fault_74 ?_
            refine hret _ _ _ _ _ _ ?_ X dX8_fault_77
            obtain rfl : i = ln := by omega
            exact ⟨mn2, la2, op2, to2, rfl, Or.inr ⟨mn2, la2, op2, to2, hrun, (if_neg (fun h => h.2.1 c_57)).symm⟩, fun e => absurd e.symm (x_m6 i (by omega))⟩
          · have c_57 : ¬ (la2 = 0) := fun h => c_57 ((nI_eq (a := la2) (b := 0) (by omega) (by omega)).mpr h)
            refine lv_aload_n hx hb dX8_fault_60 rfl (lv_at hl 1 rfl) ?_
            refine x_get F X (v := .int (nI la2)) (C := RX8) (T := TX8) (N := 14) (ci := 8) in_X8 0 rfl rfl 10 (by decide) mw_1 rfl dX8_fault_61 ?_
            refine lv_iconst (v := 4) hx hb dX8_fault_64 (by decide) ?_
            refine lv_icmp_eq (tgt := 73) hx hb dX8_fault_65 (by decide) (fun c_65 => ?_) (fun c_65 => ?_)
            · have c_65 : la2 = 4 := (nI_eq (a := la2) (b := 4) (by omega) (by omega)).mp c_65
              refine lv_aload_n hx hb dX8_fault_73 rfl (lv_at hl 1 rfl) ?_
              refine x_get F X (v := .int (nI ln)) (C := RX8) (T := TX8) (N := 14) (ci := 8) in_X8 0 rfl rfl 6 (by decide) mw_3 rfl dX8_fault_74 ?_
              refine hret _ _ _ _ _ _ ?_ X dX8_fault_77
              obtain rfl : i = ln := by omega
              exact ⟨mn2, la2, op2, to2, rfl, Or.inr ⟨mn2, la2, op2, to2, hrun, (if_neg (fun h => h.2.2 c_65)).symm⟩, fun e => absurd e.symm (x_m6 i (by omega))⟩
            · have c_65 : ¬ (la2 = 4) := fun h => c_65 ((nI_eq (a := la2) (b := 4) (by omega) (by omega)).mpr h)
              refine lv_bipush (v := (-6)) hx hb dX8_fault_68 (by decide) ?_
              refine lv_goto (tgt := 77) hx hb dX8_fault_70 (by decide) ?_
              refine hret _ _ _ _ _ _ ?_ X dX8_fault_77
              obtain rfl : i = ln := by omega
              exact ⟨mn2, la2, op2, to2, rfl, Or.inr ⟨mn2, la2, op2, to2, hrun, (if_pos ⟨Int32.not_le.mp c_50, c_57, c_65⟩).symm⟩, fun _ => ⟨hrun, Int32.not_le.mp c_50, c_57, c_65⟩⟩
      · have c_22 : i < ln := Nat.not_le.mp (fun h => c_22 ((nI_leI (a := ln) (b := i) (by omega) (by omega)).mpr h))
        refine lv_aload_n hx hb dX8_fault_25 rfl (lv_at hl 1 rfl) ?_
        refine lv_aload_n hx hb dX8_fault_26 rfl (lv_at hl 1 rfl) ?_
        refine x_get F X (v := .ref b5) (C := RX8) (T := TX8) (N := 14) (ci := 8) in_X8 0 rfl rfl 5 (by decide) mw_4 rfl dX8_fault_27 ?_
        refine lv_iload_n hx hb dX8_fault_30 rfl (lv_at hl 0 rfl) ?_
        refine x_iald F X (v := (pd i)) (n := 80) (f := pd) 5 rfl (vp_in_nI (by omega) (by omega)) (x_cl (by omega)) dX8_fault_31 ?_
        refine x_i (y := (nI (Pd i))) ((hpd i (by omega)).1) ?_
        refine x_cVi F X (gc := [mW q b0 b1 b2 b3 b4 b5 b6 b7 b8 s p sl sv pd fo to2 ou kn (nI ln) (nI mn2) (nI la2) op2 wr]) (gr := []) (xp_idx (n := 1) [0] (by decide +kernel) rfl rfl) (c_X8_goes l D q b0 b1 b2 b3 b4 b5 b6 b7 b8 s p sl sv pd fo to2 ou kn (nI ln) mn2 la2 op2 wr (Pd i) (by exact x_run_pk hrun) (by exact (hpd i (by omega)).2)) (cwV 1 F.1.2.2.2.2 gX8_fault_X8_goes rfl rfl rfl (by decide +kernel) ⟨Nat.le_of_ble_eq_true rfl, Nat.le_of_ble_eq_true rfl⟩) rfl rfl (r0 := 0) (ci := 8) (T := TX8) (N := 14) rfl rfl hl.1 ⟨Nat.le_of_ble_eq_true rfl, Nat.le_of_ble_eq_true rfl⟩ (Nat.le_of_ble_eq_true rfl) dX8_fault_32 (fun r_32 g1 H locs hp X => ?_)
        obtain ⟨mn2_32, la2_32, op2_32, to2_32, rfl, hz⟩ := hp
        have X : xS D A9 s9 [mW q b0 b1 b2 b3 b4 b5 b6 b7 b8 s p sl sv pd fo to2_32 ou kn (nI ln) (nI mn2_32) (nI la2_32) op2_32 wr] H locs := X
        rcases hz with ⟨rfl, b_32⟩ | ⟨rfl, b_32⟩
        · refine lv_if_ne (tgt := 40) hx hb dX8_fault_35 (by decide) (fun _ => ?_) (fun h => absurd h (by decide))
          refine lv_iinc (v := (nI (i + 1))) (lv' := [(1, .int (nI (i + 1))), (0, .ref b0)]) hx hb dX8_fault_40 hl (k := 0) rfl (nI_add i 1) (by decide) rfl (fun ls hl => ?_)
          refine lv_goto (tgt := 17) hx hb dX8_fault_43 (by decide) ?_
          exact ih_17 (i + 1) mn2_32 la2_32 op2_32 to2_32 _ _ _ X (lv_sub hl [0, 1] rfl) (by omega) (by omega) (by exact (x_run_s hrun).trans b_32)
        · refine lv_if_ne (tgt := 40) hx hb dX8_fault_35 (by decide) (fun h => absurd (by decide) h) (fun _ => ?_)
          refine lv_iload_n hx hb dX8_fault_38 rfl (lv_at hl 0 rfl) ?_
          exact hret _ _ _ _ _ _ (by exact ⟨_, _, _, _, rfl, Or.inl ⟨i, by omega, ⟨_, hrun⟩, (x_run_s hrun).trans b_32, rfl⟩, fun e => absurd e.symm (x_m6 i (by omega))⟩) X dX8_fault_39
  exact L_17 (ln + 1) 0 0 0 (-1) to _ _ _ X (lv_sub hl [0, 1] rfl) (by omega) (by omega) (by rfl)

set_option maxHeartbeats 1000000 in
set_option maxRecDepth 100000 in
theorem c_X8_build (l : Launch) (D : va_G) (q : xQ) (b0 : Nat) (b1 : Nat) (b2 : Nat) (b3 : Nat) (b4 : Nat) (b5 : Nat) (b6 : Nat) (b7 : Nat) (b8 : Nat) (s : Nat → Int32) (p : Nat → Int32) (sl : Nat → Int32) (sv : Nat → Int32) (pd : Nat → Int32) (fo : Nat → Int32) (to : Nat → Int32) (ou : Nat → Int32) (kn : Nat) (ln : Nat) (mn : Int32) (la : Int32) (op : Int32) (wr : Int32) (Pd : Nat → Nat) (hln : ln ≤ 80) (hpd : ∀ j, j < ln → pd j = nI (Pd j) ∧ Pd j < 65536) (hk6 : kn ≤ 6) : xMi l yX8_build wsX8_build { frames := 4, cells := 0, slots := 0, locals := 88 } D q [.ref b0] [mW q b0 b1 b2 b3 b4 b5 b6 b7 b8 s p sl sv pd fo to ou (nI kn) (nI ln) mn la op wr] (fun r gw => ∃ (mn2 : Nat), ∃ (la2 : Nat), ∃ (op2 : Int32), ∃ (to2 : Nat → Int32), ∃ (s2 : Nat → Int32), ∃ (p2 : Nat → Int32), ∃ (kn2 : Nat), ∃ (ln2 : Nat), gw = [mW q b0 b1 b2 b3 b4 b5 b6 b7 b8 s2 p2 sl sv pd fo to2 ou (nI kn2) (nI ln2) (nI mn2) (nI la2) op2 wr] ∧ ((∃ f, x_fr Pd to ln f ∧ ¬ f = -6 ∧ r = -3 ∧ s2 = s ∧ p2 = p ∧ kn2 = kn ∧ ln2 = ln) ∨ (x_run Pd to ln = some (mn2, la2, op2, to2) ∧ op2 < 0 ∧ la2 ≠ 0 ∧ la2 ≠ 4 ∧ r = nI mn2 ∧ s2 = x_bld s to2 mn2 ∧ x_push kn p s p2 kn2 ∧ ln2 = 0))) := by
  refine xMi_of (cc := cX8_build) (maxL := 2) (rt := .int) (by decide) rfl (Nat.le_of_ble_eq_true rfl) (fun _ _ _ => rfl) ?_
  intro p9 e9 s9 m9 a9 below meth c9 A9 Z9 ls H locs F X hl hret
  have hx := F.1.1
  have hb := F.1.2.1
  have in_X8 : ∀ w ∈ wsX80, w ∈ wsX8_build := by decide +kernel
  have mw_0 : Cond.initialized RX8 ∈ wsX8_build := by decide +kernel
  have mw_1 : Cond.fieldLink RX8 117 "HatWindsModel" "many" "I" ∈ wsX8_build := by decide +kernel
  have mw_2 : Cond.fieldLink RX8 7 "HatWindsModel" "s" "[I" ∈ wsX8_build := by decide +kernel
  have mw_3 : Cond.fieldLink RX8 106 "HatWindsModel" "length" "I" ∈ wsX8_build := by decide +kernel
  have mw_4 : Cond.fieldLink RX8 29 "HatWindsModel" "told" "[I" ∈ wsX8_build := by decide +kernel
  have hl : lv_has ls 2 [(0, .ref b0)] := hl
  refine lv_aload_n hx hb dX8_build_0 rfl (lv_at hl 0 rfl) ?_
  refine x_cVi F X (gc := [mW q b0 b1 b2 b3 b4 b5 b6 b7 b8 s p sl sv pd fo to ou (nI kn) (nI ln) mn la op wr]) (gr := []) (xp_idx (n := 1) [0] (by decide +kernel) rfl rfl) (c_X8_fault l D q b0 b1 b2 b3 b4 b5 b6 b7 b8 s p sl sv pd fo to ou (nI kn) ln mn la op wr Pd (by first | assumption | omega) (by first | assumption | omega)) (cwV 0 F.1.2.2.2.2 gX8_build_X8_fault rfl rfl rfl (by decide +kernel) ⟨Nat.le_of_ble_eq_true rfl, Nat.le_of_ble_eq_true rfl⟩) rfl rfl (r0 := 0) (ci := 8) (T := TX8) (N := 14) rfl rfl hl.1 ⟨Nat.le_of_ble_eq_true rfl, Nat.le_of_ble_eq_true rfl⟩ (Nat.le_of_ble_eq_true rfl) dX8_build_1 (fun r_1 g1 H locs hp X => ?_)
  obtain ⟨mn2, la2, op2, to2, rfl, hfr_1⟩ := hp
  have X : xS D A9 s9 [mW q b0 b1 b2 b3 b4 b5 b6 b7 b8 s p sl sv pd fo to2 ou (nI kn) (nI ln) (nI mn2) (nI la2) op2 wr] H locs := X
  refine lv_bipush (v := (-6)) hx hb dX8_build_4 (by decide) ?_
  refine lv_icmp_eq (tgt := 12) hx hb dX8_build_6 (by decide) (fun c_6 => ?_) (fun c_6 => ?_)
  · obtain ⟨hfr1, hfr2⟩ := hfr_1
    obtain ⟨hrun, ho, hl0, hl4⟩ := hfr2 c_6
    have hpk := x_run_pk hrun
    have hm20 := hpk.1
    refine lv_aload_n hx hb dX8_build_12 rfl (lv_at hl 0 rfl) ?_
    refine x_cVv F X (gc := [mW q b0 b1 b2 b3 b4 b5 b6 b7 b8 s p sl sv pd fo to2 ou (nI kn) (nI ln) (nI mn2) (nI la2) op2 wr]) (gr := []) (xp_idx (n := 1) [0] (by decide +kernel) rfl rfl) (c_X8_remembers l D q b0 b1 b2 b3 b4 b5 b6 b7 b8 s p sl sv pd fo to2 ou kn (nI ln) (nI mn2) (nI la2) op2 wr (by first | assumption | omega)) (cwV 0 F.1.2.2.2.2 gX8_build_X8_remembers rfl rfl rfl (by decide +kernel) ⟨Nat.le_of_ble_eq_true rfl, Nat.le_of_ble_eq_true rfl⟩) rfl rfl (r0 := 0) (ci := 8) (T := TX8) (N := 14) rfl rfl hl.1 ⟨Nat.le_of_ble_eq_true rfl, Nat.le_of_ble_eq_true rfl⟩ (Nat.le_of_ble_eq_true rfl) dX8_build_13 (fun g1 H locs hp X => ?_)
    obtain ⟨p3, kn3, rfl, hk3, hp3⟩ := hp
    have X : xS D A9 s9 [mW q b0 b1 b2 b3 b4 b5 b6 b7 b8 s p3 sl sv pd fo to2 ou (nI kn3) (nI ln) (nI mn2) (nI la2) op2 wr] H locs := X
    refine lv_iconst (v := 0) hx hb dX8_build_16 (by decide) ?_
    refine lv_istore_n (lv' := [(1, .int 0), (0, .ref b0)]) hx hb dX8_build_17 rfl hl (by decide) rfl (fun ls hl => ?_)
    have L_18 : ∀ (nn : Nat) (i : Nat) (w : Nat → Int32) (H : Heap) (locs : List Loc) (ls : Array Slot), xS D A9 s9 [mW q b0 b1 b2 b3 b4 b5 b6 b7 b8 w p3 sl sv pd fo to2 ou (nI kn3) (nI ln) (nI mn2) (nI la2) op2 wr] H locs → lv_has ls 2 [(1, .int (nI i)), (0, .ref b0)] → (5 * mn2 < i + nn) → (i ≤ 5 * mn2) → (w = x_pt s to2 33 i) → W p9 l e9 { frames := 4, cells := 0, slots := 0, locals := 88 } s9 m9 a9 below meth c9 H locs 0 0 Z9 (F0 m9 18 ls []) := by
      intro nn
      induction nn with
      | zero => intro i w H locs ls X hl hfuel hi hw; exact absurd hfuel (by omega)
      | succ nn ih_18 =>
        intro i w H locs ls X hl hfuel hi hw
        refine lv_iload_n hx hb dX8_build_18 rfl (lv_at hl 0 rfl) ?_
        refine lv_iconst (v := 5) hx hb dX8_build_19 (by decide) ?_
        refine lv_aload_n hx hb dX8_build_20 rfl (lv_at hl 1 rfl) ?_
        refine x_get F X (v := .int (nI mn2)) (C := RX8) (T := TX8) (N := 14) (ci := 8) in_X8 0 rfl rfl 9 (by decide) mw_1 rfl dX8_build_21 ?_
        refine lv_imul hx hb dX8_build_24 ?_
        refine x_i (y := (nI (5 * mn2))) (pk_mul 5 mn2) ?_
        refine lv_icmp_ge (tgt := 49) hx hb dX8_build_25 (by decide) (fun c_25 => ?_) (fun c_25 => ?_)
        · have c_25 : 5 * mn2 ≤ i := (nI_leI (a := 5 * mn2) (b := i) (by omega) (by omega)).mp c_25
          refine lv_aload_n hx hb dX8_build_49 rfl (lv_at hl 1 rfl) ?_
          refine x_get F X (v := .ref b1) (C := RX8) (T := TX8) (N := 14) (ci := 8) in_X8 0 rfl rfl 0 (by decide) mw_2 rfl dX8_build_50 ?_
          refine lv_iconst (v := 5) hx hb dX8_build_53 (by decide) ?_
          refine lv_aload_n hx hb dX8_build_54 rfl (lv_at hl 1 rfl) ?_
          refine x_get F X (v := .int (nI mn2)) (C := RX8) (T := TX8) (N := 14) (ci := 8) in_X8 0 rfl rfl 9 (by decide) mw_1 rfl dX8_build_55 ?_
          refine x_iast F X (gs' := [mW q b0 b1 b2 b3 b4 b5 b6 b7 b8 (upd w 5 (nI mn2)) p3 sl sv pd fo to2 ou (nI kn3) (nI ln) (nI mn2) (nI la2) op2 wr]) (n := 133) (f := w) (k := 5) 1 rfl (show vp_in (nI 5) _ from vp_in_nI (by omega) (by omega)) rfl dX8_build_58 rfl (fun H locs X => ?_)
          refine lv_aload_n hx hb dX8_build_59 rfl (lv_at hl 1 rfl) ?_
          refine lv_iconst (v := 0) hx hb dX8_build_60 (by decide) ?_
          refine x_put F X (gs' := [mW q b0 b1 b2 b3 b4 b5 b6 b7 b8 (upd w 5 (nI mn2)) p3 sl sv pd fo to2 ou (nI kn3) 0 (nI mn2) (nI la2) op2 wr]) (v := .int 0) (C := RX8) (T := TX8) (N := 14) (ci := 8) in_X8 tyX8 tyX8_ok nmX8 0 rfl rfl 6 (by decide) mw_3 rfl rfl rfl (Nat.le_of_ble_eq_true rfl) dX8_build_61 rfl (fun H locs X => ?_)
          refine lv_aload_n hx hb dX8_build_64 rfl (lv_at hl 1 rfl) ?_
          refine x_get F X (v := .int (nI mn2)) (C := RX8) (T := TX8) (N := 14) (ci := 8) in_X8 0 rfl rfl 9 (by decide) mw_1 rfl dX8_build_65 ?_
          refine hret _ _ _ _ _ _ ?_ X dX8_build_68
          obtain rfl : i = 5 * mn2 := by omega
          exact ⟨mn2, la2, op2, to2, _, _, _, 0, rfl, Or.inr ⟨hrun, ho, hl0, hl4, rfl, by rw [hw]; rfl, ⟨hk3, hp3⟩, rfl⟩⟩
        · have c_25 : i < 5 * mn2 := Nat.not_le.mp (fun h => c_25 ((nI_leI (a := 5 * mn2) (b := i) (by omega) (by omega)).mpr h))
          refine lv_aload_n hx hb dX8_build_28 rfl (lv_at hl 1 rfl) ?_
          refine x_get F X (v := .ref b1) (C := RX8) (T := TX8) (N := 14) (ci := 8) in_X8 0 rfl rfl 0 (by decide) mw_2 rfl dX8_build_29 ?_
          refine lv_bipush (v := 33) hx hb dX8_build_32 (by decide) ?_
          refine lv_iload_n hx hb dX8_build_34 rfl (lv_at hl 0 rfl) ?_
          refine lv_iadd hx hb dX8_build_35 ?_
          refine x_i (y := (nI (33 + i))) (nI_add 33 i) ?_
          refine lv_aload_n hx hb dX8_build_36 rfl (lv_at hl 1 rfl) ?_
          refine x_get F X (v := .ref b7) (C := RX8) (T := TX8) (N := 14) (ci := 8) in_X8 0 rfl rfl 8 (by decide) mw_4 rfl dX8_build_37 ?_
          refine lv_iload_n hx hb dX8_build_40 rfl (lv_at hl 0 rfl) ?_
          refine x_iald F X (v := (to2 i)) (n := 100) (f := to2) 7 rfl (vp_in_nI (by omega) (by omega)) (x_cl (by omega)) dX8_build_41 ?_
          refine x_iast F X (gs' := [mW q b0 b1 b2 b3 b4 b5 b6 b7 b8 (upd w (33 + i) (to2 i)) p3 sl sv pd fo to2 ou (nI kn3) (nI ln) (nI mn2) (nI la2) op2 wr]) (n := 133) (f := w) (k := (33 + i)) 1 rfl (vp_in_nI (by omega) (by omega)) (nI_clamp (by omega)) dX8_build_42 rfl (fun H locs X => ?_)
          refine lv_iinc (v := (nI (i + 1))) (lv' := [(1, .int (nI (i + 1))), (0, .ref b0)]) hx hb dX8_build_43 hl (k := 0) rfl (nI_add i 1) (by decide) rfl (fun ls hl => ?_)
          refine lv_goto (tgt := 18) hx hb dX8_build_46 (by decide) ?_
          exact ih_18 (i + 1) _ _ _ _ X (lv_sub hl [0, 1] rfl) (by omega) (by omega) (by rw [hw, ← x_pt_s])
    exact L_18 (5 * mn2 + 1) 0 s _ _ _ X (lv_sub hl [0, 1] rfl) (by omega) (by omega) (by exact (x_pt_0 _ _ _).symm)
  · refine lv_bipush (v := (-3)) hx hb dX8_build_9 (by decide) ?_
    exact hret _ _ _ _ _ _ (by exact ⟨mn2, la2, op2, to2, s, p, kn, ln, rfl, Or.inl ⟨_, hfr_1.1, c_6, rfl, rfl, rfl, rfl, rfl⟩⟩) X dX8_build_11

