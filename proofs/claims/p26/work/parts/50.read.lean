set_option maxHeartbeats 1000000 in
set_option maxRecDepth 100000 in
theorem c_X4_read (l : Launch) (D : va_G) (q : xQ) (d0 : Nat) (h0 : Nat) (h1 : Nat) (h2 : Nat) (h3 : Nat) (h4 : Nat) (h5 : Nat) (f1 : Nat → Int32) (f2 : Nat → Int32) (f3 : Nat → Int32) (f4 : Nat → Int32) (f5 : Nat → Int32) (nb : Int32) (la0 : Int32) (pa : Int32) (p0 : Nat) (p1 : Nat) (ln : Nat) (cs : Nat → Int32) (ov : Int32) (Pd : Nat → Nat) (to : Nat → Int32) (hln : ln ≤ 80) (hpd : ∀ j, j < ln → cs j = nI (Pd j) ∧ Pd j < 65536) : xMi l yX4_read wsX4_read { frames := 4, cells := 0, slots := 0, locals := 87 } D q [.ref d0, .ref p0] [rdW q d0 h0 la0 pa, sW q h0 h1 h2 h3 h4 h5 f1 f2 f3 f4 f5 nb, pW q p0 p1 cs (nI ln) ov] (fun r gw => ∃ (mn2 : Nat), ∃ (lc2 : Nat), ∃ (pa2 : Int32), ∃ (e1 : Nat → Int32), ∃ (e2 : Nat → Int32), ∃ (e3 : Nat → Int32), ∃ (e4 : Nat → Int32), ∃ (e5 : Nat → Int32), gw = [rdW q d0 h0 (nI lc2) pa2, sW q h0 h1 h2 h3 h4 h5 e1 e2 e3 e4 e5 (nI mn2), pW q p0 p1 cs (nI ln) ov] ∧ (x_fr Pd to ln r ∧ (r = -6 → ∃ la2 op2 to2, (x_run Pd to ln = some (mn2, la2, op2, to2) ∧ op2 < 0 ∧ la2 ≠ 0 ∧ la2 ≠ 4) ∧ xRd mn2 la2 op2 to2 lc2 pa2 e1 e2 e3 e4 e5))) := by
  refine xMi_of (cc := cX4_read) (maxL := 3) (rt := .int) (by decide) rfl (Nat.le_of_ble_eq_true rfl) (fun _ _ _ => rfl) ?_
  intro p9 e9 s9 m9 a9 below meth c9 A9 Z9 ls H locs F X hl hret
  have hx := F.1.1
  have hb := F.1.2.1
  have in_X4 : ∀ w ∈ wsX40, w ∈ wsX4_read := by decide +kernel
  have in_X3 : ∀ w ∈ wsX30, w ∈ wsX4_read := by decide +kernel
  have mw_0 : Cond.fieldLink RX4 12 "HatWinds$Reader" "streets" "LHatWinds$Streets;" ∈ wsX4_read := by decide +kernel
  have mw_1 : Cond.initialized RX5 ∈ wsX4_read := by decide +kernel
  have mw_2 : Cond.fieldLink RX4 18 "HatWinds$Reader" "last" "I" ∈ wsX4_read := by decide +kernel
  have mw_3 : Cond.fieldLink RX4 22 "HatWinds$Reader" "parent" "I" ∈ wsX4_read := by decide +kernel
  have mw_4 : Cond.fieldLink RX4 28 "HatWinds$Pad" "length" "I" ∈ wsX4_read := by decide +kernel
  have mw_5 : Cond.fieldLink RX4 33 "HatWinds$Pad" "signs" "[C" ∈ wsX4_read := by decide +kernel
  have mw_6 : Cond.initialized RX4 ∈ wsX4_read := by decide +kernel
  have hl : lv_has ls 3 [(0, .ref d0), (1, .ref p0)] := hl
  refine lv_aload_n hx hb dX4_read_0 rfl (lv_at hl 0 rfl) ?_
  refine x_get F X (v := .ref h0) (C := RX4) (T := TX4) (N := 3) (ci := 4) in_X4 0 rfl rfl 0 (by decide) mw_0 rfl dX4_read_1 ?_
  refine x_cVv F X (gc := [sW q h0 h1 h2 h3 h4 h5 f1 f2 f3 f4 f5 nb]) (gr := [rdW q d0 h0 la0 pa, pW q p0 p1 cs (nI ln) ov]) (xp_idx (n := 3) [1, 0, 2] (by decide +kernel) rfl rfl) (c_X5_clear l D q h0 h1 h2 h3 h4 h5 f1 f2 f3 f4 f5 nb ) (cwV 0 F.1.2.2.2.2 gX4_read_X5_clear rfl rfl rfl (by decide +kernel) ⟨Nat.le_of_ble_eq_true rfl, Nat.le_of_ble_eq_true rfl⟩) rfl rfl (r0 := 0) (ci := 5) (T := TX5) (N := 6) rfl rfl hl.1 ⟨Nat.le_of_ble_eq_true rfl, Nat.le_of_ble_eq_true rfl⟩ (Nat.le_of_ble_eq_true rfl) dX4_read_4 (fun g1 H locs hp X => ?_)
  subst hp
  have X := X.perm (gs' := [rdW q d0 h0 la0 pa, sW q h0 h1 h2 h3 h4 h5 f1 f2 f3 f4 f5 0, pW q p0 p1 cs (nI ln) ov]) (xp_idx (n := 3) [1, 0, 2] (by decide +kernel) rfl rfl)
  refine lv_aload_n hx hb dX4_read_7 rfl (lv_at hl 0 rfl) ?_
  refine lv_iconst (v := 0) hx hb dX4_read_8 (by decide) ?_
  refine x_put F X (gs' := [rdW q d0 h0 0 pa, sW q h0 h1 h2 h3 h4 h5 f1 f2 f3 f4 f5 0, pW q p0 p1 cs (nI ln) ov]) (v := .int 0) (C := RX4) (T := TX4) (N := 3) (ci := 4) in_X4 tyX4 tyX4_ok nmX4 0 rfl rfl 1 (by decide) mw_2 rfl rfl rfl (Nat.le_of_ble_eq_true rfl) dX4_read_9 rfl (fun H locs X => ?_)
  refine lv_aload_n hx hb dX4_read_12 rfl (lv_at hl 0 rfl) ?_
  refine lv_bipush (v := (-6)) hx hb dX4_read_13 (by decide) ?_
  refine x_put F X (gs' := [rdW q d0 h0 0 (-6), sW q h0 h1 h2 h3 h4 h5 f1 f2 f3 f4 f5 0, pW q p0 p1 cs (nI ln) ov]) (v := .int (-6)) (C := RX4) (T := TX4) (N := 3) (ci := 4) in_X4 tyX4 tyX4_ok nmX4 0 rfl rfl 2 (by decide) mw_3 rfl rfl rfl (Nat.le_of_ble_eq_true rfl) dX4_read_15 rfl (fun H locs X => ?_)
  refine lv_iconst (v := 0) hx hb dX4_read_18 (by decide) ?_
  refine lv_istore_n (lv' := [(2, .int 0), (0, .ref d0), (1, .ref p0)]) hx hb dX4_read_19 rfl hl (by decide) rfl (fun ls hl => ?_)
  have L_20 : ∀ (nn : Nat) (i mn2 la2 lc2 : Nat) (op2 pa2 : Int32) (to2 e1 e2 e3 e4 e5 : Nat → Int32) (H : Heap) (locs : List Loc) (ls : Array Slot), xS D A9 s9 [rdW q d0 h0 (nI lc2) pa2, sW q h0 h1 h2 h3 h4 h5 e1 e2 e3 e4 e5 (nI mn2), pW q p0 p1 cs (nI ln) ov] H locs → lv_has ls 3 [(2, .int (nI i)), (0, .ref d0), (1, .ref p0)] → (ln < i + nn) → (i ≤ ln) → (x_run Pd to i = some (mn2, la2, op2, to2)) → (xRd mn2 la2 op2 to2 lc2 pa2 e1 e2 e3 e4 e5) → W p9 l e9 { frames := 4, cells := 0, slots := 0, locals := 87 } s9 m9 a9 below meth c9 H locs 0 0 Z9 (F0 m9 20 ls []) := by
    intro nn
    induction nn with
    | zero => intro i mn2 la2 lc2 op2 pa2 to2 e1 e2 e3 e4 e5 H locs ls X hl hfuel hi hrun hrd; exact absurd hfuel (by omega)
    | succ nn ih_20 =>
      intro i mn2 la2 lc2 op2 pa2 to2 e1 e2 e3 e4 e5 H locs ls X hl hfuel hi hrun hrd
      refine lv_iload_n hx hb dX4_read_20 rfl (lv_at hl 0 rfl) ?_
      refine lv_aload_n hx hb dX4_read_21 rfl (lv_at hl 2 rfl) ?_
      refine x_get F X (v := .int (nI ln)) (C := RX3) (T := TX3) (N := 3) (ci := 3) in_X3 7 rfl rfl 1 (by decide) mw_4 rfl dX4_read_22 ?_
      refine lv_icmp_ge (tgt := 49) hx hb dX4_read_25 (by decide) (fun c_25 => ?_) (fun c_25 => ?_)
      · have c_25 : ln ≤ i := (nI_leI (a := ln) (b := i) (by omega) (by omega)).mp c_25
        have hpk := x_run_pk hrun
        have hrd0 := hrd
        obtain ⟨elc, epa, -⟩ := hrd0
        have z0 := x_lc0 (la := la2)
        have z1 := x_lc1 (la := la2)
        have hlc7 := x_lcle hpk.2.1
        refine lv_aload_n hx hb dX4_read_49 rfl (lv_at hl 1 rfl) ?_
        refine x_get F X (v := .int (nI lc2)) (C := RX4) (T := TX4) (N := 3) (ci := 4) in_X4 0 rfl rfl 1 (by decide) mw_2 rfl dX4_read_50 ?_
        refine lv_iconst (v := 2) hx hb dX4_read_53 (by decide) ?_
        refine lv_icmp_lt (tgt := 71) hx hb dX4_read_54 (by decide) (fun c_54 => ?_) (fun c_54 => ?_)
        · have c_54 : lc2 < 2 := (nI_ltI (a := lc2) (b := 2) (by omega) (by omega)).mp c_54
          refine lv_aload_n hx hb dX4_read_71 rfl (lv_at hl 2 rfl) ?_
          refine x_get F X (v := .int (nI ln)) (C := RX3) (T := TX3) (N := 3) (ci := 3) in_X3 7 rfl rfl 1 (by decide) mw_4 rfl dX4_read_72 ?_
          refine hret _ _ _ _ _ _ ?_ X dX4_read_75
          obtain rfl : i = ln := by omega
          exact ⟨_, _, _, _, _, _, _, _, rfl, Or.inr ⟨mn2, la2, op2, to2, hrun, (if_neg (fun h => by have := h.2.1; have := h.2.2; omega)).symm⟩, fun e => absurd e.symm (x_m6 i (by omega))⟩
        · have c_54 : 2 ≤ lc2 := Nat.not_lt.mp (fun h => c_54 ((nI_ltI (a := lc2) (b := 2) (by omega) (by omega)).mpr h))
          refine lv_aload_n hx hb dX4_read_57 rfl (lv_at hl 1 rfl) ?_
          refine x_get F X (v := .int pa2) (C := RX4) (T := TX4) (N := 3) (ci := 4) in_X4 0 rfl rfl 2 (by decide) mw_3 rfl dX4_read_58 ?_
          refine lv_bipush (v := (-6)) hx hb dX4_read_61 (by decide) ?_
          refine lv_icmp_ne (tgt := 71) hx hb dX4_read_63 (by decide) (fun c_63 => ?_) (fun c_63 => ?_)
          · refine lv_aload_n hx hb dX4_read_71 rfl (lv_at hl 2 rfl) ?_
            refine x_get F X (v := .int (nI ln)) (C := RX3) (T := TX3) (N := 3) (ci := 3) in_X3 7 rfl rfl 1 (by decide) mw_4 rfl dX4_read_72 ?_
            refine hret _ _ _ _ _ _ ?_ X dX4_read_75
            obtain rfl : i = ln := by omega
            exact ⟨_, _, _, _, _, _, _, _, rfl, Or.inr ⟨mn2, la2, op2, to2, hrun, (if_neg (fun h => c_63 (by rw [epa]; exact if_pos h.1))).symm⟩, fun e => absurd e.symm (x_m6 i (by omega))⟩
          · refine lv_bipush (v := (-6)) hx hb dX4_read_66 (by decide) ?_
            refine lv_goto (tgt := 75) hx hb dX4_read_68 (by decide) ?_
            refine hret _ _ _ _ _ _ ?_ X dX4_read_75
            obtain rfl : i = ln := by omega
            have hop : op2 < 0 := by
              rcases x_pk_op hpk with e | ⟨o, ho, e⟩
              · rw [e]; decide
              · rw [epa, e, x_npI (by have := hpk.1; omega)] at c_63
                exact absurd c_63.symm (x_m6 o (by have := hpk.1; omega))
            have hcc : op2 < 0 ∧ la2 ≠ 0 ∧ la2 ≠ 4 := ⟨hop, by omega, by omega⟩
            exact ⟨_, _, _, _, _, _, _, _, rfl, Or.inr ⟨mn2, la2, op2, to2, hrun, (if_pos hcc).symm⟩, fun _ => ⟨la2, op2, to2, ⟨hrun, hcc⟩, by assumption⟩⟩
      · have c_25 : i < ln := Nat.not_le.mp (fun h => c_25 ((nI_leI (a := ln) (b := i) (by omega) (by omega)).mpr h))
        refine lv_aload_n hx hb dX4_read_28 rfl (lv_at hl 1 rfl) ?_
        refine lv_aload_n hx hb dX4_read_29 rfl (lv_at hl 2 rfl) ?_
        refine x_get F X (v := .ref p1) (C := RX3) (T := TX3) (N := 3) (ci := 3) in_X3 7 rfl rfl 0 (by decide) mw_5 rfl dX4_read_30 ?_
        refine lv_iload_n hx hb dX4_read_33 rfl (lv_at hl 0 rfl) ?_
        refine x_cald F X (v := (cs i)) (n := 80) (f := cs) 8 rfl (vp_in_nI (by omega) (by omega)) (x_cl (by omega)) dX4_read_34 ?_
        refine x_i (y := (nI (Pd i))) ((hpd i (by omega)).1) ?_
        refine x_cVi F X (gc := [rdW q d0 h0 (nI lc2) pa2, sW q h0 h1 h2 h3 h4 h5 e1 e2 e3 e4 e5 (nI mn2)]) (gr := [pW q p0 p1 cs (nI ln) ov]) (xp_idx (n := 3) [0, 1, 2] (by decide +kernel) rfl rfl) (c_X4_takes l D q d0 h0 h1 h2 h3 h4 h5 mn2 lc2 e1 e2 e3 e4 e5 pa2 (Pd i) la2 op2 to2 (by first | assumption | omega) (by exact x_run_pk hrun) (by exact (hpd i (by omega)).2)) (cwV 1 F.1.2.2.2.2 gX4_read_X4_takes rfl rfl rfl (by decide +kernel) ⟨Nat.le_of_ble_eq_true rfl, Nat.le_of_ble_eq_true rfl⟩) rfl rfl (r0 := 0) (ci := 4) (T := TX4) (N := 3) rfl rfl hl.1 ⟨Nat.le_of_ble_eq_true rfl, Nat.le_of_ble_eq_true rfl⟩ (Nat.le_of_ble_eq_true rfl) dX4_read_35 (fun r_35 g1 H locs hp X => ?_)
        obtain ⟨mn2_35, lc2_35, pa2_35, e1_35, e2_35, e3_35, e4_35, e5_35, rfl, hz⟩ := hp
        have X : xS D A9 s9 [rdW q d0 h0 (nI lc2_35) pa2_35, sW q h0 h1 h2 h3 h4 h5 e1_35 e2_35 e3_35 e4_35 e5_35 (nI mn2_35), pW q p0 p1 cs (nI ln) ov] H locs := X
        rcases hz with ⟨rfl, b_35⟩ | ⟨rfl, b_35⟩
        · refine lv_if_ne (tgt := 43) hx hb dX4_read_38 (by decide) (fun _ => ?_) (fun h => absurd h (by decide))
          obtain ⟨la3, op3, to3, hs3, hr3⟩ := b_35
          refine lv_iinc (v := (nI (i + 1))) (lv' := [(2, .int (nI (i + 1))), (0, .ref d0), (1, .ref p0)]) hx hb dX4_read_43 hl (k := 0) rfl (nI_add i 1) (by decide) rfl (fun ls hl => ?_)
          refine lv_goto (tgt := 20) hx hb dX4_read_46 (by decide) ?_
          exact ih_20 (i + 1) _ la3 _ op3 _ to3 _ _ _ _ _ _ _ _ X (lv_sub hl [0, 1, 2] rfl) (by omega) (by omega) (by exact (x_run_s hrun).trans hs3) (by exact hr3)
        · refine lv_if_ne (tgt := 43) hx hb dX4_read_38 (by decide) (fun h => absurd (by decide) h) (fun _ => ?_)
          refine lv_iload_n hx hb dX4_read_41 rfl (lv_at hl 0 rfl) ?_
          exact hret _ _ _ _ _ _ (by exact ⟨_, _, _, _, _, _, _, _, rfl, Or.inl ⟨i, by omega, ⟨_, hrun⟩, (x_run_s hrun).trans b_35, rfl⟩, fun e => absurd e.symm (x_m6 i (by omega))⟩) X dX4_read_42
  exact L_20 (ln + 1) 0 0 0 0 (-1) (-6) to _ _ _ _ _ _ _ _ X (lv_sub hl [0, 1, 2] rfl) (by omega) (by omega) (by rfl) (by exact ⟨rfl, rfl, fun k hk => absurd hk (Nat.not_lt_zero k)⟩)
