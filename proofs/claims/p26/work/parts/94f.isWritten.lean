set_option maxHeartbeats 1000000 in
set_option maxRecDepth 100000 in
theorem c_L_isWritten (l : Launch) (D : va_G) (q : xQ) (A : xAd) (z : xZt) (ob : va_W) (hob : xOb q A z ob) (hw4 : xW z) : xMi l yL_isWritten wsL_isWritten { frames := 26, cells := 0, slots := 0, locals := 1120 } D q [.ref (A.1 0)] [xoA q A, ob] (fun r gw => ∃ (ob2 : va_W), ∃ (z2 : xZt), gw = [xoA q A, ob2] ∧ r = 1 ∧ (xOb q A z2 ob2) ∧ (xW z2)) := by
  refine xMi_of (cc := cL_isWritten) (maxL := 9) (rt := .boolean) (by decide) rfl (Nat.le_of_ble_eq_true rfl) (fun v w h => by obtain ⟨_, _, _, rfl, _⟩ := h; rfl) ?_
  intro p9 e9 s9 m9 a9 below meth c9 A9 Z9 ls H locs F X hl hret
  have hx := F.1.1
  have hb := F.1.2.1
  have hl : lv_has ls 9 [(0, .ref (A.1 0))] := hl
  have hok := hob.ok
  have hn := hok.1
  have hn1 := hok.2.1
  have hp := xv_hp hok
  refine lv_aload_n hx hb dL_isWritten_0 rfl (lv_at hl 0 rfl) ?_
  refine lv_iconst (v := 0) hx hb dL_isWritten_1 (by decide) ?_
  refine x_cVi F X (gc := [xoA q A, ob]) (gr := []) (xp_idx (n := 2) [0, 1] (by decide +kernel) rfl rfl) (c_G_count0 l D q A z ob (by first | assumption | omega)) (cwV 1 F.1.2.2.2.2 gL_isWritten_X7_count rfl rfl rfl (by decide +kernel) ⟨Nat.le_of_ble_eq_true rfl, Nat.le_of_ble_eq_true rfl⟩) rfl rfl (r0 := 0) (ci := 7) (T := TX7) (N := 8) rfl rfl hl.1 ⟨Nat.le_of_ble_eq_true rfl, Nat.le_of_ble_eq_true rfl⟩ (Nat.le_of_ble_eq_true rfl) dL_isWritten_2 (fun r_2 g1 H locs hp X => ?_)
  obtain ⟨ob2_2, rfl, rfl, hob2_2⟩ := hp
  have X : xS D A9 s9 [xoA q A, ob2_2] H locs := X
  refine lv_istore_n (lv' := [(1, .int (nI (tN (zS z)))), (0, .ref (A.1 0))]) hx hb dL_isWritten_5 rfl hl (by decide) rfl (fun ls hl => ?_)
  refine lv_aload_n hx hb dL_isWritten_6 rfl (lv_at hl 1 rfl) ?_
  refine lv_iconst (v := 5) hx hb dL_isWritten_7 (by decide) ?_
  refine x_cVi F X (gc := [xoA q A, ob2_2]) (gr := []) (xp_idx (n := 2) [0, 1] (by decide +kernel) rfl rfl) (c_G_count5 l D q A z ob2_2 (by first | assumption | omega)) (cwV 1 F.1.2.2.2.2 gL_isWritten_X7_count rfl rfl rfl (by decide +kernel) ⟨Nat.le_of_ble_eq_true rfl, Nat.le_of_ble_eq_true rfl⟩) rfl rfl (r0 := 0) (ci := 7) (T := TX7) (N := 8) rfl rfl hl.1 ⟨Nat.le_of_ble_eq_true rfl, Nat.le_of_ble_eq_true rfl⟩ (Nat.le_of_ble_eq_true rfl) dL_isWritten_8 (fun r_8 g1 H locs hp X => ?_)
  obtain ⟨ob2_8, rfl, rfl, hob2_8⟩ := hp
  have X : xS D A9 s9 [xoA q A, ob2_8] H locs := X
  refine lv_istore_n (lv' := [(2, .int (x_sm (x_hc (zS z) (tF (zS z))) (tN (zS z)))), (1, .int (nI (tN (zS z)))), (0, .ref (A.1 0))]) hx hb dL_isWritten_11 rfl hl (by decide) rfl (fun ls hl => ?_)
  refine lv_aload_n hx hb dL_isWritten_12 rfl (lv_at hl 2 rfl) ?_
  refine lv_iconst (v := 4) hx hb dL_isWritten_13 (by decide) ?_
  refine x_cVi F X (gc := [xoA q A, ob2_8]) (gr := []) (xp_idx (n := 2) [0, 1] (by decide +kernel) rfl rfl) (c_G_count4 l D q A z ob2_8 (by first | assumption | omega)) (cwV 1 F.1.2.2.2.2 gL_isWritten_X7_count rfl rfl rfl (by decide +kernel) ⟨Nat.le_of_ble_eq_true rfl, Nat.le_of_ble_eq_true rfl⟩) rfl rfl (r0 := 0) (ci := 7) (T := TX7) (N := 8) rfl rfl hl.1 ⟨Nat.le_of_ble_eq_true rfl, Nat.le_of_ble_eq_true rfl⟩ (Nat.le_of_ble_eq_true rfl) dL_isWritten_14 (fun r_14 g1 H locs hp X => ?_)
  obtain ⟨ob2_14, rfl, rfl, hob2_14⟩ := hp
  have X : xS D A9 s9 [xoA q A, ob2_14] H locs := X
  refine lv_istore_n (lv' := [(3, .int (x_sm (x_tP (zS z)) (tN (zS z)))), (2, .int (x_sm (x_hc (zS z) (tF (zS z))) (tN (zS z)))), (1, .int (nI (tN (zS z)))), (0, .ref (A.1 0))]) hx hb dL_isWritten_17 rfl hl (by decide) rfl (fun ls hl => ?_)
  refine lv_aload_n hx hb dL_isWritten_18 rfl (lv_at hl 3 rfl) ?_
  refine lv_iconst (v := 0) hx hb dL_isWritten_19 (by decide) ?_
  refine lv_iconst (v := 1) hx hb dL_isWritten_20 (by decide) ?_
  refine x_cVi F X (gc := [xoA q A, ob2_14]) (gr := []) (xp_idx (n := 2) [0, 1] (by decide +kernel) rfl rfl) (c_G_of1 l D q A z ob2_14 0 (by first | assumption | omega) (by first | assumption | omega)) (cwV 2 F.1.2.2.2.2 gL_isWritten_X7_of rfl rfl rfl (by decide +kernel) ⟨Nat.le_of_ble_eq_true rfl, Nat.le_of_ble_eq_true rfl⟩) rfl rfl (r0 := 0) (ci := 7) (T := TX7) (N := 8) rfl rfl hl.1 ⟨Nat.le_of_ble_eq_true rfl, Nat.le_of_ble_eq_true rfl⟩ (Nat.le_of_ble_eq_true rfl) dL_isWritten_21 (fun r_21 g1 H locs hp X => ?_)
  obtain ⟨ob2_21, rfl, rfl, hob2_21⟩ := hp
  have X : xS D A9 s9 [xoA q A, ob2_21] H locs := X
  refine lv_istore (lv' := [(4, .int (x_tW (zS z) 0)), (3, .int (x_sm (x_tP (zS z)) (tN (zS z)))), (2, .int (x_sm (x_hc (zS z) (tF (zS z))) (tN (zS z)))), (1, .int (nI (tN (zS z)))), (0, .ref (A.1 0))]) hx hb dL_isWritten_24 hl (by decide) rfl (fun ls hl => ?_)
  refine lv_aload_n hx hb dL_isWritten_26 rfl (lv_at hl 4 rfl) ?_
  refine lv_iconst (v := 0) hx hb dL_isWritten_27 (by decide) ?_
  refine lv_iconst (v := 5) hx hb dL_isWritten_28 (by decide) ?_
  refine x_cVi F X (gc := [xoA q A, ob2_21]) (gr := []) (xp_idx (n := 2) [0, 1] (by decide +kernel) rfl rfl) (c_G_of5 l D q A z ob2_21 0 (by first | assumption | omega) (by first | assumption | omega)) (cwV 2 F.1.2.2.2.2 gL_isWritten_X7_of rfl rfl rfl (by decide +kernel) ⟨Nat.le_of_ble_eq_true rfl, Nat.le_of_ble_eq_true rfl⟩) rfl rfl (r0 := 0) (ci := 7) (T := TX7) (N := 8) rfl rfl hl.1 ⟨Nat.le_of_ble_eq_true rfl, Nat.le_of_ble_eq_true rfl⟩ (Nat.le_of_ble_eq_true rfl) dL_isWritten_29 (fun r_29 g1 H locs hp X => ?_)
  obtain ⟨ob2_29, rfl, rfl, hob2_29⟩ := hp
  have X : xS D A9 s9 [xoA q A, ob2_29] H locs := X
  refine lv_istore (lv' := [(5, .int (x_bs (zS z) (tN (zS z)) 0)), (4, .int (x_tW (zS z) 0)), (3, .int (x_sm (x_tP (zS z)) (tN (zS z)))), (2, .int (x_sm (x_hc (zS z) (tF (zS z))) (tN (zS z)))), (1, .int (nI (tN (zS z)))), (0, .ref (A.1 0))]) hx hb dL_isWritten_32 hl (by decide) rfl (fun ls hl => ?_)
  rcases Nat.lt_or_ge 80 (zTx z).length with h80 | h80
  · have h10 : ¬ tN (zS z) ≤ 10 := fun q => by have : (zTx z).length ≤ 80 := xl_tx10 (zS z) hp hn1 q; omega
    refine lv_aload_n hx hb dL_isWritten_34 rfl (lv_at hl 5 rfl) ?_
    refine x_cVi F X (gc := [xoA q A, ob2_29]) (gr := []) (xp_idx (n := 2) [0, 1] (by decide +kernel) rfl rfl) (c_G_writeN l D q A z ob2_29 (by first | assumption | omega) (by first | assumption | omega)) (cwV 0 F.1.2.2.2.2 gL_isWritten_X7_write rfl rfl rfl (by decide +kernel) ⟨Nat.le_of_ble_eq_true rfl, Nat.le_of_ble_eq_true rfl⟩) rfl rfl (r0 := 0) (ci := 7) (T := TX7) (N := 8) rfl rfl hl.1 ⟨Nat.le_of_ble_eq_true rfl, Nat.le_of_ble_eq_true rfl⟩ (Nat.le_of_ble_eq_true rfl) dL_isWritten_35 (fun r_35 g1 H locs hp X => ?_)
    obtain ⟨ob2_35, rfl, rfl, hob2_35⟩ := hp
    have X : xS D A9 s9 [xoA q A, ob2_35] H locs := X
    refine lv_istore (lv' := [(6, .int (-4)), (5, .int (x_bs (zS z) (tN (zS z)) 0)), (4, .int (x_tW (zS z) 0)), (3, .int (x_sm (x_tP (zS z)) (tN (zS z)))), (2, .int (x_sm (x_hc (zS z) (tF (zS z))) (tN (zS z)))), (1, .int (nI (tN (zS z)))), (0, .ref (A.1 0))]) hx hb dL_isWritten_38 hl (by decide) rfl (fun ls hl => ?_)
    refine lv_iload hx hb dL_isWritten_40 (lv_at hl 0 rfl) ?_
    refine lv_bipush (v := (-4)) hx hb dL_isWritten_42 (by decide) ?_
    refine lv_icmp_ne (tgt := 59) hx hb dL_isWritten_44 (by decide) (fun h => absurd (by decide) h) (fun _ => ?_)
    refine lv_iload_n hx hb dL_isWritten_47 rfl (lv_at hl 5 rfl) ?_
    refine lv_bipush (v := 10) hx hb dL_isWritten_48 (by decide) ?_
    refine lv_icmp_le (tgt := 57) hx hb dL_isWritten_50 (by decide) (fun c_50 => ?_) (fun c_50 => ?_)
    · exfalso
      have c_50 : (tN (zS z)) ≤ 10 := (nI_leI (a := (tN (zS z))) (b := 10) (by omega) (by omega)).mp c_50
      exact h10 c_50
    have c_50 : 10 < (tN (zS z)) := Nat.not_le.mp (fun h => c_50 ((nI_leI (a := (tN (zS z))) (b := 10) (by omega) (by omega)).mpr h))
    refine lv_iconst (v := 1) hx hb dL_isWritten_53 (by decide) ?_
    refine lv_goto (tgt := 58) hx hb dL_isWritten_54 (by decide) ?_
    exact hret _ _ _ _ _ _ (by exact ⟨_, _, rfl, rfl, by assumption, hw4⟩) X dL_isWritten_58
  · have hch := x_tx_ch hok
    have ht0 := x_tx_0 hok
    have hl1 : 1 ≤ (zTx z).length := ht0.2
    obtain ⟨la, to2, hrl, hla0, hla4, hri⟩ := x_rl_tx hok (fun _ => 0)
    have hrun : x_run (fun j => (zD (zWr z) j).toNatClampNeg) (fun _ => 0) (zL (zWr z)) = some (tN (zS z), la, -1, to2) := x_rl_run (S := (zTx z)) (fun j _ => nI_clamp (by have : (zTx z).getD j 0 < 256 := hch j; omega)) hrl
    have hfr : x_fr (fun j => (zD (zWr z) j).toNatClampNeg) (fun _ => 0) (zL (zWr z)) (-6) := Or.inr ⟨_, _, _, _, hrun, (if_pos ⟨by decide, hla0, hla4⟩).symm⟩
    refine lv_aload_n hx hb dL_isWritten_34 rfl (lv_at hl 5 rfl) ?_
    refine x_cVi F X (gc := [xoA q A, ob2_29]) (gr := []) (xp_idx (n := 2) [0, 1] (by decide +kernel) rfl rfl) (c_G_writeY l D q A z ob2_29 (by first | assumption | omega) (by first | assumption | omega)) (cwV 0 F.1.2.2.2.2 gL_isWritten_X7_write rfl rfl rfl (by decide +kernel) ⟨Nat.le_of_ble_eq_true rfl, Nat.le_of_ble_eq_true rfl⟩) rfl rfl (r0 := 0) (ci := 7) (T := TX7) (N := 8) rfl rfl hl.1 ⟨Nat.le_of_ble_eq_true rfl, Nat.le_of_ble_eq_true rfl⟩ (Nat.le_of_ble_eq_true rfl) dL_isWritten_35 (fun r_35 g1 H locs hp X => ?_)
    obtain ⟨ob2_35, rfl, rfl, hob2_35⟩ := hp
    have X : xS D A9 s9 [xoA q A, ob2_35] H locs := X
    refine lv_istore (lv' := [(6, .int (nI ((zTx z).length))), (5, .int (x_bs (zS z) (tN (zS z)) 0)), (4, .int (x_tW (zS z) 0)), (3, .int (x_sm (x_tP (zS z)) (tN (zS z)))), (2, .int (x_sm (x_hc (zS z) (tF (zS z))) (tN (zS z)))), (1, .int (nI (tN (zS z)))), (0, .ref (A.1 0))]) hx hb dL_isWritten_38 hl (by decide) rfl (fun ls hl => ?_)
    refine lv_iload hx hb dL_isWritten_40 (lv_at hl 0 rfl) ?_
    refine lv_bipush (v := (-4)) hx hb dL_isWritten_42 (by decide) ?_
    refine lv_icmp_ne (tgt := 59) hx hb dL_isWritten_44 (by decide) (fun c_44 => ?_) (fun c_44 => ?_)
    rotate_left
    · exfalso
      exact x_m4 _ (by omega) c_44
    refine lv_aload_n hx hb dL_isWritten_59 rfl (lv_at hl 6 rfl) ?_
    refine lv_bipush (v := 12) hx hb dL_isWritten_60 (by decide) ?_
    refine x_cVi F X (gc := [xoA q A, ob2_35]) (gr := []) (xp_idx (n := 2) [0, 1] (by decide +kernel) rfl rfl) (c_G_count12 l D q A (zWr z) ob2_35 (by first | assumption | omega)) (cwV 1 F.1.2.2.2.2 gL_isWritten_X7_count rfl rfl rfl (by decide +kernel) ⟨Nat.le_of_ble_eq_true rfl, Nat.le_of_ble_eq_true rfl⟩) rfl rfl (r0 := 0) (ci := 7) (T := TX7) (N := 8) rfl rfl hl.1 ⟨Nat.le_of_ble_eq_true rfl, Nat.le_of_ble_eq_true rfl⟩ (Nat.le_of_ble_eq_true rfl) dL_isWritten_62 (fun r_62 g1 H locs hp X => ?_)
    obtain ⟨ob2_62, rfl, rfl, hob2_62⟩ := hp
    have X : xS D A9 s9 [xoA q A, ob2_62] H locs := X
    refine lv_iload hx hb dL_isWritten_65 (lv_at hl 0 rfl) ?_
    refine lv_icmp_ne (tgt := 123) hx hb dL_isWritten_67 (by decide) (fun c_67 => ?_) (fun c_67 => ?_)
    · exfalso
      exact c_67 rfl
    refine lv_aload_n hx hb dL_isWritten_70 rfl (lv_at hl 6 rfl) ?_
    refine x_cVi F X (gc := [xoA q A, ob2_62]) (gr := []) (xp_idx (n := 2) [0, 1] (by decide +kernel) rfl rfl) (c_G_fault l D q A (zWr z) ob2_62 (-6) (fun _ => 0) (by first | assumption | omega) (by exact hfr)) (cwV 0 F.1.2.2.2.2 gL_isWritten_X7_fault rfl rfl rfl (by decide +kernel) ⟨Nat.le_of_ble_eq_true rfl, Nat.le_of_ble_eq_true rfl⟩) rfl rfl (r0 := 0) (ci := 7) (T := TX7) (N := 8) rfl rfl hl.1 ⟨Nat.le_of_ble_eq_true rfl, Nat.le_of_ble_eq_true rfl⟩ (Nat.le_of_ble_eq_true rfl) dL_isWritten_71 (fun r_71 g1 H locs hp X => ?_)
    obtain ⟨ob2_71, rfl, rfl, hob2_71⟩ := hp
    have X : xS D A9 s9 [xoA q A, ob2_71] H locs := X
    refine lv_bipush (v := (-6)) hx hb dL_isWritten_74 (by decide) ?_
    refine lv_icmp_ne (tgt := 123) hx hb dL_isWritten_76 (by decide) (fun h => absurd (by decide) h) (fun _ => ?_)
    refine lv_aload_n hx hb dL_isWritten_79 rfl (lv_at hl 6 rfl) ?_
    refine lv_iconst (v := 0) hx hb dL_isWritten_80 (by decide) ?_
    refine x_cVi F X (gc := [xoA q A, ob2_71]) (gr := []) (xp_idx (n := 2) [0, 1] (by decide +kernel) rfl rfl) (c_G_sign l D q A (zWr z) ob2_71 0 (by first | assumption | omega) (by exact hl1)) (cwV 1 F.1.2.2.2.2 gL_isWritten_X7_sign rfl rfl rfl (by decide +kernel) ⟨Nat.le_of_ble_eq_true rfl, Nat.le_of_ble_eq_true rfl⟩) rfl rfl (r0 := 0) (ci := 7) (T := TX7) (N := 8) rfl rfl hl.1 ⟨Nat.le_of_ble_eq_true rfl, Nat.le_of_ble_eq_true rfl⟩ (Nat.le_of_ble_eq_true rfl) dL_isWritten_81 (fun r_81 g1 H locs hp X => ?_)
    obtain ⟨ob2_81, rfl, rfl, hob2_81⟩ := hp
    have X : xS D A9 s9 [xoA q A, ob2_81] H locs := X
    refine lv_bipush (v := 48) hx hb dL_isWritten_84 (by decide) ?_
    refine lv_iload hx hb dL_isWritten_86 (lv_at hl 2 rfl) ?_
    refine lv_iadd hx hb dL_isWritten_88 ?_
    refine lv_icmp_ne (tgt := 123) hx hb dL_isWritten_89 (by decide) (fun c_89 => ?_) (fun c_89 => ?_)
    · exfalso
      exact c_89 ht0.1
    refine lv_aload_n hx hb dL_isWritten_92 rfl (lv_at hl 6 rfl) ?_
    refine lv_iload hx hb dL_isWritten_93 (lv_at hl 0 rfl) ?_
    refine x_cVi F X (gc := [xoA q A, ob2_81]) (gr := []) (xp_idx (n := 2) [0, 1] (by decide +kernel) rfl rfl) (c_G_signN l D q A (zWr z) ob2_81 ((zTx z).length) (by first | assumption | omega) (by rfl)) (cwV 1 F.1.2.2.2.2 gL_isWritten_X7_sign rfl rfl rfl (by decide +kernel) ⟨Nat.le_of_ble_eq_true rfl, Nat.le_of_ble_eq_true rfl⟩) rfl rfl (r0 := 0) (ci := 7) (T := TX7) (N := 8) rfl rfl hl.1 ⟨Nat.le_of_ble_eq_true rfl, Nat.le_of_ble_eq_true rfl⟩ (Nat.le_of_ble_eq_true rfl) dL_isWritten_95 (fun r_95 g1 H locs hp X => ?_)
    obtain ⟨ob2_95, rfl, rfl, hob2_95⟩ := hp
    have X : xS D A9 s9 [xoA q A, ob2_95] H locs := X
    refine lv_iconst (v := (-1)) hx hb dL_isWritten_98 (by decide) ?_
    refine lv_icmp_ne (tgt := 123) hx hb dL_isWritten_99 (by decide) (fun h => absurd (by decide) h) (fun _ => ?_)
    refine lv_aload_n hx hb dL_isWritten_102 rfl (lv_at hl 6 rfl) ?_
    refine x_cVi F X (gc := [xoA q A, ob2_95]) (gr := []) (xp_idx (n := 2) [0, 1] (by decide +kernel) rfl rfl) (c_G_buildY l D q A (zWr z) ob2_95 (tN (zS z)) la (-1) (fun _ => 0) to2 (by first | assumption | omega) (by exact hrun) (by exact ⟨by decide, hla0, hla4⟩)) (cwV 0 F.1.2.2.2.2 gL_isWritten_X7_build rfl rfl rfl (by decide +kernel) ⟨Nat.le_of_ble_eq_true rfl, Nat.le_of_ble_eq_true rfl⟩) rfl rfl (r0 := 0) (ci := 7) (T := TX7) (N := 8) rfl rfl hl.1 ⟨Nat.le_of_ble_eq_true rfl, Nat.le_of_ble_eq_true rfl⟩ (Nat.le_of_ble_eq_true rfl) dL_isWritten_103 (fun r_103 g1 H locs hp X => ?_)
    obtain ⟨ob2_103, rfl, rfl, hob2_103⟩ := hp
    have X : xS D A9 s9 [xoA q A, ob2_103] H locs := X
    have hnt := nt_all hok (xq_of (xd_perm hp hn1)) rfl hri hob2_103.ok
    have hn2 : tN (zS (zBd (zWr z) to2 (tN (zS z)))) = tN (zS z) := hnt.1
    have hk02 : 0 < tN (zS (zBd (zWr z) to2 (tN (zS z)))) := by omega
    have h80b : (zTx (zBd (zWr z) to2 (tN (zS z)))).length ≤ 80 := by rw [show (zTx (zBd (zWr z) to2 (tN (zS z)))).length = (zTx z).length from hnt.2.2.2.2.2]; exact h80
    refine lv_iload_n hx hb dL_isWritten_106 rfl (lv_at hl 5 rfl) ?_
    refine lv_icmp_ne (tgt := 123) hx hb dL_isWritten_107 (by decide) (fun c_107 => ?_) (fun c_107 => ?_)
    · exfalso
      have c_107 : ¬ ((tN (zS z)) = (tN (zS z))) := fun h => c_107 ((nI_eq (a := (tN (zS z))) (b := (tN (zS z))) (by omega) (by omega)).mpr h)
      exact c_107 rfl
    have c_107 : (tN (zS z)) = (tN (zS z)) := (nI_eq (a := (tN (zS z))) (b := (tN (zS z))) (by omega) (by omega)).mp c_107
    refine lv_aload_n hx hb dL_isWritten_110 rfl (lv_at hl 6 rfl) ?_
    refine lv_bipush (v := 12) hx hb dL_isWritten_111 (by decide) ?_
    refine x_cVi F X (gc := [xoA q A, ob2_103]) (gr := []) (xp_idx (n := 2) [0, 1] (by decide +kernel) rfl rfl) (c_G_count12 l D q A (zBd (zWr z) to2 (tN (zS z))) ob2_103 (by first | assumption | omega)) (cwV 1 F.1.2.2.2.2 gL_isWritten_X7_count rfl rfl rfl (by decide +kernel) ⟨Nat.le_of_ble_eq_true rfl, Nat.le_of_ble_eq_true rfl⟩) rfl rfl (r0 := 0) (ci := 7) (T := TX7) (N := 8) rfl rfl hl.1 ⟨Nat.le_of_ble_eq_true rfl, Nat.le_of_ble_eq_true rfl⟩ (Nat.le_of_ble_eq_true rfl) dL_isWritten_113 (fun r_113 g1 H locs hp X => ?_)
    obtain ⟨ob2_113, rfl, rfl, hob2_113⟩ := hp
    have X : xS D A9 s9 [xoA q A, ob2_113] H locs := X
    refine lv_if_ne (tgt := 123) hx hb dL_isWritten_116 (by decide) (fun c_116 => ?_) (fun c_116 => ?_)
    · exfalso
      exact c_116 rfl
    refine lv_iconst (v := 1) hx hb dL_isWritten_119 (by decide) ?_
    refine lv_goto (tgt := 124) hx hb dL_isWritten_120 (by decide) ?_
    refine lv_istore (lv' := [(7, .int 1), (6, .int (nI ((zTx z).length))), (5, .int (x_bs (zS z) (tN (zS z)) 0)), (4, .int (x_tW (zS z) 0)), (3, .int (x_sm (x_tP (zS z)) (tN (zS z)))), (2, .int (x_sm (x_hc (zS z) (tF (zS z))) (tN (zS z)))), (1, .int (nI (tN (zS z)))), (0, .ref (A.1 0))]) hx hb dL_isWritten_124 hl (by decide) rfl (fun ls hl => ?_)
    refine lv_iload hx hb dL_isWritten_126 (lv_at hl 0 rfl) ?_
    refine lv_if_eq (tgt := 181) hx hb dL_isWritten_128 (by decide) (fun h => absurd h (by decide)) (fun _ => ?_)
    refine lv_aload_n hx hb dL_isWritten_131 rfl (lv_at hl 7 rfl) ?_
    refine lv_iconst (v := 5) hx hb dL_isWritten_132 (by decide) ?_
    refine x_cVi F X (gc := [xoA q A, ob2_113]) (gr := []) (xp_idx (n := 2) [0, 1] (by decide +kernel) rfl rfl) (c_G_count5 l D q A (zBd (zWr z) to2 (tN (zS z))) ob2_113 (by first | assumption | omega)) (cwV 1 F.1.2.2.2.2 gL_isWritten_X7_count rfl rfl rfl (by decide +kernel) ⟨Nat.le_of_ble_eq_true rfl, Nat.le_of_ble_eq_true rfl⟩) rfl rfl (r0 := 0) (ci := 7) (T := TX7) (N := 8) rfl rfl hl.1 ⟨Nat.le_of_ble_eq_true rfl, Nat.le_of_ble_eq_true rfl⟩ (Nat.le_of_ble_eq_true rfl) dL_isWritten_133 (fun r_133 g1 H locs hp X => ?_)
    obtain ⟨ob2_133, rfl, rfl, hob2_133⟩ := hp
    have X : xS D A9 s9 [xoA q A, ob2_133] H locs := X
    refine lv_iload_n hx hb dL_isWritten_136 rfl (lv_at hl 5 rfl) ?_
    refine lv_icmp_ne (tgt := 181) hx hb dL_isWritten_137 (by decide) (fun c_137 => ?_) (fun c_137 => ?_)
    · exfalso
      exact c_137 hnt.2.1
    refine lv_aload_n hx hb dL_isWritten_140 rfl (lv_at hl 7 rfl) ?_
    refine lv_iconst (v := 4) hx hb dL_isWritten_141 (by decide) ?_
    refine x_cVi F X (gc := [xoA q A, ob2_133]) (gr := []) (xp_idx (n := 2) [0, 1] (by decide +kernel) rfl rfl) (c_G_count4 l D q A (zBd (zWr z) to2 (tN (zS z))) ob2_133 (by first | assumption | omega)) (cwV 1 F.1.2.2.2.2 gL_isWritten_X7_count rfl rfl rfl (by decide +kernel) ⟨Nat.le_of_ble_eq_true rfl, Nat.le_of_ble_eq_true rfl⟩) rfl rfl (r0 := 0) (ci := 7) (T := TX7) (N := 8) rfl rfl hl.1 ⟨Nat.le_of_ble_eq_true rfl, Nat.le_of_ble_eq_true rfl⟩ (Nat.le_of_ble_eq_true rfl) dL_isWritten_142 (fun r_142 g1 H locs hp X => ?_)
    obtain ⟨ob2_142, rfl, rfl, hob2_142⟩ := hp
    have X : xS D A9 s9 [xoA q A, ob2_142] H locs := X
    refine lv_iload_n hx hb dL_isWritten_145 rfl (lv_at hl 4 rfl) ?_
    refine lv_icmp_ne (tgt := 181) hx hb dL_isWritten_146 (by decide) (fun c_146 => ?_) (fun c_146 => ?_)
    · exfalso
      exact c_146 hnt.2.2.1
    refine lv_aload_n hx hb dL_isWritten_149 rfl (lv_at hl 7 rfl) ?_
    refine lv_iconst (v := 0) hx hb dL_isWritten_150 (by decide) ?_
    refine lv_iconst (v := 1) hx hb dL_isWritten_151 (by decide) ?_
    refine x_cVi F X (gc := [xoA q A, ob2_142]) (gr := []) (xp_idx (n := 2) [0, 1] (by decide +kernel) rfl rfl) (c_G_of1 l D q A (zBd (zWr z) to2 (tN (zS z))) ob2_142 0 (by first | assumption | omega) (by exact hk02)) (cwV 2 F.1.2.2.2.2 gL_isWritten_X7_of rfl rfl rfl (by decide +kernel) ⟨Nat.le_of_ble_eq_true rfl, Nat.le_of_ble_eq_true rfl⟩) rfl rfl (r0 := 0) (ci := 7) (T := TX7) (N := 8) rfl rfl hl.1 ⟨Nat.le_of_ble_eq_true rfl, Nat.le_of_ble_eq_true rfl⟩ (Nat.le_of_ble_eq_true rfl) dL_isWritten_152 (fun r_152 g1 H locs hp X => ?_)
    obtain ⟨ob2_152, rfl, rfl, hob2_152⟩ := hp
    have X : xS D A9 s9 [xoA q A, ob2_152] H locs := X
    refine lv_iload hx hb dL_isWritten_155 (lv_at hl 3 rfl) ?_
    refine lv_icmp_ne (tgt := 181) hx hb dL_isWritten_157 (by decide) (fun c_157 => ?_) (fun c_157 => ?_)
    · exfalso
      exact c_157 hnt.2.2.2.1
    refine lv_aload_n hx hb dL_isWritten_160 rfl (lv_at hl 7 rfl) ?_
    refine lv_iconst (v := 0) hx hb dL_isWritten_161 (by decide) ?_
    refine lv_iconst (v := 5) hx hb dL_isWritten_162 (by decide) ?_
    refine x_cVi F X (gc := [xoA q A, ob2_152]) (gr := []) (xp_idx (n := 2) [0, 1] (by decide +kernel) rfl rfl) (c_G_of5 l D q A (zBd (zWr z) to2 (tN (zS z))) ob2_152 0 (by first | assumption | omega) (by exact hk02)) (cwV 2 F.1.2.2.2.2 gL_isWritten_X7_of rfl rfl rfl (by decide +kernel) ⟨Nat.le_of_ble_eq_true rfl, Nat.le_of_ble_eq_true rfl⟩) rfl rfl (r0 := 0) (ci := 7) (T := TX7) (N := 8) rfl rfl hl.1 ⟨Nat.le_of_ble_eq_true rfl, Nat.le_of_ble_eq_true rfl⟩ (Nat.le_of_ble_eq_true rfl) dL_isWritten_163 (fun r_163 g1 H locs hp X => ?_)
    obtain ⟨ob2_163, rfl, rfl, hob2_163⟩ := hp
    have X : xS D A9 s9 [xoA q A, ob2_163] H locs := X
    refine x_cSi F X (gc := []) (gr := [xoA q A, ob2_163]) (xp_idx (n := 2) [0, 1] (by decide +kernel) rfl rfl) (c_L_ones l D q (x_bs (zS (zBd (zWr z) to2 (tN (zS z)))) (tN (zS (zBd (zWr z) to2 (tN (zS z))))) 0) ) (va_cwS 1 F.1.2.2.2.2 gL_isWritten_L_ones rfl rfl rfl (by decide +kernel) ⟨Nat.le_of_ble_eq_true rfl, Nat.le_of_ble_eq_true rfl⟩) rfl rfl hl.1 ⟨Nat.le_of_ble_eq_true rfl, Nat.le_of_ble_eq_true rfl⟩ (Nat.le_of_ble_eq_true rfl) dL_isWritten_166 (fun r_166 g1 H locs hp X => ?_)
    obtain ⟨rfl, rfl⟩ := hp
    have X : xS D A9 s9 [xoA q A, ob2_163] H locs := X
    refine lv_iload hx hb dL_isWritten_169 (lv_at hl 2 rfl) ?_
    refine x_cSi F X (gc := []) (gr := [xoA q A, ob2_163]) (xp_idx (n := 2) [0, 1] (by decide +kernel) rfl rfl) (c_L_ones l D q (x_bs (zS z) (tN (zS z)) 0) ) (va_cwS 1 F.1.2.2.2.2 gL_isWritten_L_ones rfl rfl rfl (by decide +kernel) ⟨Nat.le_of_ble_eq_true rfl, Nat.le_of_ble_eq_true rfl⟩) rfl rfl hl.1 ⟨Nat.le_of_ble_eq_true rfl, Nat.le_of_ble_eq_true rfl⟩ (Nat.le_of_ble_eq_true rfl) dL_isWritten_171 (fun r_171 g1 H locs hp X => ?_)
    obtain ⟨rfl, rfl⟩ := hp
    have X : xS D A9 s9 [xoA q A, ob2_163] H locs := X
    refine lv_icmp_ne (tgt := 181) hx hb dL_isWritten_174 (by decide) (fun c_174 => ?_) (fun c_174 => ?_)
    · exfalso
      exact c_174 hnt.2.2.2.2.1
    refine lv_iconst (v := 1) hx hb dL_isWritten_177 (by decide) ?_
    refine lv_goto (tgt := 182) hx hb dL_isWritten_178 (by decide) ?_
    refine lv_istore (lv' := [(7, .int 1), (6, .int (nI ((zTx z).length))), (5, .int (x_bs (zS z) (tN (zS z)) 0)), (4, .int (x_tW (zS z) 0)), (3, .int (x_sm (x_tP (zS z)) (tN (zS z)))), (2, .int (x_sm (x_hc (zS z) (tF (zS z))) (tN (zS z)))), (1, .int (nI (tN (zS z)))), (0, .ref (A.1 0))]) hx hb dL_isWritten_182 hl (by decide) rfl (fun ls hl => ?_)
    refine lv_aload_n hx hb dL_isWritten_184 rfl (lv_at hl 7 rfl) ?_
    refine x_cVi F X (gc := [xoA q A, ob2_163]) (gr := []) (xp_idx (n := 2) [0, 1] (by decide +kernel) rfl rfl) (c_G_writeY l D q A (zBd (zWr z) to2 (tN (zS z))) ob2_163 (by first | assumption | omega) (by exact h80b)) (cwV 0 F.1.2.2.2.2 gL_isWritten_X7_write rfl rfl rfl (by decide +kernel) ⟨Nat.le_of_ble_eq_true rfl, Nat.le_of_ble_eq_true rfl⟩) rfl rfl (r0 := 0) (ci := 7) (T := TX7) (N := 8) rfl rfl hl.1 ⟨Nat.le_of_ble_eq_true rfl, Nat.le_of_ble_eq_true rfl⟩ (Nat.le_of_ble_eq_true rfl) dL_isWritten_185 (fun r_185 g1 H locs hp X => ?_)
    obtain ⟨ob2_185, rfl, rfl, hob2_185⟩ := hp
    have X : xS D A9 s9 [xoA q A, ob2_185] H locs := X
    refine lv_istore (lv' := [(8, .int (nI ((zTx (zBd (zWr z) to2 (tN (zS z)))).length))), (7, .int 1), (6, .int (nI ((zTx z).length))), (5, .int (x_bs (zS z) (tN (zS z)) 0)), (4, .int (x_tW (zS z) 0)), (3, .int (x_sm (x_tP (zS z)) (tN (zS z)))), (2, .int (x_sm (x_hc (zS z) (tF (zS z))) (tN (zS z)))), (1, .int (nI (tN (zS z)))), (0, .ref (A.1 0))]) hx hb dL_isWritten_188 hl (by decide) rfl (fun ls hl => ?_)
    refine lv_iload hx hb dL_isWritten_190 (lv_at hl 1 rfl) ?_
    refine lv_if_eq (tgt := 242) hx hb dL_isWritten_192 (by decide) (fun h => absurd h (by decide)) (fun _ => ?_)
    refine lv_iload hx hb dL_isWritten_195 (lv_at hl 0 rfl) ?_
    refine lv_iload hx hb dL_isWritten_197 (lv_at hl 2 rfl) ?_
    refine lv_icmp_ne (tgt := 242) hx hb dL_isWritten_199 (by decide) (fun c_199 => ?_) (fun c_199 => ?_)
    · exfalso
      have c_199 : ¬ ((zTx (zBd (zWr z) to2 (tN (zS z)))).length = (zTx z).length) := fun h => c_199 ((nI_eq (a := (zTx (zBd (zWr z) to2 (tN (zS z)))).length) (b := (zTx z).length) (by omega) (by omega)).mpr h)
      exact c_199 hnt.2.2.2.2.2
    have c_199 : (zTx (zBd (zWr z) to2 (tN (zS z)))).length = (zTx z).length := (nI_eq (a := (zTx (zBd (zWr z) to2 (tN (zS z)))).length) (b := (zTx z).length) (by omega) (by omega)).mp c_199
    refine lv_aload_n hx hb dL_isWritten_202 rfl (lv_at hl 8 rfl) ?_
    refine x_cVi F X (gc := [xoA q A, ob2_185]) (gr := []) (xp_idx (n := 2) [0, 1] (by decide +kernel) rfl rfl) (c_G_wipe l D q A (zWr (zBd (zWr z) to2 (tN (zS z)))) ob2_185 (by first | assumption | omega)) (cwV 0 F.1.2.2.2.2 gL_isWritten_X7_wipe rfl rfl rfl (by decide +kernel) ⟨Nat.le_of_ble_eq_true rfl, Nat.le_of_ble_eq_true rfl⟩) rfl rfl (r0 := 0) (ci := 7) (T := TX7) (N := 8) rfl rfl hl.1 ⟨Nat.le_of_ble_eq_true rfl, Nat.le_of_ble_eq_true rfl⟩ (Nat.le_of_ble_eq_true rfl) dL_isWritten_203 (fun r_203 g1 H locs hp X => ?_)
    obtain ⟨ob2_203, rfl, rfl, hob2_203⟩ := hp
    have X : xS D A9 s9 [xoA q A, ob2_203] H locs := X
    refine lv_iload hx hb dL_isWritten_206 (lv_at hl 2 rfl) ?_
    refine lv_icmp_ne (tgt := 242) hx hb dL_isWritten_208 (by decide) (fun c_208 => ?_) (fun c_208 => ?_)
    · exfalso
      exact c_208 (congrArg nI hnt.2.2.2.2.2)
    refine lv_aload_n hx hb dL_isWritten_211 rfl (lv_at hl 8 rfl) ?_
    refine x_cVi F X (gc := [xoA q A, ob2_203]) (gr := []) (xp_idx (n := 2) [0, 1] (by decide +kernel) rfl rfl) (c_G_undoY l D q A (zWp (zWr (zBd (zWr z) to2 (tN (zS z))))) ob2_203 (by first | assumption | omega) (by
        show 1 ≤ min (zK z + 1) 6
        omega)) (cwV 0 F.1.2.2.2.2 gL_isWritten_X7_undo rfl rfl rfl (by decide +kernel) ⟨Nat.le_of_ble_eq_true rfl, Nat.le_of_ble_eq_true rfl⟩) rfl rfl (r0 := 0) (ci := 7) (T := TX7) (N := 8) rfl rfl hl.1 ⟨Nat.le_of_ble_eq_true rfl, Nat.le_of_ble_eq_true rfl⟩ (Nat.le_of_ble_eq_true rfl) dL_isWritten_212 (fun r_212 g1 H locs hp X => ?_)
    obtain ⟨ob2_212, rfl, rfl, hob2_212⟩ := hp
    have X : xS D A9 s9 [xoA q A, ob2_212] H locs := X
    have hz5 : ∀ j, j < 133 → zS (zUn (zWp (zWr (zBd (zWr z) to2 (tN (zS z)))))) j = zS z j := fun j hj => by
      have h1 := (zpf_ok (zK z) (zP z) (zS z)).2 (min (zK z + 1) 6 - 1) j (by omega) hj
      rw [if_pos (by omega)] at h1
      have e9 : zS (zUn (zWp (zWr (zBd (zWr z) to2 (tN (zS z)))))) j = x_pt (zS (zWp (zWr (zBd (zWr z) to2 (tN (zS z)))))) (fun j => zP (zWp (zWr (zBd (zWr z) to2 (tN (zS z))))) (133 * (zK (zWp (zWr (zBd (zWr z) to2 (tN (zS z))))) - 1) + j)) 0 133 j := rfl
      rw [e9, x_pt_in (Nat.zero_le j) (by omega), Nat.sub_zero]
      exact h1
    have hk4 : zK (zWp (zWr (zBd (zWr z) to2 (tN (zS z))))) ≤ 6 := by
      show min (zK z + 1) 6 ≤ 6
      omega
    have hn5 : tN (zS (zUn (zWp (zWr (zBd (zWr z) to2 (tN (zS z))))))) = tN (zS z) := tN_eq (hz5 5 (by omega))
    have hk05 : 0 < tN (zS (zUn (zWp (zWr (zBd (zWr z) to2 (tN (zS z))))))) := by omega
    have hb5 : x_bs (zS (zUn (zWp (zWr (zBd (zWr z) to2 (tN (zS z))))))) (tN (zS (zUn (zWp (zWr (zBd (zWr z) to2 (tN (zS z)))))))) 0 = x_bs (zS z) (tN (zS z)) 0 := by
      rw [hn5]
      unfold x_bs
      refine x_orf_cong (fun o ho => ?_)
      unfold x_bo x_tF
      rw [hz5 _ (by omega)]
    refine lv_if_lt (tgt := 242) hx hb dL_isWritten_215 (by decide) (fun c_215 => ?_) (fun c_215 => ?_)
    · exfalso
      have c_215 : zK (zWp (zWr (zBd (zWr z) to2 (tN (zS z))))) - 1 < 0 := (nI_ltI (a := zK (zWp (zWr (zBd (zWr z) to2 (tN (zS z))))) - 1) (b := 0) (by omega) (by omega)).mp c_215
      omega
    have c_215 : 0 ≤ zK (zWp (zWr (zBd (zWr z) to2 (tN (zS z))))) - 1 := Nat.not_lt.mp (fun h => c_215 ((nI_ltI (a := zK (zWp (zWr (zBd (zWr z) to2 (tN (zS z))))) - 1) (b := 0) (by omega) (by omega)).mpr h))
    refine lv_aload_n hx hb dL_isWritten_218 rfl (lv_at hl 8 rfl) ?_
    refine lv_iconst (v := 0) hx hb dL_isWritten_219 (by decide) ?_
    refine lv_iconst (v := 5) hx hb dL_isWritten_220 (by decide) ?_
    refine x_cVi F X (gc := [xoA q A, ob2_212]) (gr := []) (xp_idx (n := 2) [0, 1] (by decide +kernel) rfl rfl) (c_G_of5 l D q A (zUn (zWp (zWr (zBd (zWr z) to2 (tN (zS z)))))) ob2_212 0 (by first | assumption | omega) (by exact hk05)) (cwV 2 F.1.2.2.2.2 gL_isWritten_X7_of rfl rfl rfl (by decide +kernel) ⟨Nat.le_of_ble_eq_true rfl, Nat.le_of_ble_eq_true rfl⟩) rfl rfl (r0 := 0) (ci := 7) (T := TX7) (N := 8) rfl rfl hl.1 ⟨Nat.le_of_ble_eq_true rfl, Nat.le_of_ble_eq_true rfl⟩ (Nat.le_of_ble_eq_true rfl) dL_isWritten_221 (fun r_221 g1 H locs hp X => ?_)
    obtain ⟨ob2_221, rfl, rfl, hob2_221⟩ := hp
    have X : xS D A9 s9 [xoA q A, ob2_221] H locs := X
    refine lv_iload hx hb dL_isWritten_224 (lv_at hl 3 rfl) ?_
    refine lv_icmp_ne (tgt := 242) hx hb dL_isWritten_226 (by decide) (fun c_226 => ?_) (fun c_226 => ?_)
    · exfalso
      exact c_226 hb5
    refine lv_aload_n hx hb dL_isWritten_229 rfl (lv_at hl 8 rfl) ?_
    refine lv_iconst (v := 0) hx hb dL_isWritten_230 (by decide) ?_
    refine x_cVi F X (gc := [xoA q A, ob2_221]) (gr := []) (xp_idx (n := 2) [0, 1] (by decide +kernel) rfl rfl) (c_G_count0 l D q A (zUn (zWp (zWr (zBd (zWr z) to2 (tN (zS z)))))) ob2_221 (by first | assumption | omega)) (cwV 1 F.1.2.2.2.2 gL_isWritten_X7_count rfl rfl rfl (by decide +kernel) ⟨Nat.le_of_ble_eq_true rfl, Nat.le_of_ble_eq_true rfl⟩) rfl rfl (r0 := 0) (ci := 7) (T := TX7) (N := 8) rfl rfl hl.1 ⟨Nat.le_of_ble_eq_true rfl, Nat.le_of_ble_eq_true rfl⟩ (Nat.le_of_ble_eq_true rfl) dL_isWritten_231 (fun r_231 g1 H locs hp X => ?_)
    obtain ⟨ob2_231, rfl, rfl, hob2_231⟩ := hp
    have X : xS D A9 s9 [xoA q A, ob2_231] H locs := X
    refine lv_iload_n hx hb dL_isWritten_234 rfl (lv_at hl 7 rfl) ?_
    refine lv_icmp_ne (tgt := 242) hx hb dL_isWritten_235 (by decide) (fun c_235 => ?_) (fun c_235 => ?_)
    · exfalso
      have c_235 : ¬ ((tN (zS (zUn (zWp (zWr (zBd (zWr z) to2 (tN (zS z)))))))) = (tN (zS z))) := fun h => c_235 ((nI_eq (a := (tN (zS (zUn (zWp (zWr (zBd (zWr z) to2 (tN (zS z))))))))) (b := (tN (zS z))) (by omega) (by omega)).mpr h)
      exact c_235 hn5
    have c_235 : (tN (zS (zUn (zWp (zWr (zBd (zWr z) to2 (tN (zS z)))))))) = (tN (zS z)) := (nI_eq (a := (tN (zS (zUn (zWp (zWr (zBd (zWr z) to2 (tN (zS z))))))))) (b := (tN (zS z))) (by omega) (by omega)).mp c_235
    refine lv_iconst (v := 1) hx hb dL_isWritten_238 (by decide) ?_
    refine lv_goto (tgt := 243) hx hb dL_isWritten_239 (by decide) ?_
    exact hret _ _ _ _ _ _ (by exact ⟨_, _, rfl, rfl, by assumption, hw4.of (hz5 4 (by omega))⟩) X dL_isWritten_243

