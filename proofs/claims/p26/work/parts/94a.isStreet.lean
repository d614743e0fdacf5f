set_option maxHeartbeats 1000000 in
set_option maxRecDepth 100000 in
theorem c_L_isStreet (l : Launch) (D : va_G) (q : xQ) (A : xAd) (z : xZt) (ob : va_W) (k : Nat) (hob : xOb q A z ob) (hk : k < tN (zS z)) : xMi l yL_isStreet wsL_isStreet { frames := 6, cells := 0, slots := 0, locals := 133 } D q [.ref (A.1 0), .int (nI k)] [xoA q A, ob] (fun r gw => ∃ (ob2 : va_W), gw = [xoA q A, ob2] ∧ r = 1 ∧ (xOb q A z ob2)) := by
  refine xMi_of (cc := cL_isStreet) (maxL := 18) (rt := .boolean) (by decide) rfl (Nat.le_of_ble_eq_true rfl) (fun v w h => by obtain ⟨_, _, rfl, _⟩ := h; rfl) ?_
  intro p9 e9 s9 m9 a9 below meth c9 A9 Z9 ls H locs F X hl hret
  have hx := F.1.1
  have hb := F.1.2.1
  have hl : lv_has ls 18 [(0, .ref (A.1 0)), (1, .int (nI k))] := hl
  have hok := hob.ok
  have hn := hok.1
  have hn1 := hok.2.1
  have hp := xv_hp hok
  have hwdt := hok.2.2.2.2.2.1
  have hstp : ¬ x_tC (zS z) k = 0 → 0 < zS z 0 * x_tC (zS z) k := fun h => x_stp_pos hok.2.2.2.2.2.2.2.2.2.1 (hok.2.2.2.2.2.2.1 k hk) h
  have hlp : 0 < zS z 3 := xv_pos hok.2.2.2.2.2.2.2.2.2.2.1 (by omega) (by omega)
  have hrk : x_bn (tR (zS z)) 0 (tN (zS z) - 1) = tN (zS z) - 1 := xt_root hp hn1
  refine lv_aload_n hx hb dL_isStreet_0 rfl (lv_at hl 0 rfl) ?_
  refine lv_iconst (v := 0) hx hb dL_isStreet_1 (by decide) ?_
  refine x_cVi F X (gc := [xoA q A, ob]) (gr := []) (xp_idx (n := 2) [0, 1] (by decide +kernel) rfl rfl) (c_G_count0 l D q A z ob (by first | assumption | omega)) (cwV 1 F.1.2.2.2.2 gL_isStreet_X7_count rfl rfl rfl (by decide +kernel) ⟨Nat.le_of_ble_eq_true rfl, Nat.le_of_ble_eq_true rfl⟩) rfl rfl (r0 := 0) (ci := 7) (T := TX7) (N := 8) rfl rfl hl.1 ⟨Nat.le_of_ble_eq_true rfl, Nat.le_of_ble_eq_true rfl⟩ (Nat.le_of_ble_eq_true rfl) dL_isStreet_2 (fun r_2 g1 H locs hp X => ?_)
  obtain ⟨ob2_2, rfl, rfl, hob2_2⟩ := hp
  have X : xS D A9 s9 [xoA q A, ob2_2] H locs := X
  refine lv_istore_n (lv' := [(2, .int (nI (tN (zS z)))), (0, .ref (A.1 0)), (1, .int (nI k))]) hx hb dL_isStreet_5 rfl hl (by decide) rfl (fun ls hl => ?_)
  refine lv_aload_n hx hb dL_isStreet_6 rfl (lv_at hl 1 rfl) ?_
  refine lv_iload_n hx hb dL_isStreet_7 rfl (lv_at hl 2 rfl) ?_
  refine lv_iconst (v := 0) hx hb dL_isStreet_8 (by decide) ?_
  refine x_cVi F X (gc := [xoA q A, ob2_2]) (gr := []) (xp_idx (n := 2) [0, 1] (by decide +kernel) rfl rfl) (c_G_of0 l D q A z ob2_2 k (by first | assumption | omega) (by first | assumption | omega)) (cwV 2 F.1.2.2.2.2 gL_isStreet_X7_of rfl rfl rfl (by decide +kernel) ⟨Nat.le_of_ble_eq_true rfl, Nat.le_of_ble_eq_true rfl⟩) rfl rfl (r0 := 0) (ci := 7) (T := TX7) (N := 8) rfl rfl hl.1 ⟨Nat.le_of_ble_eq_true rfl, Nat.le_of_ble_eq_true rfl⟩ (Nat.le_of_ble_eq_true rfl) dL_isStreet_9 (fun r_9 g1 H locs hp X => ?_)
  obtain ⟨ob2_9, rfl, rfl, hob2_9⟩ := hp
  have X : xS D A9 s9 [xoA q A, ob2_9] H locs := X
  refine lv_istore_n (lv' := [(3, .int (x_np (x_tF (zS z) k))), (2, .int (nI (tN (zS z)))), (0, .ref (A.1 0)), (1, .int (nI k))]) hx hb dL_isStreet_12 rfl hl (by decide) rfl (fun ls hl => ?_)
  refine lv_aload_n hx hb dL_isStreet_13 rfl (lv_at hl 2 rfl) ?_
  refine lv_iload_n hx hb dL_isStreet_14 rfl (lv_at hl 3 rfl) ?_
  refine lv_iconst (v := 0) hx hb dL_isStreet_15 (by decide) ?_
  refine x_cVi F X (gc := [xoA q A, ob2_9]) (gr := []) (xp_idx (n := 2) [0, 1] (by decide +kernel) rfl rfl) (c_G_now0 l D q A z ob2_9 k (by first | assumption | omega) (by first | assumption | omega)) (cwV 2 F.1.2.2.2.2 gL_isStreet_X7_now rfl rfl rfl (by decide +kernel) ⟨Nat.le_of_ble_eq_true rfl, Nat.le_of_ble_eq_true rfl⟩) rfl rfl (r0 := 0) (ci := 7) (T := TX7) (N := 8) rfl rfl hl.1 ⟨Nat.le_of_ble_eq_true rfl, Nat.le_of_ble_eq_true rfl⟩ (Nat.le_of_ble_eq_true rfl) dL_isStreet_16 (fun r_16 g1 H locs hp X => ?_)
  obtain ⟨ob2_16, rfl, rfl, hob2_16⟩ := hp
  have X : xS D A9 s9 [xoA q A, ob2_16] H locs := X
  refine lv_istore (lv' := [(4, .int (tF (zS z) k)), (3, .int (x_np (x_tF (zS z) k))), (2, .int (nI (tN (zS z)))), (0, .ref (A.1 0)), (1, .int (nI k))]) hx hb dL_isStreet_19 hl (by decide) rfl (fun ls hl => ?_)
  refine lv_iload hx hb dL_isStreet_21 (lv_at hl 0 rfl) ?_
  refine lv_iload hx hb dL_isStreet_23 (lv_at hl 0 rfl) ?_
  refine lv_aload_n hx hb dL_isStreet_25 rfl (lv_at hl 3 rfl) ?_
  refine lv_bipush (v := 10) hx hb dL_isStreet_26 (by decide) ?_
  refine x_cVi F X (gc := [xoA q A, ob2_16]) (gr := []) (xp_idx (n := 2) [0, 1] (by decide +kernel) rfl rfl) (c_G_count10 l D q A z ob2_16 (by first | assumption | omega)) (cwV 1 F.1.2.2.2.2 gL_isStreet_X7_count rfl rfl rfl (by decide +kernel) ⟨Nat.le_of_ble_eq_true rfl, Nat.le_of_ble_eq_true rfl⟩) rfl rfl (r0 := 0) (ci := 7) (T := TX7) (N := 8) rfl rfl hl.1 ⟨Nat.le_of_ble_eq_true rfl, Nat.le_of_ble_eq_true rfl⟩ (Nat.le_of_ble_eq_true rfl) dL_isStreet_28 (fun r_28 g1 H locs hp X => ?_)
  obtain ⟨ob2_28, rfl, rfl, hob2_28⟩ := hp
  have X : xS D A9 s9 [xoA q A, ob2_28] H locs := X
  refine lv_imul hx hb dL_isStreet_31 ?_
  refine lv_bipush (v := 100) hx hb dL_isStreet_32 (by decide) ?_
  refine lv_idiv hx hb dL_isStreet_34 (by decide) ?_
  refine lv_iadd hx hb dL_isStreet_35 ?_
  refine lv_istore (lv' := [(5, .int ((tF (zS z) k) + (((tF (zS z) k) * ((zS z) 2)) / 100))), (4, .int (tF (zS z) k)), (3, .int (x_np (x_tF (zS z) k))), (2, .int (nI (tN (zS z)))), (0, .ref (A.1 0)), (1, .int (nI k))]) hx hb dL_isStreet_36 hl (by decide) rfl (fun ls hl => ?_)
  refine lv_iload hx hb dL_isStreet_38 (lv_at hl 0 rfl) ?_
  refine lv_aload_n hx hb dL_isStreet_40 rfl (lv_at hl 4 rfl) ?_
  refine lv_bipush (v := 9) hx hb dL_isStreet_41 (by decide) ?_
  refine x_cVi F X (gc := [xoA q A, ob2_28]) (gr := []) (xp_idx (n := 2) [0, 1] (by decide +kernel) rfl rfl) (c_G_count9 l D q A z ob2_28 (by first | assumption | omega)) (cwV 1 F.1.2.2.2.2 gL_isStreet_X7_count rfl rfl rfl (by decide +kernel) ⟨Nat.le_of_ble_eq_true rfl, Nat.le_of_ble_eq_true rfl⟩) rfl rfl (r0 := 0) (ci := 7) (T := TX7) (N := 8) rfl rfl hl.1 ⟨Nat.le_of_ble_eq_true rfl, Nat.le_of_ble_eq_true rfl⟩ (Nat.le_of_ble_eq_true rfl) dL_isStreet_43 (fun r_43 g1 H locs hp X => ?_)
  obtain ⟨ob2_43, rfl, rfl, hob2_43⟩ := hp
  have X : xS D A9 s9 [xoA q A, ob2_43] H locs := X
  refine lv_isub hx hb dL_isStreet_46 ?_
  refine lv_istore (lv' := [(6, .int (((tF (zS z) k) + (((tF (zS z) k) * ((zS z) 2)) / 100)) - ((zS z) 1))), (5, .int ((tF (zS z) k) + (((tF (zS z) k) * ((zS z) 2)) / 100))), (4, .int (tF (zS z) k)), (3, .int (x_np (x_tF (zS z) k))), (2, .int (nI (tN (zS z)))), (0, .ref (A.1 0)), (1, .int (nI k))]) hx hb dL_isStreet_47 hl (by decide) rfl (fun ls hl => ?_)
  have J_88 : ∀ (ob : va_W) (H : Heap) (locs : List Loc) (ls : Array Slot), xS D A9 s9 [xoA q A, ob] H locs → lv_has ls 18 [(6, .int (((tF (zS z) k) + (((tF (zS z) k) * ((zS z) 2)) / 100)) - ((zS z) 1))), (5, .int ((tF (zS z) k) + (((tF (zS z) k) * ((zS z) 2)) / 100))), (4, .int (tF (zS z) k)), (3, .int (x_np (x_tF (zS z) k))), (2, .int (nI (tN (zS z)))), (0, .ref (A.1 0)), (1, .int (nI k))] → (xOb q A z ob) → W p9 l e9 { frames := 6, cells := 0, slots := 0, locals := 133 } s9 m9 a9 below meth c9 H locs 0 0 Z9 (F0 m9 88 ls [.int (x_hc (zS z) (tF (zS z)) k)]) := by
    intro ob H locs ls X hl hob
    refine lv_istore (lv' := [(7, .int (x_hc (zS z) (tF (zS z)) k)), (6, .int (((tF (zS z) k) + (((tF (zS z) k) * ((zS z) 2)) / 100)) - ((zS z) 1))), (5, .int ((tF (zS z) k) + (((tF (zS z) k) * ((zS z) 2)) / 100))), (4, .int (tF (zS z) k)), (3, .int (x_np (x_tF (zS z) k))), (2, .int (nI (tN (zS z)))), (0, .ref (A.1 0)), (1, .int (nI k))]) hx hb dL_isStreet_88 hl (by decide) rfl (fun ls hl => ?_)
    refine lv_aload_n hx hb dL_isStreet_90 rfl (lv_at hl 6 rfl) ?_
    refine lv_iload_n hx hb dL_isStreet_91 rfl (lv_at hl 7 rfl) ?_
    refine lv_iconst (v := 2) hx hb dL_isStreet_92 (by decide) ?_
    refine x_cVi F X (gc := [xoA q A, ob]) (gr := []) (xp_idx (n := 2) [0, 1] (by decide +kernel) rfl rfl) (c_G_of2 l D q A z ob k (by first | assumption | omega) (by first | assumption | omega)) (cwV 2 F.1.2.2.2.2 gL_isStreet_X7_of rfl rfl rfl (by decide +kernel) ⟨Nat.le_of_ble_eq_true rfl, Nat.le_of_ble_eq_true rfl⟩) rfl rfl (r0 := 0) (ci := 7) (T := TX7) (N := 8) rfl rfl hl.1 ⟨Nat.le_of_ble_eq_true rfl, Nat.le_of_ble_eq_true rfl⟩ (Nat.le_of_ble_eq_true rfl) dL_isStreet_93 (fun r_93 g1 H locs hp X => ?_)
    obtain ⟨ob2_93, rfl, rfl, hob2_93⟩ := hp
    have X : xS D A9 s9 [xoA q A, ob2_93] H locs := X
    refine lv_istore (lv' := [(8, .int (x_tC (zS z) k)), (7, .int (x_hc (zS z) (tF (zS z)) k)), (6, .int (((tF (zS z) k) + (((tF (zS z) k) * ((zS z) 2)) / 100)) - ((zS z) 1))), (5, .int ((tF (zS z) k) + (((tF (zS z) k) * ((zS z) 2)) / 100))), (4, .int (tF (zS z) k)), (3, .int (x_np (x_tF (zS z) k))), (2, .int (nI (tN (zS z)))), (0, .ref (A.1 0)), (1, .int (nI k))]) hx hb dL_isStreet_96 hl (by decide) rfl (fun ls hl => ?_)
    have J_119 : ∀ (ob : va_W) (q9 : Int32) (H : Heap) (locs : List Loc) (ls : Array Slot), xS D A9 s9 [xoA q A, ob] H locs → lv_has ls 18 [(8, .int (x_tC (zS z) k)), (7, .int (x_hc (zS z) (tF (zS z)) k)), (6, .int (((tF (zS z) k) + (((tF (zS z) k) * ((zS z) 2)) / 100)) - ((zS z) 1))), (5, .int ((tF (zS z) k) + (((tF (zS z) k) * ((zS z) 2)) / 100))), (4, .int (tF (zS z) k)), (3, .int (x_np (x_tF (zS z) k))), (2, .int (nI (tN (zS z)))), (0, .ref (A.1 0)), (1, .int (nI k))] → (xOb q A z ob) → (¬ x_tC (zS z) k = 0 → q9 = tF (zS z) k / (zS z 0 * x_tC (zS z) k)) → W p9 l e9 { frames := 6, cells := 0, slots := 0, locals := 133 } s9 m9 a9 below meth c9 H locs 0 0 Z9 (F0 m9 119 ls [.int q9]) := by
      intro ob q9 H locs ls X hl hob hq9
      refine lv_istore (lv' := [(9, .int q9), (8, .int (x_tC (zS z) k)), (7, .int (x_hc (zS z) (tF (zS z)) k)), (6, .int (((tF (zS z) k) + (((tF (zS z) k) * ((zS z) 2)) / 100)) - ((zS z) 1))), (5, .int ((tF (zS z) k) + (((tF (zS z) k) * ((zS z) 2)) / 100))), (4, .int (tF (zS z) k)), (3, .int (x_np (x_tF (zS z) k))), (2, .int (nI (tN (zS z)))), (0, .ref (A.1 0)), (1, .int (nI k))]) hx hb dL_isStreet_119 hl (by decide) rfl (fun ls hl => ?_)
      refine lv_iload hx hb dL_isStreet_121 (lv_at hl 5 rfl) ?_
      refine lv_aload_n hx hb dL_isStreet_123 rfl (lv_at hl 8 rfl) ?_
      refine lv_bipush (v := 11) hx hb dL_isStreet_124 (by decide) ?_
      refine x_cVi F X (gc := [xoA q A, ob]) (gr := []) (xp_idx (n := 2) [0, 1] (by decide +kernel) rfl rfl) (c_G_count11 l D q A z ob (by first | assumption | omega)) (cwV 1 F.1.2.2.2.2 gL_isStreet_X7_count rfl rfl rfl (by decide +kernel) ⟨Nat.le_of_ble_eq_true rfl, Nat.le_of_ble_eq_true rfl⟩) rfl rfl (r0 := 0) (ci := 7) (T := TX7) (N := 8) rfl rfl hl.1 ⟨Nat.le_of_ble_eq_true rfl, Nat.le_of_ble_eq_true rfl⟩ (Nat.le_of_ble_eq_true rfl) dL_isStreet_126 (fun r_126 g1 H locs hp X => ?_)
      obtain ⟨ob2_126, rfl, rfl, hob2_126⟩ := hp
      have X : xS D A9 s9 [xoA q A, ob2_126] H locs := X
      refine lv_idiv hx hb dL_isStreet_129 (by exact xv_ne hlp) ?_
      refine lv_istore (lv' := [(10, .int ((tF (zS z) k) / ((zS z) 3))), (9, .int q9), (8, .int (x_tC (zS z) k)), (7, .int (x_hc (zS z) (tF (zS z)) k)), (6, .int (((tF (zS z) k) + (((tF (zS z) k) * ((zS z) 2)) / 100)) - ((zS z) 1))), (5, .int ((tF (zS z) k) + (((tF (zS z) k) * ((zS z) 2)) / 100))), (4, .int (tF (zS z) k)), (3, .int (x_np (x_tF (zS z) k))), (2, .int (nI (tN (zS z)))), (0, .ref (A.1 0)), (1, .int (nI k))]) hx hb dL_isStreet_130 hl (by decide) rfl (fun ls hl => ?_)
      refine lv_iconst (v := 0) hx hb dL_isStreet_132 (by decide) ?_
      refine lv_istore (lv' := [(11, .int 0), (10, .int ((tF (zS z) k) / ((zS z) 3))), (9, .int q9), (8, .int (x_tC (zS z) k)), (7, .int (x_hc (zS z) (tF (zS z)) k)), (6, .int (((tF (zS z) k) + (((tF (zS z) k) * ((zS z) 2)) / 100)) - ((zS z) 1))), (5, .int ((tF (zS z) k) + (((tF (zS z) k) * ((zS z) 2)) / 100))), (4, .int (tF (zS z) k)), (3, .int (x_np (x_tF (zS z) k))), (2, .int (nI (tN (zS z)))), (0, .ref (A.1 0)), (1, .int (nI k))]) hx hb dL_isStreet_133 hl (by decide) rfl (fun ls hl => ?_)
      refine lv_iconst (v := 0) hx hb dL_isStreet_135 (by decide) ?_
      refine lv_istore (lv' := [(12, .int 0), (11, .int 0), (10, .int ((tF (zS z) k) / ((zS z) 3))), (9, .int q9), (8, .int (x_tC (zS z) k)), (7, .int (x_hc (zS z) (tF (zS z)) k)), (6, .int (((tF (zS z) k) + (((tF (zS z) k) * ((zS z) 2)) / 100)) - ((zS z) 1))), (5, .int ((tF (zS z) k) + (((tF (zS z) k) * ((zS z) 2)) / 100))), (4, .int (tF (zS z) k)), (3, .int (x_np (x_tF (zS z) k))), (2, .int (nI (tN (zS z)))), (0, .ref (A.1 0)), (1, .int (nI k))]) hx hb dL_isStreet_136 hl (by decide) rfl (fun ls hl => ?_)
      refine lv_iconst (v := 0) hx hb dL_isStreet_138 (by decide) ?_
      refine lv_istore (lv' := [(13, .int 0), (12, .int 0), (11, .int 0), (10, .int ((tF (zS z) k) / ((zS z) 3))), (9, .int q9), (8, .int (x_tC (zS z) k)), (7, .int (x_hc (zS z) (tF (zS z)) k)), (6, .int (((tF (zS z) k) + (((tF (zS z) k) * ((zS z) 2)) / 100)) - ((zS z) 1))), (5, .int ((tF (zS z) k) + (((tF (zS z) k) * ((zS z) 2)) / 100))), (4, .int (tF (zS z) k)), (3, .int (x_np (x_tF (zS z) k))), (2, .int (nI (tN (zS z)))), (0, .ref (A.1 0)), (1, .int (nI k))]) hx hb dL_isStreet_139 hl (by decide) rfl (fun ls hl => ?_)
      refine lv_iconst (v := 0) hx hb dL_isStreet_141 (by decide) ?_
      refine lv_istore (lv' := [(14, .int 0), (13, .int 0), (12, .int 0), (11, .int 0), (10, .int ((tF (zS z) k) / ((zS z) 3))), (9, .int q9), (8, .int (x_tC (zS z) k)), (7, .int (x_hc (zS z) (tF (zS z)) k)), (6, .int (((tF (zS z) k) + (((tF (zS z) k) * ((zS z) 2)) / 100)) - ((zS z) 1))), (5, .int ((tF (zS z) k) + (((tF (zS z) k) * ((zS z) 2)) / 100))), (4, .int (tF (zS z) k)), (3, .int (x_np (x_tF (zS z) k))), (2, .int (nI (tN (zS z)))), (0, .ref (A.1 0)), (1, .int (nI k))]) hx hb dL_isStreet_142 hl (by decide) rfl (fun ls hl => ?_)
      refine lv_iconst (v := 0) hx hb dL_isStreet_144 (by decide) ?_
      refine lv_istore (lv' := [(15, .int 0), (14, .int 0), (13, .int 0), (12, .int 0), (11, .int 0), (10, .int ((tF (zS z) k) / ((zS z) 3))), (9, .int q9), (8, .int (x_tC (zS z) k)), (7, .int (x_hc (zS z) (tF (zS z)) k)), (6, .int (((tF (zS z) k) + (((tF (zS z) k) * ((zS z) 2)) / 100)) - ((zS z) 1))), (5, .int ((tF (zS z) k) + (((tF (zS z) k) * ((zS z) 2)) / 100))), (4, .int (tF (zS z) k)), (3, .int (x_np (x_tF (zS z) k))), (2, .int (nI (tN (zS z)))), (0, .ref (A.1 0)), (1, .int (nI k))]) hx hb dL_isStreet_145 hl (by decide) rfl (fun ls hl => ?_)
      have L_147 : ∀ (nn : Nat) (ob : va_W) (i : Nat) (br be wd na : Int32) (H : Heap) (locs : List Loc) (ls : Array Slot), xS D A9 s9 [xoA q A, ob] H locs → lv_has ls 18 [(15, .int (nI i)), (14, .int na), (13, .int wd), (12, .int be), (11, .int br), (10, .int ((tF (zS z) k) / ((zS z) 3))), (9, .int q9), (8, .int (x_tC (zS z) k)), (7, .int (x_hc (zS z) (tF (zS z)) k)), (6, .int (((tF (zS z) k) + (((tF (zS z) k) * ((zS z) 2)) / 100)) - ((zS z) 1))), (5, .int ((tF (zS z) k) + (((tF (zS z) k) * ((zS z) 2)) / 100))), (4, .int (tF (zS z) k)), (3, .int (x_np (x_tF (zS z) k))), (2, .int (nI (tN (zS z)))), (0, .ref (A.1 0)), (1, .int (nI k))] → (tN (zS z) < i + nn) → (xOb q A z ob) → (i ≤ tN (zS z)) → (br = x_orf (x_bo (x_tF (zS z)) (nI k)) i) → (be = x_sm (xv_bg (zS z) (tR (zS z)) (tN (zS z)) k) i) → (1 ≤ k → wd = x_sm (x_tg (x_tF (zS z)) (x_tW (zS z)) (-6) k) i) → (1 ≤ k → na = x_sm (x_nr (x_tF (zS z)) (x_tW (zS z)) (-6) k) i) → W p9 l e9 { frames := 6, cells := 0, slots := 0, locals := 133 } s9 m9 a9 below meth c9 H locs 0 0 Z9 (F0 m9 147 ls []) := by
        intro nn
        induction nn with
        | zero => intro ob i br be wd na H locs ls X hl hfuel hob hi hbr hbe hwd hna; exact absurd hfuel (by omega)
        | succ nn ih_147 =>
          intro ob i br be wd na H locs ls X hl hfuel hob hi hbr hbe hwd hna
          refine lv_iload hx hb dL_isStreet_147 (lv_at hl 0 rfl) ?_
          refine lv_iload_n hx hb dL_isStreet_149 rfl (lv_at hl 13 rfl) ?_
          refine lv_icmp_ge (tgt := 298) hx hb dL_isStreet_150 (by decide) (fun c_150 => ?_) (fun c_150 => ?_)
          · have c_150 : (tN (zS z)) ≤ i := (nI_leI (a := (tN (zS z))) (b := i) (by omega) (by omega)).mp c_150
            obtain rfl : i = tN (zS z) := by omega
            obtain rfl : br = x_bs (zS z) (tN (zS z)) k := hbr
            obtain rfl : be = nI (x_bn (tR (zS z)) k (tN (zS z) - (k + 1))) := hbe.trans (xv_be hok hk)
            have J_414 : ∀ (ob : va_W) (H : Heap) (locs : List Loc) (ls : Array Slot), xS D A9 s9 [xoA q A, ob] H locs → lv_has ls 18 [(12, .int (nI (x_bn (tR (zS z)) k (tN (zS z) - (k + 1))))), (11, .int (x_bs (zS z) (tN (zS z)) k)), (10, .int ((tF (zS z) k) / ((zS z) 3))), (9, .int q9), (8, .int (x_tC (zS z) k)), (7, .int (x_hc (zS z) (tF (zS z)) k)), (5, .int ((tF (zS z) k) + (((tF (zS z) k) * ((zS z) 2)) / 100))), (2, .int (nI (tN (zS z)))), (0, .ref (A.1 0)), (1, .int (nI k))] → (xOb q A z ob) → W p9 l e9 { frames := 6, cells := 0, slots := 0, locals := 133 } s9 m9 a9 below meth c9 H locs 0 0 Z9 (F0 m9 414 ls []) := by
              intro ob H locs ls X hl hob
              refine lv_aload_n hx hb dL_isStreet_414 rfl (lv_at hl 8 rfl) ?_
              refine lv_iload_n hx hb dL_isStreet_415 rfl (lv_at hl 9 rfl) ?_
              refine lv_iconst (v := 5) hx hb dL_isStreet_416 (by decide) ?_
              refine x_cVi F X (gc := [xoA q A, ob]) (gr := []) (xp_idx (n := 2) [0, 1] (by decide +kernel) rfl rfl) (c_G_of5 l D q A z ob k (by first | assumption | omega) (by first | assumption | omega)) (cwV 2 F.1.2.2.2.2 gL_isStreet_X7_of rfl rfl rfl (by decide +kernel) ⟨Nat.le_of_ble_eq_true rfl, Nat.le_of_ble_eq_true rfl⟩) rfl rfl (r0 := 0) (ci := 7) (T := TX7) (N := 8) rfl rfl hl.1 ⟨Nat.le_of_ble_eq_true rfl, Nat.le_of_ble_eq_true rfl⟩ (Nat.le_of_ble_eq_true rfl) dL_isStreet_417 (fun r_417 g1 H locs hp X => ?_)
              obtain ⟨ob2_417, rfl, rfl, hob2_417⟩ := hp
              have X : xS D A9 s9 [xoA q A, ob2_417] H locs := X
              refine lv_iload hx hb dL_isStreet_420 (lv_at hl 1 rfl) ?_
              refine lv_icmp_ne (tgt := 533) hx hb dL_isStreet_422 (by decide) (fun c_422 => ?_) (fun c_422 => ?_)
              · exfalso
                exact c_422 rfl
              refine lv_aload_n hx hb dL_isStreet_425 rfl (lv_at hl 8 rfl) ?_
              refine lv_iload_n hx hb dL_isStreet_426 rfl (lv_at hl 9 rfl) ?_
              refine lv_bipush (v := 6) hx hb dL_isStreet_427 (by decide) ?_
              refine x_cVi F X (gc := [xoA q A, ob2_417]) (gr := []) (xp_idx (n := 2) [0, 1] (by decide +kernel) rfl rfl) (c_G_of6 l D q A z ob2_417 k (by first | assumption | omega) (by first | assumption | omega)) (cwV 2 F.1.2.2.2.2 gL_isStreet_X7_of rfl rfl rfl (by decide +kernel) ⟨Nat.le_of_ble_eq_true rfl, Nat.le_of_ble_eq_true rfl⟩) rfl rfl (r0 := 0) (ci := 7) (T := TX7) (N := 8) rfl rfl hl.1 ⟨Nat.le_of_ble_eq_true rfl, Nat.le_of_ble_eq_true rfl⟩ (Nat.le_of_ble_eq_true rfl) dL_isStreet_429 (fun r_429 g1 H locs hp X => ?_)
              obtain ⟨ob2_429, rfl, rfl, hob2_429⟩ := hp
              have X : xS D A9 s9 [xoA q A, ob2_429] H locs := X
              refine lv_iload hx hb dL_isStreet_432 (lv_at hl 0 rfl) ?_
              refine lv_icmp_ne (tgt := 533) hx hb dL_isStreet_434 (by decide) (fun c_434 => ?_) (fun c_434 => ?_)
              · exfalso
                exact c_434 rfl
              refine lv_aload_n hx hb dL_isStreet_437 rfl (lv_at hl 8 rfl) ?_
              refine lv_iload_n hx hb dL_isStreet_438 rfl (lv_at hl 9 rfl) ?_
              refine lv_iconst (v := 1) hx hb dL_isStreet_439 (by decide) ?_
              refine x_cVi F X (gc := [xoA q A, ob2_429]) (gr := []) (xp_idx (n := 2) [0, 1] (by decide +kernel) rfl rfl) (c_G_now1 l D q A z ob2_429 k (by first | assumption | omega) (by first | assumption | omega)) (cwV 2 F.1.2.2.2.2 gL_isStreet_X7_now rfl rfl rfl (by decide +kernel) ⟨Nat.le_of_ble_eq_true rfl, Nat.le_of_ble_eq_true rfl⟩) rfl rfl (r0 := 0) (ci := 7) (T := TX7) (N := 8) rfl rfl hl.1 ⟨Nat.le_of_ble_eq_true rfl, Nat.le_of_ble_eq_true rfl⟩ (Nat.le_of_ble_eq_true rfl) dL_isStreet_440 (fun r_440 g1 H locs hp X => ?_)
              obtain ⟨ob2_440, rfl, rfl, hob2_440⟩ := hp
              have X : xS D A9 s9 [xoA q A, ob2_440] H locs := X
              refine lv_iload hx hb dL_isStreet_443 (lv_at hl 6 rfl) ?_
              refine lv_icmp_ne (tgt := 533) hx hb dL_isStreet_445 (by decide) (fun c_445 => ?_) (fun c_445 => ?_)
              · exfalso
                exact c_445 rfl
              refine lv_aload_n hx hb dL_isStreet_448 rfl (lv_at hl 8 rfl) ?_
              refine lv_iload_n hx hb dL_isStreet_449 rfl (lv_at hl 9 rfl) ?_
              refine lv_iconst (v := 2) hx hb dL_isStreet_450 (by decide) ?_
              refine x_cVi F X (gc := [xoA q A, ob2_440]) (gr := []) (xp_idx (n := 2) [0, 1] (by decide +kernel) rfl rfl) (c_G_now2 l D q A z ob2_440 k (by first | assumption | omega) (by first | assumption | omega)) (cwV 2 F.1.2.2.2.2 gL_isStreet_X7_now rfl rfl rfl (by decide +kernel) ⟨Nat.le_of_ble_eq_true rfl, Nat.le_of_ble_eq_true rfl⟩) rfl rfl (r0 := 0) (ci := 7) (T := TX7) (N := 8) rfl rfl hl.1 ⟨Nat.le_of_ble_eq_true rfl, Nat.le_of_ble_eq_true rfl⟩ (Nat.le_of_ble_eq_true rfl) dL_isStreet_451 (fun r_451 g1 H locs hp X => ?_)
              obtain ⟨ob2_451, rfl, rfl, hob2_451⟩ := hp
              have X : xS D A9 s9 [xoA q A, ob2_451] H locs := X
              refine lv_iload hx hb dL_isStreet_454 (lv_at hl 4 rfl) ?_
              refine lv_if_ne (tgt := 464) hx hb dL_isStreet_456 (by decide) (fun c_456 => ?_) (fun c_456 => ?_)
              · refine lv_iload hx hb dL_isStreet_464 (lv_at hl 3 rfl) ?_
                refine lv_bipush (v := 12) hx hb dL_isStreet_466 (by decide) ?_
                refine lv_icmp_le (tgt := 476) hx hb dL_isStreet_468 (by decide) (fun c_468 => ?_) (fun c_468 => ?_)
                · refine lv_iload hx hb dL_isStreet_476 (lv_at hl 3 rfl) ?_
                  refine lv_icmp_ne (tgt := 533) hx hb dL_isStreet_478 (by decide) (fun c_478 => ?_) (fun c_478 => ?_)
                  · exfalso
                    exact c_478 ((if_neg c_456).trans ((xv_q1 (hstp c_456) (hq9 c_456 ▸ c_468)).trans (hq9 c_456).symm))
                  refine lv_aload_n hx hb dL_isStreet_481 rfl (lv_at hl 8 rfl) ?_
                  refine lv_iload_n hx hb dL_isStreet_482 rfl (lv_at hl 9 rfl) ?_
                  refine lv_iconst (v := 3) hx hb dL_isStreet_483 (by decide) ?_
                  refine x_cVi F X (gc := [xoA q A, ob2_451]) (gr := []) (xp_idx (n := 2) [0, 1] (by decide +kernel) rfl rfl) (c_G_now3 l D q A z ob2_451 k (by first | assumption | omega) (by first | assumption | omega)) (cwV 2 F.1.2.2.2.2 gL_isStreet_X7_now rfl rfl rfl (by decide +kernel) ⟨Nat.le_of_ble_eq_true rfl, Nat.le_of_ble_eq_true rfl⟩) rfl rfl (r0 := 0) (ci := 7) (T := TX7) (N := 8) rfl rfl hl.1 ⟨Nat.le_of_ble_eq_true rfl, Nat.le_of_ble_eq_true rfl⟩ (Nat.le_of_ble_eq_true rfl) dL_isStreet_484 (fun r_484 g1 H locs hp X => ?_)
                  obtain ⟨ob2_484, rfl, rfl, hob2_484⟩ := hp
                  have X : xS D A9 s9 [xoA q A, ob2_484] H locs := X
                  refine lv_aload_n hx hb dL_isStreet_487 rfl (lv_at hl 8 rfl) ?_
                  refine lv_iload_n hx hb dL_isStreet_488 rfl (lv_at hl 9 rfl) ?_
                  refine lv_iconst (v := 3) hx hb dL_isStreet_489 (by decide) ?_
                  refine x_cVi F X (gc := [xoA q A, ob2_484]) (gr := []) (xp_idx (n := 2) [0, 1] (by decide +kernel) rfl rfl) (c_G_of3 l D q A z ob2_484 k (by first | assumption | omega) (by first | assumption | omega)) (cwV 2 F.1.2.2.2.2 gL_isStreet_X7_of rfl rfl rfl (by decide +kernel) ⟨Nat.le_of_ble_eq_true rfl, Nat.le_of_ble_eq_true rfl⟩) rfl rfl (r0 := 0) (ci := 7) (T := TX7) (N := 8) rfl rfl hl.1 ⟨Nat.le_of_ble_eq_true rfl, Nat.le_of_ble_eq_true rfl⟩ (Nat.le_of_ble_eq_true rfl) dL_isStreet_490 (fun r_490 g1 H locs hp X => ?_)
                  obtain ⟨ob2_490, rfl, rfl, hob2_490⟩ := hp
                  have X : xS D A9 s9 [xoA q A, ob2_490] H locs := X
                  refine lv_if_ne (tgt := 501) hx hb dL_isStreet_493 (by decide) (fun c_493 => ?_) (fun c_493 => ?_)
                  · refine lv_iload hx hb dL_isStreet_501 (lv_at hl 2 rfl) ?_
                    refine lv_bipush (v := 9) hx hb dL_isStreet_503 (by decide) ?_
                    refine lv_icmp_le (tgt := 513) hx hb dL_isStreet_505 (by decide) (fun c_505 => ?_) (fun c_505 => ?_)
                    · refine lv_iload hx hb dL_isStreet_513 (lv_at hl 2 rfl) ?_
                      refine lv_icmp_ne (tgt := 533) hx hb dL_isStreet_515 (by decide) (fun c_515 => ?_) (fun c_515 => ?_)
                      · exfalso
                        exact c_515 ((if_neg c_493).trans (xv_q1 hlp c_505))
                      refine lv_aload_n hx hb dL_isStreet_518 rfl (lv_at hl 8 rfl) ?_
                      refine lv_iload_n hx hb dL_isStreet_519 rfl (lv_at hl 9 rfl) ?_
                      refine lv_iconst (v := 4) hx hb dL_isStreet_520 (by decide) ?_
                      refine x_cVi F X (gc := [xoA q A, ob2_490]) (gr := []) (xp_idx (n := 2) [0, 1] (by decide +kernel) rfl rfl) (c_G_now4 l D q A z ob2_490 k (by first | assumption | omega) (by first | assumption | omega)) (cwV 2 F.1.2.2.2.2 gL_isStreet_X7_now rfl rfl rfl (by decide +kernel) ⟨Nat.le_of_ble_eq_true rfl, Nat.le_of_ble_eq_true rfl⟩) rfl rfl (r0 := 0) (ci := 7) (T := TX7) (N := 8) rfl rfl hl.1 ⟨Nat.le_of_ble_eq_true rfl, Nat.le_of_ble_eq_true rfl⟩ (Nat.le_of_ble_eq_true rfl) dL_isStreet_521 (fun r_521 g1 H locs hp X => ?_)
                      obtain ⟨ob2_521, rfl, rfl, hob2_521⟩ := hp
                      have X : xS D A9 s9 [xoA q A, ob2_521] H locs := X
                      refine lv_iload hx hb dL_isStreet_524 (lv_at hl 5 rfl) ?_
                      refine lv_icmp_ne (tgt := 533) hx hb dL_isStreet_526 (by decide) (fun c_526 => ?_) (fun c_526 => ?_)
                      · exfalso
                        exact c_526 rfl
                      refine lv_iconst (v := 1) hx hb dL_isStreet_529 (by decide) ?_
                      refine lv_goto (tgt := 534) hx hb dL_isStreet_530 (by decide) ?_
                      exact hret _ _ _ _ _ _ (by exact ⟨_, rfl, rfl, by assumption⟩) X dL_isStreet_534
                    · refine lv_bipush (v := 9) hx hb dL_isStreet_508 (by decide) ?_
                      refine lv_goto (tgt := 515) hx hb dL_isStreet_510 (by decide) ?_
                      refine lv_icmp_ne (tgt := 533) hx hb dL_isStreet_515 (by decide) (fun c_515 => ?_) (fun c_515 => ?_)
                      · exfalso
                        exact c_515 ((if_neg c_493).trans (xv_q2 hlp c_505))
                      refine lv_aload_n hx hb dL_isStreet_518 rfl (lv_at hl 8 rfl) ?_
                      refine lv_iload_n hx hb dL_isStreet_519 rfl (lv_at hl 9 rfl) ?_
                      refine lv_iconst (v := 4) hx hb dL_isStreet_520 (by decide) ?_
                      refine x_cVi F X (gc := [xoA q A, ob2_490]) (gr := []) (xp_idx (n := 2) [0, 1] (by decide +kernel) rfl rfl) (c_G_now4 l D q A z ob2_490 k (by first | assumption | omega) (by first | assumption | omega)) (cwV 2 F.1.2.2.2.2 gL_isStreet_X7_now rfl rfl rfl (by decide +kernel) ⟨Nat.le_of_ble_eq_true rfl, Nat.le_of_ble_eq_true rfl⟩) rfl rfl (r0 := 0) (ci := 7) (T := TX7) (N := 8) rfl rfl hl.1 ⟨Nat.le_of_ble_eq_true rfl, Nat.le_of_ble_eq_true rfl⟩ (Nat.le_of_ble_eq_true rfl) dL_isStreet_521 (fun r_521 g1 H locs hp X => ?_)
                      obtain ⟨ob2_521, rfl, rfl, hob2_521⟩ := hp
                      have X : xS D A9 s9 [xoA q A, ob2_521] H locs := X
                      refine lv_iload hx hb dL_isStreet_524 (lv_at hl 5 rfl) ?_
                      refine lv_icmp_ne (tgt := 533) hx hb dL_isStreet_526 (by decide) (fun c_526 => ?_) (fun c_526 => ?_)
                      · exfalso
                        exact c_526 rfl
                      refine lv_iconst (v := 1) hx hb dL_isStreet_529 (by decide) ?_
                      refine lv_goto (tgt := 534) hx hb dL_isStreet_530 (by decide) ?_
                      exact hret _ _ _ _ _ _ (by exact ⟨_, rfl, rfl, by assumption⟩) X dL_isStreet_534
                  · refine lv_bipush (v := (-6)) hx hb dL_isStreet_496 (by decide) ?_
                    refine lv_goto (tgt := 515) hx hb dL_isStreet_498 (by decide) ?_
                    refine lv_icmp_ne (tgt := 533) hx hb dL_isStreet_515 (by decide) (fun c_515 => ?_) (fun c_515 => ?_)
                    · exfalso
                      exact c_515 (if_pos c_493)
                    refine lv_aload_n hx hb dL_isStreet_518 rfl (lv_at hl 8 rfl) ?_
                    refine lv_iload_n hx hb dL_isStreet_519 rfl (lv_at hl 9 rfl) ?_
                    refine lv_iconst (v := 4) hx hb dL_isStreet_520 (by decide) ?_
                    refine x_cVi F X (gc := [xoA q A, ob2_490]) (gr := []) (xp_idx (n := 2) [0, 1] (by decide +kernel) rfl rfl) (c_G_now4 l D q A z ob2_490 k (by first | assumption | omega) (by first | assumption | omega)) (cwV 2 F.1.2.2.2.2 gL_isStreet_X7_now rfl rfl rfl (by decide +kernel) ⟨Nat.le_of_ble_eq_true rfl, Nat.le_of_ble_eq_true rfl⟩) rfl rfl (r0 := 0) (ci := 7) (T := TX7) (N := 8) rfl rfl hl.1 ⟨Nat.le_of_ble_eq_true rfl, Nat.le_of_ble_eq_true rfl⟩ (Nat.le_of_ble_eq_true rfl) dL_isStreet_521 (fun r_521 g1 H locs hp X => ?_)
                    obtain ⟨ob2_521, rfl, rfl, hob2_521⟩ := hp
                    have X : xS D A9 s9 [xoA q A, ob2_521] H locs := X
                    refine lv_iload hx hb dL_isStreet_524 (lv_at hl 5 rfl) ?_
                    refine lv_icmp_ne (tgt := 533) hx hb dL_isStreet_526 (by decide) (fun c_526 => ?_) (fun c_526 => ?_)
                    · exfalso
                      exact c_526 rfl
                    refine lv_iconst (v := 1) hx hb dL_isStreet_529 (by decide) ?_
                    refine lv_goto (tgt := 534) hx hb dL_isStreet_530 (by decide) ?_
                    exact hret _ _ _ _ _ _ (by exact ⟨_, rfl, rfl, by assumption⟩) X dL_isStreet_534
                · refine lv_bipush (v := 12) hx hb dL_isStreet_471 (by decide) ?_
                  refine lv_goto (tgt := 478) hx hb dL_isStreet_473 (by decide) ?_
                  refine lv_icmp_ne (tgt := 533) hx hb dL_isStreet_478 (by decide) (fun c_478 => ?_) (fun c_478 => ?_)
                  · exfalso
                    exact c_478 ((if_neg c_456).trans (xv_q2 (hstp c_456) (fun z => c_468 (hq9 c_456 ▸ z))))
                  refine lv_aload_n hx hb dL_isStreet_481 rfl (lv_at hl 8 rfl) ?_
                  refine lv_iload_n hx hb dL_isStreet_482 rfl (lv_at hl 9 rfl) ?_
                  refine lv_iconst (v := 3) hx hb dL_isStreet_483 (by decide) ?_
                  refine x_cVi F X (gc := [xoA q A, ob2_451]) (gr := []) (xp_idx (n := 2) [0, 1] (by decide +kernel) rfl rfl) (c_G_now3 l D q A z ob2_451 k (by first | assumption | omega) (by first | assumption | omega)) (cwV 2 F.1.2.2.2.2 gL_isStreet_X7_now rfl rfl rfl (by decide +kernel) ⟨Nat.le_of_ble_eq_true rfl, Nat.le_of_ble_eq_true rfl⟩) rfl rfl (r0 := 0) (ci := 7) (T := TX7) (N := 8) rfl rfl hl.1 ⟨Nat.le_of_ble_eq_true rfl, Nat.le_of_ble_eq_true rfl⟩ (Nat.le_of_ble_eq_true rfl) dL_isStreet_484 (fun r_484 g1 H locs hp X => ?_)
                  obtain ⟨ob2_484, rfl, rfl, hob2_484⟩ := hp
                  have X : xS D A9 s9 [xoA q A, ob2_484] H locs := X
                  refine lv_aload_n hx hb dL_isStreet_487 rfl (lv_at hl 8 rfl) ?_
                  refine lv_iload_n hx hb dL_isStreet_488 rfl (lv_at hl 9 rfl) ?_
                  refine lv_iconst (v := 3) hx hb dL_isStreet_489 (by decide) ?_
                  refine x_cVi F X (gc := [xoA q A, ob2_484]) (gr := []) (xp_idx (n := 2) [0, 1] (by decide +kernel) rfl rfl) (c_G_of3 l D q A z ob2_484 k (by first | assumption | omega) (by first | assumption | omega)) (cwV 2 F.1.2.2.2.2 gL_isStreet_X7_of rfl rfl rfl (by decide +kernel) ⟨Nat.le_of_ble_eq_true rfl, Nat.le_of_ble_eq_true rfl⟩) rfl rfl (r0 := 0) (ci := 7) (T := TX7) (N := 8) rfl rfl hl.1 ⟨Nat.le_of_ble_eq_true rfl, Nat.le_of_ble_eq_true rfl⟩ (Nat.le_of_ble_eq_true rfl) dL_isStreet_490 (fun r_490 g1 H locs hp X => ?_)
                  obtain ⟨ob2_490, rfl, rfl, hob2_490⟩ := hp
                  have X : xS D A9 s9 [xoA q A, ob2_490] H locs := X
                  refine lv_if_ne (tgt := 501) hx hb dL_isStreet_493 (by decide) (fun c_493 => ?_) (fun c_493 => ?_)
                  · refine lv_iload hx hb dL_isStreet_501 (lv_at hl 2 rfl) ?_
                    refine lv_bipush (v := 9) hx hb dL_isStreet_503 (by decide) ?_
                    refine lv_icmp_le (tgt := 513) hx hb dL_isStreet_505 (by decide) (fun c_505 => ?_) (fun c_505 => ?_)
                    · refine lv_iload hx hb dL_isStreet_513 (lv_at hl 2 rfl) ?_
                      refine lv_icmp_ne (tgt := 533) hx hb dL_isStreet_515 (by decide) (fun c_515 => ?_) (fun c_515 => ?_)
                      · exfalso
                        exact c_515 ((if_neg c_493).trans (xv_q1 hlp c_505))
                      refine lv_aload_n hx hb dL_isStreet_518 rfl (lv_at hl 8 rfl) ?_
                      refine lv_iload_n hx hb dL_isStreet_519 rfl (lv_at hl 9 rfl) ?_
                      refine lv_iconst (v := 4) hx hb dL_isStreet_520 (by decide) ?_
                      refine x_cVi F X (gc := [xoA q A, ob2_490]) (gr := []) (xp_idx (n := 2) [0, 1] (by decide +kernel) rfl rfl) (c_G_now4 l D q A z ob2_490 k (by first | assumption | omega) (by first | assumption | omega)) (cwV 2 F.1.2.2.2.2 gL_isStreet_X7_now rfl rfl rfl (by decide +kernel) ⟨Nat.le_of_ble_eq_true rfl, Nat.le_of_ble_eq_true rfl⟩) rfl rfl (r0 := 0) (ci := 7) (T := TX7) (N := 8) rfl rfl hl.1 ⟨Nat.le_of_ble_eq_true rfl, Nat.le_of_ble_eq_true rfl⟩ (Nat.le_of_ble_eq_true rfl) dL_isStreet_521 (fun r_521 g1 H locs hp X => ?_)
                      obtain ⟨ob2_521, rfl, rfl, hob2_521⟩ := hp
                      have X : xS D A9 s9 [xoA q A, ob2_521] H locs := X
                      refine lv_iload hx hb dL_isStreet_524 (lv_at hl 5 rfl) ?_
                      refine lv_icmp_ne (tgt := 533) hx hb dL_isStreet_526 (by decide) (fun c_526 => ?_) (fun c_526 => ?_)
                      · exfalso
                        exact c_526 rfl
                      refine lv_iconst (v := 1) hx hb dL_isStreet_529 (by decide) ?_
                      refine lv_goto (tgt := 534) hx hb dL_isStreet_530 (by decide) ?_
                      exact hret _ _ _ _ _ _ (by exact ⟨_, rfl, rfl, by assumption⟩) X dL_isStreet_534
                    · refine lv_bipush (v := 9) hx hb dL_isStreet_508 (by decide) ?_
                      refine lv_goto (tgt := 515) hx hb dL_isStreet_510 (by decide) ?_
                      refine lv_icmp_ne (tgt := 533) hx hb dL_isStreet_515 (by decide) (fun c_515 => ?_) (fun c_515 => ?_)
                      · exfalso
                        exact c_515 ((if_neg c_493).trans (xv_q2 hlp c_505))
                      refine lv_aload_n hx hb dL_isStreet_518 rfl (lv_at hl 8 rfl) ?_
                      refine lv_iload_n hx hb dL_isStreet_519 rfl (lv_at hl 9 rfl) ?_
                      refine lv_iconst (v := 4) hx hb dL_isStreet_520 (by decide) ?_
                      refine x_cVi F X (gc := [xoA q A, ob2_490]) (gr := []) (xp_idx (n := 2) [0, 1] (by decide +kernel) rfl rfl) (c_G_now4 l D q A z ob2_490 k (by first | assumption | omega) (by first | assumption | omega)) (cwV 2 F.1.2.2.2.2 gL_isStreet_X7_now rfl rfl rfl (by decide +kernel) ⟨Nat.le_of_ble_eq_true rfl, Nat.le_of_ble_eq_true rfl⟩) rfl rfl (r0 := 0) (ci := 7) (T := TX7) (N := 8) rfl rfl hl.1 ⟨Nat.le_of_ble_eq_true rfl, Nat.le_of_ble_eq_true rfl⟩ (Nat.le_of_ble_eq_true rfl) dL_isStreet_521 (fun r_521 g1 H locs hp X => ?_)
                      obtain ⟨ob2_521, rfl, rfl, hob2_521⟩ := hp
                      have X : xS D A9 s9 [xoA q A, ob2_521] H locs := X
                      refine lv_iload hx hb dL_isStreet_524 (lv_at hl 5 rfl) ?_
                      refine lv_icmp_ne (tgt := 533) hx hb dL_isStreet_526 (by decide) (fun c_526 => ?_) (fun c_526 => ?_)
                      · exfalso
                        exact c_526 rfl
                      refine lv_iconst (v := 1) hx hb dL_isStreet_529 (by decide) ?_
                      refine lv_goto (tgt := 534) hx hb dL_isStreet_530 (by decide) ?_
                      exact hret _ _ _ _ _ _ (by exact ⟨_, rfl, rfl, by assumption⟩) X dL_isStreet_534
                  · refine lv_bipush (v := (-6)) hx hb dL_isStreet_496 (by decide) ?_
                    refine lv_goto (tgt := 515) hx hb dL_isStreet_498 (by decide) ?_
                    refine lv_icmp_ne (tgt := 533) hx hb dL_isStreet_515 (by decide) (fun c_515 => ?_) (fun c_515 => ?_)
                    · exfalso
                      exact c_515 (if_pos c_493)
                    refine lv_aload_n hx hb dL_isStreet_518 rfl (lv_at hl 8 rfl) ?_
                    refine lv_iload_n hx hb dL_isStreet_519 rfl (lv_at hl 9 rfl) ?_
                    refine lv_iconst (v := 4) hx hb dL_isStreet_520 (by decide) ?_
                    refine x_cVi F X (gc := [xoA q A, ob2_490]) (gr := []) (xp_idx (n := 2) [0, 1] (by decide +kernel) rfl rfl) (c_G_now4 l D q A z ob2_490 k (by first | assumption | omega) (by first | assumption | omega)) (cwV 2 F.1.2.2.2.2 gL_isStreet_X7_now rfl rfl rfl (by decide +kernel) ⟨Nat.le_of_ble_eq_true rfl, Nat.le_of_ble_eq_true rfl⟩) rfl rfl (r0 := 0) (ci := 7) (T := TX7) (N := 8) rfl rfl hl.1 ⟨Nat.le_of_ble_eq_true rfl, Nat.le_of_ble_eq_true rfl⟩ (Nat.le_of_ble_eq_true rfl) dL_isStreet_521 (fun r_521 g1 H locs hp X => ?_)
                    obtain ⟨ob2_521, rfl, rfl, hob2_521⟩ := hp
                    have X : xS D A9 s9 [xoA q A, ob2_521] H locs := X
                    refine lv_iload hx hb dL_isStreet_524 (lv_at hl 5 rfl) ?_
                    refine lv_icmp_ne (tgt := 533) hx hb dL_isStreet_526 (by decide) (fun c_526 => ?_) (fun c_526 => ?_)
                    · exfalso
                      exact c_526 rfl
                    refine lv_iconst (v := 1) hx hb dL_isStreet_529 (by decide) ?_
                    refine lv_goto (tgt := 534) hx hb dL_isStreet_530 (by decide) ?_
                    exact hret _ _ _ _ _ _ (by exact ⟨_, rfl, rfl, by assumption⟩) X dL_isStreet_534
              · refine lv_bipush (v := (-6)) hx hb dL_isStreet_459 (by decide) ?_
                refine lv_goto (tgt := 478) hx hb dL_isStreet_461 (by decide) ?_
                refine lv_icmp_ne (tgt := 533) hx hb dL_isStreet_478 (by decide) (fun c_478 => ?_) (fun c_478 => ?_)
                · exfalso
                  exact c_478 (if_pos c_456)
                refine lv_aload_n hx hb dL_isStreet_481 rfl (lv_at hl 8 rfl) ?_
                refine lv_iload_n hx hb dL_isStreet_482 rfl (lv_at hl 9 rfl) ?_
                refine lv_iconst (v := 3) hx hb dL_isStreet_483 (by decide) ?_
                refine x_cVi F X (gc := [xoA q A, ob2_451]) (gr := []) (xp_idx (n := 2) [0, 1] (by decide +kernel) rfl rfl) (c_G_now3 l D q A z ob2_451 k (by first | assumption | omega) (by first | assumption | omega)) (cwV 2 F.1.2.2.2.2 gL_isStreet_X7_now rfl rfl rfl (by decide +kernel) ⟨Nat.le_of_ble_eq_true rfl, Nat.le_of_ble_eq_true rfl⟩) rfl rfl (r0 := 0) (ci := 7) (T := TX7) (N := 8) rfl rfl hl.1 ⟨Nat.le_of_ble_eq_true rfl, Nat.le_of_ble_eq_true rfl⟩ (Nat.le_of_ble_eq_true rfl) dL_isStreet_484 (fun r_484 g1 H locs hp X => ?_)
                obtain ⟨ob2_484, rfl, rfl, hob2_484⟩ := hp
                have X : xS D A9 s9 [xoA q A, ob2_484] H locs := X
                refine lv_aload_n hx hb dL_isStreet_487 rfl (lv_at hl 8 rfl) ?_
                refine lv_iload_n hx hb dL_isStreet_488 rfl (lv_at hl 9 rfl) ?_
                refine lv_iconst (v := 3) hx hb dL_isStreet_489 (by decide) ?_
                refine x_cVi F X (gc := [xoA q A, ob2_484]) (gr := []) (xp_idx (n := 2) [0, 1] (by decide +kernel) rfl rfl) (c_G_of3 l D q A z ob2_484 k (by first | assumption | omega) (by first | assumption | omega)) (cwV 2 F.1.2.2.2.2 gL_isStreet_X7_of rfl rfl rfl (by decide +kernel) ⟨Nat.le_of_ble_eq_true rfl, Nat.le_of_ble_eq_true rfl⟩) rfl rfl (r0 := 0) (ci := 7) (T := TX7) (N := 8) rfl rfl hl.1 ⟨Nat.le_of_ble_eq_true rfl, Nat.le_of_ble_eq_true rfl⟩ (Nat.le_of_ble_eq_true rfl) dL_isStreet_490 (fun r_490 g1 H locs hp X => ?_)
                obtain ⟨ob2_490, rfl, rfl, hob2_490⟩ := hp
                have X : xS D A9 s9 [xoA q A, ob2_490] H locs := X
                refine lv_if_ne (tgt := 501) hx hb dL_isStreet_493 (by decide) (fun c_493 => ?_) (fun c_493 => ?_)
                · refine lv_iload hx hb dL_isStreet_501 (lv_at hl 2 rfl) ?_
                  refine lv_bipush (v := 9) hx hb dL_isStreet_503 (by decide) ?_
                  refine lv_icmp_le (tgt := 513) hx hb dL_isStreet_505 (by decide) (fun c_505 => ?_) (fun c_505 => ?_)
                  · refine lv_iload hx hb dL_isStreet_513 (lv_at hl 2 rfl) ?_
                    refine lv_icmp_ne (tgt := 533) hx hb dL_isStreet_515 (by decide) (fun c_515 => ?_) (fun c_515 => ?_)
                    · exfalso
                      exact c_515 ((if_neg c_493).trans (xv_q1 hlp c_505))
                    refine lv_aload_n hx hb dL_isStreet_518 rfl (lv_at hl 8 rfl) ?_
                    refine lv_iload_n hx hb dL_isStreet_519 rfl (lv_at hl 9 rfl) ?_
                    refine lv_iconst (v := 4) hx hb dL_isStreet_520 (by decide) ?_
                    refine x_cVi F X (gc := [xoA q A, ob2_490]) (gr := []) (xp_idx (n := 2) [0, 1] (by decide +kernel) rfl rfl) (c_G_now4 l D q A z ob2_490 k (by first | assumption | omega) (by first | assumption | omega)) (cwV 2 F.1.2.2.2.2 gL_isStreet_X7_now rfl rfl rfl (by decide +kernel) ⟨Nat.le_of_ble_eq_true rfl, Nat.le_of_ble_eq_true rfl⟩) rfl rfl (r0 := 0) (ci := 7) (T := TX7) (N := 8) rfl rfl hl.1 ⟨Nat.le_of_ble_eq_true rfl, Nat.le_of_ble_eq_true rfl⟩ (Nat.le_of_ble_eq_true rfl) dL_isStreet_521 (fun r_521 g1 H locs hp X => ?_)
                    obtain ⟨ob2_521, rfl, rfl, hob2_521⟩ := hp
                    have X : xS D A9 s9 [xoA q A, ob2_521] H locs := X
                    refine lv_iload hx hb dL_isStreet_524 (lv_at hl 5 rfl) ?_
                    refine lv_icmp_ne (tgt := 533) hx hb dL_isStreet_526 (by decide) (fun c_526 => ?_) (fun c_526 => ?_)
                    · exfalso
                      exact c_526 rfl
                    refine lv_iconst (v := 1) hx hb dL_isStreet_529 (by decide) ?_
                    refine lv_goto (tgt := 534) hx hb dL_isStreet_530 (by decide) ?_
                    exact hret _ _ _ _ _ _ (by exact ⟨_, rfl, rfl, by assumption⟩) X dL_isStreet_534
                  · refine lv_bipush (v := 9) hx hb dL_isStreet_508 (by decide) ?_
                    refine lv_goto (tgt := 515) hx hb dL_isStreet_510 (by decide) ?_
                    refine lv_icmp_ne (tgt := 533) hx hb dL_isStreet_515 (by decide) (fun c_515 => ?_) (fun c_515 => ?_)
                    · exfalso
                      exact c_515 ((if_neg c_493).trans (xv_q2 hlp c_505))
                    refine lv_aload_n hx hb dL_isStreet_518 rfl (lv_at hl 8 rfl) ?_
                    refine lv_iload_n hx hb dL_isStreet_519 rfl (lv_at hl 9 rfl) ?_
                    refine lv_iconst (v := 4) hx hb dL_isStreet_520 (by decide) ?_
                    refine x_cVi F X (gc := [xoA q A, ob2_490]) (gr := []) (xp_idx (n := 2) [0, 1] (by decide +kernel) rfl rfl) (c_G_now4 l D q A z ob2_490 k (by first | assumption | omega) (by first | assumption | omega)) (cwV 2 F.1.2.2.2.2 gL_isStreet_X7_now rfl rfl rfl (by decide +kernel) ⟨Nat.le_of_ble_eq_true rfl, Nat.le_of_ble_eq_true rfl⟩) rfl rfl (r0 := 0) (ci := 7) (T := TX7) (N := 8) rfl rfl hl.1 ⟨Nat.le_of_ble_eq_true rfl, Nat.le_of_ble_eq_true rfl⟩ (Nat.le_of_ble_eq_true rfl) dL_isStreet_521 (fun r_521 g1 H locs hp X => ?_)
                    obtain ⟨ob2_521, rfl, rfl, hob2_521⟩ := hp
                    have X : xS D A9 s9 [xoA q A, ob2_521] H locs := X
                    refine lv_iload hx hb dL_isStreet_524 (lv_at hl 5 rfl) ?_
                    refine lv_icmp_ne (tgt := 533) hx hb dL_isStreet_526 (by decide) (fun c_526 => ?_) (fun c_526 => ?_)
                    · exfalso
                      exact c_526 rfl
                    refine lv_iconst (v := 1) hx hb dL_isStreet_529 (by decide) ?_
                    refine lv_goto (tgt := 534) hx hb dL_isStreet_530 (by decide) ?_
                    exact hret _ _ _ _ _ _ (by exact ⟨_, rfl, rfl, by assumption⟩) X dL_isStreet_534
                · refine lv_bipush (v := (-6)) hx hb dL_isStreet_496 (by decide) ?_
                  refine lv_goto (tgt := 515) hx hb dL_isStreet_498 (by decide) ?_
                  refine lv_icmp_ne (tgt := 533) hx hb dL_isStreet_515 (by decide) (fun c_515 => ?_) (fun c_515 => ?_)
                  · exfalso
                    exact c_515 (if_pos c_493)
                  refine lv_aload_n hx hb dL_isStreet_518 rfl (lv_at hl 8 rfl) ?_
                  refine lv_iload_n hx hb dL_isStreet_519 rfl (lv_at hl 9 rfl) ?_
                  refine lv_iconst (v := 4) hx hb dL_isStreet_520 (by decide) ?_
                  refine x_cVi F X (gc := [xoA q A, ob2_490]) (gr := []) (xp_idx (n := 2) [0, 1] (by decide +kernel) rfl rfl) (c_G_now4 l D q A z ob2_490 k (by first | assumption | omega) (by first | assumption | omega)) (cwV 2 F.1.2.2.2.2 gL_isStreet_X7_now rfl rfl rfl (by decide +kernel) ⟨Nat.le_of_ble_eq_true rfl, Nat.le_of_ble_eq_true rfl⟩) rfl rfl (r0 := 0) (ci := 7) (T := TX7) (N := 8) rfl rfl hl.1 ⟨Nat.le_of_ble_eq_true rfl, Nat.le_of_ble_eq_true rfl⟩ (Nat.le_of_ble_eq_true rfl) dL_isStreet_521 (fun r_521 g1 H locs hp X => ?_)
                  obtain ⟨ob2_521, rfl, rfl, hob2_521⟩ := hp
                  have X : xS D A9 s9 [xoA q A, ob2_521] H locs := X
                  refine lv_iload hx hb dL_isStreet_524 (lv_at hl 5 rfl) ?_
                  refine lv_icmp_ne (tgt := 533) hx hb dL_isStreet_526 (by decide) (fun c_526 => ?_) (fun c_526 => ?_)
                  · exfalso
                    exact c_526 rfl
                  refine lv_iconst (v := 1) hx hb dL_isStreet_529 (by decide) ?_
                  refine lv_goto (tgt := 534) hx hb dL_isStreet_530 (by decide) ?_
                  exact hret _ _ _ _ _ _ (by exact ⟨_, rfl, rfl, by assumption⟩) X dL_isStreet_534
            refine lv_iload_n hx hb dL_isStreet_298 rfl (lv_at hl 15 rfl) ?_
            refine lv_if_ne (tgt := 338) hx hb dL_isStreet_299 (by decide) (fun c_299 => ?_) (fun c_299 => ?_)
            · have c_299 : ¬ (k = 0) := fun h => c_299 ((nI_eq (a := k) (b := 0) (by omega) (by omega)).mpr h)
              have hk1 : 1 ≤ k := by omega
              have hpk := hp k hk1 hk
              obtain ⟨a, ha9, hwa, ha1⟩ := x_tg_pos (F := x_tF (zS z)) (W := x_tW (zS z)) (m := -6) (k := k) (n := tN (zS z)) hwdt (fun z => x_m6 k (by omega) z.symm) (tN (zS z)) (Nat.le_refl _)
              have ha := ha1 hk
              have hwd2 := hwd hk1
              have hna2 := hna hk1
              obtain rfl : wd = nI a := hwd2.trans hwa
              have hfk := xv_fk hok hk1 hk ha (by omega) hwd2 rfl hna2
              rw [xv_npk hok hk1 hk] at hl
              refine lv_aload_n hx hb dL_isStreet_338 rfl (lv_at hl 14 rfl) ?_
              refine lv_iload_n hx hb dL_isStreet_339 rfl (lv_at hl 12 rfl) ?_
              refine lv_iconst (v := 0) hx hb dL_isStreet_340 (by decide) ?_
              refine x_cVi F X (gc := [xoA q A, ob]) (gr := []) (xp_idx (n := 2) [0, 1] (by decide +kernel) rfl rfl) (c_G_now0 l D q A z ob (tR (zS z) k) (by first | assumption | omega) (by first | assumption | omega)) (cwV 2 F.1.2.2.2.2 gL_isStreet_X7_now rfl rfl rfl (by decide +kernel) ⟨Nat.le_of_ble_eq_true rfl, Nat.le_of_ble_eq_true rfl⟩) rfl rfl (r0 := 0) (ci := 7) (T := TX7) (N := 8) rfl rfl hl.1 ⟨Nat.le_of_ble_eq_true rfl, Nat.le_of_ble_eq_true rfl⟩ (Nat.le_of_ble_eq_true rfl) dL_isStreet_341 (fun r_341 g1 H locs hp X => ?_)
              obtain ⟨ob2_341, rfl, rfl, hob2_341⟩ := hp
              have X : xS D A9 s9 [xoA q A, ob2_341] H locs := X
              refine lv_istore (lv' := [(15, .int (tF (zS z) (tR (zS z) k))), (14, .int na), (13, .int (nI a)), (12, .int (nI (x_bn (tR (zS z)) k (tN (zS z) - (k + 1))))), (11, .int (x_bs (zS z) (tN (zS z)) k)), (10, .int ((tF (zS z) k) / ((zS z) 3))), (9, .int q9), (8, .int (x_tC (zS z) k)), (7, .int (x_hc (zS z) (tF (zS z)) k)), (6, .int (((tF (zS z) k) + (((tF (zS z) k) * ((zS z) 2)) / 100)) - ((zS z) 1))), (5, .int ((tF (zS z) k) + (((tF (zS z) k) * ((zS z) 2)) / 100))), (4, .int (tF (zS z) k)), (3, .int (nI (tR (zS z) k))), (2, .int (nI (tN (zS z)))), (0, .ref (A.1 0)), (1, .int (nI k))]) hx hb dL_isStreet_344 hl (by decide) rfl (fun ls hl => ?_)
              refine lv_iload hx hb dL_isStreet_346 (lv_at hl 0 rfl) ?_
              refine lv_aload_n hx hb dL_isStreet_348 rfl (lv_at hl 14 rfl) ?_
              refine lv_iload_n hx hb dL_isStreet_349 rfl (lv_at hl 15 rfl) ?_
              refine lv_iconst (v := 1) hx hb dL_isStreet_350 (by decide) ?_
              refine x_cVi F X (gc := [xoA q A, ob2_341]) (gr := []) (xp_idx (n := 2) [0, 1] (by decide +kernel) rfl rfl) (c_G_of1 l D q A z ob2_341 k (by first | assumption | omega) (by first | assumption | omega)) (cwV 2 F.1.2.2.2.2 gL_isStreet_X7_of rfl rfl rfl (by decide +kernel) ⟨Nat.le_of_ble_eq_true rfl, Nat.le_of_ble_eq_true rfl⟩) rfl rfl (r0 := 0) (ci := 7) (T := TX7) (N := 8) rfl rfl hl.1 ⟨Nat.le_of_ble_eq_true rfl, Nat.le_of_ble_eq_true rfl⟩ (Nat.le_of_ble_eq_true rfl) dL_isStreet_351 (fun r_351 g1 H locs hp X => ?_)
              obtain ⟨ob2_351, rfl, rfl, hob2_351⟩ := hp
              have X : xS D A9 s9 [xoA q A, ob2_351] H locs := X
              refine lv_imul hx hb dL_isStreet_354 ?_
              refine lv_iload hx hb dL_isStreet_355 (lv_at hl 2 rfl) ?_
              refine lv_idiv hx hb dL_isStreet_357 (by exact fun h => by have := (nI_eq (b := 0) (by omega) (by omega)).mp h; omega) ?_
              refine lv_iconst (v := 5) hx hb dL_isStreet_358 (by decide) ?_
              refine lv_iload hx hb dL_isStreet_359 (lv_at hl 1 rfl) ?_
              refine lv_imul hx hb dL_isStreet_361 ?_
              refine lv_iadd hx hb dL_isStreet_362 ?_
              refine lv_istore (lv' := [(16, .int ((((tF (zS z) (tR (zS z) k)) * (x_tW (zS z) k)) / (nI a)) + (5 * na))), (15, .int (tF (zS z) (tR (zS z) k))), (14, .int na), (13, .int (nI a)), (12, .int (nI (x_bn (tR (zS z)) k (tN (zS z) - (k + 1))))), (11, .int (x_bs (zS z) (tN (zS z)) k)), (10, .int ((tF (zS z) k) / ((zS z) 3))), (9, .int q9), (8, .int (x_tC (zS z) k)), (7, .int (x_hc (zS z) (tF (zS z)) k)), (6, .int (((tF (zS z) k) + (((tF (zS z) k) * ((zS z) 2)) / 100)) - ((zS z) 1))), (5, .int ((tF (zS z) k) + (((tF (zS z) k) * ((zS z) 2)) / 100))), (4, .int (tF (zS z) k)), (3, .int (nI (tR (zS z) k))), (2, .int (nI (tN (zS z)))), (0, .ref (A.1 0)), (1, .int (nI k))]) hx hb dL_isStreet_363 hl (by decide) rfl (fun ls hl => ?_)
              refine lv_iload_n hx hb dL_isStreet_365 rfl (lv_at hl 13 rfl) ?_
              refine lv_if_lt (tgt := 412) hx hb dL_isStreet_366 (by decide) (fun c_366 => ?_) (fun c_366 => ?_)
              · exfalso
                have c_366 : tR (zS z) k < 0 := (nI_ltI (a := tR (zS z) k) (b := 0) (by omega) (by omega)).mp c_366
                omega
              have c_366 : 0 ≤ tR (zS z) k := Nat.not_lt.mp (fun h => c_366 ((nI_ltI (a := tR (zS z) k) (b := 0) (by omega) (by omega)).mpr h))
              refine lv_iload_n hx hb dL_isStreet_369 rfl (lv_at hl 13 rfl) ?_
              refine lv_iload_n hx hb dL_isStreet_370 rfl (lv_at hl 16 rfl) ?_
              refine lv_icmp_ge (tgt := 412) hx hb dL_isStreet_371 (by decide) (fun c_371 => ?_) (fun c_371 => ?_)
              · exfalso
                have c_371 : k ≤ tR (zS z) k := (nI_leI (a := k) (b := tR (zS z) k) (by omega) (by omega)).mp c_371
                omega
              have c_371 : tR (zS z) k < k := Nat.not_le.mp (fun h => c_371 ((nI_leI (a := k) (b := tR (zS z) k) (by omega) (by omega)).mpr h))
              refine lv_iload hx hb dL_isStreet_374 (lv_at hl 12 rfl) ?_
              refine lv_iload hx hb dL_isStreet_376 (lv_at hl 0 rfl) ?_
              refine lv_iload hx hb dL_isStreet_378 (lv_at hl 1 rfl) ?_
              refine lv_icmp_le (tgt := 388) hx hb dL_isStreet_380 (by decide) (fun c_380 => ?_) (fun c_380 => ?_)
              · refine lv_iload hx hb dL_isStreet_388 (lv_at hl 0 rfl) ?_
                refine lv_icmp_ne (tgt := 412) hx hb dL_isStreet_390 (by decide) (fun c_390 => ?_) (fun c_390 => ?_)
                · exfalso
                  exact c_390 (hfk.trans (x_mn_le c_380))
                refine lv_aload_n hx hb dL_isStreet_393 rfl (lv_at hl 15 rfl) ?_
                refine lv_iload_n hx hb dL_isStreet_394 rfl (lv_at hl 16 rfl) ?_
                refine lv_bipush (v := 7) hx hb dL_isStreet_395 (by decide) ?_
                refine x_cVi F X (gc := [xoA q A, ob2_351]) (gr := []) (xp_idx (n := 2) [0, 1] (by decide +kernel) rfl rfl) (c_G_of7 l D q A z ob2_351 k (by first | assumption | omega) (by first | assumption | omega)) (cwV 2 F.1.2.2.2.2 gL_isStreet_X7_of rfl rfl rfl (by decide +kernel) ⟨Nat.le_of_ble_eq_true rfl, Nat.le_of_ble_eq_true rfl⟩) rfl rfl (r0 := 0) (ci := 7) (T := TX7) (N := 8) rfl rfl hl.1 ⟨Nat.le_of_ble_eq_true rfl, Nat.le_of_ble_eq_true rfl⟩ (Nat.le_of_ble_eq_true rfl) dL_isStreet_397 (fun r_397 g1 H locs hp X => ?_)
                obtain ⟨ob2_397, rfl, rfl, hob2_397⟩ := hp
                have X : xS D A9 s9 [xoA q A, ob2_397] H locs := X
                refine lv_aload_n hx hb dL_isStreet_400 rfl (lv_at hl 15 rfl) ?_
                refine lv_iload_n hx hb dL_isStreet_401 rfl (lv_at hl 13 rfl) ?_
                refine lv_bipush (v := 7) hx hb dL_isStreet_402 (by decide) ?_
                refine x_cVi F X (gc := [xoA q A, ob2_397]) (gr := []) (xp_idx (n := 2) [0, 1] (by decide +kernel) rfl rfl) (c_G_of7 l D q A z ob2_397 (tR (zS z) k) (by first | assumption | omega) (by first | assumption | omega)) (cwV 2 F.1.2.2.2.2 gL_isStreet_X7_of rfl rfl rfl (by decide +kernel) ⟨Nat.le_of_ble_eq_true rfl, Nat.le_of_ble_eq_true rfl⟩) rfl rfl (r0 := 0) (ci := 7) (T := TX7) (N := 8) rfl rfl hl.1 ⟨Nat.le_of_ble_eq_true rfl, Nat.le_of_ble_eq_true rfl⟩ (Nat.le_of_ble_eq_true rfl) dL_isStreet_404 (fun r_404 g1 H locs hp X => ?_)
                obtain ⟨ob2_404, rfl, rfl, hob2_404⟩ := hp
                have X : xS D A9 s9 [xoA q A, ob2_404] H locs := X
                refine lv_iconst (v := 1) hx hb dL_isStreet_407 (by decide) ?_
                refine lv_iadd hx hb dL_isStreet_408 ?_
                refine x_i (y := (nI ((x_dep (tR (zS z)) (tR (zS z) k) (tR (zS z) k)) + 1))) (nI_add (x_dep (tR (zS z)) (tR (zS z) k) (tR (zS z) k)) 1) ?_
                refine lv_icmp_eq (tgt := 414) hx hb dL_isStreet_409 (by decide) (fun c_409 => ?_) (fun c_409 => ?_)
                rotate_left
                · exfalso
                  exact c_409 (congrArg nI (xv_dep hok hk1 hk))
                exact J_414 _ _ _ _ X (lv_sub hl [4, 5, 6, 7, 8, 9, 11, 14, 15, 16] rfl) (by assumption)
              · refine lv_iload hx hb dL_isStreet_383 (lv_at hl 1 rfl) ?_
                refine lv_goto (tgt := 390) hx hb dL_isStreet_385 (by decide) ?_
                refine lv_icmp_ne (tgt := 412) hx hb dL_isStreet_390 (by decide) (fun c_390 => ?_) (fun c_390 => ?_)
                · exfalso
                  exact c_390 (hfk.trans (x_mn_ge (Int32.le_of_lt (Int32.not_le.mp c_380))))
                refine lv_aload_n hx hb dL_isStreet_393 rfl (lv_at hl 15 rfl) ?_
                refine lv_iload_n hx hb dL_isStreet_394 rfl (lv_at hl 16 rfl) ?_
                refine lv_bipush (v := 7) hx hb dL_isStreet_395 (by decide) ?_
                refine x_cVi F X (gc := [xoA q A, ob2_351]) (gr := []) (xp_idx (n := 2) [0, 1] (by decide +kernel) rfl rfl) (c_G_of7 l D q A z ob2_351 k (by first | assumption | omega) (by first | assumption | omega)) (cwV 2 F.1.2.2.2.2 gL_isStreet_X7_of rfl rfl rfl (by decide +kernel) ⟨Nat.le_of_ble_eq_true rfl, Nat.le_of_ble_eq_true rfl⟩) rfl rfl (r0 := 0) (ci := 7) (T := TX7) (N := 8) rfl rfl hl.1 ⟨Nat.le_of_ble_eq_true rfl, Nat.le_of_ble_eq_true rfl⟩ (Nat.le_of_ble_eq_true rfl) dL_isStreet_397 (fun r_397 g1 H locs hp X => ?_)
                obtain ⟨ob2_397, rfl, rfl, hob2_397⟩ := hp
                have X : xS D A9 s9 [xoA q A, ob2_397] H locs := X
                refine lv_aload_n hx hb dL_isStreet_400 rfl (lv_at hl 15 rfl) ?_
                refine lv_iload_n hx hb dL_isStreet_401 rfl (lv_at hl 13 rfl) ?_
                refine lv_bipush (v := 7) hx hb dL_isStreet_402 (by decide) ?_
                refine x_cVi F X (gc := [xoA q A, ob2_397]) (gr := []) (xp_idx (n := 2) [0, 1] (by decide +kernel) rfl rfl) (c_G_of7 l D q A z ob2_397 (tR (zS z) k) (by first | assumption | omega) (by first | assumption | omega)) (cwV 2 F.1.2.2.2.2 gL_isStreet_X7_of rfl rfl rfl (by decide +kernel) ⟨Nat.le_of_ble_eq_true rfl, Nat.le_of_ble_eq_true rfl⟩) rfl rfl (r0 := 0) (ci := 7) (T := TX7) (N := 8) rfl rfl hl.1 ⟨Nat.le_of_ble_eq_true rfl, Nat.le_of_ble_eq_true rfl⟩ (Nat.le_of_ble_eq_true rfl) dL_isStreet_404 (fun r_404 g1 H locs hp X => ?_)
                obtain ⟨ob2_404, rfl, rfl, hob2_404⟩ := hp
                have X : xS D A9 s9 [xoA q A, ob2_404] H locs := X
                refine lv_iconst (v := 1) hx hb dL_isStreet_407 (by decide) ?_
                refine lv_iadd hx hb dL_isStreet_408 ?_
                refine x_i (y := (nI ((x_dep (tR (zS z)) (tR (zS z) k) (tR (zS z) k)) + 1))) (nI_add (x_dep (tR (zS z)) (tR (zS z) k) (tR (zS z) k)) 1) ?_
                refine lv_icmp_eq (tgt := 414) hx hb dL_isStreet_409 (by decide) (fun c_409 => ?_) (fun c_409 => ?_)
                rotate_left
                · exfalso
                  exact c_409 (congrArg nI (xv_dep hok hk1 hk))
                exact J_414 _ _ _ _ X (lv_sub hl [4, 5, 6, 7, 8, 9, 11, 14, 15, 16] rfl) (by assumption)
            · have c_299 : k = 0 := (nI_eq (a := k) (b := 0) (by omega) (by omega)).mp c_299
              refine lv_iload_n hx hb dL_isStreet_302 rfl (lv_at hl 12 rfl) ?_
              refine lv_bipush (v := (-6)) hx hb dL_isStreet_303 (by decide) ?_
              refine lv_icmp_ne (tgt := 336) hx hb dL_isStreet_305 (by decide) (fun c_305 => ?_) (fun c_305 => ?_)
              · exfalso
                exact c_305 (by rw [c_299]; exact xv_np0 hok)
              refine lv_iload hx hb dL_isStreet_308 (lv_at hl 11 rfl) ?_
              refine lv_aload_n hx hb dL_isStreet_310 rfl (lv_at hl 14 rfl) ?_
              refine lv_iconst (v := 1) hx hb dL_isStreet_311 (by decide) ?_
              refine x_cVi F X (gc := [xoA q A, ob]) (gr := []) (xp_idx (n := 2) [0, 1] (by decide +kernel) rfl rfl) (c_G_count1 l D q A z ob (by first | assumption | omega)) (cwV 1 F.1.2.2.2.2 gL_isStreet_X7_count rfl rfl rfl (by decide +kernel) ⟨Nat.le_of_ble_eq_true rfl, Nat.le_of_ble_eq_true rfl⟩) rfl rfl (r0 := 0) (ci := 7) (T := TX7) (N := 8) rfl rfl hl.1 ⟨Nat.le_of_ble_eq_true rfl, Nat.le_of_ble_eq_true rfl⟩ (Nat.le_of_ble_eq_true rfl) dL_isStreet_312 (fun r_312 g1 H locs hp X => ?_)
              obtain ⟨ob2_312, rfl, rfl, hob2_312⟩ := hp
              have X : xS D A9 s9 [xoA q A, ob2_312] H locs := X
              refine lv_icmp_ne (tgt := 336) hx hb dL_isStreet_315 (by decide) (fun c_315 => ?_) (fun c_315 => ?_)
              · exfalso
                exact c_315 (by rw [c_299]; exact xv_f0 _)
              refine lv_aload_n hx hb dL_isStreet_318 rfl (lv_at hl 14 rfl) ?_
              refine lv_iconst (v := 0) hx hb dL_isStreet_319 (by decide) ?_
              refine lv_bipush (v := 7) hx hb dL_isStreet_320 (by decide) ?_
              refine x_cVi F X (gc := [xoA q A, ob2_312]) (gr := []) (xp_idx (n := 2) [0, 1] (by decide +kernel) rfl rfl) (c_G_of7 l D q A z ob2_312 0 (by first | assumption | omega) (by first | assumption | omega)) (cwV 2 F.1.2.2.2.2 gL_isStreet_X7_of rfl rfl rfl (by decide +kernel) ⟨Nat.le_of_ble_eq_true rfl, Nat.le_of_ble_eq_true rfl⟩) rfl rfl (r0 := 0) (ci := 7) (T := TX7) (N := 8) rfl rfl hl.1 ⟨Nat.le_of_ble_eq_true rfl, Nat.le_of_ble_eq_true rfl⟩ (Nat.le_of_ble_eq_true rfl) dL_isStreet_322 (fun r_322 g1 H locs hp X => ?_)
              obtain ⟨ob2_322, rfl, rfl, hob2_322⟩ := hp
              have X : xS D A9 s9 [xoA q A, ob2_322] H locs := X
              refine lv_if_ne (tgt := 336) hx hb dL_isStreet_325 (by decide) (fun c_325 => ?_) (fun c_325 => ?_)
              · exfalso
                exact c_325 rfl
              refine lv_iload hx hb dL_isStreet_328 (lv_at hl 3 rfl) ?_
              refine lv_iload_n hx hb dL_isStreet_330 rfl (lv_at hl 13 rfl) ?_
              refine lv_iconst (v := 1) hx hb dL_isStreet_331 (by decide) ?_
              refine lv_isub hx hb dL_isStreet_332 ?_
              refine x_i (y := (nI ((tN (zS z)) - 1))) (pk_sub (a := (tN (zS z))) (b := 1) (by omega)) ?_
              refine lv_icmp_eq (tgt := 414) hx hb dL_isStreet_333 (by decide) (fun c_333 => ?_) (fun c_333 => ?_)
              rotate_left
              · exfalso
                exact c_333 (by rw [c_299]; exact congrArg nI hrk)
              exact J_414 _ _ _ _ X (lv_sub hl [3, 4, 5, 6, 7, 8, 10, 13, 14, 15] rfl) (by assumption)
          · have c_150 : i < (tN (zS z)) := Nat.not_le.mp (fun h => c_150 ((nI_leI (a := (tN (zS z))) (b := i) (by omega) (by omega)).mpr h))
            refine lv_aload_n hx hb dL_isStreet_153 rfl (lv_at hl 14 rfl) ?_
            refine lv_iload hx hb dL_isStreet_154 (lv_at hl 0 rfl) ?_
            refine lv_iconst (v := 0) hx hb dL_isStreet_156 (by decide) ?_
            refine x_cVi F X (gc := [xoA q A, ob]) (gr := []) (xp_idx (n := 2) [0, 1] (by decide +kernel) rfl rfl) (c_G_of0 l D q A z ob i (by first | assumption | omega) (by first | assumption | omega)) (cwV 2 F.1.2.2.2.2 gL_isStreet_X7_of rfl rfl rfl (by decide +kernel) ⟨Nat.le_of_ble_eq_true rfl, Nat.le_of_ble_eq_true rfl⟩) rfl rfl (r0 := 0) (ci := 7) (T := TX7) (N := 8) rfl rfl hl.1 ⟨Nat.le_of_ble_eq_true rfl, Nat.le_of_ble_eq_true rfl⟩ (Nat.le_of_ble_eq_true rfl) dL_isStreet_157 (fun r_157 g1 H locs hp X => ?_)
            obtain ⟨ob2_157, rfl, rfl, hob2_157⟩ := hp
            have X : xS D A9 s9 [xoA q A, ob2_157] H locs := X
            refine lv_iload_n hx hb dL_isStreet_160 rfl (lv_at hl 15 rfl) ?_
            refine lv_icmp_ne (tgt := 168) hx hb dL_isStreet_161 (by decide) (fun c_161 => ?_) (fun c_161 => ?_)
            · refine lv_iconst (v := 0) hx hb dL_isStreet_168 (by decide) ?_
              refine lv_istore (lv' := [(16, .int 0), (15, .int (nI i)), (14, .int na), (13, .int wd), (12, .int be), (11, .int br), (10, .int ((tF (zS z) k) / ((zS z) 3))), (9, .int q9), (8, .int (x_tC (zS z) k)), (7, .int (x_hc (zS z) (tF (zS z)) k)), (6, .int (((tF (zS z) k) + (((tF (zS z) k) * ((zS z) 2)) / 100)) - ((zS z) 1))), (5, .int ((tF (zS z) k) + (((tF (zS z) k) * ((zS z) 2)) / 100))), (4, .int (tF (zS z) k)), (3, .int (x_np (x_tF (zS z) k))), (2, .int (nI (tN (zS z)))), (0, .ref (A.1 0)), (1, .int (nI k))]) hx hb dL_isStreet_169 hl (by decide) rfl (fun ls hl => ?_)
              refine lv_iload hx hb dL_isStreet_171 (lv_at hl 5 rfl) ?_
              refine lv_iload hx hb dL_isStreet_173 (lv_at hl 0 rfl) ?_
              refine lv_if_eq (tgt := 185) hx hb dL_isStreet_175 (by decide) (fun _ => ?_) (fun h => absurd (by decide) h)
              refine lv_iconst (v := 0) hx hb dL_isStreet_185 (by decide) ?_
              refine lv_ior hx hb dL_isStreet_186 ?_
              refine lv_istore (lv' := [(11, .int (br ||| 0)), (16, .int 0), (15, .int (nI i)), (14, .int na), (13, .int wd), (12, .int be), (10, .int ((tF (zS z) k) / ((zS z) 3))), (9, .int q9), (8, .int (x_tC (zS z) k)), (7, .int (x_hc (zS z) (tF (zS z)) k)), (6, .int (((tF (zS z) k) + (((tF (zS z) k) * ((zS z) 2)) / 100)) - ((zS z) 1))), (5, .int ((tF (zS z) k) + (((tF (zS z) k) * ((zS z) 2)) / 100))), (4, .int (tF (zS z) k)), (3, .int (x_np (x_tF (zS z) k))), (2, .int (nI (tN (zS z)))), (0, .ref (A.1 0)), (1, .int (nI k))]) hx hb dL_isStreet_187 hl (by decide) rfl (fun ls hl => ?_)
              refine lv_iload hx hb dL_isStreet_189 (lv_at hl 5 rfl) ?_
              refine lv_iload hx hb dL_isStreet_191 (lv_at hl 1 rfl) ?_
              refine lv_if_eq (tgt := 209) hx hb dL_isStreet_193 (by decide) (fun _ => ?_) (fun h => absurd (by decide) h)
              refine lv_iconst (v := 0) hx hb dL_isStreet_209 (by decide) ?_
              refine lv_iadd hx hb dL_isStreet_210 ?_
              refine lv_istore (lv' := [(12, .int (be + 0)), (11, .int (br ||| 0)), (16, .int 0), (15, .int (nI i)), (14, .int na), (13, .int wd), (10, .int ((tF (zS z) k) / ((zS z) 3))), (9, .int q9), (8, .int (x_tC (zS z) k)), (7, .int (x_hc (zS z) (tF (zS z)) k)), (6, .int (((tF (zS z) k) + (((tF (zS z) k) * ((zS z) 2)) / 100)) - ((zS z) 1))), (5, .int ((tF (zS z) k) + (((tF (zS z) k) * ((zS z) 2)) / 100))), (4, .int (tF (zS z) k)), (3, .int (x_np (x_tF (zS z) k))), (2, .int (nI (tN (zS z)))), (0, .ref (A.1 0)), (1, .int (nI k))]) hx hb dL_isStreet_211 hl (by decide) rfl (fun ls hl => ?_)
              refine lv_iload_n hx hb dL_isStreet_213 rfl (lv_at hl 16 rfl) ?_
              refine lv_if_le (tgt := 237) hx hb dL_isStreet_214 (by decide) (fun c_214 => ?_) (fun c_214 => ?_)
              · have c_214 : k ≤ 0 := (nI_leI (a := k) (b := 0) (by omega) (by omega)).mp c_214
                refine lv_iconst (v := 0) hx hb dL_isStreet_237 (by decide) ?_
                refine lv_istore (lv' := [(17, .int 0), (12, .int (be + 0)), (11, .int (br ||| 0)), (16, .int 0), (15, .int (nI i)), (14, .int na), (13, .int wd), (10, .int ((tF (zS z) k) / ((zS z) 3))), (9, .int q9), (8, .int (x_tC (zS z) k)), (7, .int (x_hc (zS z) (tF (zS z)) k)), (6, .int (((tF (zS z) k) + (((tF (zS z) k) * ((zS z) 2)) / 100)) - ((zS z) 1))), (5, .int ((tF (zS z) k) + (((tF (zS z) k) * ((zS z) 2)) / 100))), (4, .int (tF (zS z) k)), (3, .int (x_np (x_tF (zS z) k))), (2, .int (nI (tN (zS z)))), (0, .ref (A.1 0)), (1, .int (nI k))]) hx hb dL_isStreet_238 hl (by decide) rfl (fun ls hl => ?_)
                refine lv_iload hx hb dL_isStreet_240 (lv_at hl 6 rfl) ?_
                refine lv_iload hx hb dL_isStreet_242 (lv_at hl 0 rfl) ?_
                refine lv_if_eq (tgt := 257) hx hb dL_isStreet_244 (by decide) (fun _ => ?_) (fun h => absurd (by decide) h)
                refine lv_iconst (v := 0) hx hb dL_isStreet_257 (by decide) ?_
                refine lv_iadd hx hb dL_isStreet_258 ?_
                refine lv_istore (lv' := [(13, .int (wd + 0)), (17, .int 0), (12, .int (be + 0)), (11, .int (br ||| 0)), (16, .int 0), (15, .int (nI i)), (14, .int na), (10, .int ((tF (zS z) k) / ((zS z) 3))), (9, .int q9), (8, .int (x_tC (zS z) k)), (7, .int (x_hc (zS z) (tF (zS z)) k)), (6, .int (((tF (zS z) k) + (((tF (zS z) k) * ((zS z) 2)) / 100)) - ((zS z) 1))), (5, .int ((tF (zS z) k) + (((tF (zS z) k) * ((zS z) 2)) / 100))), (4, .int (tF (zS z) k)), (3, .int (x_np (x_tF (zS z) k))), (2, .int (nI (tN (zS z)))), (0, .ref (A.1 0)), (1, .int (nI k))]) hx hb dL_isStreet_259 hl (by decide) rfl (fun ls hl => ?_)
                refine lv_iload hx hb dL_isStreet_261 (lv_at hl 6 rfl) ?_
                refine lv_iload hx hb dL_isStreet_263 (lv_at hl 1 rfl) ?_
                refine lv_if_eq (tgt := 288) hx hb dL_isStreet_265 (by decide) (fun _ => ?_) (fun h => absurd (by decide) h)
                refine lv_iconst (v := 0) hx hb dL_isStreet_288 (by decide) ?_
                refine lv_iadd hx hb dL_isStreet_289 ?_
                refine lv_istore (lv' := [(14, .int (na + 0)), (13, .int (wd + 0)), (17, .int 0), (12, .int (be + 0)), (11, .int (br ||| 0)), (16, .int 0), (15, .int (nI i)), (10, .int ((tF (zS z) k) / ((zS z) 3))), (9, .int q9), (8, .int (x_tC (zS z) k)), (7, .int (x_hc (zS z) (tF (zS z)) k)), (6, .int (((tF (zS z) k) + (((tF (zS z) k) * ((zS z) 2)) / 100)) - ((zS z) 1))), (5, .int ((tF (zS z) k) + (((tF (zS z) k) * ((zS z) 2)) / 100))), (4, .int (tF (zS z) k)), (3, .int (x_np (x_tF (zS z) k))), (2, .int (nI (tN (zS z)))), (0, .ref (A.1 0)), (1, .int (nI k))]) hx hb dL_isStreet_290 hl (by decide) rfl (fun ls hl => ?_)
                refine lv_iinc (v := (nI (i + 1))) (lv' := [(15, .int (nI (i + 1))), (14, .int (na + 0)), (13, .int (wd + 0)), (17, .int 0), (12, .int (be + 0)), (11, .int (br ||| 0)), (16, .int 0), (10, .int ((tF (zS z) k) / ((zS z) 3))), (9, .int q9), (8, .int (x_tC (zS z) k)), (7, .int (x_hc (zS z) (tF (zS z)) k)), (6, .int (((tF (zS z) k) + (((tF (zS z) k) * ((zS z) 2)) / 100)) - ((zS z) 1))), (5, .int ((tF (zS z) k) + (((tF (zS z) k) * ((zS z) 2)) / 100))), (4, .int (tF (zS z) k)), (3, .int (x_np (x_tF (zS z) k))), (2, .int (nI (tN (zS z)))), (0, .ref (A.1 0)), (1, .int (nI k))]) hx hb dL_isStreet_292 hl (k := 6) rfl (nI_add i 1) (by decide) rfl (fun ls hl => ?_)
                refine lv_goto (tgt := 147) hx hb dL_isStreet_295 (by decide) ?_
                exact ih_147 _ (i + 1) _ _ _ _ _ _ _ X (lv_sub hl [0, 1, 2, 4, 5, 7, 8, 9, 10, 11, 12, 13, 14, 15, 16, 17] rfl) (by omega) (by assumption) (by omega) (by exact xv_br0 hok c_150 hk hbr c_161) (by exact xv_be0 hok c_150 hk hbe c_161) (by intro q; omega) (by intro q; omega)
              · have c_214 : 0 < k := Nat.not_le.mp (fun h => c_214 ((nI_leI (a := k) (b := 0) (by omega) (by omega)).mpr h))
                refine lv_iload hx hb dL_isStreet_217 (lv_at hl 3 rfl) ?_
                refine lv_if_le (tgt := 237) hx hb dL_isStreet_219 (by decide) (fun c_219 => ?_) (fun c_219 => ?_)
                · have c_219 : i ≤ 0 := (nI_leI (a := i) (b := 0) (by omega) (by omega)).mp c_219
                  refine lv_iconst (v := 0) hx hb dL_isStreet_237 (by decide) ?_
                  refine lv_istore (lv' := [(17, .int 0), (12, .int (be + 0)), (11, .int (br ||| 0)), (16, .int 0), (15, .int (nI i)), (14, .int na), (13, .int wd), (10, .int ((tF (zS z) k) / ((zS z) 3))), (9, .int q9), (8, .int (x_tC (zS z) k)), (7, .int (x_hc (zS z) (tF (zS z)) k)), (6, .int (((tF (zS z) k) + (((tF (zS z) k) * ((zS z) 2)) / 100)) - ((zS z) 1))), (5, .int ((tF (zS z) k) + (((tF (zS z) k) * ((zS z) 2)) / 100))), (4, .int (tF (zS z) k)), (3, .int (x_np (x_tF (zS z) k))), (2, .int (nI (tN (zS z)))), (0, .ref (A.1 0)), (1, .int (nI k))]) hx hb dL_isStreet_238 hl (by decide) rfl (fun ls hl => ?_)
                  refine lv_iload hx hb dL_isStreet_240 (lv_at hl 6 rfl) ?_
                  refine lv_iload hx hb dL_isStreet_242 (lv_at hl 0 rfl) ?_
                  refine lv_if_eq (tgt := 257) hx hb dL_isStreet_244 (by decide) (fun _ => ?_) (fun h => absurd (by decide) h)
                  refine lv_iconst (v := 0) hx hb dL_isStreet_257 (by decide) ?_
                  refine lv_iadd hx hb dL_isStreet_258 ?_
                  refine lv_istore (lv' := [(13, .int (wd + 0)), (17, .int 0), (12, .int (be + 0)), (11, .int (br ||| 0)), (16, .int 0), (15, .int (nI i)), (14, .int na), (10, .int ((tF (zS z) k) / ((zS z) 3))), (9, .int q9), (8, .int (x_tC (zS z) k)), (7, .int (x_hc (zS z) (tF (zS z)) k)), (6, .int (((tF (zS z) k) + (((tF (zS z) k) * ((zS z) 2)) / 100)) - ((zS z) 1))), (5, .int ((tF (zS z) k) + (((tF (zS z) k) * ((zS z) 2)) / 100))), (4, .int (tF (zS z) k)), (3, .int (x_np (x_tF (zS z) k))), (2, .int (nI (tN (zS z)))), (0, .ref (A.1 0)), (1, .int (nI k))]) hx hb dL_isStreet_259 hl (by decide) rfl (fun ls hl => ?_)
                  refine lv_iload hx hb dL_isStreet_261 (lv_at hl 6 rfl) ?_
                  refine lv_iload hx hb dL_isStreet_263 (lv_at hl 1 rfl) ?_
                  refine lv_if_eq (tgt := 288) hx hb dL_isStreet_265 (by decide) (fun _ => ?_) (fun h => absurd (by decide) h)
                  refine lv_iconst (v := 0) hx hb dL_isStreet_288 (by decide) ?_
                  refine lv_iadd hx hb dL_isStreet_289 ?_
                  refine lv_istore (lv' := [(14, .int (na + 0)), (13, .int (wd + 0)), (17, .int 0), (12, .int (be + 0)), (11, .int (br ||| 0)), (16, .int 0), (15, .int (nI i)), (10, .int ((tF (zS z) k) / ((zS z) 3))), (9, .int q9), (8, .int (x_tC (zS z) k)), (7, .int (x_hc (zS z) (tF (zS z)) k)), (6, .int (((tF (zS z) k) + (((tF (zS z) k) * ((zS z) 2)) / 100)) - ((zS z) 1))), (5, .int ((tF (zS z) k) + (((tF (zS z) k) * ((zS z) 2)) / 100))), (4, .int (tF (zS z) k)), (3, .int (x_np (x_tF (zS z) k))), (2, .int (nI (tN (zS z)))), (0, .ref (A.1 0)), (1, .int (nI k))]) hx hb dL_isStreet_290 hl (by decide) rfl (fun ls hl => ?_)
                  refine lv_iinc (v := (nI (i + 1))) (lv' := [(15, .int (nI (i + 1))), (14, .int (na + 0)), (13, .int (wd + 0)), (17, .int 0), (12, .int (be + 0)), (11, .int (br ||| 0)), (16, .int 0), (10, .int ((tF (zS z) k) / ((zS z) 3))), (9, .int q9), (8, .int (x_tC (zS z) k)), (7, .int (x_hc (zS z) (tF (zS z)) k)), (6, .int (((tF (zS z) k) + (((tF (zS z) k) * ((zS z) 2)) / 100)) - ((zS z) 1))), (5, .int ((tF (zS z) k) + (((tF (zS z) k) * ((zS z) 2)) / 100))), (4, .int (tF (zS z) k)), (3, .int (x_np (x_tF (zS z) k))), (2, .int (nI (tN (zS z)))), (0, .ref (A.1 0)), (1, .int (nI k))]) hx hb dL_isStreet_292 hl (k := 6) rfl (nI_add i 1) (by decide) rfl (fun ls hl => ?_)
                  refine lv_goto (tgt := 147) hx hb dL_isStreet_295 (by decide) ?_
                  exact ih_147 _ (i + 1) _ _ _ _ _ _ _ X (lv_sub hl [0, 1, 2, 4, 5, 7, 8, 9, 10, 11, 12, 13, 14, 15, 16, 17] rfl) (by omega) (by assumption) (by omega) (by exact xv_br0 hok c_150 hk hbr c_161) (by exact xv_be0 hok c_150 hk hbe c_161) (by exact fun q => xv_wd0 hok c_150 hk q (hwd q) (Or.inl (by omega))) (by exact fun q => xv_na0 hok c_150 hk q (hna q) (Or.inl (by omega)))
                · have c_219 : 0 < i := Nat.not_le.mp (fun h => c_219 ((nI_leI (a := i) (b := 0) (by omega) (by omega)).mpr h))
                  refine lv_aload_n hx hb dL_isStreet_222 rfl (lv_at hl 15 rfl) ?_
                  refine lv_iload hx hb dL_isStreet_223 (lv_at hl 3 rfl) ?_
                  refine lv_iconst (v := 0) hx hb dL_isStreet_225 (by decide) ?_
                  refine x_cVi F X (gc := [xoA q A, ob2_157]) (gr := []) (xp_idx (n := 2) [0, 1] (by decide +kernel) rfl rfl) (c_G_of0 l D q A z ob2_157 i (by first | assumption | omega) (by first | assumption | omega)) (cwV 2 F.1.2.2.2.2 gL_isStreet_X7_of rfl rfl rfl (by decide +kernel) ⟨Nat.le_of_ble_eq_true rfl, Nat.le_of_ble_eq_true rfl⟩) rfl rfl (r0 := 0) (ci := 7) (T := TX7) (N := 8) rfl rfl hl.1 ⟨Nat.le_of_ble_eq_true rfl, Nat.le_of_ble_eq_true rfl⟩ (Nat.le_of_ble_eq_true rfl) dL_isStreet_226 (fun r_226 g1 H locs hp X => ?_)
                  obtain ⟨ob2_226, rfl, rfl, hob2_226⟩ := hp
                  have X : xS D A9 s9 [xoA q A, ob2_226] H locs := X
                  refine lv_iload_n hx hb dL_isStreet_229 rfl (lv_at hl 13 rfl) ?_
                  refine lv_icmp_ne (tgt := 237) hx hb dL_isStreet_230 (by decide) (fun c_230 => ?_) (fun c_230 => ?_)
                  · refine lv_iconst (v := 0) hx hb dL_isStreet_237 (by decide) ?_
                    refine lv_istore (lv' := [(17, .int 0), (12, .int (be + 0)), (11, .int (br ||| 0)), (16, .int 0), (15, .int (nI i)), (14, .int na), (13, .int wd), (10, .int ((tF (zS z) k) / ((zS z) 3))), (9, .int q9), (8, .int (x_tC (zS z) k)), (7, .int (x_hc (zS z) (tF (zS z)) k)), (6, .int (((tF (zS z) k) + (((tF (zS z) k) * ((zS z) 2)) / 100)) - ((zS z) 1))), (5, .int ((tF (zS z) k) + (((tF (zS z) k) * ((zS z) 2)) / 100))), (4, .int (tF (zS z) k)), (3, .int (x_np (x_tF (zS z) k))), (2, .int (nI (tN (zS z)))), (0, .ref (A.1 0)), (1, .int (nI k))]) hx hb dL_isStreet_238 hl (by decide) rfl (fun ls hl => ?_)
                    refine lv_iload hx hb dL_isStreet_240 (lv_at hl 6 rfl) ?_
                    refine lv_iload hx hb dL_isStreet_242 (lv_at hl 0 rfl) ?_
                    refine lv_if_eq (tgt := 257) hx hb dL_isStreet_244 (by decide) (fun _ => ?_) (fun h => absurd (by decide) h)
                    refine lv_iconst (v := 0) hx hb dL_isStreet_257 (by decide) ?_
                    refine lv_iadd hx hb dL_isStreet_258 ?_
                    refine lv_istore (lv' := [(13, .int (wd + 0)), (17, .int 0), (12, .int (be + 0)), (11, .int (br ||| 0)), (16, .int 0), (15, .int (nI i)), (14, .int na), (10, .int ((tF (zS z) k) / ((zS z) 3))), (9, .int q9), (8, .int (x_tC (zS z) k)), (7, .int (x_hc (zS z) (tF (zS z)) k)), (6, .int (((tF (zS z) k) + (((tF (zS z) k) * ((zS z) 2)) / 100)) - ((zS z) 1))), (5, .int ((tF (zS z) k) + (((tF (zS z) k) * ((zS z) 2)) / 100))), (4, .int (tF (zS z) k)), (3, .int (x_np (x_tF (zS z) k))), (2, .int (nI (tN (zS z)))), (0, .ref (A.1 0)), (1, .int (nI k))]) hx hb dL_isStreet_259 hl (by decide) rfl (fun ls hl => ?_)
                    refine lv_iload hx hb dL_isStreet_261 (lv_at hl 6 rfl) ?_
                    refine lv_iload hx hb dL_isStreet_263 (lv_at hl 1 rfl) ?_
                    refine lv_if_eq (tgt := 288) hx hb dL_isStreet_265 (by decide) (fun _ => ?_) (fun h => absurd (by decide) h)
                    refine lv_iconst (v := 0) hx hb dL_isStreet_288 (by decide) ?_
                    refine lv_iadd hx hb dL_isStreet_289 ?_
                    refine lv_istore (lv' := [(14, .int (na + 0)), (13, .int (wd + 0)), (17, .int 0), (12, .int (be + 0)), (11, .int (br ||| 0)), (16, .int 0), (15, .int (nI i)), (10, .int ((tF (zS z) k) / ((zS z) 3))), (9, .int q9), (8, .int (x_tC (zS z) k)), (7, .int (x_hc (zS z) (tF (zS z)) k)), (6, .int (((tF (zS z) k) + (((tF (zS z) k) * ((zS z) 2)) / 100)) - ((zS z) 1))), (5, .int ((tF (zS z) k) + (((tF (zS z) k) * ((zS z) 2)) / 100))), (4, .int (tF (zS z) k)), (3, .int (x_np (x_tF (zS z) k))), (2, .int (nI (tN (zS z)))), (0, .ref (A.1 0)), (1, .int (nI k))]) hx hb dL_isStreet_290 hl (by decide) rfl (fun ls hl => ?_)
                    refine lv_iinc (v := (nI (i + 1))) (lv' := [(15, .int (nI (i + 1))), (14, .int (na + 0)), (13, .int (wd + 0)), (17, .int 0), (12, .int (be + 0)), (11, .int (br ||| 0)), (16, .int 0), (10, .int ((tF (zS z) k) / ((zS z) 3))), (9, .int q9), (8, .int (x_tC (zS z) k)), (7, .int (x_hc (zS z) (tF (zS z)) k)), (6, .int (((tF (zS z) k) + (((tF (zS z) k) * ((zS z) 2)) / 100)) - ((zS z) 1))), (5, .int ((tF (zS z) k) + (((tF (zS z) k) * ((zS z) 2)) / 100))), (4, .int (tF (zS z) k)), (3, .int (x_np (x_tF (zS z) k))), (2, .int (nI (tN (zS z)))), (0, .ref (A.1 0)), (1, .int (nI k))]) hx hb dL_isStreet_292 hl (k := 6) rfl (nI_add i 1) (by decide) rfl (fun ls hl => ?_)
                    refine lv_goto (tgt := 147) hx hb dL_isStreet_295 (by decide) ?_
                    exact ih_147 _ (i + 1) _ _ _ _ _ _ _ X (lv_sub hl [0, 1, 2, 4, 5, 7, 8, 9, 10, 11, 12, 13, 14, 15, 16, 17] rfl) (by omega) (by assumption) (by omega) (by exact xv_br0 hok c_150 hk hbr c_161) (by exact xv_be0 hok c_150 hk hbe c_161) (by exact fun q => xv_wd0 hok c_150 hk q (hwd q) (Or.inr c_230)) (by exact fun q => xv_na0 hok c_150 hk q (hna q) (Or.inr c_230))
                  · refine lv_iconst (v := 1) hx hb dL_isStreet_233 (by decide) ?_
                    refine lv_goto (tgt := 238) hx hb dL_isStreet_234 (by decide) ?_
                    refine lv_istore (lv' := [(17, .int 1), (12, .int (be + 0)), (11, .int (br ||| 0)), (16, .int 0), (15, .int (nI i)), (14, .int na), (13, .int wd), (10, .int ((tF (zS z) k) / ((zS z) 3))), (9, .int q9), (8, .int (x_tC (zS z) k)), (7, .int (x_hc (zS z) (tF (zS z)) k)), (6, .int (((tF (zS z) k) + (((tF (zS z) k) * ((zS z) 2)) / 100)) - ((zS z) 1))), (5, .int ((tF (zS z) k) + (((tF (zS z) k) * ((zS z) 2)) / 100))), (4, .int (tF (zS z) k)), (3, .int (x_np (x_tF (zS z) k))), (2, .int (nI (tN (zS z)))), (0, .ref (A.1 0)), (1, .int (nI k))]) hx hb dL_isStreet_238 hl (by decide) rfl (fun ls hl => ?_)
                    refine lv_iload hx hb dL_isStreet_240 (lv_at hl 6 rfl) ?_
                    refine lv_iload hx hb dL_isStreet_242 (lv_at hl 0 rfl) ?_
                    refine lv_if_eq (tgt := 257) hx hb dL_isStreet_244 (by decide) (fun h => absurd h (by decide)) (fun _ => ?_)
                    refine lv_aload_n hx hb dL_isStreet_247 rfl (lv_at hl 16 rfl) ?_
                    refine lv_iload hx hb dL_isStreet_248 (lv_at hl 4 rfl) ?_
                    refine lv_iconst (v := 1) hx hb dL_isStreet_250 (by decide) ?_
                    refine x_cVi F X (gc := [xoA q A, ob2_226]) (gr := []) (xp_idx (n := 2) [0, 1] (by decide +kernel) rfl rfl) (c_G_of1 l D q A z ob2_226 i (by first | assumption | omega) (by first | assumption | omega)) (cwV 2 F.1.2.2.2.2 gL_isStreet_X7_of rfl rfl rfl (by decide +kernel) ⟨Nat.le_of_ble_eq_true rfl, Nat.le_of_ble_eq_true rfl⟩) rfl rfl (r0 := 0) (ci := 7) (T := TX7) (N := 8) rfl rfl hl.1 ⟨Nat.le_of_ble_eq_true rfl, Nat.le_of_ble_eq_true rfl⟩ (Nat.le_of_ble_eq_true rfl) dL_isStreet_251 (fun r_251 g1 H locs hp X => ?_)
                    obtain ⟨ob2_251, rfl, rfl, hob2_251⟩ := hp
                    have X : xS D A9 s9 [xoA q A, ob2_251] H locs := X
                    refine lv_goto (tgt := 258) hx hb dL_isStreet_254 (by decide) ?_
                    refine lv_iadd hx hb dL_isStreet_258 ?_
                    refine lv_istore (lv' := [(13, .int (wd + (x_tW (zS z) i))), (17, .int 1), (12, .int (be + 0)), (11, .int (br ||| 0)), (16, .int 0), (15, .int (nI i)), (14, .int na), (10, .int ((tF (zS z) k) / ((zS z) 3))), (9, .int q9), (8, .int (x_tC (zS z) k)), (7, .int (x_hc (zS z) (tF (zS z)) k)), (6, .int (((tF (zS z) k) + (((tF (zS z) k) * ((zS z) 2)) / 100)) - ((zS z) 1))), (5, .int ((tF (zS z) k) + (((tF (zS z) k) * ((zS z) 2)) / 100))), (4, .int (tF (zS z) k)), (3, .int (x_np (x_tF (zS z) k))), (2, .int (nI (tN (zS z)))), (0, .ref (A.1 0)), (1, .int (nI k))]) hx hb dL_isStreet_259 hl (by decide) rfl (fun ls hl => ?_)
                    refine lv_iload hx hb dL_isStreet_261 (lv_at hl 6 rfl) ?_
                    refine lv_iload hx hb dL_isStreet_263 (lv_at hl 1 rfl) ?_
                    refine lv_if_eq (tgt := 288) hx hb dL_isStreet_265 (by decide) (fun h => absurd h (by decide)) (fun _ => ?_)
                    refine lv_aload_n hx hb dL_isStreet_268 rfl (lv_at hl 16 rfl) ?_
                    refine lv_iload hx hb dL_isStreet_269 (lv_at hl 5 rfl) ?_
                    refine lv_iconst (v := 1) hx hb dL_isStreet_271 (by decide) ?_
                    refine x_cVi F X (gc := [xoA q A, ob2_251]) (gr := []) (xp_idx (n := 2) [0, 1] (by decide +kernel) rfl rfl) (c_G_of1 l D q A z ob2_251 i (by first | assumption | omega) (by first | assumption | omega)) (cwV 2 F.1.2.2.2.2 gL_isStreet_X7_of rfl rfl rfl (by decide +kernel) ⟨Nat.le_of_ble_eq_true rfl, Nat.le_of_ble_eq_true rfl⟩) rfl rfl (r0 := 0) (ci := 7) (T := TX7) (N := 8) rfl rfl hl.1 ⟨Nat.le_of_ble_eq_true rfl, Nat.le_of_ble_eq_true rfl⟩ (Nat.le_of_ble_eq_true rfl) dL_isStreet_272 (fun r_272 g1 H locs hp X => ?_)
                    obtain ⟨ob2_272, rfl, rfl, hob2_272⟩ := hp
                    have X : xS D A9 s9 [xoA q A, ob2_272] H locs := X
                    refine lv_aload_n hx hb dL_isStreet_275 rfl (lv_at hl 16 rfl) ?_
                    refine lv_iload_n hx hb dL_isStreet_276 rfl (lv_at hl 17 rfl) ?_
                    refine lv_iconst (v := 1) hx hb dL_isStreet_277 (by decide) ?_
                    refine x_cVi F X (gc := [xoA q A, ob2_272]) (gr := []) (xp_idx (n := 2) [0, 1] (by decide +kernel) rfl rfl) (c_G_of1 l D q A z ob2_272 k (by first | assumption | omega) (by first | assumption | omega)) (cwV 2 F.1.2.2.2.2 gL_isStreet_X7_of rfl rfl rfl (by decide +kernel) ⟨Nat.le_of_ble_eq_true rfl, Nat.le_of_ble_eq_true rfl⟩) rfl rfl (r0 := 0) (ci := 7) (T := TX7) (N := 8) rfl rfl hl.1 ⟨Nat.le_of_ble_eq_true rfl, Nat.le_of_ble_eq_true rfl⟩ (Nat.le_of_ble_eq_true rfl) dL_isStreet_278 (fun r_278 g1 H locs hp X => ?_)
                    obtain ⟨ob2_278, rfl, rfl, hob2_278⟩ := hp
                    have X : xS D A9 s9 [xoA q A, ob2_278] H locs := X
                    refine lv_icmp_ge (tgt := 288) hx hb dL_isStreet_281 (by decide) (fun c_281 => ?_) (fun c_281 => ?_)
                    · refine lv_iconst (v := 0) hx hb dL_isStreet_288 (by decide) ?_
                      refine lv_iadd hx hb dL_isStreet_289 ?_
                      refine lv_istore (lv' := [(14, .int (na + 0)), (13, .int (wd + (x_tW (zS z) i))), (17, .int 1), (12, .int (be + 0)), (11, .int (br ||| 0)), (16, .int 0), (15, .int (nI i)), (10, .int ((tF (zS z) k) / ((zS z) 3))), (9, .int q9), (8, .int (x_tC (zS z) k)), (7, .int (x_hc (zS z) (tF (zS z)) k)), (6, .int (((tF (zS z) k) + (((tF (zS z) k) * ((zS z) 2)) / 100)) - ((zS z) 1))), (5, .int ((tF (zS z) k) + (((tF (zS z) k) * ((zS z) 2)) / 100))), (4, .int (tF (zS z) k)), (3, .int (x_np (x_tF (zS z) k))), (2, .int (nI (tN (zS z)))), (0, .ref (A.1 0)), (1, .int (nI k))]) hx hb dL_isStreet_290 hl (by decide) rfl (fun ls hl => ?_)
                      refine lv_iinc (v := (nI (i + 1))) (lv' := [(15, .int (nI (i + 1))), (14, .int (na + 0)), (13, .int (wd + (x_tW (zS z) i))), (17, .int 1), (12, .int (be + 0)), (11, .int (br ||| 0)), (16, .int 0), (10, .int ((tF (zS z) k) / ((zS z) 3))), (9, .int q9), (8, .int (x_tC (zS z) k)), (7, .int (x_hc (zS z) (tF (zS z)) k)), (6, .int (((tF (zS z) k) + (((tF (zS z) k) * ((zS z) 2)) / 100)) - ((zS z) 1))), (5, .int ((tF (zS z) k) + (((tF (zS z) k) * ((zS z) 2)) / 100))), (4, .int (tF (zS z) k)), (3, .int (x_np (x_tF (zS z) k))), (2, .int (nI (tN (zS z)))), (0, .ref (A.1 0)), (1, .int (nI k))]) hx hb dL_isStreet_292 hl (k := 6) rfl (nI_add i 1) (by decide) rfl (fun ls hl => ?_)
                      refine lv_goto (tgt := 147) hx hb dL_isStreet_295 (by decide) ?_
                      exact ih_147 _ (i + 1) _ _ _ _ _ _ _ X (lv_sub hl [0, 1, 2, 4, 5, 7, 8, 9, 10, 11, 12, 13, 14, 15, 16, 17] rfl) (by omega) (by assumption) (by omega) (by exact xv_br0 hok c_150 hk hbr c_161) (by exact xv_be0 hok c_150 hk hbe c_161) (by exact fun q => xv_wd1 hok c_150 hk (by omega) q (hwd q) c_230) (by exact fun q => xv_na2 (hna q) c_281)
                    · refine lv_iconst (v := 1) hx hb dL_isStreet_284 (by decide) ?_
                      refine lv_goto (tgt := 289) hx hb dL_isStreet_285 (by decide) ?_
                      refine lv_iadd hx hb dL_isStreet_289 ?_
                      refine lv_istore (lv' := [(14, .int (na + 1)), (13, .int (wd + (x_tW (zS z) i))), (17, .int 1), (12, .int (be + 0)), (11, .int (br ||| 0)), (16, .int 0), (15, .int (nI i)), (10, .int ((tF (zS z) k) / ((zS z) 3))), (9, .int q9), (8, .int (x_tC (zS z) k)), (7, .int (x_hc (zS z) (tF (zS z)) k)), (6, .int (((tF (zS z) k) + (((tF (zS z) k) * ((zS z) 2)) / 100)) - ((zS z) 1))), (5, .int ((tF (zS z) k) + (((tF (zS z) k) * ((zS z) 2)) / 100))), (4, .int (tF (zS z) k)), (3, .int (x_np (x_tF (zS z) k))), (2, .int (nI (tN (zS z)))), (0, .ref (A.1 0)), (1, .int (nI k))]) hx hb dL_isStreet_290 hl (by decide) rfl (fun ls hl => ?_)
                      refine lv_iinc (v := (nI (i + 1))) (lv' := [(15, .int (nI (i + 1))), (14, .int (na + 1)), (13, .int (wd + (x_tW (zS z) i))), (17, .int 1), (12, .int (be + 0)), (11, .int (br ||| 0)), (16, .int 0), (10, .int ((tF (zS z) k) / ((zS z) 3))), (9, .int q9), (8, .int (x_tC (zS z) k)), (7, .int (x_hc (zS z) (tF (zS z)) k)), (6, .int (((tF (zS z) k) + (((tF (zS z) k) * ((zS z) 2)) / 100)) - ((zS z) 1))), (5, .int ((tF (zS z) k) + (((tF (zS z) k) * ((zS z) 2)) / 100))), (4, .int (tF (zS z) k)), (3, .int (x_np (x_tF (zS z) k))), (2, .int (nI (tN (zS z)))), (0, .ref (A.1 0)), (1, .int (nI k))]) hx hb dL_isStreet_292 hl (k := 6) rfl (nI_add i 1) (by decide) rfl (fun ls hl => ?_)
                      refine lv_goto (tgt := 147) hx hb dL_isStreet_295 (by decide) ?_
                      exact ih_147 _ (i + 1) _ _ _ _ _ _ _ X (lv_sub hl [0, 1, 2, 4, 5, 7, 8, 9, 10, 11, 12, 13, 14, 15, 16, 17] rfl) (by omega) (by assumption) (by omega) (by exact xv_br0 hok c_150 hk hbr c_161) (by exact xv_be0 hok c_150 hk hbe c_161) (by exact fun q => xv_wd1 hok c_150 hk (by omega) q (hwd q) c_230) (by exact fun q => xv_na1 hok c_150 hk (by omega) q (hna q) c_230 c_281)
            · refine lv_iconst (v := 1) hx hb dL_isStreet_164 (by decide) ?_
              refine lv_goto (tgt := 169) hx hb dL_isStreet_165 (by decide) ?_
              refine lv_istore (lv' := [(16, .int 1), (15, .int (nI i)), (14, .int na), (13, .int wd), (12, .int be), (11, .int br), (10, .int ((tF (zS z) k) / ((zS z) 3))), (9, .int q9), (8, .int (x_tC (zS z) k)), (7, .int (x_hc (zS z) (tF (zS z)) k)), (6, .int (((tF (zS z) k) + (((tF (zS z) k) * ((zS z) 2)) / 100)) - ((zS z) 1))), (5, .int ((tF (zS z) k) + (((tF (zS z) k) * ((zS z) 2)) / 100))), (4, .int (tF (zS z) k)), (3, .int (x_np (x_tF (zS z) k))), (2, .int (nI (tN (zS z)))), (0, .ref (A.1 0)), (1, .int (nI k))]) hx hb dL_isStreet_169 hl (by decide) rfl (fun ls hl => ?_)
              refine lv_iload hx hb dL_isStreet_171 (lv_at hl 5 rfl) ?_
              refine lv_iload hx hb dL_isStreet_173 (lv_at hl 0 rfl) ?_
              refine lv_if_eq (tgt := 185) hx hb dL_isStreet_175 (by decide) (fun h => absurd h (by decide)) (fun _ => ?_)
              refine lv_iconst (v := 1) hx hb dL_isStreet_178 (by decide) ?_
              refine lv_iload hx hb dL_isStreet_179 (lv_at hl 1 rfl) ?_
              refine lv_ishl hx hb dL_isStreet_181 ?_
              refine lv_goto (tgt := 186) hx hb dL_isStreet_182 (by decide) ?_
              refine lv_ior hx hb dL_isStreet_186 ?_
              refine lv_istore (lv' := [(11, .int (br ||| (1 <<< ((nI i) &&& 31)))), (16, .int 1), (15, .int (nI i)), (14, .int na), (13, .int wd), (12, .int be), (10, .int ((tF (zS z) k) / ((zS z) 3))), (9, .int q9), (8, .int (x_tC (zS z) k)), (7, .int (x_hc (zS z) (tF (zS z)) k)), (6, .int (((tF (zS z) k) + (((tF (zS z) k) * ((zS z) 2)) / 100)) - ((zS z) 1))), (5, .int ((tF (zS z) k) + (((tF (zS z) k) * ((zS z) 2)) / 100))), (4, .int (tF (zS z) k)), (3, .int (x_np (x_tF (zS z) k))), (2, .int (nI (tN (zS z)))), (0, .ref (A.1 0)), (1, .int (nI k))]) hx hb dL_isStreet_187 hl (by decide) rfl (fun ls hl => ?_)
              refine lv_iload hx hb dL_isStreet_189 (lv_at hl 5 rfl) ?_
              refine lv_iload hx hb dL_isStreet_191 (lv_at hl 1 rfl) ?_
              refine lv_if_eq (tgt := 209) hx hb dL_isStreet_193 (by decide) (fun h => absurd h (by decide)) (fun _ => ?_)
              refine lv_iconst (v := 1) hx hb dL_isStreet_196 (by decide) ?_
              refine lv_aload_n hx hb dL_isStreet_197 rfl (lv_at hl 15 rfl) ?_
              refine lv_iload hx hb dL_isStreet_198 (lv_at hl 2 rfl) ?_
              refine lv_bipush (v := 6) hx hb dL_isStreet_200 (by decide) ?_
              refine x_cVi F X (gc := [xoA q A, ob2_157]) (gr := []) (xp_idx (n := 2) [0, 1] (by decide +kernel) rfl rfl) (c_G_of6 l D q A z ob2_157 i (by first | assumption | omega) (by first | assumption | omega)) (cwV 2 F.1.2.2.2.2 gL_isStreet_X7_of rfl rfl rfl (by decide +kernel) ⟨Nat.le_of_ble_eq_true rfl, Nat.le_of_ble_eq_true rfl⟩) rfl rfl (r0 := 0) (ci := 7) (T := TX7) (N := 8) rfl rfl hl.1 ⟨Nat.le_of_ble_eq_true rfl, Nat.le_of_ble_eq_true rfl⟩ (Nat.le_of_ble_eq_true rfl) dL_isStreet_202 (fun r_202 g1 H locs hp X => ?_)
              obtain ⟨ob2_202, rfl, rfl, hob2_202⟩ := hp
              have X : xS D A9 s9 [xoA q A, ob2_202] H locs := X
              refine lv_iadd hx hb dL_isStreet_205 ?_
              refine x_i (y := (nI (1 + (x_bn (tR (zS z)) i (tN (zS z) - (i + 1)))))) (nI_add 1 (x_bn (tR (zS z)) i (tN (zS z) - (i + 1)))) ?_
              refine lv_goto (tgt := 210) hx hb dL_isStreet_206 (by decide) ?_
              refine lv_iadd hx hb dL_isStreet_210 ?_
              refine lv_istore (lv' := [(12, .int (be + (nI (1 + (x_bn (tR (zS z)) i (tN (zS z) - (i + 1))))))), (11, .int (br ||| (1 <<< ((nI i) &&& 31)))), (16, .int 1), (15, .int (nI i)), (14, .int na), (13, .int wd), (10, .int ((tF (zS z) k) / ((zS z) 3))), (9, .int q9), (8, .int (x_tC (zS z) k)), (7, .int (x_hc (zS z) (tF (zS z)) k)), (6, .int (((tF (zS z) k) + (((tF (zS z) k) * ((zS z) 2)) / 100)) - ((zS z) 1))), (5, .int ((tF (zS z) k) + (((tF (zS z) k) * ((zS z) 2)) / 100))), (4, .int (tF (zS z) k)), (3, .int (x_np (x_tF (zS z) k))), (2, .int (nI (tN (zS z)))), (0, .ref (A.1 0)), (1, .int (nI k))]) hx hb dL_isStreet_211 hl (by decide) rfl (fun ls hl => ?_)
              refine lv_iload_n hx hb dL_isStreet_213 rfl (lv_at hl 16 rfl) ?_
              refine lv_if_le (tgt := 237) hx hb dL_isStreet_214 (by decide) (fun c_214 => ?_) (fun c_214 => ?_)
              · have c_214 : k ≤ 0 := (nI_leI (a := k) (b := 0) (by omega) (by omega)).mp c_214
                refine lv_iconst (v := 0) hx hb dL_isStreet_237 (by decide) ?_
                refine lv_istore (lv' := [(17, .int 0), (12, .int (be + (nI (1 + (x_bn (tR (zS z)) i (tN (zS z) - (i + 1))))))), (11, .int (br ||| (1 <<< ((nI i) &&& 31)))), (16, .int 1), (15, .int (nI i)), (14, .int na), (13, .int wd), (10, .int ((tF (zS z) k) / ((zS z) 3))), (9, .int q9), (8, .int (x_tC (zS z) k)), (7, .int (x_hc (zS z) (tF (zS z)) k)), (6, .int (((tF (zS z) k) + (((tF (zS z) k) * ((zS z) 2)) / 100)) - ((zS z) 1))), (5, .int ((tF (zS z) k) + (((tF (zS z) k) * ((zS z) 2)) / 100))), (4, .int (tF (zS z) k)), (3, .int (x_np (x_tF (zS z) k))), (2, .int (nI (tN (zS z)))), (0, .ref (A.1 0)), (1, .int (nI k))]) hx hb dL_isStreet_238 hl (by decide) rfl (fun ls hl => ?_)
                refine lv_iload hx hb dL_isStreet_240 (lv_at hl 6 rfl) ?_
                refine lv_iload hx hb dL_isStreet_242 (lv_at hl 0 rfl) ?_
                refine lv_if_eq (tgt := 257) hx hb dL_isStreet_244 (by decide) (fun _ => ?_) (fun h => absurd (by decide) h)
                refine lv_iconst (v := 0) hx hb dL_isStreet_257 (by decide) ?_
                refine lv_iadd hx hb dL_isStreet_258 ?_
                refine lv_istore (lv' := [(13, .int (wd + 0)), (17, .int 0), (12, .int (be + (nI (1 + (x_bn (tR (zS z)) i (tN (zS z) - (i + 1))))))), (11, .int (br ||| (1 <<< ((nI i) &&& 31)))), (16, .int 1), (15, .int (nI i)), (14, .int na), (10, .int ((tF (zS z) k) / ((zS z) 3))), (9, .int q9), (8, .int (x_tC (zS z) k)), (7, .int (x_hc (zS z) (tF (zS z)) k)), (6, .int (((tF (zS z) k) + (((tF (zS z) k) * ((zS z) 2)) / 100)) - ((zS z) 1))), (5, .int ((tF (zS z) k) + (((tF (zS z) k) * ((zS z) 2)) / 100))), (4, .int (tF (zS z) k)), (3, .int (x_np (x_tF (zS z) k))), (2, .int (nI (tN (zS z)))), (0, .ref (A.1 0)), (1, .int (nI k))]) hx hb dL_isStreet_259 hl (by decide) rfl (fun ls hl => ?_)
                refine lv_iload hx hb dL_isStreet_261 (lv_at hl 6 rfl) ?_
                refine lv_iload hx hb dL_isStreet_263 (lv_at hl 1 rfl) ?_
                refine lv_if_eq (tgt := 288) hx hb dL_isStreet_265 (by decide) (fun _ => ?_) (fun h => absurd (by decide) h)
                refine lv_iconst (v := 0) hx hb dL_isStreet_288 (by decide) ?_
                refine lv_iadd hx hb dL_isStreet_289 ?_
                refine lv_istore (lv' := [(14, .int (na + 0)), (13, .int (wd + 0)), (17, .int 0), (12, .int (be + (nI (1 + (x_bn (tR (zS z)) i (tN (zS z) - (i + 1))))))), (11, .int (br ||| (1 <<< ((nI i) &&& 31)))), (16, .int 1), (15, .int (nI i)), (10, .int ((tF (zS z) k) / ((zS z) 3))), (9, .int q9), (8, .int (x_tC (zS z) k)), (7, .int (x_hc (zS z) (tF (zS z)) k)), (6, .int (((tF (zS z) k) + (((tF (zS z) k) * ((zS z) 2)) / 100)) - ((zS z) 1))), (5, .int ((tF (zS z) k) + (((tF (zS z) k) * ((zS z) 2)) / 100))), (4, .int (tF (zS z) k)), (3, .int (x_np (x_tF (zS z) k))), (2, .int (nI (tN (zS z)))), (0, .ref (A.1 0)), (1, .int (nI k))]) hx hb dL_isStreet_290 hl (by decide) rfl (fun ls hl => ?_)
                refine lv_iinc (v := (nI (i + 1))) (lv' := [(15, .int (nI (i + 1))), (14, .int (na + 0)), (13, .int (wd + 0)), (17, .int 0), (12, .int (be + (nI (1 + (x_bn (tR (zS z)) i (tN (zS z) - (i + 1))))))), (11, .int (br ||| (1 <<< ((nI i) &&& 31)))), (16, .int 1), (10, .int ((tF (zS z) k) / ((zS z) 3))), (9, .int q9), (8, .int (x_tC (zS z) k)), (7, .int (x_hc (zS z) (tF (zS z)) k)), (6, .int (((tF (zS z) k) + (((tF (zS z) k) * ((zS z) 2)) / 100)) - ((zS z) 1))), (5, .int ((tF (zS z) k) + (((tF (zS z) k) * ((zS z) 2)) / 100))), (4, .int (tF (zS z) k)), (3, .int (x_np (x_tF (zS z) k))), (2, .int (nI (tN (zS z)))), (0, .ref (A.1 0)), (1, .int (nI k))]) hx hb dL_isStreet_292 hl (k := 6) rfl (nI_add i 1) (by decide) rfl (fun ls hl => ?_)
                refine lv_goto (tgt := 147) hx hb dL_isStreet_295 (by decide) ?_
                exact ih_147 _ (i + 1) _ _ _ _ _ _ _ X (lv_sub hl [0, 1, 2, 4, 5, 7, 8, 9, 10, 11, 12, 13, 14, 15, 16, 17] rfl) (by omega) (by assumption) (by omega) (by exact xv_br1 hok c_150 hk hbr c_161) (by exact xv_be1 hok c_150 hk hbe c_161) (by intro q; omega) (by intro q; omega)
              · have c_214 : 0 < k := Nat.not_le.mp (fun h => c_214 ((nI_leI (a := k) (b := 0) (by omega) (by omega)).mpr h))
                refine lv_iload hx hb dL_isStreet_217 (lv_at hl 3 rfl) ?_
                refine lv_if_le (tgt := 237) hx hb dL_isStreet_219 (by decide) (fun c_219 => ?_) (fun c_219 => ?_)
                · have c_219 : i ≤ 0 := (nI_leI (a := i) (b := 0) (by omega) (by omega)).mp c_219
                  refine lv_iconst (v := 0) hx hb dL_isStreet_237 (by decide) ?_
                  refine lv_istore (lv' := [(17, .int 0), (12, .int (be + (nI (1 + (x_bn (tR (zS z)) i (tN (zS z) - (i + 1))))))), (11, .int (br ||| (1 <<< ((nI i) &&& 31)))), (16, .int 1), (15, .int (nI i)), (14, .int na), (13, .int wd), (10, .int ((tF (zS z) k) / ((zS z) 3))), (9, .int q9), (8, .int (x_tC (zS z) k)), (7, .int (x_hc (zS z) (tF (zS z)) k)), (6, .int (((tF (zS z) k) + (((tF (zS z) k) * ((zS z) 2)) / 100)) - ((zS z) 1))), (5, .int ((tF (zS z) k) + (((tF (zS z) k) * ((zS z) 2)) / 100))), (4, .int (tF (zS z) k)), (3, .int (x_np (x_tF (zS z) k))), (2, .int (nI (tN (zS z)))), (0, .ref (A.1 0)), (1, .int (nI k))]) hx hb dL_isStreet_238 hl (by decide) rfl (fun ls hl => ?_)
                  refine lv_iload hx hb dL_isStreet_240 (lv_at hl 6 rfl) ?_
                  refine lv_iload hx hb dL_isStreet_242 (lv_at hl 0 rfl) ?_
                  refine lv_if_eq (tgt := 257) hx hb dL_isStreet_244 (by decide) (fun _ => ?_) (fun h => absurd (by decide) h)
                  refine lv_iconst (v := 0) hx hb dL_isStreet_257 (by decide) ?_
                  refine lv_iadd hx hb dL_isStreet_258 ?_
                  refine lv_istore (lv' := [(13, .int (wd + 0)), (17, .int 0), (12, .int (be + (nI (1 + (x_bn (tR (zS z)) i (tN (zS z) - (i + 1))))))), (11, .int (br ||| (1 <<< ((nI i) &&& 31)))), (16, .int 1), (15, .int (nI i)), (14, .int na), (10, .int ((tF (zS z) k) / ((zS z) 3))), (9, .int q9), (8, .int (x_tC (zS z) k)), (7, .int (x_hc (zS z) (tF (zS z)) k)), (6, .int (((tF (zS z) k) + (((tF (zS z) k) * ((zS z) 2)) / 100)) - ((zS z) 1))), (5, .int ((tF (zS z) k) + (((tF (zS z) k) * ((zS z) 2)) / 100))), (4, .int (tF (zS z) k)), (3, .int (x_np (x_tF (zS z) k))), (2, .int (nI (tN (zS z)))), (0, .ref (A.1 0)), (1, .int (nI k))]) hx hb dL_isStreet_259 hl (by decide) rfl (fun ls hl => ?_)
                  refine lv_iload hx hb dL_isStreet_261 (lv_at hl 6 rfl) ?_
                  refine lv_iload hx hb dL_isStreet_263 (lv_at hl 1 rfl) ?_
                  refine lv_if_eq (tgt := 288) hx hb dL_isStreet_265 (by decide) (fun _ => ?_) (fun h => absurd (by decide) h)
                  refine lv_iconst (v := 0) hx hb dL_isStreet_288 (by decide) ?_
                  refine lv_iadd hx hb dL_isStreet_289 ?_
                  refine lv_istore (lv' := [(14, .int (na + 0)), (13, .int (wd + 0)), (17, .int 0), (12, .int (be + (nI (1 + (x_bn (tR (zS z)) i (tN (zS z) - (i + 1))))))), (11, .int (br ||| (1 <<< ((nI i) &&& 31)))), (16, .int 1), (15, .int (nI i)), (10, .int ((tF (zS z) k) / ((zS z) 3))), (9, .int q9), (8, .int (x_tC (zS z) k)), (7, .int (x_hc (zS z) (tF (zS z)) k)), (6, .int (((tF (zS z) k) + (((tF (zS z) k) * ((zS z) 2)) / 100)) - ((zS z) 1))), (5, .int ((tF (zS z) k) + (((tF (zS z) k) * ((zS z) 2)) / 100))), (4, .int (tF (zS z) k)), (3, .int (x_np (x_tF (zS z) k))), (2, .int (nI (tN (zS z)))), (0, .ref (A.1 0)), (1, .int (nI k))]) hx hb dL_isStreet_290 hl (by decide) rfl (fun ls hl => ?_)
                  refine lv_iinc (v := (nI (i + 1))) (lv' := [(15, .int (nI (i + 1))), (14, .int (na + 0)), (13, .int (wd + 0)), (17, .int 0), (12, .int (be + (nI (1 + (x_bn (tR (zS z)) i (tN (zS z) - (i + 1))))))), (11, .int (br ||| (1 <<< ((nI i) &&& 31)))), (16, .int 1), (10, .int ((tF (zS z) k) / ((zS z) 3))), (9, .int q9), (8, .int (x_tC (zS z) k)), (7, .int (x_hc (zS z) (tF (zS z)) k)), (6, .int (((tF (zS z) k) + (((tF (zS z) k) * ((zS z) 2)) / 100)) - ((zS z) 1))), (5, .int ((tF (zS z) k) + (((tF (zS z) k) * ((zS z) 2)) / 100))), (4, .int (tF (zS z) k)), (3, .int (x_np (x_tF (zS z) k))), (2, .int (nI (tN (zS z)))), (0, .ref (A.1 0)), (1, .int (nI k))]) hx hb dL_isStreet_292 hl (k := 6) rfl (nI_add i 1) (by decide) rfl (fun ls hl => ?_)
                  refine lv_goto (tgt := 147) hx hb dL_isStreet_295 (by decide) ?_
                  exact ih_147 _ (i + 1) _ _ _ _ _ _ _ X (lv_sub hl [0, 1, 2, 4, 5, 7, 8, 9, 10, 11, 12, 13, 14, 15, 16, 17] rfl) (by omega) (by assumption) (by omega) (by exact xv_br1 hok c_150 hk hbr c_161) (by exact xv_be1 hok c_150 hk hbe c_161) (by exact fun q => xv_wd0 hok c_150 hk q (hwd q) (Or.inl (by omega))) (by exact fun q => xv_na0 hok c_150 hk q (hna q) (Or.inl (by omega)))
                · have c_219 : 0 < i := Nat.not_le.mp (fun h => c_219 ((nI_leI (a := i) (b := 0) (by omega) (by omega)).mpr h))
                  refine lv_aload_n hx hb dL_isStreet_222 rfl (lv_at hl 15 rfl) ?_
                  refine lv_iload hx hb dL_isStreet_223 (lv_at hl 3 rfl) ?_
                  refine lv_iconst (v := 0) hx hb dL_isStreet_225 (by decide) ?_
                  refine x_cVi F X (gc := [xoA q A, ob2_202]) (gr := []) (xp_idx (n := 2) [0, 1] (by decide +kernel) rfl rfl) (c_G_of0 l D q A z ob2_202 i (by first | assumption | omega) (by first | assumption | omega)) (cwV 2 F.1.2.2.2.2 gL_isStreet_X7_of rfl rfl rfl (by decide +kernel) ⟨Nat.le_of_ble_eq_true rfl, Nat.le_of_ble_eq_true rfl⟩) rfl rfl (r0 := 0) (ci := 7) (T := TX7) (N := 8) rfl rfl hl.1 ⟨Nat.le_of_ble_eq_true rfl, Nat.le_of_ble_eq_true rfl⟩ (Nat.le_of_ble_eq_true rfl) dL_isStreet_226 (fun r_226 g1 H locs hp X => ?_)
                  obtain ⟨ob2_226, rfl, rfl, hob2_226⟩ := hp
                  have X : xS D A9 s9 [xoA q A, ob2_226] H locs := X
                  refine lv_iload_n hx hb dL_isStreet_229 rfl (lv_at hl 13 rfl) ?_
                  refine lv_icmp_ne (tgt := 237) hx hb dL_isStreet_230 (by decide) (fun c_230 => ?_) (fun c_230 => ?_)
                  · refine lv_iconst (v := 0) hx hb dL_isStreet_237 (by decide) ?_
                    refine lv_istore (lv' := [(17, .int 0), (12, .int (be + (nI (1 + (x_bn (tR (zS z)) i (tN (zS z) - (i + 1))))))), (11, .int (br ||| (1 <<< ((nI i) &&& 31)))), (16, .int 1), (15, .int (nI i)), (14, .int na), (13, .int wd), (10, .int ((tF (zS z) k) / ((zS z) 3))), (9, .int q9), (8, .int (x_tC (zS z) k)), (7, .int (x_hc (zS z) (tF (zS z)) k)), (6, .int (((tF (zS z) k) + (((tF (zS z) k) * ((zS z) 2)) / 100)) - ((zS z) 1))), (5, .int ((tF (zS z) k) + (((tF (zS z) k) * ((zS z) 2)) / 100))), (4, .int (tF (zS z) k)), (3, .int (x_np (x_tF (zS z) k))), (2, .int (nI (tN (zS z)))), (0, .ref (A.1 0)), (1, .int (nI k))]) hx hb dL_isStreet_238 hl (by decide) rfl (fun ls hl => ?_)
                    refine lv_iload hx hb dL_isStreet_240 (lv_at hl 6 rfl) ?_
                    refine lv_iload hx hb dL_isStreet_242 (lv_at hl 0 rfl) ?_
                    refine lv_if_eq (tgt := 257) hx hb dL_isStreet_244 (by decide) (fun _ => ?_) (fun h => absurd (by decide) h)
                    refine lv_iconst (v := 0) hx hb dL_isStreet_257 (by decide) ?_
                    refine lv_iadd hx hb dL_isStreet_258 ?_
                    refine lv_istore (lv' := [(13, .int (wd + 0)), (17, .int 0), (12, .int (be + (nI (1 + (x_bn (tR (zS z)) i (tN (zS z) - (i + 1))))))), (11, .int (br ||| (1 <<< ((nI i) &&& 31)))), (16, .int 1), (15, .int (nI i)), (14, .int na), (10, .int ((tF (zS z) k) / ((zS z) 3))), (9, .int q9), (8, .int (x_tC (zS z) k)), (7, .int (x_hc (zS z) (tF (zS z)) k)), (6, .int (((tF (zS z) k) + (((tF (zS z) k) * ((zS z) 2)) / 100)) - ((zS z) 1))), (5, .int ((tF (zS z) k) + (((tF (zS z) k) * ((zS z) 2)) / 100))), (4, .int (tF (zS z) k)), (3, .int (x_np (x_tF (zS z) k))), (2, .int (nI (tN (zS z)))), (0, .ref (A.1 0)), (1, .int (nI k))]) hx hb dL_isStreet_259 hl (by decide) rfl (fun ls hl => ?_)
                    refine lv_iload hx hb dL_isStreet_261 (lv_at hl 6 rfl) ?_
                    refine lv_iload hx hb dL_isStreet_263 (lv_at hl 1 rfl) ?_
                    refine lv_if_eq (tgt := 288) hx hb dL_isStreet_265 (by decide) (fun _ => ?_) (fun h => absurd (by decide) h)
                    refine lv_iconst (v := 0) hx hb dL_isStreet_288 (by decide) ?_
                    refine lv_iadd hx hb dL_isStreet_289 ?_
                    refine lv_istore (lv' := [(14, .int (na + 0)), (13, .int (wd + 0)), (17, .int 0), (12, .int (be + (nI (1 + (x_bn (tR (zS z)) i (tN (zS z) - (i + 1))))))), (11, .int (br ||| (1 <<< ((nI i) &&& 31)))), (16, .int 1), (15, .int (nI i)), (10, .int ((tF (zS z) k) / ((zS z) 3))), (9, .int q9), (8, .int (x_tC (zS z) k)), (7, .int (x_hc (zS z) (tF (zS z)) k)), (6, .int (((tF (zS z) k) + (((tF (zS z) k) * ((zS z) 2)) / 100)) - ((zS z) 1))), (5, .int ((tF (zS z) k) + (((tF (zS z) k) * ((zS z) 2)) / 100))), (4, .int (tF (zS z) k)), (3, .int (x_np (x_tF (zS z) k))), (2, .int (nI (tN (zS z)))), (0, .ref (A.1 0)), (1, .int (nI k))]) hx hb dL_isStreet_290 hl (by decide) rfl (fun ls hl => ?_)
                    refine lv_iinc (v := (nI (i + 1))) (lv' := [(15, .int (nI (i + 1))), (14, .int (na + 0)), (13, .int (wd + 0)), (17, .int 0), (12, .int (be + (nI (1 + (x_bn (tR (zS z)) i (tN (zS z) - (i + 1))))))), (11, .int (br ||| (1 <<< ((nI i) &&& 31)))), (16, .int 1), (10, .int ((tF (zS z) k) / ((zS z) 3))), (9, .int q9), (8, .int (x_tC (zS z) k)), (7, .int (x_hc (zS z) (tF (zS z)) k)), (6, .int (((tF (zS z) k) + (((tF (zS z) k) * ((zS z) 2)) / 100)) - ((zS z) 1))), (5, .int ((tF (zS z) k) + (((tF (zS z) k) * ((zS z) 2)) / 100))), (4, .int (tF (zS z) k)), (3, .int (x_np (x_tF (zS z) k))), (2, .int (nI (tN (zS z)))), (0, .ref (A.1 0)), (1, .int (nI k))]) hx hb dL_isStreet_292 hl (k := 6) rfl (nI_add i 1) (by decide) rfl (fun ls hl => ?_)
                    refine lv_goto (tgt := 147) hx hb dL_isStreet_295 (by decide) ?_
                    exact ih_147 _ (i + 1) _ _ _ _ _ _ _ X (lv_sub hl [0, 1, 2, 4, 5, 7, 8, 9, 10, 11, 12, 13, 14, 15, 16, 17] rfl) (by omega) (by assumption) (by omega) (by exact xv_br1 hok c_150 hk hbr c_161) (by exact xv_be1 hok c_150 hk hbe c_161) (by exact fun q => xv_wd0 hok c_150 hk q (hwd q) (Or.inr c_230)) (by exact fun q => xv_na0 hok c_150 hk q (hna q) (Or.inr c_230))
                  · refine lv_iconst (v := 1) hx hb dL_isStreet_233 (by decide) ?_
                    refine lv_goto (tgt := 238) hx hb dL_isStreet_234 (by decide) ?_
                    refine lv_istore (lv' := [(17, .int 1), (12, .int (be + (nI (1 + (x_bn (tR (zS z)) i (tN (zS z) - (i + 1))))))), (11, .int (br ||| (1 <<< ((nI i) &&& 31)))), (16, .int 1), (15, .int (nI i)), (14, .int na), (13, .int wd), (10, .int ((tF (zS z) k) / ((zS z) 3))), (9, .int q9), (8, .int (x_tC (zS z) k)), (7, .int (x_hc (zS z) (tF (zS z)) k)), (6, .int (((tF (zS z) k) + (((tF (zS z) k) * ((zS z) 2)) / 100)) - ((zS z) 1))), (5, .int ((tF (zS z) k) + (((tF (zS z) k) * ((zS z) 2)) / 100))), (4, .int (tF (zS z) k)), (3, .int (x_np (x_tF (zS z) k))), (2, .int (nI (tN (zS z)))), (0, .ref (A.1 0)), (1, .int (nI k))]) hx hb dL_isStreet_238 hl (by decide) rfl (fun ls hl => ?_)
                    refine lv_iload hx hb dL_isStreet_240 (lv_at hl 6 rfl) ?_
                    refine lv_iload hx hb dL_isStreet_242 (lv_at hl 0 rfl) ?_
                    refine lv_if_eq (tgt := 257) hx hb dL_isStreet_244 (by decide) (fun h => absurd h (by decide)) (fun _ => ?_)
                    refine lv_aload_n hx hb dL_isStreet_247 rfl (lv_at hl 16 rfl) ?_
                    refine lv_iload hx hb dL_isStreet_248 (lv_at hl 4 rfl) ?_
                    refine lv_iconst (v := 1) hx hb dL_isStreet_250 (by decide) ?_
                    refine x_cVi F X (gc := [xoA q A, ob2_226]) (gr := []) (xp_idx (n := 2) [0, 1] (by decide +kernel) rfl rfl) (c_G_of1 l D q A z ob2_226 i (by first | assumption | omega) (by first | assumption | omega)) (cwV 2 F.1.2.2.2.2 gL_isStreet_X7_of rfl rfl rfl (by decide +kernel) ⟨Nat.le_of_ble_eq_true rfl, Nat.le_of_ble_eq_true rfl⟩) rfl rfl (r0 := 0) (ci := 7) (T := TX7) (N := 8) rfl rfl hl.1 ⟨Nat.le_of_ble_eq_true rfl, Nat.le_of_ble_eq_true rfl⟩ (Nat.le_of_ble_eq_true rfl) dL_isStreet_251 (fun r_251 g1 H locs hp X => ?_)
                    obtain ⟨ob2_251, rfl, rfl, hob2_251⟩ := hp
                    have X : xS D A9 s9 [xoA q A, ob2_251] H locs := X
                    refine lv_goto (tgt := 258) hx hb dL_isStreet_254 (by decide) ?_
                    refine lv_iadd hx hb dL_isStreet_258 ?_
                    refine lv_istore (lv' := [(13, .int (wd + (x_tW (zS z) i))), (17, .int 1), (12, .int (be + (nI (1 + (x_bn (tR (zS z)) i (tN (zS z) - (i + 1))))))), (11, .int (br ||| (1 <<< ((nI i) &&& 31)))), (16, .int 1), (15, .int (nI i)), (14, .int na), (10, .int ((tF (zS z) k) / ((zS z) 3))), (9, .int q9), (8, .int (x_tC (zS z) k)), (7, .int (x_hc (zS z) (tF (zS z)) k)), (6, .int (((tF (zS z) k) + (((tF (zS z) k) * ((zS z) 2)) / 100)) - ((zS z) 1))), (5, .int ((tF (zS z) k) + (((tF (zS z) k) * ((zS z) 2)) / 100))), (4, .int (tF (zS z) k)), (3, .int (x_np (x_tF (zS z) k))), (2, .int (nI (tN (zS z)))), (0, .ref (A.1 0)), (1, .int (nI k))]) hx hb dL_isStreet_259 hl (by decide) rfl (fun ls hl => ?_)
                    refine lv_iload hx hb dL_isStreet_261 (lv_at hl 6 rfl) ?_
                    refine lv_iload hx hb dL_isStreet_263 (lv_at hl 1 rfl) ?_
                    refine lv_if_eq (tgt := 288) hx hb dL_isStreet_265 (by decide) (fun h => absurd h (by decide)) (fun _ => ?_)
                    refine lv_aload_n hx hb dL_isStreet_268 rfl (lv_at hl 16 rfl) ?_
                    refine lv_iload hx hb dL_isStreet_269 (lv_at hl 5 rfl) ?_
                    refine lv_iconst (v := 1) hx hb dL_isStreet_271 (by decide) ?_
                    refine x_cVi F X (gc := [xoA q A, ob2_251]) (gr := []) (xp_idx (n := 2) [0, 1] (by decide +kernel) rfl rfl) (c_G_of1 l D q A z ob2_251 i (by first | assumption | omega) (by first | assumption | omega)) (cwV 2 F.1.2.2.2.2 gL_isStreet_X7_of rfl rfl rfl (by decide +kernel) ⟨Nat.le_of_ble_eq_true rfl, Nat.le_of_ble_eq_true rfl⟩) rfl rfl (r0 := 0) (ci := 7) (T := TX7) (N := 8) rfl rfl hl.1 ⟨Nat.le_of_ble_eq_true rfl, Nat.le_of_ble_eq_true rfl⟩ (Nat.le_of_ble_eq_true rfl) dL_isStreet_272 (fun r_272 g1 H locs hp X => ?_)
                    obtain ⟨ob2_272, rfl, rfl, hob2_272⟩ := hp
                    have X : xS D A9 s9 [xoA q A, ob2_272] H locs := X
                    refine lv_aload_n hx hb dL_isStreet_275 rfl (lv_at hl 16 rfl) ?_
                    refine lv_iload_n hx hb dL_isStreet_276 rfl (lv_at hl 17 rfl) ?_
                    refine lv_iconst (v := 1) hx hb dL_isStreet_277 (by decide) ?_
                    refine x_cVi F X (gc := [xoA q A, ob2_272]) (gr := []) (xp_idx (n := 2) [0, 1] (by decide +kernel) rfl rfl) (c_G_of1 l D q A z ob2_272 k (by first | assumption | omega) (by first | assumption | omega)) (cwV 2 F.1.2.2.2.2 gL_isStreet_X7_of rfl rfl rfl (by decide +kernel) ⟨Nat.le_of_ble_eq_true rfl, Nat.le_of_ble_eq_true rfl⟩) rfl rfl (r0 := 0) (ci := 7) (T := TX7) (N := 8) rfl rfl hl.1 ⟨Nat.le_of_ble_eq_true rfl, Nat.le_of_ble_eq_true rfl⟩ (Nat.le_of_ble_eq_true rfl) dL_isStreet_278 (fun r_278 g1 H locs hp X => ?_)
                    obtain ⟨ob2_278, rfl, rfl, hob2_278⟩ := hp
                    have X : xS D A9 s9 [xoA q A, ob2_278] H locs := X
                    refine lv_icmp_ge (tgt := 288) hx hb dL_isStreet_281 (by decide) (fun c_281 => ?_) (fun c_281 => ?_)
                    · refine lv_iconst (v := 0) hx hb dL_isStreet_288 (by decide) ?_
                      refine lv_iadd hx hb dL_isStreet_289 ?_
                      refine lv_istore (lv' := [(14, .int (na + 0)), (13, .int (wd + (x_tW (zS z) i))), (17, .int 1), (12, .int (be + (nI (1 + (x_bn (tR (zS z)) i (tN (zS z) - (i + 1))))))), (11, .int (br ||| (1 <<< ((nI i) &&& 31)))), (16, .int 1), (15, .int (nI i)), (10, .int ((tF (zS z) k) / ((zS z) 3))), (9, .int q9), (8, .int (x_tC (zS z) k)), (7, .int (x_hc (zS z) (tF (zS z)) k)), (6, .int (((tF (zS z) k) + (((tF (zS z) k) * ((zS z) 2)) / 100)) - ((zS z) 1))), (5, .int ((tF (zS z) k) + (((tF (zS z) k) * ((zS z) 2)) / 100))), (4, .int (tF (zS z) k)), (3, .int (x_np (x_tF (zS z) k))), (2, .int (nI (tN (zS z)))), (0, .ref (A.1 0)), (1, .int (nI k))]) hx hb dL_isStreet_290 hl (by decide) rfl (fun ls hl => ?_)
                      refine lv_iinc (v := (nI (i + 1))) (lv' := [(15, .int (nI (i + 1))), (14, .int (na + 0)), (13, .int (wd + (x_tW (zS z) i))), (17, .int 1), (12, .int (be + (nI (1 + (x_bn (tR (zS z)) i (tN (zS z) - (i + 1))))))), (11, .int (br ||| (1 <<< ((nI i) &&& 31)))), (16, .int 1), (10, .int ((tF (zS z) k) / ((zS z) 3))), (9, .int q9), (8, .int (x_tC (zS z) k)), (7, .int (x_hc (zS z) (tF (zS z)) k)), (6, .int (((tF (zS z) k) + (((tF (zS z) k) * ((zS z) 2)) / 100)) - ((zS z) 1))), (5, .int ((tF (zS z) k) + (((tF (zS z) k) * ((zS z) 2)) / 100))), (4, .int (tF (zS z) k)), (3, .int (x_np (x_tF (zS z) k))), (2, .int (nI (tN (zS z)))), (0, .ref (A.1 0)), (1, .int (nI k))]) hx hb dL_isStreet_292 hl (k := 6) rfl (nI_add i 1) (by decide) rfl (fun ls hl => ?_)
                      refine lv_goto (tgt := 147) hx hb dL_isStreet_295 (by decide) ?_
                      exact ih_147 _ (i + 1) _ _ _ _ _ _ _ X (lv_sub hl [0, 1, 2, 4, 5, 7, 8, 9, 10, 11, 12, 13, 14, 15, 16, 17] rfl) (by omega) (by assumption) (by omega) (by exact xv_br1 hok c_150 hk hbr c_161) (by exact xv_be1 hok c_150 hk hbe c_161) (by exact fun q => xv_wd1 hok c_150 hk (by omega) q (hwd q) c_230) (by exact fun q => xv_na2 (hna q) c_281)
                    · refine lv_iconst (v := 1) hx hb dL_isStreet_284 (by decide) ?_
                      refine lv_goto (tgt := 289) hx hb dL_isStreet_285 (by decide) ?_
                      refine lv_iadd hx hb dL_isStreet_289 ?_
                      refine lv_istore (lv' := [(14, .int (na + 1)), (13, .int (wd + (x_tW (zS z) i))), (17, .int 1), (12, .int (be + (nI (1 + (x_bn (tR (zS z)) i (tN (zS z) - (i + 1))))))), (11, .int (br ||| (1 <<< ((nI i) &&& 31)))), (16, .int 1), (15, .int (nI i)), (10, .int ((tF (zS z) k) / ((zS z) 3))), (9, .int q9), (8, .int (x_tC (zS z) k)), (7, .int (x_hc (zS z) (tF (zS z)) k)), (6, .int (((tF (zS z) k) + (((tF (zS z) k) * ((zS z) 2)) / 100)) - ((zS z) 1))), (5, .int ((tF (zS z) k) + (((tF (zS z) k) * ((zS z) 2)) / 100))), (4, .int (tF (zS z) k)), (3, .int (x_np (x_tF (zS z) k))), (2, .int (nI (tN (zS z)))), (0, .ref (A.1 0)), (1, .int (nI k))]) hx hb dL_isStreet_290 hl (by decide) rfl (fun ls hl => ?_)
                      refine lv_iinc (v := (nI (i + 1))) (lv' := [(15, .int (nI (i + 1))), (14, .int (na + 1)), (13, .int (wd + (x_tW (zS z) i))), (17, .int 1), (12, .int (be + (nI (1 + (x_bn (tR (zS z)) i (tN (zS z) - (i + 1))))))), (11, .int (br ||| (1 <<< ((nI i) &&& 31)))), (16, .int 1), (10, .int ((tF (zS z) k) / ((zS z) 3))), (9, .int q9), (8, .int (x_tC (zS z) k)), (7, .int (x_hc (zS z) (tF (zS z)) k)), (6, .int (((tF (zS z) k) + (((tF (zS z) k) * ((zS z) 2)) / 100)) - ((zS z) 1))), (5, .int ((tF (zS z) k) + (((tF (zS z) k) * ((zS z) 2)) / 100))), (4, .int (tF (zS z) k)), (3, .int (x_np (x_tF (zS z) k))), (2, .int (nI (tN (zS z)))), (0, .ref (A.1 0)), (1, .int (nI k))]) hx hb dL_isStreet_292 hl (k := 6) rfl (nI_add i 1) (by decide) rfl (fun ls hl => ?_)
                      refine lv_goto (tgt := 147) hx hb dL_isStreet_295 (by decide) ?_
                      exact ih_147 _ (i + 1) _ _ _ _ _ _ _ X (lv_sub hl [0, 1, 2, 4, 5, 7, 8, 9, 10, 11, 12, 13, 14, 15, 16, 17] rfl) (by omega) (by assumption) (by omega) (by exact xv_br1 hok c_150 hk hbr c_161) (by exact xv_be1 hok c_150 hk hbe c_161) (by exact fun q => xv_wd1 hok c_150 hk (by omega) q (hwd q) c_230) (by exact fun q => xv_na1 hok c_150 hk (by omega) q (hna q) c_230 c_281)
      exact L_147 (tN (zS z) + 1) _ 0 0 0 0 0 _ _ _ X (lv_sub hl [0, 1, 2, 3, 4, 5, 6, 7, 8, 9, 10, 11, 12, 13, 14, 15] rfl) (by omega) (by assumption) (by omega) (by rfl) (by rfl) (by exact fun _ => rfl) (by exact fun _ => rfl)
    refine lv_iload hx hb dL_isStreet_98 (lv_at hl 0 rfl) ?_
    refine lv_if_ne (tgt := 107) hx hb dL_isStreet_100 (by decide) (fun c_100 => ?_) (fun c_100 => ?_)
    · refine lv_iload hx hb dL_isStreet_107 (lv_at hl 4 rfl) ?_
      refine lv_aload_n hx hb dL_isStreet_109 rfl (lv_at hl 7 rfl) ?_
      refine lv_bipush (v := 8) hx hb dL_isStreet_110 (by decide) ?_
      refine x_cVi F X (gc := [xoA q A, ob2_93]) (gr := []) (xp_idx (n := 2) [0, 1] (by decide +kernel) rfl rfl) (c_G_count8 l D q A z ob2_93 (by first | assumption | omega)) (cwV 1 F.1.2.2.2.2 gL_isStreet_X7_count rfl rfl rfl (by decide +kernel) ⟨Nat.le_of_ble_eq_true rfl, Nat.le_of_ble_eq_true rfl⟩) rfl rfl (r0 := 0) (ci := 7) (T := TX7) (N := 8) rfl rfl hl.1 ⟨Nat.le_of_ble_eq_true rfl, Nat.le_of_ble_eq_true rfl⟩ (Nat.le_of_ble_eq_true rfl) dL_isStreet_112 (fun r_112 g1 H locs hp X => ?_)
      obtain ⟨ob2_112, rfl, rfl, hob2_112⟩ := hp
      have X : xS D A9 s9 [xoA q A, ob2_112] H locs := X
      refine lv_iload hx hb dL_isStreet_115 (lv_at hl 0 rfl) ?_
      refine lv_imul hx hb dL_isStreet_117 ?_
      refine lv_idiv hx hb dL_isStreet_118 (by exact xv_ne (hstp c_100)) ?_
      exact J_119 _ _ _ _ _ X (lv_sub hl [0, 1, 2, 3, 4, 5, 6, 7, 8] rfl) (by assumption) (by exact fun _ => rfl)
    · refine lv_iconst (v := 0) hx hb dL_isStreet_103 (by decide) ?_
      refine lv_goto (tgt := 119) hx hb dL_isStreet_104 (by decide) ?_
      exact J_119 _ _ _ _ _ X (lv_sub hl [0, 1, 2, 3, 4, 5, 6, 7, 8] rfl) (by assumption) (by exact fun h => absurd c_100 h)
  refine lv_iload hx hb dL_isStreet_49 (lv_at hl 0 rfl) ?_
  refine lv_if_gt (tgt := 58) hx hb dL_isStreet_51 (by decide) (fun c_51 => ?_) (fun c_51 => ?_)
  · refine lv_iload hx hb dL_isStreet_58 (lv_at hl 0 rfl) ?_
    refine lv_iconst (v := 4) hx hb dL_isStreet_60 (by decide) ?_
    refine lv_idiv hx hb dL_isStreet_61 (by decide) ?_
    refine lv_iconst (v := 1) hx hb dL_isStreet_62 (by decide) ?_
    refine lv_iadd hx hb dL_isStreet_63 ?_
    refine lv_aload_n hx hb dL_isStreet_64 rfl (lv_at hl 5 rfl) ?_
    refine lv_iload_n hx hb dL_isStreet_65 rfl (lv_at hl 6 rfl) ?_
    refine lv_iconst (v := 4) hx hb dL_isStreet_66 (by decide) ?_
    refine x_cVi F X (gc := [xoA q A, ob2_43]) (gr := []) (xp_idx (n := 2) [0, 1] (by decide +kernel) rfl rfl) (c_G_of4 l D q A z ob2_43 k (by first | assumption | omega) (by first | assumption | omega)) (cwV 2 F.1.2.2.2.2 gL_isStreet_X7_of rfl rfl rfl (by decide +kernel) ⟨Nat.le_of_ble_eq_true rfl, Nat.le_of_ble_eq_true rfl⟩) rfl rfl (r0 := 0) (ci := 7) (T := TX7) (N := 8) rfl rfl hl.1 ⟨Nat.le_of_ble_eq_true rfl, Nat.le_of_ble_eq_true rfl⟩ (Nat.le_of_ble_eq_true rfl) dL_isStreet_67 (fun r_67 g1 H locs hp X => ?_)
    obtain ⟨ob2_67, rfl, rfl, hob2_67⟩ := hp
    have X : xS D A9 s9 [xoA q A, ob2_67] H locs := X
    refine lv_icmp_ge (tgt := 82) hx hb dL_isStreet_70 (by decide) (fun c_70 => ?_) (fun c_70 => ?_)
    · refine lv_aload_n hx hb dL_isStreet_82 rfl (lv_at hl 5 rfl) ?_
      refine lv_iload_n hx hb dL_isStreet_83 rfl (lv_at hl 6 rfl) ?_
      refine lv_iconst (v := 4) hx hb dL_isStreet_84 (by decide) ?_
      refine x_cVi F X (gc := [xoA q A, ob2_67]) (gr := []) (xp_idx (n := 2) [0, 1] (by decide +kernel) rfl rfl) (c_G_of4 l D q A z ob2_67 k (by first | assumption | omega) (by first | assumption | omega)) (cwV 2 F.1.2.2.2.2 gL_isStreet_X7_of rfl rfl rfl (by decide +kernel) ⟨Nat.le_of_ble_eq_true rfl, Nat.le_of_ble_eq_true rfl⟩) rfl rfl (r0 := 0) (ci := 7) (T := TX7) (N := 8) rfl rfl hl.1 ⟨Nat.le_of_ble_eq_true rfl, Nat.le_of_ble_eq_true rfl⟩ (Nat.le_of_ble_eq_true rfl) dL_isStreet_85 (fun r_85 g1 H locs hp X => ?_)
      obtain ⟨ob2_85, rfl, rfl, hob2_85⟩ := hp
      have X : xS D A9 s9 [xoA q A, ob2_85] H locs := X
      refine x_i (y := (x_hc (zS z) (tF (zS z)) k)) (xv_h2 c_51 c_70) ?_
      exact J_88 _ _ _ _ X (lv_sub hl [0, 1, 2, 3, 4, 5, 6] rfl) (by assumption)
    · refine lv_iload hx hb dL_isStreet_73 (lv_at hl 0 rfl) ?_
      refine lv_iconst (v := 4) hx hb dL_isStreet_75 (by decide) ?_
      refine lv_idiv hx hb dL_isStreet_76 (by decide) ?_
      refine lv_iconst (v := 1) hx hb dL_isStreet_77 (by decide) ?_
      refine lv_iadd hx hb dL_isStreet_78 ?_
      refine lv_goto (tgt := 88) hx hb dL_isStreet_79 (by decide) ?_
      refine x_i (y := (x_hc (zS z) (tF (zS z)) k)) (xv_h1 c_51 c_70) ?_
      exact J_88 _ _ _ _ X (lv_sub hl [0, 1, 2, 3, 4, 5, 6] rfl) (by assumption)
  · refine lv_iconst (v := 0) hx hb dL_isStreet_54 (by decide) ?_
    refine lv_goto (tgt := 88) hx hb dL_isStreet_55 (by decide) ?_
    refine x_i (y := (x_hc (zS z) (tF (zS z)) k)) (xv_h0 c_51) ?_
    exact J_88 _ _ _ _ X (lv_sub hl [0, 1, 2, 3, 4, 5, 6] rfl) (by assumption)

