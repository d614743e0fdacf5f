set_option maxHeartbeats 1000000 in
set_option maxRecDepth 100000 in
theorem c_L_isPassed (l : Launch) (D : va_G) (q : xQ) (A : xAd) (z : xZt) (ob : va_W) (hu : Nat) (hob : xOb q A z ob) (hw4 : xW z) (hh : 1 ≤ hu ∧ hu ≤ 24) : xMi l yL_isPassed wsL_isPassed { frames := 6, cells := 0, slots := 0, locals := 148 } D q [.ref (A.1 0), .int (nI hu)] [xoA q A, ob] (fun r gw => ∃ (ob2 : va_W), ∃ (z2 : xZt), gw = [xoA q A, ob2] ∧ r = 1 ∧ (xOb q A z2 ob2) ∧ (xW z2)) := by
  refine xMi_of (cc := cL_isPassed) (maxL := 10) (rt := .boolean) (by decide) rfl (Nat.le_of_ble_eq_true rfl) (fun v w h => by obtain ⟨_, _, _, rfl, _⟩ := h; rfl) ?_
  intro p9 e9 s9 m9 a9 below meth c9 A9 Z9 ls H locs F X hl hret
  have hx := F.1.1
  have hb := F.1.2.1
  have hl : lv_has ls 10 [(0, .ref (A.1 0)), (1, .int (nI hu))] := hl
  have hok := hob.ok
  have hn := hok.1
  have hn1 := hok.2.1
  have hp := xv_hp hok
  obtain ⟨-, -, -, -, -, -, -, -, -, -, -, ⟨v, v1, v2, v3⟩, -⟩ := id hok
  refine lv_aload_n hx hb dL_isPassed_0 rfl (lv_at hl 0 rfl) ?_
  refine lv_iconst (v := 2) hx hb dL_isPassed_1 (by decide) ?_
  refine x_cVi F X (gc := [xoA q A, ob]) (gr := []) (xp_idx (n := 2) [0, 1] (by decide +kernel) rfl rfl) (c_G_count2 l D q A z ob (by first | assumption | omega)) (cwV 1 F.1.2.2.2.2 gL_isPassed_X7_count rfl rfl rfl (by decide +kernel) ⟨Nat.le_of_ble_eq_true rfl, Nat.le_of_ble_eq_true rfl⟩) rfl rfl (r0 := 0) (ci := 7) (T := TX7) (N := 8) rfl rfl hl.1 ⟨Nat.le_of_ble_eq_true rfl, Nat.le_of_ble_eq_true rfl⟩ (Nat.le_of_ble_eq_true rfl) dL_isPassed_2 (fun r_2 g1 H locs hp X => ?_)
  obtain ⟨ob2_2, rfl, rfl, hob2_2⟩ := hp
  have X : xS D A9 s9 [xoA q A, ob2_2] H locs := X
  refine x_i (y := (nI v)) (v2) ?_
  refine lv_istore_n (lv' := [(2, .int (nI v)), (0, .ref (A.1 0)), (1, .int (nI hu))]) hx hb dL_isPassed_5 rfl hl (by decide) rfl (fun ls hl => ?_)
  refine lv_aload_n hx hb dL_isPassed_6 rfl (lv_at hl 1 rfl) ?_
  refine lv_iconst (v := 3) hx hb dL_isPassed_7 (by decide) ?_
  refine x_cVi F X (gc := [xoA q A, ob2_2]) (gr := []) (xp_idx (n := 2) [0, 1] (by decide +kernel) rfl rfl) (c_G_count3 l D q A z ob2_2 (by first | assumption | omega)) (cwV 1 F.1.2.2.2.2 gL_isPassed_X7_count rfl rfl rfl (by decide +kernel) ⟨Nat.le_of_ble_eq_true rfl, Nat.le_of_ble_eq_true rfl⟩) rfl rfl (r0 := 0) (ci := 7) (T := TX7) (N := 8) rfl rfl hl.1 ⟨Nat.le_of_ble_eq_true rfl, Nat.le_of_ble_eq_true rfl⟩ (Nat.le_of_ble_eq_true rfl) dL_isPassed_8 (fun r_8 g1 H locs hp X => ?_)
  obtain ⟨ob2_8, rfl, rfl, hob2_8⟩ := hp
  have X : xS D A9 s9 [xoA q A, ob2_8] H locs := X
  refine lv_istore_n (lv' := [(3, .int ((zS z) 7)), (2, .int (nI v)), (0, .ref (A.1 0)), (1, .int (nI hu))]) hx hb dL_isPassed_11 rfl hl (by decide) rfl (fun ls hl => ?_)
  refine lv_aload_n hx hb dL_isPassed_12 rfl (lv_at hl 2 rfl) ?_
  refine lv_iconst (v := 5) hx hb dL_isPassed_13 (by decide) ?_
  refine x_cVi F X (gc := [xoA q A, ob2_8]) (gr := []) (xp_idx (n := 2) [0, 1] (by decide +kernel) rfl rfl) (c_G_count5 l D q A z ob2_8 (by first | assumption | omega)) (cwV 1 F.1.2.2.2.2 gL_isPassed_X7_count rfl rfl rfl (by decide +kernel) ⟨Nat.le_of_ble_eq_true rfl, Nat.le_of_ble_eq_true rfl⟩) rfl rfl (r0 := 0) (ci := 7) (T := TX7) (N := 8) rfl rfl hl.1 ⟨Nat.le_of_ble_eq_true rfl, Nat.le_of_ble_eq_true rfl⟩ (Nat.le_of_ble_eq_true rfl) dL_isPassed_14 (fun r_14 g1 H locs hp X => ?_)
  obtain ⟨ob2_14, rfl, rfl, hob2_14⟩ := hp
  have X : xS D A9 s9 [xoA q A, ob2_14] H locs := X
  refine lv_istore (lv' := [(4, .int (x_sm (x_hc (zS z) (tF (zS z))) (tN (zS z)))), (3, .int ((zS z) 7)), (2, .int (nI v)), (0, .ref (A.1 0)), (1, .int (nI hu))]) hx hb dL_isPassed_17 hl (by decide) rfl (fun ls hl => ?_)
  refine lv_bipush (v := (-6)) hx hb dL_isPassed_19 (by decide) ?_
  refine lv_istore (lv' := [(5, .int (-6)), (4, .int (x_sm (x_hc (zS z) (tF (zS z))) (tN (zS z)))), (3, .int ((zS z) 7)), (2, .int (nI v)), (0, .ref (A.1 0)), (1, .int (nI hu))]) hx hb dL_isPassed_21 hl (by decide) rfl (fun ls hl => ?_)
  refine lv_iconst (v := 0) hx hb dL_isPassed_23 (by decide) ?_
  refine lv_istore (lv' := [(6, .int 0), (5, .int (-6)), (4, .int (x_sm (x_hc (zS z) (tF (zS z))) (tN (zS z)))), (3, .int ((zS z) 7)), (2, .int (nI v)), (0, .ref (A.1 0)), (1, .int (nI hu))]) hx hb dL_isPassed_24 hl (by decide) rfl (fun ls hl => ?_)
  have J_40 : ∀ (ob : va_W) (bf : Int32) (H : Heap) (locs : List Loc) (ls : Array Slot), xS D A9 s9 [xoA q A, ob] H locs → lv_has ls 10 [(6, .int 0), (5, .int (-6)), (4, .int (x_sm (x_hc (zS z) (tF (zS z))) (tN (zS z)))), (3, .int ((zS z) 7)), (2, .int (nI v)), (0, .ref (A.1 0)), (1, .int (nI hu))] → (xOb q A z ob) → (1 ≤ v → bf = zS z 10) → W p9 l e9 { frames := 6, cells := 0, slots := 0, locals := 148 } s9 m9 a9 below meth c9 H locs 0 0 Z9 (F0 m9 40 ls [.int bf]) := by
    intro ob bf H locs ls X hl hob hbf
    refine lv_istore (lv' := [(7, .int bf), (6, .int 0), (5, .int (-6)), (4, .int (x_sm (x_hc (zS z) (tF (zS z))) (tN (zS z)))), (3, .int ((zS z) 7)), (2, .int (nI v)), (0, .ref (A.1 0)), (1, .int (nI hu))]) hx hb dL_isPassed_40 hl (by decide) rfl (fun ls hl => ?_)
    refine lv_iconst (v := 0) hx hb dL_isPassed_42 (by decide) ?_
    refine lv_istore (lv' := [(8, .int 0), (7, .int bf), (6, .int 0), (5, .int (-6)), (4, .int (x_sm (x_hc (zS z) (tF (zS z))) (tN (zS z)))), (3, .int ((zS z) 7)), (2, .int (nI v)), (0, .ref (A.1 0)), (1, .int (nI hu))]) hx hb dL_isPassed_43 hl (by decide) rfl (fun ls hl => ?_)
    have L_45 : ∀ (nn : Nat) (ob : va_W) (i : Nat) (wh mo : Int32) (H : Heap) (locs : List Loc) (ls : Array Slot), xS D A9 s9 [xoA q A, ob] H locs → lv_has ls 10 [(8, .int (nI i)), (7, .int bf), (6, .int mo), (5, .int wh), (4, .int (x_sm (x_hc (zS z) (tF (zS z))) (tN (zS z)))), (3, .int ((zS z) 7)), (2, .int (nI v)), (0, .ref (A.1 0)), (1, .int (nI hu))] → (tN (zS z) < i + nn) → (xOb q A z ob) → (i ≤ tN (zS z)) → (wh = (x_wo (x_hc (zS z) (tF (zS z))) i).1) → (mo = (x_wo (x_hc (zS z) (tF (zS z))) i).2) → W p9 l e9 { frames := 6, cells := 0, slots := 0, locals := 148 } s9 m9 a9 below meth c9 H locs 0 0 Z9 (F0 m9 45 ls []) := by
      intro nn
      induction nn with
      | zero => intro ob i wh mo H locs ls X hl hfuel hob hi hwh hmo; exact absurd hfuel (by omega)
      | succ nn ih_45 =>
        intro ob i wh mo H locs ls X hl hfuel hob hi hwh hmo
        refine lv_iload hx hb dL_isPassed_45 (lv_at hl 0 rfl) ?_
        refine lv_aload_n hx hb dL_isPassed_47 rfl (lv_at hl 7 rfl) ?_
        refine lv_iconst (v := 0) hx hb dL_isPassed_48 (by decide) ?_
        refine x_cVi F X (gc := [xoA q A, ob]) (gr := []) (xp_idx (n := 2) [0, 1] (by decide +kernel) rfl rfl) (c_G_count0 l D q A z ob (by first | assumption | omega)) (cwV 1 F.1.2.2.2.2 gL_isPassed_X7_count rfl rfl rfl (by decide +kernel) ⟨Nat.le_of_ble_eq_true rfl, Nat.le_of_ble_eq_true rfl⟩) rfl rfl (r0 := 0) (ci := 7) (T := TX7) (N := 8) rfl rfl hl.1 ⟨Nat.le_of_ble_eq_true rfl, Nat.le_of_ble_eq_true rfl⟩ (Nat.le_of_ble_eq_true rfl) dL_isPassed_49 (fun r_49 g1 H locs hp X => ?_)
        obtain ⟨ob2_49, rfl, rfl, hob2_49⟩ := hp
        have X : xS D A9 s9 [xoA q A, ob2_49] H locs := X
        refine lv_icmp_ge (tgt := 108) hx hb dL_isPassed_52 (by decide) (fun c_52 => ?_) (fun c_52 => ?_)
        · have c_52 : (tN (zS z)) ≤ i := (nI_leI (a := (tN (zS z))) (b := i) (by omega) (by omega)).mp c_52
          obtain rfl : i = tN (zS z) := by omega
          refine lv_aload_n hx hb dL_isPassed_108 rfl (lv_at hl 7 rfl) ?_
          refine lv_iload_n hx hb dL_isPassed_109 rfl (lv_at hl 8 rfl) ?_
          refine x_cVi F X (gc := [xoA q A, ob2_49]) (gr := []) (xp_idx (n := 2) [0, 1] (by decide +kernel) rfl rfl) (c_G_pass l D q A z ob2_49 hu (by first | assumption | omega) (by first | assumption | omega)) (cwV 1 F.1.2.2.2.2 gL_isPassed_X7_pass rfl rfl rfl (by decide +kernel) ⟨Nat.le_of_ble_eq_true rfl, Nat.le_of_ble_eq_true rfl⟩) rfl rfl (r0 := 0) (ci := 7) (T := TX7) (N := 8) rfl rfl hl.1 ⟨Nat.le_of_ble_eq_true rfl, Nat.le_of_ble_eq_true rfl⟩ (Nat.le_of_ble_eq_true rfl) dL_isPassed_110 (fun r_110 g1 H locs hp X => ?_)
          obtain ⟨ob2_110, z2_110, rfl, hob2_110, hbo_110⟩ := hp
          have X : xS D A9 s9 [xoA q A, ob2_110] H locs := X
          refine lv_istore (lv' := [(8, .int r_110), (7, .int bf), (6, .int mo), (5, .int wh), (4, .int (x_sm (x_hc (zS z) (tF (zS z))) (tN (zS z)))), (3, .int ((zS z) 7)), (2, .int (nI v)), (0, .ref (A.1 0)), (1, .int (nI hu))]) hx hb dL_isPassed_113 hl (by decide) rfl (fun ls hl => ?_)
          refine lv_iload_n hx hb dL_isPassed_115 rfl (lv_at hl 6 rfl) ?_
          refine lv_iload_n hx hb dL_isPassed_116 rfl (lv_at hl 8 rfl) ?_
          refine lv_iadd hx hb dL_isPassed_117 ?_
          refine x_i (y := (nI (v + hu))) (nI_add v hu) ?_
          refine lv_sipush (v := 999) hx hb dL_isPassed_118 (by decide) ?_
          refine lv_icmp_le (tgt := 146) hx hb dL_isPassed_121 (by decide) (fun c_121 => ?_) (fun c_121 => ?_)
          · have c_121 : v + hu ≤ 999 := (nI_leI (a := v + hu) (b := 999) (by omega) (by omega)).mp c_121
            have hcd : ¬ (999 : Int32) < zS z 6 + nI hu := by
              rw [v2]
              intro q
              have := (x_le999 v1 (by omega)).mp q
              omega
            obtain ⟨rfl, rfl⟩ : (x_rep (x_hb (zS z) (tR (zS z)) (tN (zS z)) (zS z 4)) hu) = r_110 ∧ zPass z hu = z2_110 := by
              rcases hbo_110 with ⟨-, q1, q2⟩ | ⟨q, -⟩
              · exact ⟨q1.symm, q2.symm⟩
              · exact absurd hcd q
            have h26 : zS (zPass z hu) 6 = nI (v + hu) := x_hrs_6 v2 hu
            have h28 : zS (zPass z hu) 8 = nI (min (v + hu) 8) := by
              obtain ⟨-, -, -, -, -, -, -, -, -, -, -, ⟨v', w1, w2, w3⟩, -⟩ := hob2_110.ok
              have e : v' = v + hu := (nI_eq (by omega) (by omega)).mp (w2.symm.trans h26)
              rw [e] at w3
              exact w3
            have h24 : zS (zPass z hu) 4 = zS z 4 := x_hrs_out (by omega) hu
            have h27 : zS (zPass z hu) 7 = zS z 7 + (x_rep (x_hb (zS z) (tR (zS z)) (tN (zS z)) (zS z 4)) hu) := xh_7 hu
            have h2s := xh_su (su := x_hb (zS z) (tR (zS z)) (tN (zS z)) (zS z 4)) (wh := x_wh (zS z) (tR (zS z)) (tN (zS z))) hok hu
            have h2r : ∀ w, w ≤ 2 → ∀ k, k < 8 → zS (zPass z hu) (9 + 3 * k + w) = if k < hu then xh_v (zS z) (x_hb (zS z) (tR (zS z)) (tN (zS z)) (zS z 4)) (x_wh (zS z) (tR (zS z)) (tN (zS z))) w else zS z (9 + 3 * (k - hu) + w) := fun w hw k hk => xh_rec hw hu k hk
            have hw5 : xW (zPass z hu) := hw4.of h24
            refine lv_iconst (v := 0) hx hb dL_isPassed_146 (by decide) ?_
            refine lv_istore (lv' := [(9, .int 0), (8, .int (x_rep (x_hb (zS z) (tR (zS z)) (tN (zS z)) (zS z 4)) hu)), (7, .int bf), (6, .int mo), (5, .int wh), (4, .int (x_sm (x_hc (zS z) (tF (zS z))) (tN (zS z)))), (3, .int ((zS z) 7)), (2, .int (nI v)), (0, .ref (A.1 0)), (1, .int (nI hu))]) hx hb dL_isPassed_147 hl (by decide) rfl (fun ls hl => ?_)
            have L_149 : ∀ (nn : Nat) (ob : va_W) (i : Nat) (H : Heap) (locs : List Loc) (ls : Array Slot), xS D A9 s9 [xoA q A, ob] H locs → lv_has ls 10 [(9, .int (nI i)), (8, .int (x_rep (x_hb (zS z) (tR (zS z)) (tN (zS z)) (zS z 4)) hu)), (7, .int bf), (6, .int mo), (5, .int wh), (4, .int (x_sm (x_hc (zS z) (tF (zS z))) (tN (zS z)))), (3, .int ((zS z) 7)), (2, .int (nI v)), (0, .ref (A.1 0)), (1, .int (nI hu))] → (hu < i + nn) → (xOb q A (zPass z hu) ob) → (i ≤ hu) → W p9 l e9 { frames := 6, cells := 0, slots := 0, locals := 148 } s9 m9 a9 below meth c9 H locs 0 0 Z9 (F0 m9 149 ls []) := by
              intro nn
              induction nn with
              | zero => intro ob i H locs ls X hl hfuel hob hi; exact absurd hfuel (by omega)
              | succ nn ih_149 =>
                intro ob i H locs ls X hl hfuel hob hi
                refine lv_iload hx hb dL_isPassed_149 (lv_at hl 0 rfl) ?_
                refine lv_iload_n hx hb dL_isPassed_151 rfl (lv_at hl 9 rfl) ?_
                refine lv_icmp_ge (tgt := 209) hx hb dL_isPassed_152 (by decide) (fun c_152 => ?_) (fun c_152 => ?_)
                · have c_152 : hu ≤ i := (nI_leI (a := hu) (b := i) (by omega) (by omega)).mp c_152
                  refine lv_iload_n hx hb dL_isPassed_209 rfl (lv_at hl 9 rfl) ?_
                  refine lv_bipush (v := 7) hx hb dL_isPassed_210 (by decide) ?_
                  refine lv_icmp_gt (tgt := 219) hx hb dL_isPassed_212 (by decide) (fun c_212 => ?_) (fun c_212 => ?_)
                  · have c_212 : 7 < hu := (nI_ltI (a := 7) (b := hu) (by omega) (by omega)).mp c_212
                    refine lv_iload_n hx hb dL_isPassed_219 rfl (lv_at hl 9 rfl) ?_
                    refine lv_bipush (v := 7) hx hb dL_isPassed_220 (by decide) ?_
                    refine lv_icmp_gt (tgt := 235) hx hb dL_isPassed_222 (by decide) (fun c_222 => ?_) (fun c_222 => ?_)
                    rotate_left
                    · exfalso
                      have c_222 : hu ≤ 7 := Nat.not_lt.mp (fun h => c_222 ((nI_ltI (a := 7) (b := hu) (by omega) (by omega)).mpr h))
                      omega
                    have c_222 : 7 < hu := (nI_ltI (a := 7) (b := hu) (by omega) (by omega)).mp c_222
                    refine lv_iconst (v := 1) hx hb dL_isPassed_235 (by decide) ?_
                    refine lv_goto (tgt := 259) hx hb dL_isPassed_236 (by decide) ?_
                    refine lv_istore (lv' := [(9, .int 1), (8, .int (x_rep (x_hb (zS z) (tR (zS z)) (tN (zS z)) (zS z 4)) hu)), (7, .int bf), (6, .int mo), (5, .int wh), (4, .int (x_sm (x_hc (zS z) (tF (zS z))) (tN (zS z)))), (3, .int ((zS z) 7)), (2, .int (nI v)), (0, .ref (A.1 0)), (1, .int (nI hu))]) hx hb dL_isPassed_259 hl (by decide) rfl (fun ls hl => ?_)
                    refine lv_iload hx hb dL_isPassed_261 (lv_at hl 0 rfl) ?_
                    refine lv_if_eq (tgt := 312) hx hb dL_isPassed_263 (by decide) (fun h => absurd h (by decide)) (fun _ => ?_)
                    refine lv_iload hx hb dL_isPassed_266 (lv_at hl 1 rfl) ?_
                    refine lv_iload_n hx hb dL_isPassed_268 rfl (lv_at hl 9 rfl) ?_
                    refine lv_iload hx hb dL_isPassed_269 (lv_at hl 5 rfl) ?_
                    refine lv_imul hx hb dL_isPassed_271 ?_
                    refine lv_icmp_ne (tgt := 312) hx hb dL_isPassed_272 (by decide) (fun c_272 => ?_) (fun c_272 => ?_)
                    · exfalso
                      exact c_272 (x_rep_mul _ hu).symm
                    refine lv_aload_n hx hb dL_isPassed_275 rfl (lv_at hl 8 rfl) ?_
                    refine lv_iconst (v := 2) hx hb dL_isPassed_276 (by decide) ?_
                    refine x_cVi F X (gc := [xoA q A, ob]) (gr := []) (xp_idx (n := 2) [0, 1] (by decide +kernel) rfl rfl) (c_G_count2 l D q A (zPass z hu) ob (by first | assumption | omega)) (cwV 1 F.1.2.2.2.2 gL_isPassed_X7_count rfl rfl rfl (by decide +kernel) ⟨Nat.le_of_ble_eq_true rfl, Nat.le_of_ble_eq_true rfl⟩) rfl rfl (r0 := 0) (ci := 7) (T := TX7) (N := 8) rfl rfl hl.1 ⟨Nat.le_of_ble_eq_true rfl, Nat.le_of_ble_eq_true rfl⟩ (Nat.le_of_ble_eq_true rfl) dL_isPassed_277 (fun r_277 g1 H locs hp X => ?_)
                    obtain ⟨ob2_277, rfl, rfl, hob2_277⟩ := hp
                    have X : xS D A9 s9 [xoA q A, ob2_277] H locs := X
                    refine x_i (y := (nI (v + hu))) (h26) ?_
                    refine lv_iload_n hx hb dL_isPassed_280 rfl (lv_at hl 7 rfl) ?_
                    refine lv_iload_n hx hb dL_isPassed_281 rfl (lv_at hl 9 rfl) ?_
                    refine lv_iadd hx hb dL_isPassed_282 ?_
                    refine x_i (y := (nI (v + hu))) (nI_add v hu) ?_
                    refine lv_icmp_ne (tgt := 312) hx hb dL_isPassed_283 (by decide) (fun c_283 => ?_) (fun c_283 => ?_)
                    · exfalso
                      have c_283 : ¬ (v + hu = v + hu) := fun h => c_283 ((nI_eq (a := v + hu) (b := v + hu) (by omega) (by omega)).mpr h)
                      exact c_283 rfl
                    have c_283 : v + hu = v + hu := (nI_eq (a := v + hu) (b := v + hu) (by omega) (by omega)).mp c_283
                    refine lv_aload_n hx hb dL_isPassed_286 rfl (lv_at hl 8 rfl) ?_
                    refine lv_iconst (v := 3) hx hb dL_isPassed_287 (by decide) ?_
                    refine x_cVi F X (gc := [xoA q A, ob2_277]) (gr := []) (xp_idx (n := 2) [0, 1] (by decide +kernel) rfl rfl) (c_G_count3 l D q A (zPass z hu) ob2_277 (by first | assumption | omega)) (cwV 1 F.1.2.2.2.2 gL_isPassed_X7_count rfl rfl rfl (by decide +kernel) ⟨Nat.le_of_ble_eq_true rfl, Nat.le_of_ble_eq_true rfl⟩) rfl rfl (r0 := 0) (ci := 7) (T := TX7) (N := 8) rfl rfl hl.1 ⟨Nat.le_of_ble_eq_true rfl, Nat.le_of_ble_eq_true rfl⟩ (Nat.le_of_ble_eq_true rfl) dL_isPassed_288 (fun r_288 g1 H locs hp X => ?_)
                    obtain ⟨ob2_288, rfl, rfl, hob2_288⟩ := hp
                    have X : xS D A9 s9 [xoA q A, ob2_288] H locs := X
                    refine lv_iload_n hx hb dL_isPassed_291 rfl (lv_at hl 6 rfl) ?_
                    refine lv_iload hx hb dL_isPassed_292 (lv_at hl 1 rfl) ?_
                    refine lv_iadd hx hb dL_isPassed_294 ?_
                    refine lv_icmp_ne (tgt := 312) hx hb dL_isPassed_295 (by decide) (fun c_295 => ?_) (fun c_295 => ?_)
                    · exfalso
                      exact c_295 h27
                    refine lv_aload_n hx hb dL_isPassed_298 rfl (lv_at hl 8 rfl) ?_
                    refine lv_iconst (v := 5) hx hb dL_isPassed_299 (by decide) ?_
                    refine x_cVi F X (gc := [xoA q A, ob2_288]) (gr := []) (xp_idx (n := 2) [0, 1] (by decide +kernel) rfl rfl) (c_G_count5 l D q A (zPass z hu) ob2_288 (by first | assumption | omega)) (cwV 1 F.1.2.2.2.2 gL_isPassed_X7_count rfl rfl rfl (by decide +kernel) ⟨Nat.le_of_ble_eq_true rfl, Nat.le_of_ble_eq_true rfl⟩) rfl rfl (r0 := 0) (ci := 7) (T := TX7) (N := 8) rfl rfl hl.1 ⟨Nat.le_of_ble_eq_true rfl, Nat.le_of_ble_eq_true rfl⟩ (Nat.le_of_ble_eq_true rfl) dL_isPassed_300 (fun r_300 g1 H locs hp X => ?_)
                    obtain ⟨ob2_300, rfl, rfl, hob2_300⟩ := hp
                    have X : xS D A9 s9 [xoA q A, ob2_300] H locs := X
                    refine lv_iload hx hb dL_isPassed_303 (lv_at hl 5 rfl) ?_
                    refine lv_icmp_ne (tgt := 312) hx hb dL_isPassed_305 (by decide) (fun c_305 => ?_) (fun c_305 => ?_)
                    · exfalso
                      exact c_305 h2s
                    refine lv_iconst (v := 1) hx hb dL_isPassed_308 (by decide) ?_
                    refine lv_goto (tgt := 313) hx hb dL_isPassed_309 (by decide) ?_
                    exact hret _ _ _ _ _ _ (by exact ⟨_, _, rfl, rfl, by assumption, by assumption⟩) X dL_isPassed_313
                  · have c_212 : hu ≤ 7 := Nat.not_lt.mp (fun h => c_212 ((nI_ltI (a := 7) (b := hu) (by omega) (by omega)).mpr h))
                    refine lv_iload_n hx hb dL_isPassed_215 rfl (lv_at hl 7 rfl) ?_
                    refine lv_if_ne (tgt := 243) hx hb dL_isPassed_216 (by decide) (fun c_216 => ?_) (fun c_216 => ?_)
                    · have c_216 : ¬ (v = 0) := fun h => c_216 ((nI_eq (a := v) (b := 0) (by omega) (by omega)).mpr h)
                      refine lv_aload_n hx hb dL_isPassed_243 rfl (lv_at hl 8 rfl) ?_
                      refine lv_iload_n hx hb dL_isPassed_244 rfl (lv_at hl 9 rfl) ?_
                      refine lv_iconst (v := 1) hx hb dL_isPassed_245 (by decide) ?_
                      refine x_cVi F X (gc := [xoA q A, ob]) (gr := []) (xp_idx (n := 2) [0, 1] (by decide +kernel) rfl rfl) (c_G_record1 l D q A (zPass z hu) ob hu (min (v + hu) 8) (by first | assumption | omega) (by exact h28) (by first | assumption | omega) (by first | assumption | omega)) (cwV 2 F.1.2.2.2.2 gL_isPassed_X7_record rfl rfl rfl (by decide +kernel) ⟨Nat.le_of_ble_eq_true rfl, Nat.le_of_ble_eq_true rfl⟩) rfl rfl (r0 := 0) (ci := 7) (T := TX7) (N := 8) rfl rfl hl.1 ⟨Nat.le_of_ble_eq_true rfl, Nat.le_of_ble_eq_true rfl⟩ (Nat.le_of_ble_eq_true rfl) dL_isPassed_246 (fun r_246 g1 H locs hp X => ?_)
                      obtain ⟨ob2_246, rfl, rfl, hob2_246⟩ := hp
                      have X : xS D A9 s9 [xoA q A, ob2_246] H locs := X
                      refine lv_iload hx hb dL_isPassed_249 (lv_at hl 2 rfl) ?_
                      refine lv_icmp_ne (tgt := 258) hx hb dL_isPassed_251 (by decide) (fun c_251 => ?_) (fun c_251 => ?_)
                      · exfalso
                        exact c_251 (((h2r 1 (by omega) hu (by omega)).trans (if_neg (Nat.lt_irrefl hu))).trans (by rw [Nat.sub_self]; exact (hbf (by omega)).symm))
                      refine lv_iconst (v := 1) hx hb dL_isPassed_254 (by decide) ?_
                      refine lv_goto (tgt := 259) hx hb dL_isPassed_255 (by decide) ?_
                      refine lv_istore (lv' := [(9, .int 1), (8, .int (x_rep (x_hb (zS z) (tR (zS z)) (tN (zS z)) (zS z 4)) hu)), (7, .int bf), (6, .int mo), (5, .int wh), (4, .int (x_sm (x_hc (zS z) (tF (zS z))) (tN (zS z)))), (3, .int ((zS z) 7)), (2, .int (nI v)), (0, .ref (A.1 0)), (1, .int (nI hu))]) hx hb dL_isPassed_259 hl (by decide) rfl (fun ls hl => ?_)
                      refine lv_iload hx hb dL_isPassed_261 (lv_at hl 0 rfl) ?_
                      refine lv_if_eq (tgt := 312) hx hb dL_isPassed_263 (by decide) (fun h => absurd h (by decide)) (fun _ => ?_)
                      refine lv_iload hx hb dL_isPassed_266 (lv_at hl 1 rfl) ?_
                      refine lv_iload_n hx hb dL_isPassed_268 rfl (lv_at hl 9 rfl) ?_
                      refine lv_iload hx hb dL_isPassed_269 (lv_at hl 5 rfl) ?_
                      refine lv_imul hx hb dL_isPassed_271 ?_
                      refine lv_icmp_ne (tgt := 312) hx hb dL_isPassed_272 (by decide) (fun c_272 => ?_) (fun c_272 => ?_)
                      · exfalso
                        exact c_272 (x_rep_mul _ hu).symm
                      refine lv_aload_n hx hb dL_isPassed_275 rfl (lv_at hl 8 rfl) ?_
                      refine lv_iconst (v := 2) hx hb dL_isPassed_276 (by decide) ?_
                      refine x_cVi F X (gc := [xoA q A, ob2_246]) (gr := []) (xp_idx (n := 2) [0, 1] (by decide +kernel) rfl rfl) (c_G_count2 l D q A (zPass z hu) ob2_246 (by first | assumption | omega)) (cwV 1 F.1.2.2.2.2 gL_isPassed_X7_count rfl rfl rfl (by decide +kernel) ⟨Nat.le_of_ble_eq_true rfl, Nat.le_of_ble_eq_true rfl⟩) rfl rfl (r0 := 0) (ci := 7) (T := TX7) (N := 8) rfl rfl hl.1 ⟨Nat.le_of_ble_eq_true rfl, Nat.le_of_ble_eq_true rfl⟩ (Nat.le_of_ble_eq_true rfl) dL_isPassed_277 (fun r_277 g1 H locs hp X => ?_)
                      obtain ⟨ob2_277, rfl, rfl, hob2_277⟩ := hp
                      have X : xS D A9 s9 [xoA q A, ob2_277] H locs := X
                      refine x_i (y := (nI (v + hu))) (h26) ?_
                      refine lv_iload_n hx hb dL_isPassed_280 rfl (lv_at hl 7 rfl) ?_
                      refine lv_iload_n hx hb dL_isPassed_281 rfl (lv_at hl 9 rfl) ?_
                      refine lv_iadd hx hb dL_isPassed_282 ?_
                      refine x_i (y := (nI (v + hu))) (nI_add v hu) ?_
                      refine lv_icmp_ne (tgt := 312) hx hb dL_isPassed_283 (by decide) (fun c_283 => ?_) (fun c_283 => ?_)
                      · exfalso
                        have c_283 : ¬ (v + hu = v + hu) := fun h => c_283 ((nI_eq (a := v + hu) (b := v + hu) (by omega) (by omega)).mpr h)
                        exact c_283 rfl
                      have c_283 : v + hu = v + hu := (nI_eq (a := v + hu) (b := v + hu) (by omega) (by omega)).mp c_283
                      refine lv_aload_n hx hb dL_isPassed_286 rfl (lv_at hl 8 rfl) ?_
                      refine lv_iconst (v := 3) hx hb dL_isPassed_287 (by decide) ?_
                      refine x_cVi F X (gc := [xoA q A, ob2_277]) (gr := []) (xp_idx (n := 2) [0, 1] (by decide +kernel) rfl rfl) (c_G_count3 l D q A (zPass z hu) ob2_277 (by first | assumption | omega)) (cwV 1 F.1.2.2.2.2 gL_isPassed_X7_count rfl rfl rfl (by decide +kernel) ⟨Nat.le_of_ble_eq_true rfl, Nat.le_of_ble_eq_true rfl⟩) rfl rfl (r0 := 0) (ci := 7) (T := TX7) (N := 8) rfl rfl hl.1 ⟨Nat.le_of_ble_eq_true rfl, Nat.le_of_ble_eq_true rfl⟩ (Nat.le_of_ble_eq_true rfl) dL_isPassed_288 (fun r_288 g1 H locs hp X => ?_)
                      obtain ⟨ob2_288, rfl, rfl, hob2_288⟩ := hp
                      have X : xS D A9 s9 [xoA q A, ob2_288] H locs := X
                      refine lv_iload_n hx hb dL_isPassed_291 rfl (lv_at hl 6 rfl) ?_
                      refine lv_iload hx hb dL_isPassed_292 (lv_at hl 1 rfl) ?_
                      refine lv_iadd hx hb dL_isPassed_294 ?_
                      refine lv_icmp_ne (tgt := 312) hx hb dL_isPassed_295 (by decide) (fun c_295 => ?_) (fun c_295 => ?_)
                      · exfalso
                        exact c_295 h27
                      refine lv_aload_n hx hb dL_isPassed_298 rfl (lv_at hl 8 rfl) ?_
                      refine lv_iconst (v := 5) hx hb dL_isPassed_299 (by decide) ?_
                      refine x_cVi F X (gc := [xoA q A, ob2_288]) (gr := []) (xp_idx (n := 2) [0, 1] (by decide +kernel) rfl rfl) (c_G_count5 l D q A (zPass z hu) ob2_288 (by first | assumption | omega)) (cwV 1 F.1.2.2.2.2 gL_isPassed_X7_count rfl rfl rfl (by decide +kernel) ⟨Nat.le_of_ble_eq_true rfl, Nat.le_of_ble_eq_true rfl⟩) rfl rfl (r0 := 0) (ci := 7) (T := TX7) (N := 8) rfl rfl hl.1 ⟨Nat.le_of_ble_eq_true rfl, Nat.le_of_ble_eq_true rfl⟩ (Nat.le_of_ble_eq_true rfl) dL_isPassed_300 (fun r_300 g1 H locs hp X => ?_)
                      obtain ⟨ob2_300, rfl, rfl, hob2_300⟩ := hp
                      have X : xS D A9 s9 [xoA q A, ob2_300] H locs := X
                      refine lv_iload hx hb dL_isPassed_303 (lv_at hl 5 rfl) ?_
                      refine lv_icmp_ne (tgt := 312) hx hb dL_isPassed_305 (by decide) (fun c_305 => ?_) (fun c_305 => ?_)
                      · exfalso
                        exact c_305 h2s
                      refine lv_iconst (v := 1) hx hb dL_isPassed_308 (by decide) ?_
                      refine lv_goto (tgt := 313) hx hb dL_isPassed_309 (by decide) ?_
                      exact hret _ _ _ _ _ _ (by exact ⟨_, _, rfl, rfl, by assumption, by assumption⟩) X dL_isPassed_313
                    · have c_216 : v = 0 := (nI_eq (a := v) (b := 0) (by omega) (by omega)).mp c_216
                      refine lv_iload_n hx hb dL_isPassed_219 rfl (lv_at hl 9 rfl) ?_
                      refine lv_bipush (v := 7) hx hb dL_isPassed_220 (by decide) ?_
                      refine lv_icmp_gt (tgt := 235) hx hb dL_isPassed_222 (by decide) (fun c_222 => ?_) (fun c_222 => ?_)
                      · exfalso
                        have c_222 : 7 < hu := (nI_ltI (a := 7) (b := hu) (by omega) (by omega)).mp c_222
                        omega
                      have c_222 : hu ≤ 7 := Nat.not_lt.mp (fun h => c_222 ((nI_ltI (a := 7) (b := hu) (by omega) (by omega)).mpr h))
                      refine lv_aload_n hx hb dL_isPassed_225 rfl (lv_at hl 8 rfl) ?_
                      refine lv_iload_n hx hb dL_isPassed_226 rfl (lv_at hl 9 rfl) ?_
                      refine lv_iconst (v := 0) hx hb dL_isPassed_227 (by decide) ?_
                      refine x_cVi F X (gc := [xoA q A, ob]) (gr := []) (xp_idx (n := 2) [0, 1] (by decide +kernel) rfl rfl) (c_G_recordN l D q A (zPass z hu) ob hu (min (v + hu) 8) (by first | assumption | omega) (by exact h28) (by first | assumption | omega) (by first | assumption | omega) (by first | assumption | omega)) (cwV 2 F.1.2.2.2.2 gL_isPassed_X7_record rfl rfl rfl (by decide +kernel) ⟨Nat.le_of_ble_eq_true rfl, Nat.le_of_ble_eq_true rfl⟩) rfl rfl (r0 := 0) (ci := 7) (T := TX7) (N := 8) rfl rfl hl.1 ⟨Nat.le_of_ble_eq_true rfl, Nat.le_of_ble_eq_true rfl⟩ (Nat.le_of_ble_eq_true rfl) dL_isPassed_228 (fun r_228 g1 H locs hp X => ?_)
                      obtain ⟨ob2_228, rfl, rfl, hob2_228⟩ := hp
                      have X : xS D A9 s9 [xoA q A, ob2_228] H locs := X
                      refine lv_iconst (v := (-1)) hx hb dL_isPassed_231 (by decide) ?_
                      refine lv_icmp_ne (tgt := 239) hx hb dL_isPassed_232 (by decide) (fun h => absurd (by decide) h) (fun _ => ?_)
                      refine lv_iconst (v := 1) hx hb dL_isPassed_235 (by decide) ?_
                      refine lv_goto (tgt := 259) hx hb dL_isPassed_236 (by decide) ?_
                      refine lv_istore (lv' := [(9, .int 1), (8, .int (x_rep (x_hb (zS z) (tR (zS z)) (tN (zS z)) (zS z 4)) hu)), (7, .int bf), (6, .int mo), (5, .int wh), (4, .int (x_sm (x_hc (zS z) (tF (zS z))) (tN (zS z)))), (3, .int ((zS z) 7)), (2, .int (nI v)), (0, .ref (A.1 0)), (1, .int (nI hu))]) hx hb dL_isPassed_259 hl (by decide) rfl (fun ls hl => ?_)
                      refine lv_iload hx hb dL_isPassed_261 (lv_at hl 0 rfl) ?_
                      refine lv_if_eq (tgt := 312) hx hb dL_isPassed_263 (by decide) (fun h => absurd h (by decide)) (fun _ => ?_)
                      refine lv_iload hx hb dL_isPassed_266 (lv_at hl 1 rfl) ?_
                      refine lv_iload_n hx hb dL_isPassed_268 rfl (lv_at hl 9 rfl) ?_
                      refine lv_iload hx hb dL_isPassed_269 (lv_at hl 5 rfl) ?_
                      refine lv_imul hx hb dL_isPassed_271 ?_
                      refine lv_icmp_ne (tgt := 312) hx hb dL_isPassed_272 (by decide) (fun c_272 => ?_) (fun c_272 => ?_)
                      · exfalso
                        exact c_272 (x_rep_mul _ hu).symm
                      refine lv_aload_n hx hb dL_isPassed_275 rfl (lv_at hl 8 rfl) ?_
                      refine lv_iconst (v := 2) hx hb dL_isPassed_276 (by decide) ?_
                      refine x_cVi F X (gc := [xoA q A, ob2_228]) (gr := []) (xp_idx (n := 2) [0, 1] (by decide +kernel) rfl rfl) (c_G_count2 l D q A (zPass z hu) ob2_228 (by first | assumption | omega)) (cwV 1 F.1.2.2.2.2 gL_isPassed_X7_count rfl rfl rfl (by decide +kernel) ⟨Nat.le_of_ble_eq_true rfl, Nat.le_of_ble_eq_true rfl⟩) rfl rfl (r0 := 0) (ci := 7) (T := TX7) (N := 8) rfl rfl hl.1 ⟨Nat.le_of_ble_eq_true rfl, Nat.le_of_ble_eq_true rfl⟩ (Nat.le_of_ble_eq_true rfl) dL_isPassed_277 (fun r_277 g1 H locs hp X => ?_)
                      obtain ⟨ob2_277, rfl, rfl, hob2_277⟩ := hp
                      have X : xS D A9 s9 [xoA q A, ob2_277] H locs := X
                      refine x_i (y := (nI (v + hu))) (h26) ?_
                      refine lv_iload_n hx hb dL_isPassed_280 rfl (lv_at hl 7 rfl) ?_
                      refine lv_iload_n hx hb dL_isPassed_281 rfl (lv_at hl 9 rfl) ?_
                      refine lv_iadd hx hb dL_isPassed_282 ?_
                      refine x_i (y := (nI (v + hu))) (nI_add v hu) ?_
                      refine lv_icmp_ne (tgt := 312) hx hb dL_isPassed_283 (by decide) (fun c_283 => ?_) (fun c_283 => ?_)
                      · exfalso
                        have c_283 : ¬ (v + hu = v + hu) := fun h => c_283 ((nI_eq (a := v + hu) (b := v + hu) (by omega) (by omega)).mpr h)
                        exact c_283 rfl
                      have c_283 : v + hu = v + hu := (nI_eq (a := v + hu) (b := v + hu) (by omega) (by omega)).mp c_283
                      refine lv_aload_n hx hb dL_isPassed_286 rfl (lv_at hl 8 rfl) ?_
                      refine lv_iconst (v := 3) hx hb dL_isPassed_287 (by decide) ?_
                      refine x_cVi F X (gc := [xoA q A, ob2_277]) (gr := []) (xp_idx (n := 2) [0, 1] (by decide +kernel) rfl rfl) (c_G_count3 l D q A (zPass z hu) ob2_277 (by first | assumption | omega)) (cwV 1 F.1.2.2.2.2 gL_isPassed_X7_count rfl rfl rfl (by decide +kernel) ⟨Nat.le_of_ble_eq_true rfl, Nat.le_of_ble_eq_true rfl⟩) rfl rfl (r0 := 0) (ci := 7) (T := TX7) (N := 8) rfl rfl hl.1 ⟨Nat.le_of_ble_eq_true rfl, Nat.le_of_ble_eq_true rfl⟩ (Nat.le_of_ble_eq_true rfl) dL_isPassed_288 (fun r_288 g1 H locs hp X => ?_)
                      obtain ⟨ob2_288, rfl, rfl, hob2_288⟩ := hp
                      have X : xS D A9 s9 [xoA q A, ob2_288] H locs := X
                      refine lv_iload_n hx hb dL_isPassed_291 rfl (lv_at hl 6 rfl) ?_
                      refine lv_iload hx hb dL_isPassed_292 (lv_at hl 1 rfl) ?_
                      refine lv_iadd hx hb dL_isPassed_294 ?_
                      refine lv_icmp_ne (tgt := 312) hx hb dL_isPassed_295 (by decide) (fun c_295 => ?_) (fun c_295 => ?_)
                      · exfalso
                        exact c_295 h27
                      refine lv_aload_n hx hb dL_isPassed_298 rfl (lv_at hl 8 rfl) ?_
                      refine lv_iconst (v := 5) hx hb dL_isPassed_299 (by decide) ?_
                      refine x_cVi F X (gc := [xoA q A, ob2_288]) (gr := []) (xp_idx (n := 2) [0, 1] (by decide +kernel) rfl rfl) (c_G_count5 l D q A (zPass z hu) ob2_288 (by first | assumption | omega)) (cwV 1 F.1.2.2.2.2 gL_isPassed_X7_count rfl rfl rfl (by decide +kernel) ⟨Nat.le_of_ble_eq_true rfl, Nat.le_of_ble_eq_true rfl⟩) rfl rfl (r0 := 0) (ci := 7) (T := TX7) (N := 8) rfl rfl hl.1 ⟨Nat.le_of_ble_eq_true rfl, Nat.le_of_ble_eq_true rfl⟩ (Nat.le_of_ble_eq_true rfl) dL_isPassed_300 (fun r_300 g1 H locs hp X => ?_)
                      obtain ⟨ob2_300, rfl, rfl, hob2_300⟩ := hp
                      have X : xS D A9 s9 [xoA q A, ob2_300] H locs := X
                      refine lv_iload hx hb dL_isPassed_303 (lv_at hl 5 rfl) ?_
                      refine lv_icmp_ne (tgt := 312) hx hb dL_isPassed_305 (by decide) (fun c_305 => ?_) (fun c_305 => ?_)
                      · exfalso
                        exact c_305 h2s
                      refine lv_iconst (v := 1) hx hb dL_isPassed_308 (by decide) ?_
                      refine lv_goto (tgt := 313) hx hb dL_isPassed_309 (by decide) ?_
                      exact hret _ _ _ _ _ _ (by exact ⟨_, _, rfl, rfl, by assumption, by assumption⟩) X dL_isPassed_313
                · have c_152 : i < hu := Nat.not_le.mp (fun h => c_152 ((nI_leI (a := hu) (b := i) (by omega) (by omega)).mpr h))
                  refine lv_iload hx hb dL_isPassed_155 (lv_at hl 0 rfl) ?_
                  refine lv_bipush (v := 8) hx hb dL_isPassed_157 (by decide) ?_
                  refine lv_icmp_ge (tgt := 209) hx hb dL_isPassed_159 (by decide) (fun c_159 => ?_) (fun c_159 => ?_)
                  · have c_159 : 8 ≤ i := (nI_leI (a := 8) (b := i) (by omega) (by omega)).mp c_159
                    refine lv_iload_n hx hb dL_isPassed_209 rfl (lv_at hl 9 rfl) ?_
                    refine lv_bipush (v := 7) hx hb dL_isPassed_210 (by decide) ?_
                    refine lv_icmp_gt (tgt := 219) hx hb dL_isPassed_212 (by decide) (fun c_212 => ?_) (fun c_212 => ?_)
                    · have c_212 : 7 < hu := (nI_ltI (a := 7) (b := hu) (by omega) (by omega)).mp c_212
                      refine lv_iload_n hx hb dL_isPassed_219 rfl (lv_at hl 9 rfl) ?_
                      refine lv_bipush (v := 7) hx hb dL_isPassed_220 (by decide) ?_
                      refine lv_icmp_gt (tgt := 235) hx hb dL_isPassed_222 (by decide) (fun c_222 => ?_) (fun c_222 => ?_)
                      rotate_left
                      · exfalso
                        have c_222 : hu ≤ 7 := Nat.not_lt.mp (fun h => c_222 ((nI_ltI (a := 7) (b := hu) (by omega) (by omega)).mpr h))
                        omega
                      have c_222 : 7 < hu := (nI_ltI (a := 7) (b := hu) (by omega) (by omega)).mp c_222
                      refine lv_iconst (v := 1) hx hb dL_isPassed_235 (by decide) ?_
                      refine lv_goto (tgt := 259) hx hb dL_isPassed_236 (by decide) ?_
                      refine lv_istore (lv' := [(9, .int 1), (8, .int (x_rep (x_hb (zS z) (tR (zS z)) (tN (zS z)) (zS z 4)) hu)), (7, .int bf), (6, .int mo), (5, .int wh), (4, .int (x_sm (x_hc (zS z) (tF (zS z))) (tN (zS z)))), (3, .int ((zS z) 7)), (2, .int (nI v)), (0, .ref (A.1 0)), (1, .int (nI hu))]) hx hb dL_isPassed_259 hl (by decide) rfl (fun ls hl => ?_)
                      refine lv_iload hx hb dL_isPassed_261 (lv_at hl 0 rfl) ?_
                      refine lv_if_eq (tgt := 312) hx hb dL_isPassed_263 (by decide) (fun h => absurd h (by decide)) (fun _ => ?_)
                      refine lv_iload hx hb dL_isPassed_266 (lv_at hl 1 rfl) ?_
                      refine lv_iload_n hx hb dL_isPassed_268 rfl (lv_at hl 9 rfl) ?_
                      refine lv_iload hx hb dL_isPassed_269 (lv_at hl 5 rfl) ?_
                      refine lv_imul hx hb dL_isPassed_271 ?_
                      refine lv_icmp_ne (tgt := 312) hx hb dL_isPassed_272 (by decide) (fun c_272 => ?_) (fun c_272 => ?_)
                      · exfalso
                        exact c_272 (x_rep_mul _ hu).symm
                      refine lv_aload_n hx hb dL_isPassed_275 rfl (lv_at hl 8 rfl) ?_
                      refine lv_iconst (v := 2) hx hb dL_isPassed_276 (by decide) ?_
                      refine x_cVi F X (gc := [xoA q A, ob]) (gr := []) (xp_idx (n := 2) [0, 1] (by decide +kernel) rfl rfl) (c_G_count2 l D q A (zPass z hu) ob (by first | assumption | omega)) (cwV 1 F.1.2.2.2.2 gL_isPassed_X7_count rfl rfl rfl (by decide +kernel) ⟨Nat.le_of_ble_eq_true rfl, Nat.le_of_ble_eq_true rfl⟩) rfl rfl (r0 := 0) (ci := 7) (T := TX7) (N := 8) rfl rfl hl.1 ⟨Nat.le_of_ble_eq_true rfl, Nat.le_of_ble_eq_true rfl⟩ (Nat.le_of_ble_eq_true rfl) dL_isPassed_277 (fun r_277 g1 H locs hp X => ?_)
                      obtain ⟨ob2_277, rfl, rfl, hob2_277⟩ := hp
                      have X : xS D A9 s9 [xoA q A, ob2_277] H locs := X
                      refine x_i (y := (nI (v + hu))) (h26) ?_
                      refine lv_iload_n hx hb dL_isPassed_280 rfl (lv_at hl 7 rfl) ?_
                      refine lv_iload_n hx hb dL_isPassed_281 rfl (lv_at hl 9 rfl) ?_
                      refine lv_iadd hx hb dL_isPassed_282 ?_
                      refine x_i (y := (nI (v + hu))) (nI_add v hu) ?_
                      refine lv_icmp_ne (tgt := 312) hx hb dL_isPassed_283 (by decide) (fun c_283 => ?_) (fun c_283 => ?_)
                      · exfalso
                        have c_283 : ¬ (v + hu = v + hu) := fun h => c_283 ((nI_eq (a := v + hu) (b := v + hu) (by omega) (by omega)).mpr h)
                        exact c_283 rfl
                      have c_283 : v + hu = v + hu := (nI_eq (a := v + hu) (b := v + hu) (by omega) (by omega)).mp c_283
                      refine lv_aload_n hx hb dL_isPassed_286 rfl (lv_at hl 8 rfl) ?_
                      refine lv_iconst (v := 3) hx hb dL_isPassed_287 (by decide) ?_
                      refine x_cVi F X (gc := [xoA q A, ob2_277]) (gr := []) (xp_idx (n := 2) [0, 1] (by decide +kernel) rfl rfl) (c_G_count3 l D q A (zPass z hu) ob2_277 (by first | assumption | omega)) (cwV 1 F.1.2.2.2.2 gL_isPassed_X7_count rfl rfl rfl (by decide +kernel) ⟨Nat.le_of_ble_eq_true rfl, Nat.le_of_ble_eq_true rfl⟩) rfl rfl (r0 := 0) (ci := 7) (T := TX7) (N := 8) rfl rfl hl.1 ⟨Nat.le_of_ble_eq_true rfl, Nat.le_of_ble_eq_true rfl⟩ (Nat.le_of_ble_eq_true rfl) dL_isPassed_288 (fun r_288 g1 H locs hp X => ?_)
                      obtain ⟨ob2_288, rfl, rfl, hob2_288⟩ := hp
                      have X : xS D A9 s9 [xoA q A, ob2_288] H locs := X
                      refine lv_iload_n hx hb dL_isPassed_291 rfl (lv_at hl 6 rfl) ?_
                      refine lv_iload hx hb dL_isPassed_292 (lv_at hl 1 rfl) ?_
                      refine lv_iadd hx hb dL_isPassed_294 ?_
                      refine lv_icmp_ne (tgt := 312) hx hb dL_isPassed_295 (by decide) (fun c_295 => ?_) (fun c_295 => ?_)
                      · exfalso
                        exact c_295 h27
                      refine lv_aload_n hx hb dL_isPassed_298 rfl (lv_at hl 8 rfl) ?_
                      refine lv_iconst (v := 5) hx hb dL_isPassed_299 (by decide) ?_
                      refine x_cVi F X (gc := [xoA q A, ob2_288]) (gr := []) (xp_idx (n := 2) [0, 1] (by decide +kernel) rfl rfl) (c_G_count5 l D q A (zPass z hu) ob2_288 (by first | assumption | omega)) (cwV 1 F.1.2.2.2.2 gL_isPassed_X7_count rfl rfl rfl (by decide +kernel) ⟨Nat.le_of_ble_eq_true rfl, Nat.le_of_ble_eq_true rfl⟩) rfl rfl (r0 := 0) (ci := 7) (T := TX7) (N := 8) rfl rfl hl.1 ⟨Nat.le_of_ble_eq_true rfl, Nat.le_of_ble_eq_true rfl⟩ (Nat.le_of_ble_eq_true rfl) dL_isPassed_300 (fun r_300 g1 H locs hp X => ?_)
                      obtain ⟨ob2_300, rfl, rfl, hob2_300⟩ := hp
                      have X : xS D A9 s9 [xoA q A, ob2_300] H locs := X
                      refine lv_iload hx hb dL_isPassed_303 (lv_at hl 5 rfl) ?_
                      refine lv_icmp_ne (tgt := 312) hx hb dL_isPassed_305 (by decide) (fun c_305 => ?_) (fun c_305 => ?_)
                      · exfalso
                        exact c_305 h2s
                      refine lv_iconst (v := 1) hx hb dL_isPassed_308 (by decide) ?_
                      refine lv_goto (tgt := 313) hx hb dL_isPassed_309 (by decide) ?_
                      exact hret _ _ _ _ _ _ (by exact ⟨_, _, rfl, rfl, by assumption, by assumption⟩) X dL_isPassed_313
                    · have c_212 : hu ≤ 7 := Nat.not_lt.mp (fun h => c_212 ((nI_ltI (a := 7) (b := hu) (by omega) (by omega)).mpr h))
                      refine lv_iload_n hx hb dL_isPassed_215 rfl (lv_at hl 7 rfl) ?_
                      refine lv_if_ne (tgt := 243) hx hb dL_isPassed_216 (by decide) (fun c_216 => ?_) (fun c_216 => ?_)
                      · have c_216 : ¬ (v = 0) := fun h => c_216 ((nI_eq (a := v) (b := 0) (by omega) (by omega)).mpr h)
                        refine lv_aload_n hx hb dL_isPassed_243 rfl (lv_at hl 8 rfl) ?_
                        refine lv_iload_n hx hb dL_isPassed_244 rfl (lv_at hl 9 rfl) ?_
                        refine lv_iconst (v := 1) hx hb dL_isPassed_245 (by decide) ?_
                        refine x_cVi F X (gc := [xoA q A, ob]) (gr := []) (xp_idx (n := 2) [0, 1] (by decide +kernel) rfl rfl) (c_G_record1 l D q A (zPass z hu) ob hu (min (v + hu) 8) (by first | assumption | omega) (by exact h28) (by first | assumption | omega) (by first | assumption | omega)) (cwV 2 F.1.2.2.2.2 gL_isPassed_X7_record rfl rfl rfl (by decide +kernel) ⟨Nat.le_of_ble_eq_true rfl, Nat.le_of_ble_eq_true rfl⟩) rfl rfl (r0 := 0) (ci := 7) (T := TX7) (N := 8) rfl rfl hl.1 ⟨Nat.le_of_ble_eq_true rfl, Nat.le_of_ble_eq_true rfl⟩ (Nat.le_of_ble_eq_true rfl) dL_isPassed_246 (fun r_246 g1 H locs hp X => ?_)
                        obtain ⟨ob2_246, rfl, rfl, hob2_246⟩ := hp
                        have X : xS D A9 s9 [xoA q A, ob2_246] H locs := X
                        refine lv_iload hx hb dL_isPassed_249 (lv_at hl 2 rfl) ?_
                        refine lv_icmp_ne (tgt := 258) hx hb dL_isPassed_251 (by decide) (fun c_251 => ?_) (fun c_251 => ?_)
                        · exfalso
                          exact c_251 (((h2r 1 (by omega) hu (by omega)).trans (if_neg (Nat.lt_irrefl hu))).trans (by rw [Nat.sub_self]; exact (hbf (by omega)).symm))
                        refine lv_iconst (v := 1) hx hb dL_isPassed_254 (by decide) ?_
                        refine lv_goto (tgt := 259) hx hb dL_isPassed_255 (by decide) ?_
                        refine lv_istore (lv' := [(9, .int 1), (8, .int (x_rep (x_hb (zS z) (tR (zS z)) (tN (zS z)) (zS z 4)) hu)), (7, .int bf), (6, .int mo), (5, .int wh), (4, .int (x_sm (x_hc (zS z) (tF (zS z))) (tN (zS z)))), (3, .int ((zS z) 7)), (2, .int (nI v)), (0, .ref (A.1 0)), (1, .int (nI hu))]) hx hb dL_isPassed_259 hl (by decide) rfl (fun ls hl => ?_)
                        refine lv_iload hx hb dL_isPassed_261 (lv_at hl 0 rfl) ?_
                        refine lv_if_eq (tgt := 312) hx hb dL_isPassed_263 (by decide) (fun h => absurd h (by decide)) (fun _ => ?_)
                        refine lv_iload hx hb dL_isPassed_266 (lv_at hl 1 rfl) ?_
                        refine lv_iload_n hx hb dL_isPassed_268 rfl (lv_at hl 9 rfl) ?_
                        refine lv_iload hx hb dL_isPassed_269 (lv_at hl 5 rfl) ?_
                        refine lv_imul hx hb dL_isPassed_271 ?_
                        refine lv_icmp_ne (tgt := 312) hx hb dL_isPassed_272 (by decide) (fun c_272 => ?_) (fun c_272 => ?_)
                        · exfalso
                          exact c_272 (x_rep_mul _ hu).symm
                        refine lv_aload_n hx hb dL_isPassed_275 rfl (lv_at hl 8 rfl) ?_
                        refine lv_iconst (v := 2) hx hb dL_isPassed_276 (by decide) ?_
                        refine x_cVi F X (gc := [xoA q A, ob2_246]) (gr := []) (xp_idx (n := 2) [0, 1] (by decide +kernel) rfl rfl) (c_G_count2 l D q A (zPass z hu) ob2_246 (by first | assumption | omega)) (cwV 1 F.1.2.2.2.2 gL_isPassed_X7_count rfl rfl rfl (by decide +kernel) ⟨Nat.le_of_ble_eq_true rfl, Nat.le_of_ble_eq_true rfl⟩) rfl rfl (r0 := 0) (ci := 7) (T := TX7) (N := 8) rfl rfl hl.1 ⟨Nat.le_of_ble_eq_true rfl, Nat.le_of_ble_eq_true rfl⟩ (Nat.le_of_ble_eq_true rfl) dL_isPassed_277 (fun r_277 g1 H locs hp X => ?_)
                        obtain ⟨ob2_277, rfl, rfl, hob2_277⟩ := hp
                        have X : xS D A9 s9 [xoA q A, ob2_277] H locs := X
                        refine x_i (y := (nI (v + hu))) (h26) ?_
                        refine lv_iload_n hx hb dL_isPassed_280 rfl (lv_at hl 7 rfl) ?_
                        refine lv_iload_n hx hb dL_isPassed_281 rfl (lv_at hl 9 rfl) ?_
                        refine lv_iadd hx hb dL_isPassed_282 ?_
                        refine x_i (y := (nI (v + hu))) (nI_add v hu) ?_
                        refine lv_icmp_ne (tgt := 312) hx hb dL_isPassed_283 (by decide) (fun c_283 => ?_) (fun c_283 => ?_)
                        · exfalso
                          have c_283 : ¬ (v + hu = v + hu) := fun h => c_283 ((nI_eq (a := v + hu) (b := v + hu) (by omega) (by omega)).mpr h)
                          exact c_283 rfl
                        have c_283 : v + hu = v + hu := (nI_eq (a := v + hu) (b := v + hu) (by omega) (by omega)).mp c_283
                        refine lv_aload_n hx hb dL_isPassed_286 rfl (lv_at hl 8 rfl) ?_
                        refine lv_iconst (v := 3) hx hb dL_isPassed_287 (by decide) ?_
                        refine x_cVi F X (gc := [xoA q A, ob2_277]) (gr := []) (xp_idx (n := 2) [0, 1] (by decide +kernel) rfl rfl) (c_G_count3 l D q A (zPass z hu) ob2_277 (by first | assumption | omega)) (cwV 1 F.1.2.2.2.2 gL_isPassed_X7_count rfl rfl rfl (by decide +kernel) ⟨Nat.le_of_ble_eq_true rfl, Nat.le_of_ble_eq_true rfl⟩) rfl rfl (r0 := 0) (ci := 7) (T := TX7) (N := 8) rfl rfl hl.1 ⟨Nat.le_of_ble_eq_true rfl, Nat.le_of_ble_eq_true rfl⟩ (Nat.le_of_ble_eq_true rfl) dL_isPassed_288 (fun r_288 g1 H locs hp X => ?_)
                        obtain ⟨ob2_288, rfl, rfl, hob2_288⟩ := hp
                        have X : xS D A9 s9 [xoA q A, ob2_288] H locs := X
                        refine lv_iload_n hx hb dL_isPassed_291 rfl (lv_at hl 6 rfl) ?_
                        refine lv_iload hx hb dL_isPassed_292 (lv_at hl 1 rfl) ?_
                        refine lv_iadd hx hb dL_isPassed_294 ?_
                        refine lv_icmp_ne (tgt := 312) hx hb dL_isPassed_295 (by decide) (fun c_295 => ?_) (fun c_295 => ?_)
                        · exfalso
                          exact c_295 h27
                        refine lv_aload_n hx hb dL_isPassed_298 rfl (lv_at hl 8 rfl) ?_
                        refine lv_iconst (v := 5) hx hb dL_isPassed_299 (by decide) ?_
                        refine x_cVi F X (gc := [xoA q A, ob2_288]) (gr := []) (xp_idx (n := 2) [0, 1] (by decide +kernel) rfl rfl) (c_G_count5 l D q A (zPass z hu) ob2_288 (by first | assumption | omega)) (cwV 1 F.1.2.2.2.2 gL_isPassed_X7_count rfl rfl rfl (by decide +kernel) ⟨Nat.le_of_ble_eq_true rfl, Nat.le_of_ble_eq_true rfl⟩) rfl rfl (r0 := 0) (ci := 7) (T := TX7) (N := 8) rfl rfl hl.1 ⟨Nat.le_of_ble_eq_true rfl, Nat.le_of_ble_eq_true rfl⟩ (Nat.le_of_ble_eq_true rfl) dL_isPassed_300 (fun r_300 g1 H locs hp X => ?_)
                        obtain ⟨ob2_300, rfl, rfl, hob2_300⟩ := hp
                        have X : xS D A9 s9 [xoA q A, ob2_300] H locs := X
                        refine lv_iload hx hb dL_isPassed_303 (lv_at hl 5 rfl) ?_
                        refine lv_icmp_ne (tgt := 312) hx hb dL_isPassed_305 (by decide) (fun c_305 => ?_) (fun c_305 => ?_)
                        · exfalso
                          exact c_305 h2s
                        refine lv_iconst (v := 1) hx hb dL_isPassed_308 (by decide) ?_
                        refine lv_goto (tgt := 313) hx hb dL_isPassed_309 (by decide) ?_
                        exact hret _ _ _ _ _ _ (by exact ⟨_, _, rfl, rfl, by assumption, by assumption⟩) X dL_isPassed_313
                      · have c_216 : v = 0 := (nI_eq (a := v) (b := 0) (by omega) (by omega)).mp c_216
                        refine lv_iload_n hx hb dL_isPassed_219 rfl (lv_at hl 9 rfl) ?_
                        refine lv_bipush (v := 7) hx hb dL_isPassed_220 (by decide) ?_
                        refine lv_icmp_gt (tgt := 235) hx hb dL_isPassed_222 (by decide) (fun c_222 => ?_) (fun c_222 => ?_)
                        · exfalso
                          have c_222 : 7 < hu := (nI_ltI (a := 7) (b := hu) (by omega) (by omega)).mp c_222
                          omega
                        have c_222 : hu ≤ 7 := Nat.not_lt.mp (fun h => c_222 ((nI_ltI (a := 7) (b := hu) (by omega) (by omega)).mpr h))
                        refine lv_aload_n hx hb dL_isPassed_225 rfl (lv_at hl 8 rfl) ?_
                        refine lv_iload_n hx hb dL_isPassed_226 rfl (lv_at hl 9 rfl) ?_
                        refine lv_iconst (v := 0) hx hb dL_isPassed_227 (by decide) ?_
                        refine x_cVi F X (gc := [xoA q A, ob]) (gr := []) (xp_idx (n := 2) [0, 1] (by decide +kernel) rfl rfl) (c_G_recordN l D q A (zPass z hu) ob hu (min (v + hu) 8) (by first | assumption | omega) (by exact h28) (by first | assumption | omega) (by first | assumption | omega) (by first | assumption | omega)) (cwV 2 F.1.2.2.2.2 gL_isPassed_X7_record rfl rfl rfl (by decide +kernel) ⟨Nat.le_of_ble_eq_true rfl, Nat.le_of_ble_eq_true rfl⟩) rfl rfl (r0 := 0) (ci := 7) (T := TX7) (N := 8) rfl rfl hl.1 ⟨Nat.le_of_ble_eq_true rfl, Nat.le_of_ble_eq_true rfl⟩ (Nat.le_of_ble_eq_true rfl) dL_isPassed_228 (fun r_228 g1 H locs hp X => ?_)
                        obtain ⟨ob2_228, rfl, rfl, hob2_228⟩ := hp
                        have X : xS D A9 s9 [xoA q A, ob2_228] H locs := X
                        refine lv_iconst (v := (-1)) hx hb dL_isPassed_231 (by decide) ?_
                        refine lv_icmp_ne (tgt := 239) hx hb dL_isPassed_232 (by decide) (fun h => absurd (by decide) h) (fun _ => ?_)
                        refine lv_iconst (v := 1) hx hb dL_isPassed_235 (by decide) ?_
                        refine lv_goto (tgt := 259) hx hb dL_isPassed_236 (by decide) ?_
                        refine lv_istore (lv' := [(9, .int 1), (8, .int (x_rep (x_hb (zS z) (tR (zS z)) (tN (zS z)) (zS z 4)) hu)), (7, .int bf), (6, .int mo), (5, .int wh), (4, .int (x_sm (x_hc (zS z) (tF (zS z))) (tN (zS z)))), (3, .int ((zS z) 7)), (2, .int (nI v)), (0, .ref (A.1 0)), (1, .int (nI hu))]) hx hb dL_isPassed_259 hl (by decide) rfl (fun ls hl => ?_)
                        refine lv_iload hx hb dL_isPassed_261 (lv_at hl 0 rfl) ?_
                        refine lv_if_eq (tgt := 312) hx hb dL_isPassed_263 (by decide) (fun h => absurd h (by decide)) (fun _ => ?_)
                        refine lv_iload hx hb dL_isPassed_266 (lv_at hl 1 rfl) ?_
                        refine lv_iload_n hx hb dL_isPassed_268 rfl (lv_at hl 9 rfl) ?_
                        refine lv_iload hx hb dL_isPassed_269 (lv_at hl 5 rfl) ?_
                        refine lv_imul hx hb dL_isPassed_271 ?_
                        refine lv_icmp_ne (tgt := 312) hx hb dL_isPassed_272 (by decide) (fun c_272 => ?_) (fun c_272 => ?_)
                        · exfalso
                          exact c_272 (x_rep_mul _ hu).symm
                        refine lv_aload_n hx hb dL_isPassed_275 rfl (lv_at hl 8 rfl) ?_
                        refine lv_iconst (v := 2) hx hb dL_isPassed_276 (by decide) ?_
                        refine x_cVi F X (gc := [xoA q A, ob2_228]) (gr := []) (xp_idx (n := 2) [0, 1] (by decide +kernel) rfl rfl) (c_G_count2 l D q A (zPass z hu) ob2_228 (by first | assumption | omega)) (cwV 1 F.1.2.2.2.2 gL_isPassed_X7_count rfl rfl rfl (by decide +kernel) ⟨Nat.le_of_ble_eq_true rfl, Nat.le_of_ble_eq_true rfl⟩) rfl rfl (r0 := 0) (ci := 7) (T := TX7) (N := 8) rfl rfl hl.1 ⟨Nat.le_of_ble_eq_true rfl, Nat.le_of_ble_eq_true rfl⟩ (Nat.le_of_ble_eq_true rfl) dL_isPassed_277 (fun r_277 g1 H locs hp X => ?_)
                        obtain ⟨ob2_277, rfl, rfl, hob2_277⟩ := hp
                        have X : xS D A9 s9 [xoA q A, ob2_277] H locs := X
                        refine x_i (y := (nI (v + hu))) (h26) ?_
                        refine lv_iload_n hx hb dL_isPassed_280 rfl (lv_at hl 7 rfl) ?_
                        refine lv_iload_n hx hb dL_isPassed_281 rfl (lv_at hl 9 rfl) ?_
                        refine lv_iadd hx hb dL_isPassed_282 ?_
                        refine x_i (y := (nI (v + hu))) (nI_add v hu) ?_
                        refine lv_icmp_ne (tgt := 312) hx hb dL_isPassed_283 (by decide) (fun c_283 => ?_) (fun c_283 => ?_)
                        · exfalso
                          have c_283 : ¬ (v + hu = v + hu) := fun h => c_283 ((nI_eq (a := v + hu) (b := v + hu) (by omega) (by omega)).mpr h)
                          exact c_283 rfl
                        have c_283 : v + hu = v + hu := (nI_eq (a := v + hu) (b := v + hu) (by omega) (by omega)).mp c_283
                        refine lv_aload_n hx hb dL_isPassed_286 rfl (lv_at hl 8 rfl) ?_
                        refine lv_iconst (v := 3) hx hb dL_isPassed_287 (by decide) ?_
                        refine x_cVi F X (gc := [xoA q A, ob2_277]) (gr := []) (xp_idx (n := 2) [0, 1] (by decide +kernel) rfl rfl) (c_G_count3 l D q A (zPass z hu) ob2_277 (by first | assumption | omega)) (cwV 1 F.1.2.2.2.2 gL_isPassed_X7_count rfl rfl rfl (by decide +kernel) ⟨Nat.le_of_ble_eq_true rfl, Nat.le_of_ble_eq_true rfl⟩) rfl rfl (r0 := 0) (ci := 7) (T := TX7) (N := 8) rfl rfl hl.1 ⟨Nat.le_of_ble_eq_true rfl, Nat.le_of_ble_eq_true rfl⟩ (Nat.le_of_ble_eq_true rfl) dL_isPassed_288 (fun r_288 g1 H locs hp X => ?_)
                        obtain ⟨ob2_288, rfl, rfl, hob2_288⟩ := hp
                        have X : xS D A9 s9 [xoA q A, ob2_288] H locs := X
                        refine lv_iload_n hx hb dL_isPassed_291 rfl (lv_at hl 6 rfl) ?_
                        refine lv_iload hx hb dL_isPassed_292 (lv_at hl 1 rfl) ?_
                        refine lv_iadd hx hb dL_isPassed_294 ?_
                        refine lv_icmp_ne (tgt := 312) hx hb dL_isPassed_295 (by decide) (fun c_295 => ?_) (fun c_295 => ?_)
                        · exfalso
                          exact c_295 h27
                        refine lv_aload_n hx hb dL_isPassed_298 rfl (lv_at hl 8 rfl) ?_
                        refine lv_iconst (v := 5) hx hb dL_isPassed_299 (by decide) ?_
                        refine x_cVi F X (gc := [xoA q A, ob2_288]) (gr := []) (xp_idx (n := 2) [0, 1] (by decide +kernel) rfl rfl) (c_G_count5 l D q A (zPass z hu) ob2_288 (by first | assumption | omega)) (cwV 1 F.1.2.2.2.2 gL_isPassed_X7_count rfl rfl rfl (by decide +kernel) ⟨Nat.le_of_ble_eq_true rfl, Nat.le_of_ble_eq_true rfl⟩) rfl rfl (r0 := 0) (ci := 7) (T := TX7) (N := 8) rfl rfl hl.1 ⟨Nat.le_of_ble_eq_true rfl, Nat.le_of_ble_eq_true rfl⟩ (Nat.le_of_ble_eq_true rfl) dL_isPassed_300 (fun r_300 g1 H locs hp X => ?_)
                        obtain ⟨ob2_300, rfl, rfl, hob2_300⟩ := hp
                        have X : xS D A9 s9 [xoA q A, ob2_300] H locs := X
                        refine lv_iload hx hb dL_isPassed_303 (lv_at hl 5 rfl) ?_
                        refine lv_icmp_ne (tgt := 312) hx hb dL_isPassed_305 (by decide) (fun c_305 => ?_) (fun c_305 => ?_)
                        · exfalso
                          exact c_305 h2s
                        refine lv_iconst (v := 1) hx hb dL_isPassed_308 (by decide) ?_
                        refine lv_goto (tgt := 313) hx hb dL_isPassed_309 (by decide) ?_
                        exact hret _ _ _ _ _ _ (by exact ⟨_, _, rfl, rfl, by assumption, by assumption⟩) X dL_isPassed_313
                  · have c_159 : i < 8 := Nat.not_le.mp (fun h => c_159 ((nI_leI (a := 8) (b := i) (by omega) (by omega)).mpr h))
                    refine lv_aload_n hx hb dL_isPassed_162 rfl (lv_at hl 8 rfl) ?_
                    refine lv_iload hx hb dL_isPassed_163 (lv_at hl 0 rfl) ?_
                    refine lv_iconst (v := 0) hx hb dL_isPassed_165 (by decide) ?_
                    refine x_cVi F X (gc := [xoA q A, ob]) (gr := []) (xp_idx (n := 2) [0, 1] (by decide +kernel) rfl rfl) (c_G_record0 l D q A (zPass z hu) ob i (min (v + hu) 8) (by first | assumption | omega) (by exact h28) (by first | assumption | omega) (by first | assumption | omega)) (cwV 2 F.1.2.2.2.2 gL_isPassed_X7_record rfl rfl rfl (by decide +kernel) ⟨Nat.le_of_ble_eq_true rfl, Nat.le_of_ble_eq_true rfl⟩) rfl rfl (r0 := 0) (ci := 7) (T := TX7) (N := 8) rfl rfl hl.1 ⟨Nat.le_of_ble_eq_true rfl, Nat.le_of_ble_eq_true rfl⟩ (Nat.le_of_ble_eq_true rfl) dL_isPassed_166 (fun r_166 g1 H locs hp X => ?_)
                    obtain ⟨ob2_166, rfl, rfl, hob2_166⟩ := hp
                    have X : xS D A9 s9 [xoA q A, ob2_166] H locs := X
                    refine lv_aload_n hx hb dL_isPassed_169 rfl (lv_at hl 8 rfl) ?_
                    refine lv_iconst (v := 1) hx hb dL_isPassed_170 (by decide) ?_
                    refine x_cVi F X (gc := [xoA q A, ob2_166]) (gr := []) (xp_idx (n := 2) [0, 1] (by decide +kernel) rfl rfl) (c_G_count1 l D q A (zPass z hu) ob2_166 (by first | assumption | omega)) (cwV 1 F.1.2.2.2.2 gL_isPassed_X7_count rfl rfl rfl (by decide +kernel) ⟨Nat.le_of_ble_eq_true rfl, Nat.le_of_ble_eq_true rfl⟩) rfl rfl (r0 := 0) (ci := 7) (T := TX7) (N := 8) rfl rfl hl.1 ⟨Nat.le_of_ble_eq_true rfl, Nat.le_of_ble_eq_true rfl⟩ (Nat.le_of_ble_eq_true rfl) dL_isPassed_171 (fun r_171 g1 H locs hp X => ?_)
                    obtain ⟨ob2_171, rfl, rfl, hob2_171⟩ := hp
                    have X : xS D A9 s9 [xoA q A, ob2_171] H locs := X
                    refine lv_icmp_ne (tgt := 201) hx hb dL_isPassed_174 (by decide) (fun c_174 => ?_) (fun c_174 => ?_)
                    · exfalso
                      exact c_174 (((h2r 0 (by omega) i (by omega)).trans (if_pos c_152)).trans h24.symm)
                    refine lv_aload_n hx hb dL_isPassed_177 rfl (lv_at hl 8 rfl) ?_
                    refine lv_iload hx hb dL_isPassed_178 (lv_at hl 0 rfl) ?_
                    refine lv_iconst (v := 1) hx hb dL_isPassed_180 (by decide) ?_
                    refine x_cVi F X (gc := [xoA q A, ob2_171]) (gr := []) (xp_idx (n := 2) [0, 1] (by decide +kernel) rfl rfl) (c_G_record1 l D q A (zPass z hu) ob2_171 i (min (v + hu) 8) (by first | assumption | omega) (by exact h28) (by first | assumption | omega) (by first | assumption | omega)) (cwV 2 F.1.2.2.2.2 gL_isPassed_X7_record rfl rfl rfl (by decide +kernel) ⟨Nat.le_of_ble_eq_true rfl, Nat.le_of_ble_eq_true rfl⟩) rfl rfl (r0 := 0) (ci := 7) (T := TX7) (N := 8) rfl rfl hl.1 ⟨Nat.le_of_ble_eq_true rfl, Nat.le_of_ble_eq_true rfl⟩ (Nat.le_of_ble_eq_true rfl) dL_isPassed_181 (fun r_181 g1 H locs hp X => ?_)
                    obtain ⟨ob2_181, rfl, rfl, hob2_181⟩ := hp
                    have X : xS D A9 s9 [xoA q A, ob2_181] H locs := X
                    refine lv_iload hx hb dL_isPassed_184 (lv_at hl 5 rfl) ?_
                    refine lv_icmp_ne (tgt := 201) hx hb dL_isPassed_186 (by decide) (fun c_186 => ?_) (fun c_186 => ?_)
                    · exfalso
                      exact c_186 ((h2r 1 (by omega) i (by omega)).trans (if_pos c_152))
                    refine lv_aload_n hx hb dL_isPassed_189 rfl (lv_at hl 8 rfl) ?_
                    refine lv_iload hx hb dL_isPassed_190 (lv_at hl 0 rfl) ?_
                    refine lv_iconst (v := 2) hx hb dL_isPassed_192 (by decide) ?_
                    refine x_cVi F X (gc := [xoA q A, ob2_181]) (gr := []) (xp_idx (n := 2) [0, 1] (by decide +kernel) rfl rfl) (c_G_record2 l D q A (zPass z hu) ob2_181 i (min (v + hu) 8) (by first | assumption | omega) (by exact h28) (by first | assumption | omega) (by first | assumption | omega)) (cwV 2 F.1.2.2.2.2 gL_isPassed_X7_record rfl rfl rfl (by decide +kernel) ⟨Nat.le_of_ble_eq_true rfl, Nat.le_of_ble_eq_true rfl⟩) rfl rfl (r0 := 0) (ci := 7) (T := TX7) (N := 8) rfl rfl hl.1 ⟨Nat.le_of_ble_eq_true rfl, Nat.le_of_ble_eq_true rfl⟩ (Nat.le_of_ble_eq_true rfl) dL_isPassed_193 (fun r_193 g1 H locs hp X => ?_)
                    obtain ⟨ob2_193, rfl, rfl, hob2_193⟩ := hp
                    have X : xS D A9 s9 [xoA q A, ob2_193] H locs := X
                    refine lv_iload hx hb dL_isPassed_196 (lv_at hl 4 rfl) ?_
                    refine lv_icmp_eq (tgt := 203) hx hb dL_isPassed_198 (by decide) (fun c_198 => ?_) (fun c_198 => ?_)
                    rotate_left
                    · exfalso
                      exact c_198 (((h2r 2 (by omega) i (by omega)).trans (if_pos c_152)).trans hwh.symm)
                    refine lv_iinc (v := (nI (i + 1))) (lv' := [(9, .int (nI (i + 1))), (8, .int (x_rep (x_hb (zS z) (tR (zS z)) (tN (zS z)) (zS z 4)) hu)), (7, .int bf), (6, .int mo), (5, .int wh), (4, .int (x_sm (x_hc (zS z) (tF (zS z))) (tN (zS z)))), (3, .int ((zS z) 7)), (2, .int (nI v)), (0, .ref (A.1 0)), (1, .int (nI hu))]) hx hb dL_isPassed_203 hl (k := 0) rfl (nI_add i 1) (by decide) rfl (fun ls hl => ?_)
                    refine lv_goto (tgt := 149) hx hb dL_isPassed_206 (by decide) ?_
                    exact ih_149 _ (i + 1) _ _ _ X (lv_sub hl [0, 1, 2, 3, 4, 5, 6, 7, 8, 9] rfl) (by omega) (by assumption) (by omega)
            exact L_149 (hu + 1) _ 0 _ _ _ X (lv_sub hl [0, 1, 2, 3, 4, 5, 6, 7, 8, 9] rfl) (by omega) (by assumption) (by omega)
          · have c_121 : 999 < v + hu := Nat.not_le.mp (fun h => c_121 ((nI_leI (a := v + hu) (b := 999) (by omega) (by omega)).mpr h))
            have hcd : (999 : Int32) < zS z 6 + nI hu := by rw [v2]; exact (x_le999 v1 (by omega)).mpr c_121
            obtain ⟨rfl, rfl⟩ : -5 = r_110 ∧ z = z2_110 := by
              rcases hbo_110 with ⟨q, -⟩ | ⟨-, q1, q2⟩
              · exact absurd hcd q
              · exact ⟨q1.symm, q2.symm⟩
            refine lv_iload hx hb dL_isPassed_124 (lv_at hl 0 rfl) ?_
            refine lv_bipush (v := (-5)) hx hb dL_isPassed_126 (by decide) ?_
            refine lv_icmp_ne (tgt := 144) hx hb dL_isPassed_128 (by decide) (fun h => absurd (by decide) h) (fun _ => ?_)
            refine lv_aload_n hx hb dL_isPassed_131 rfl (lv_at hl 7 rfl) ?_
            refine lv_iconst (v := 2) hx hb dL_isPassed_132 (by decide) ?_
            refine x_cVi F X (gc := [xoA q A, ob2_110]) (gr := []) (xp_idx (n := 2) [0, 1] (by decide +kernel) rfl rfl) (c_G_count2 l D q A z ob2_110 (by first | assumption | omega)) (cwV 1 F.1.2.2.2.2 gL_isPassed_X7_count rfl rfl rfl (by decide +kernel) ⟨Nat.le_of_ble_eq_true rfl, Nat.le_of_ble_eq_true rfl⟩) rfl rfl (r0 := 0) (ci := 7) (T := TX7) (N := 8) rfl rfl hl.1 ⟨Nat.le_of_ble_eq_true rfl, Nat.le_of_ble_eq_true rfl⟩ (Nat.le_of_ble_eq_true rfl) dL_isPassed_133 (fun r_133 g1 H locs hp X => ?_)
            obtain ⟨ob2_133, rfl, rfl, hob2_133⟩ := hp
            have X : xS D A9 s9 [xoA q A, ob2_133] H locs := X
            refine x_i (y := (nI v)) (v2) ?_
            refine lv_iload_n hx hb dL_isPassed_136 rfl (lv_at hl 6 rfl) ?_
            refine lv_icmp_ne (tgt := 144) hx hb dL_isPassed_137 (by decide) (fun c_137 => ?_) (fun c_137 => ?_)
            · exfalso
              have c_137 : ¬ (v = v) := fun h => c_137 ((nI_eq (a := v) (b := v) (by omega) (by omega)).mpr h)
              exact c_137 rfl
            have c_137 : v = v := (nI_eq (a := v) (b := v) (by omega) (by omega)).mp c_137
            refine lv_iconst (v := 1) hx hb dL_isPassed_140 (by decide) ?_
            refine lv_goto (tgt := 145) hx hb dL_isPassed_141 (by decide) ?_
            exact hret _ _ _ _ _ _ (by exact ⟨_, _, rfl, rfl, by assumption, by assumption⟩) X dL_isPassed_145
        · have c_52 : i < (tN (zS z)) := Nat.not_le.mp (fun h => c_52 ((nI_leI (a := (tN (zS z))) (b := i) (by omega) (by omega)).mpr h))
          refine lv_aload_n hx hb dL_isPassed_55 rfl (lv_at hl 7 rfl) ?_
          refine lv_iload hx hb dL_isPassed_56 (lv_at hl 0 rfl) ?_
          refine lv_iconst (v := 4) hx hb dL_isPassed_58 (by decide) ?_
          refine x_cVi F X (gc := [xoA q A, ob2_49]) (gr := []) (xp_idx (n := 2) [0, 1] (by decide +kernel) rfl rfl) (c_G_now4 l D q A z ob2_49 i (by first | assumption | omega) (by first | assumption | omega)) (cwV 2 F.1.2.2.2.2 gL_isPassed_X7_now rfl rfl rfl (by decide +kernel) ⟨Nat.le_of_ble_eq_true rfl, Nat.le_of_ble_eq_true rfl⟩) rfl rfl (r0 := 0) (ci := 7) (T := TX7) (N := 8) rfl rfl hl.1 ⟨Nat.le_of_ble_eq_true rfl, Nat.le_of_ble_eq_true rfl⟩ (Nat.le_of_ble_eq_true rfl) dL_isPassed_59 (fun r_59 g1 H locs hp X => ?_)
          obtain ⟨ob2_59, rfl, rfl, hob2_59⟩ := hp
          have X : xS D A9 s9 [xoA q A, ob2_59] H locs := X
          refine lv_iload hx hb dL_isPassed_62 (lv_at hl 2 rfl) ?_
          refine lv_icmp_le (tgt := 72) hx hb dL_isPassed_64 (by decide) (fun c_64 => ?_) (fun c_64 => ?_)
          · refine lv_iload hx hb dL_isPassed_72 (lv_at hl 3 rfl) ?_
            refine lv_istore (lv' := [(5, .int wh), (8, .int (nI i)), (7, .int bf), (6, .int mo), (4, .int (x_sm (x_hc (zS z) (tF (zS z))) (tN (zS z)))), (3, .int ((zS z) 7)), (2, .int (nI v)), (0, .ref (A.1 0)), (1, .int (nI hu))]) hx hb dL_isPassed_74 hl (by decide) rfl (fun ls hl => ?_)
            refine lv_aload_n hx hb dL_isPassed_76 rfl (lv_at hl 7 rfl) ?_
            refine lv_iload hx hb dL_isPassed_77 (lv_at hl 1 rfl) ?_
            refine lv_iconst (v := 4) hx hb dL_isPassed_79 (by decide) ?_
            refine x_cVi F X (gc := [xoA q A, ob2_59]) (gr := []) (xp_idx (n := 2) [0, 1] (by decide +kernel) rfl rfl) (c_G_now4 l D q A z ob2_59 i (by first | assumption | omega) (by first | assumption | omega)) (cwV 2 F.1.2.2.2.2 gL_isPassed_X7_now rfl rfl rfl (by decide +kernel) ⟨Nat.le_of_ble_eq_true rfl, Nat.le_of_ble_eq_true rfl⟩) rfl rfl (r0 := 0) (ci := 7) (T := TX7) (N := 8) rfl rfl hl.1 ⟨Nat.le_of_ble_eq_true rfl, Nat.le_of_ble_eq_true rfl⟩ (Nat.le_of_ble_eq_true rfl) dL_isPassed_80 (fun r_80 g1 H locs hp X => ?_)
            obtain ⟨ob2_80, rfl, rfl, hob2_80⟩ := hp
            have X : xS D A9 s9 [xoA q A, ob2_80] H locs := X
            refine lv_iload hx hb dL_isPassed_83 (lv_at hl 3 rfl) ?_
            refine lv_icmp_le (tgt := 98) hx hb dL_isPassed_85 (by decide) (fun c_85 => ?_) (fun c_85 => ?_)
            rotate_left
            · exfalso
              exact c_85 c_64
            refine lv_iload hx hb dL_isPassed_98 (lv_at hl 3 rfl) ?_
            refine lv_istore (lv' := [(6, .int mo), (5, .int wh), (8, .int (nI i)), (7, .int bf), (4, .int (x_sm (x_hc (zS z) (tF (zS z))) (tN (zS z)))), (3, .int ((zS z) 7)), (2, .int (nI v)), (0, .ref (A.1 0)), (1, .int (nI hu))]) hx hb dL_isPassed_100 hl (by decide) rfl (fun ls hl => ?_)
            refine lv_iinc (v := (nI (i + 1))) (lv' := [(8, .int (nI (i + 1))), (6, .int mo), (5, .int wh), (7, .int bf), (4, .int (x_sm (x_hc (zS z) (tF (zS z))) (tN (zS z)))), (3, .int ((zS z) 7)), (2, .int (nI v)), (0, .ref (A.1 0)), (1, .int (nI hu))]) hx hb dL_isPassed_102 hl (k := 2) rfl (nI_add i 1) (by decide) rfl (fun ls hl => ?_)
            refine lv_goto (tgt := 45) hx hb dL_isPassed_105 (by decide) ?_
            exact ih_45 _ (i + 1) _ _ _ _ _ X (lv_sub hl [0, 3, 1, 2, 4, 5, 6, 7, 8] rfl) (by omega) (by assumption) (by omega) (by exact (xv_w0 hwh hmo c_64).1) (by exact (xv_w0 hwh hmo c_64).2)
          · refine lv_iload hx hb dL_isPassed_67 (lv_at hl 0 rfl) ?_
            refine lv_goto (tgt := 74) hx hb dL_isPassed_69 (by decide) ?_
            refine lv_istore (lv' := [(5, .int (nI i)), (8, .int (nI i)), (7, .int bf), (6, .int mo), (4, .int (x_sm (x_hc (zS z) (tF (zS z))) (tN (zS z)))), (3, .int ((zS z) 7)), (2, .int (nI v)), (0, .ref (A.1 0)), (1, .int (nI hu))]) hx hb dL_isPassed_74 hl (by decide) rfl (fun ls hl => ?_)
            refine lv_aload_n hx hb dL_isPassed_76 rfl (lv_at hl 7 rfl) ?_
            refine lv_iload hx hb dL_isPassed_77 (lv_at hl 1 rfl) ?_
            refine lv_iconst (v := 4) hx hb dL_isPassed_79 (by decide) ?_
            refine x_cVi F X (gc := [xoA q A, ob2_59]) (gr := []) (xp_idx (n := 2) [0, 1] (by decide +kernel) rfl rfl) (c_G_now4 l D q A z ob2_59 i (by first | assumption | omega) (by first | assumption | omega)) (cwV 2 F.1.2.2.2.2 gL_isPassed_X7_now rfl rfl rfl (by decide +kernel) ⟨Nat.le_of_ble_eq_true rfl, Nat.le_of_ble_eq_true rfl⟩) rfl rfl (r0 := 0) (ci := 7) (T := TX7) (N := 8) rfl rfl hl.1 ⟨Nat.le_of_ble_eq_true rfl, Nat.le_of_ble_eq_true rfl⟩ (Nat.le_of_ble_eq_true rfl) dL_isPassed_80 (fun r_80 g1 H locs hp X => ?_)
            obtain ⟨ob2_80, rfl, rfl, hob2_80⟩ := hp
            have X : xS D A9 s9 [xoA q A, ob2_80] H locs := X
            refine lv_iload hx hb dL_isPassed_83 (lv_at hl 3 rfl) ?_
            refine lv_icmp_le (tgt := 98) hx hb dL_isPassed_85 (by decide) (fun c_85 => ?_) (fun c_85 => ?_)
            · exfalso
              exact c_64 c_85
            refine lv_aload_n hx hb dL_isPassed_88 rfl (lv_at hl 7 rfl) ?_
            refine lv_iload hx hb dL_isPassed_89 (lv_at hl 1 rfl) ?_
            refine lv_iconst (v := 4) hx hb dL_isPassed_91 (by decide) ?_
            refine x_cVi F X (gc := [xoA q A, ob2_80]) (gr := []) (xp_idx (n := 2) [0, 1] (by decide +kernel) rfl rfl) (c_G_now4 l D q A z ob2_80 i (by first | assumption | omega) (by first | assumption | omega)) (cwV 2 F.1.2.2.2.2 gL_isPassed_X7_now rfl rfl rfl (by decide +kernel) ⟨Nat.le_of_ble_eq_true rfl, Nat.le_of_ble_eq_true rfl⟩) rfl rfl (r0 := 0) (ci := 7) (T := TX7) (N := 8) rfl rfl hl.1 ⟨Nat.le_of_ble_eq_true rfl, Nat.le_of_ble_eq_true rfl⟩ (Nat.le_of_ble_eq_true rfl) dL_isPassed_92 (fun r_92 g1 H locs hp X => ?_)
            obtain ⟨ob2_92, rfl, rfl, hob2_92⟩ := hp
            have X : xS D A9 s9 [xoA q A, ob2_92] H locs := X
            refine lv_goto (tgt := 100) hx hb dL_isPassed_95 (by decide) ?_
            refine lv_istore (lv' := [(6, .int (x_hc (zS z) (tF (zS z)) i)), (5, .int (nI i)), (8, .int (nI i)), (7, .int bf), (4, .int (x_sm (x_hc (zS z) (tF (zS z))) (tN (zS z)))), (3, .int ((zS z) 7)), (2, .int (nI v)), (0, .ref (A.1 0)), (1, .int (nI hu))]) hx hb dL_isPassed_100 hl (by decide) rfl (fun ls hl => ?_)
            refine lv_iinc (v := (nI (i + 1))) (lv' := [(8, .int (nI (i + 1))), (6, .int (x_hc (zS z) (tF (zS z)) i)), (5, .int (nI i)), (7, .int bf), (4, .int (x_sm (x_hc (zS z) (tF (zS z))) (tN (zS z)))), (3, .int ((zS z) 7)), (2, .int (nI v)), (0, .ref (A.1 0)), (1, .int (nI hu))]) hx hb dL_isPassed_102 hl (k := 2) rfl (nI_add i 1) (by decide) rfl (fun ls hl => ?_)
            refine lv_goto (tgt := 45) hx hb dL_isPassed_105 (by decide) ?_
            exact ih_45 _ (i + 1) _ _ _ _ _ X (lv_sub hl [0, 3, 1, 2, 4, 5, 6, 7, 8] rfl) (by omega) (by assumption) (by omega) (by exact (xv_w1 (wh := wh) hmo c_64).1) (by exact (xv_w1 (wh := wh) hmo c_64).2)
    exact L_45 (tN (zS z) + 1) _ 0 (-6) 0 _ _ _ X (lv_sub hl [0, 1, 2, 3, 4, 5, 6, 7, 8] rfl) (by omega) (by assumption) (by omega) (by rfl) (by rfl)
  refine lv_iload_n hx hb dL_isPassed_26 rfl (lv_at hl 4 rfl) ?_
  refine lv_if_ne (tgt := 34) hx hb dL_isPassed_27 (by decide) (fun c_27 => ?_) (fun c_27 => ?_)
  · have c_27 : ¬ (v = 0) := fun h => c_27 ((nI_eq (a := v) (b := 0) (by omega) (by omega)).mpr h)
    refine lv_aload_n hx hb dL_isPassed_34 rfl (lv_at hl 5 rfl) ?_
    refine lv_iconst (v := 0) hx hb dL_isPassed_35 (by decide) ?_
    refine lv_iconst (v := 1) hx hb dL_isPassed_36 (by decide) ?_
    refine x_cVi F X (gc := [xoA q A, ob2_14]) (gr := []) (xp_idx (n := 2) [0, 1] (by decide +kernel) rfl rfl) (c_G_record1 l D q A z ob2_14 0 (min v 8) (by first | assumption | omega) (by exact v3) (by first | assumption | omega) (by first | assumption | omega)) (cwV 2 F.1.2.2.2.2 gL_isPassed_X7_record rfl rfl rfl (by decide +kernel) ⟨Nat.le_of_ble_eq_true rfl, Nat.le_of_ble_eq_true rfl⟩) rfl rfl (r0 := 0) (ci := 7) (T := TX7) (N := 8) rfl rfl hl.1 ⟨Nat.le_of_ble_eq_true rfl, Nat.le_of_ble_eq_true rfl⟩ (Nat.le_of_ble_eq_true rfl) dL_isPassed_37 (fun r_37 g1 H locs hp X => ?_)
    obtain ⟨ob2_37, rfl, rfl, hob2_37⟩ := hp
    have X : xS D A9 s9 [xoA q A, ob2_37] H locs := X
    exact J_40 _ _ _ _ _ X (lv_sub hl [0, 1, 2, 3, 4, 5, 6] rfl) (by assumption) (by exact fun _ => rfl)
  · have c_27 : v = 0 := (nI_eq (a := v) (b := 0) (by omega) (by omega)).mp c_27
    refine lv_iconst (v := 0) hx hb dL_isPassed_30 (by decide) ?_
    refine lv_goto (tgt := 40) hx hb dL_isPassed_31 (by decide) ?_
    exact J_40 _ _ _ _ _ X (lv_sub hl [0, 1, 2, 3, 4, 5, 6] rfl) (by assumption) (by intro hv; omega)

