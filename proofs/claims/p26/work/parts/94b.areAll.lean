set_option maxHeartbeats 1000000 in
set_option maxRecDepth 100000 in
theorem c_L_areAll (l : Launch) (D : va_G) (q : xQ) (A : xAd) (z : xZt) (ob : va_W) (hob : xOb q A z ob) (hw4 : xW z) : xMi l yL_areAll wsL_areAll { frames := 6, cells := 0, slots := 0, locals := 133 } D q [.ref (A.1 0)] [xoA q A, ob] (fun r gw => ∃ (ob2 : va_W), gw = [xoA q A, ob2] ∧ r = 1 ∧ (xOb q A z ob2)) := by
  refine xMi_of (cc := cL_areAll) (maxL := 9) (rt := .boolean) (by decide) rfl (Nat.le_of_ble_eq_true rfl) (fun v w h => by obtain ⟨_, _, rfl, _⟩ := h; rfl) ?_
  intro p9 e9 s9 m9 a9 below meth c9 A9 Z9 ls H locs F X hl hret
  have hx := F.1.1
  have hb := F.1.2.1
  have hl : lv_has ls 9 [(0, .ref (A.1 0))] := hl
  have hok := hob.ok
  have hn := hok.1
  have hn1 := hok.2.1
  have hp := xv_hp hok
  refine lv_aload_n hx hb dL_areAll_0 rfl (lv_at hl 0 rfl) ?_
  refine lv_iconst (v := 0) hx hb dL_areAll_1 (by decide) ?_
  refine x_cVi F X (gc := [xoA q A, ob]) (gr := []) (xp_idx (n := 2) [0, 1] (by decide +kernel) rfl rfl) (c_G_count0 l D q A z ob (by first | assumption | omega)) (cwV 1 F.1.2.2.2.2 gL_areAll_X7_count rfl rfl rfl (by decide +kernel) ⟨Nat.le_of_ble_eq_true rfl, Nat.le_of_ble_eq_true rfl⟩) rfl rfl (r0 := 0) (ci := 7) (T := TX7) (N := 8) rfl rfl hl.1 ⟨Nat.le_of_ble_eq_true rfl, Nat.le_of_ble_eq_true rfl⟩ (Nat.le_of_ble_eq_true rfl) dL_areAll_2 (fun r_2 g1 H locs hp X => ?_)
  obtain ⟨ob2_2, rfl, rfl, hob2_2⟩ := hp
  have X : xS D A9 s9 [xoA q A, ob2_2] H locs := X
  refine lv_istore_n (lv' := [(1, .int (nI (tN (zS z)))), (0, .ref (A.1 0))]) hx hb dL_areAll_5 rfl hl (by decide) rfl (fun ls hl => ?_)
  refine lv_iconst (v := 0) hx hb dL_areAll_6 (by decide) ?_
  refine lv_istore_n (lv' := [(2, .int 0), (1, .int (nI (tN (zS z)))), (0, .ref (A.1 0))]) hx hb dL_areAll_7 rfl hl (by decide) rfl (fun ls hl => ?_)
  refine lv_iconst (v := 0) hx hb dL_areAll_8 (by decide) ?_
  refine lv_istore_n (lv' := [(3, .int 0), (2, .int 0), (1, .int (nI (tN (zS z)))), (0, .ref (A.1 0))]) hx hb dL_areAll_9 rfl hl (by decide) rfl (fun ls hl => ?_)
  refine lv_iconst (v := 0) hx hb dL_areAll_10 (by decide) ?_
  refine lv_istore (lv' := [(4, .int 0), (3, .int 0), (2, .int 0), (1, .int (nI (tN (zS z)))), (0, .ref (A.1 0))]) hx hb dL_areAll_11 hl (by decide) rfl (fun ls hl => ?_)
  refine lv_iconst (v := 0) hx hb dL_areAll_13 (by decide) ?_
  refine lv_istore (lv' := [(5, .int 0), (4, .int 0), (3, .int 0), (2, .int 0), (1, .int (nI (tN (zS z)))), (0, .ref (A.1 0))]) hx hb dL_areAll_14 hl (by decide) rfl (fun ls hl => ?_)
  refine lv_iconst (v := (-1)) hx hb dL_areAll_16 (by decide) ?_
  refine lv_istore (lv' := [(6, .int (-1)), (5, .int 0), (4, .int 0), (3, .int 0), (2, .int 0), (1, .int (nI (tN (zS z)))), (0, .ref (A.1 0))]) hx hb dL_areAll_17 hl (by decide) rfl (fun ls hl => ?_)
  refine lv_iconst (v := 0) hx hb dL_areAll_19 (by decide) ?_
  refine lv_istore (lv' := [(7, .int 0), (6, .int (-1)), (5, .int 0), (4, .int 0), (3, .int 0), (2, .int 0), (1, .int (nI (tN (zS z)))), (0, .ref (A.1 0))]) hx hb dL_areAll_20 hl (by decide) rfl (fun ls hl => ?_)
  have L_22 : ∀ (nn : Nat) (ob : va_W) (i le : Nat) (pe ha se wi : Int32) (H : Heap) (locs : List Loc) (ls : Array Slot), xS D A9 s9 [xoA q A, ob] H locs → lv_has ls 9 [(7, .int (nI i)), (6, .int wi), (5, .int (nI le)), (4, .int se), (3, .int ha), (2, .int pe), (1, .int (nI (tN (zS z)))), (0, .ref (A.1 0))] → (tN (zS z) < i + nn) → (xOb q A z ob) → (i ≤ tN (zS z)) → (pe = x_sm (x_tP (zS z)) i) → (ha = x_sm (x_hc (zS z) (tF (zS z))) i) → (se = x_orf (x_shk (zS z) (tF (zS z))) i) → (le = x_lst (tF (zS z)) i) → (le < tN (zS z)) → (xw_I (x_bs (zS z) (tN (zS z))) (tF (zS z)) (tN (zS z)) wi i) → W p9 l e9 { frames := 6, cells := 0, slots := 0, locals := 133 } s9 m9 a9 below meth c9 H locs 0 0 Z9 (F0 m9 22 ls []) := by
    intro nn
    induction nn with
    | zero => intro ob i le pe ha se wi H locs ls X hl hfuel hob hi hpe hha hse hle hlt hwi; exact absurd hfuel (by omega)
    | succ nn ih_22 =>
      intro ob i le pe ha se wi H locs ls X hl hfuel hob hi hpe hha hse hle hlt hwi
      refine lv_iload hx hb dL_areAll_22 (lv_at hl 0 rfl) ?_
      refine lv_iload_n hx hb dL_areAll_24 rfl (lv_at hl 6 rfl) ?_
      refine lv_icmp_ge (tgt := 163) hx hb dL_areAll_25 (by decide) (fun c_25 => ?_) (fun c_25 => ?_)
      · have c_25 : (tN (zS z)) ≤ i := (nI_leI (a := (tN (zS z))) (b := i) (by omega) (by omega)).mp c_25
        obtain rfl : i = tN (zS z) := by omega
        refine lv_iload_n hx hb dL_areAll_163 rfl (lv_at hl 6 rfl) ?_
        refine lv_if_le (tgt := 254) hx hb dL_areAll_164 (by decide) (fun c_164 => ?_) (fun c_164 => ?_)
        · exfalso
          have c_164 : (tN (zS z)) ≤ 0 := (nI_leI (a := (tN (zS z))) (b := 0) (by omega) (by omega)).mp c_164
          omega
        have c_164 : 0 < (tN (zS z)) := Nat.not_le.mp (fun h => c_164 ((nI_leI (a := (tN (zS z))) (b := 0) (by omega) (by omega)).mpr h))
        refine lv_iload_n hx hb dL_areAll_167 rfl (lv_at hl 6 rfl) ?_
        refine lv_bipush (v := 20) hx hb dL_areAll_168 (by decide) ?_
        refine lv_icmp_gt (tgt := 254) hx hb dL_areAll_170 (by decide) (fun c_170 => ?_) (fun c_170 => ?_)
        · exfalso
          have c_170 : 20 < (tN (zS z)) := (nI_ltI (a := 20) (b := (tN (zS z))) (by omega) (by omega)).mp c_170
          omega
        have c_170 : (tN (zS z)) ≤ 20 := Nat.not_lt.mp (fun h => c_170 ((nI_ltI (a := 20) (b := (tN (zS z))) (by omega) (by omega)).mpr h))
        refine lv_aload_n hx hb dL_areAll_173 rfl (lv_at hl 7 rfl) ?_
        refine lv_iconst (v := 4) hx hb dL_areAll_174 (by decide) ?_
        refine x_cVi F X (gc := [xoA q A, ob]) (gr := []) (xp_idx (n := 2) [0, 1] (by decide +kernel) rfl rfl) (c_G_count4 l D q A z ob (by first | assumption | omega)) (cwV 1 F.1.2.2.2.2 gL_areAll_X7_count rfl rfl rfl (by decide +kernel) ⟨Nat.le_of_ble_eq_true rfl, Nat.le_of_ble_eq_true rfl⟩) rfl rfl (r0 := 0) (ci := 7) (T := TX7) (N := 8) rfl rfl hl.1 ⟨Nat.le_of_ble_eq_true rfl, Nat.le_of_ble_eq_true rfl⟩ (Nat.le_of_ble_eq_true rfl) dL_areAll_175 (fun r_175 g1 H locs hp X => ?_)
        obtain ⟨ob2_175, rfl, rfl, hob2_175⟩ := hp
        have X : xS D A9 s9 [xoA q A, ob2_175] H locs := X
        refine lv_iload_n hx hb dL_areAll_178 rfl (lv_at hl 5 rfl) ?_
        refine lv_icmp_ne (tgt := 254) hx hb dL_areAll_179 (by decide) (fun c_179 => ?_) (fun c_179 => ?_)
        · exfalso
          exact c_179 hpe.symm
        refine lv_aload_n hx hb dL_areAll_182 rfl (lv_at hl 7 rfl) ?_
        refine lv_iconst (v := 5) hx hb dL_areAll_183 (by decide) ?_
        refine x_cVi F X (gc := [xoA q A, ob2_175]) (gr := []) (xp_idx (n := 2) [0, 1] (by decide +kernel) rfl rfl) (c_G_count5 l D q A z ob2_175 (by first | assumption | omega)) (cwV 1 F.1.2.2.2.2 gL_areAll_X7_count rfl rfl rfl (by decide +kernel) ⟨Nat.le_of_ble_eq_true rfl, Nat.le_of_ble_eq_true rfl⟩) rfl rfl (r0 := 0) (ci := 7) (T := TX7) (N := 8) rfl rfl hl.1 ⟨Nat.le_of_ble_eq_true rfl, Nat.le_of_ble_eq_true rfl⟩ (Nat.le_of_ble_eq_true rfl) dL_areAll_184 (fun r_184 g1 H locs hp X => ?_)
        obtain ⟨ob2_184, rfl, rfl, hob2_184⟩ := hp
        have X : xS D A9 s9 [xoA q A, ob2_184] H locs := X
        refine lv_iload_n hx hb dL_areAll_187 rfl (lv_at hl 4 rfl) ?_
        refine lv_icmp_ne (tgt := 254) hx hb dL_areAll_188 (by decide) (fun c_188 => ?_) (fun c_188 => ?_)
        · exfalso
          exact c_188 hha.symm
        refine lv_iload_n hx hb dL_areAll_191 rfl (lv_at hl 4 rfl) ?_
        refine lv_iload_n hx hb dL_areAll_192 rfl (lv_at hl 5 rfl) ?_
        refine lv_icmp_gt (tgt := 254) hx hb dL_areAll_193 (by decide) (fun c_193 => ?_) (fun c_193 => ?_)
        · exfalso
          rw [hpe, hha] at c_193
          exact xv_hp2 hok c_193
        refine lv_aload_n hx hb dL_areAll_196 rfl (lv_at hl 7 rfl) ?_
        refine lv_bipush (v := 6) hx hb dL_areAll_197 (by decide) ?_
        refine x_cVi F X (gc := [xoA q A, ob2_184]) (gr := []) (xp_idx (n := 2) [0, 1] (by decide +kernel) rfl rfl) (c_G_count6 l D q A z ob2_184 (by first | assumption | omega)) (cwV 1 F.1.2.2.2.2 gL_areAll_X7_count rfl rfl rfl (by decide +kernel) ⟨Nat.le_of_ble_eq_true rfl, Nat.le_of_ble_eq_true rfl⟩) rfl rfl (r0 := 0) (ci := 7) (T := TX7) (N := 8) rfl rfl hl.1 ⟨Nat.le_of_ble_eq_true rfl, Nat.le_of_ble_eq_true rfl⟩ (Nat.le_of_ble_eq_true rfl) dL_areAll_199 (fun r_199 g1 H locs hp X => ?_)
        obtain ⟨ob2_199, rfl, rfl, hob2_199⟩ := hp
        have X : xS D A9 s9 [xoA q A, ob2_199] H locs := X
        refine lv_iload hx hb dL_areAll_202 (lv_at hl 3 rfl) ?_
        refine lv_icmp_ne (tgt := 254) hx hb dL_areAll_204 (by decide) (fun c_204 => ?_) (fun c_204 => ?_)
        · exfalso
          exact c_204 hse.symm
        refine lv_aload_n hx hb dL_areAll_207 rfl (lv_at hl 7 rfl) ?_
        refine lv_bipush (v := 7) hx hb dL_areAll_208 (by decide) ?_
        refine x_cVi F X (gc := [xoA q A, ob2_199]) (gr := []) (xp_idx (n := 2) [0, 1] (by decide +kernel) rfl rfl) (c_G_count7 l D q A z ob2_199 (by first | assumption | omega)) (cwV 1 F.1.2.2.2.2 gL_areAll_X7_count rfl rfl rfl (by decide +kernel) ⟨Nat.le_of_ble_eq_true rfl, Nat.le_of_ble_eq_true rfl⟩) rfl rfl (r0 := 0) (ci := 7) (T := TX7) (N := 8) rfl rfl hl.1 ⟨Nat.le_of_ble_eq_true rfl, Nat.le_of_ble_eq_true rfl⟩ (Nat.le_of_ble_eq_true rfl) dL_areAll_210 (fun r_210 g1 H locs hp X => ?_)
        obtain ⟨ob2_210, rfl, rfl, hob2_210⟩ := hp
        have X : xS D A9 s9 [xoA q A, ob2_210] H locs := X
        refine lv_iload hx hb dL_areAll_213 (lv_at hl 2 rfl) ?_
        refine lv_icmp_ne (tgt := 254) hx hb dL_areAll_215 (by decide) (fun c_215 => ?_) (fun c_215 => ?_)
        · exfalso
          have c_215 : ¬ ((x_lst (tF (zS z)) (tN (zS z))) = le) := fun h => c_215 ((nI_eq (a := (x_lst (tF (zS z)) (tN (zS z)))) (b := le) (by omega) (by omega)).mpr h)
          exact c_215 hle.symm
        have c_215 : (x_lst (tF (zS z)) (tN (zS z))) = le := (nI_eq (a := (x_lst (tF (zS z)) (tN (zS z)))) (b := le) (by omega) (by omega)).mp c_215
        refine lv_aload_n hx hb dL_areAll_218 rfl (lv_at hl 7 rfl) ?_
        refine x_cVi F X (gc := [xoA q A, ob2_210]) (gr := []) (xp_idx (n := 2) [0, 1] (by decide +kernel) rfl rfl) (c_G_windiest l D q A z ob2_210 (by first | assumption | omega)) (cwV 0 F.1.2.2.2.2 gL_areAll_X7_windiest rfl rfl rfl (by decide +kernel) ⟨Nat.le_of_ble_eq_true rfl, Nat.le_of_ble_eq_true rfl⟩) rfl rfl (r0 := 0) (ci := 7) (T := TX7) (N := 8) rfl rfl hl.1 ⟨Nat.le_of_ble_eq_true rfl, Nat.le_of_ble_eq_true rfl⟩ (Nat.le_of_ble_eq_true rfl) dL_areAll_219 (fun r_219 g1 H locs hp X => ?_)
        obtain ⟨ob2_219, rfl, rfl, hob2_219⟩ := hp
        have X : xS D A9 s9 [xoA q A, ob2_219] H locs := X
        refine lv_iload hx hb dL_areAll_222 (lv_at hl 1 rfl) ?_
        refine lv_icmp_ne (tgt := 254) hx hb dL_areAll_224 (by decide) (fun c_224 => ?_) (fun c_224 => ?_)
        · exfalso
          exact c_224 (xw_e hok hwi)
        refine lv_aload_n hx hb dL_areAll_227 rfl (lv_at hl 7 rfl) ?_
        refine lv_aload_n hx hb dL_areAll_228 rfl (lv_at hl 7 rfl) ?_
        refine lv_iconst (v := 1) hx hb dL_areAll_229 (by decide) ?_
        refine x_cVi F X (gc := [xoA q A, ob2_219]) (gr := []) (xp_idx (n := 2) [0, 1] (by decide +kernel) rfl rfl) (c_G_count1 l D q A z ob2_219 (by first | assumption | omega)) (cwV 1 F.1.2.2.2.2 gL_areAll_X7_count rfl rfl rfl (by decide +kernel) ⟨Nat.le_of_ble_eq_true rfl, Nat.le_of_ble_eq_true rfl⟩) rfl rfl (r0 := 0) (ci := 7) (T := TX7) (N := 8) rfl rfl hl.1 ⟨Nat.le_of_ble_eq_true rfl, Nat.le_of_ble_eq_true rfl⟩ (Nat.le_of_ble_eq_true rfl) dL_areAll_230 (fun r_230 g1 H locs hp X => ?_)
        obtain ⟨ob2_230, rfl, rfl, hob2_230⟩ := hp
        have X : xS D A9 s9 [xoA q A, ob2_230] H locs := X
        refine x_cVi F X (gc := [xoA q A, ob2_230]) (gr := []) (xp_idx (n := 2) [0, 1] (by decide +kernel) rfl rfl) (c_G_ifWind l D q A z ob2_230 ((zS z) 4) (by first | assumption | omega) (by exact hw4.rg)) (cwV 1 F.1.2.2.2.2 gL_areAll_X7_ifWind rfl rfl rfl (by decide +kernel) ⟨Nat.le_of_ble_eq_true rfl, Nat.le_of_ble_eq_true rfl⟩) rfl rfl (r0 := 0) (ci := 7) (T := TX7) (N := 8) rfl rfl hl.1 ⟨Nat.le_of_ble_eq_true rfl, Nat.le_of_ble_eq_true rfl⟩ (Nat.le_of_ble_eq_true rfl) dL_areAll_233 (fun r_233 g1 H locs hp X => ?_)
        obtain ⟨ob2_233, rfl, rfl, hob2_233⟩ := hp
        have X : xS D A9 s9 [xoA q A, ob2_233] H locs := X
        refine lv_iload_n hx hb dL_areAll_236 rfl (lv_at hl 4 rfl) ?_
        refine lv_icmp_ne (tgt := 254) hx hb dL_areAll_237 (by decide) (fun c_237 => ?_) (fun c_237 => ?_)
        · exfalso
          exact c_237 hha.symm
        refine lv_aload_n hx hb dL_areAll_240 rfl (lv_at hl 7 rfl) ?_
        refine lv_iload_n hx hb dL_areAll_241 rfl (lv_at hl 6 rfl) ?_
        refine lv_iconst (v := 0) hx hb dL_areAll_242 (by decide) ?_
        refine x_cVi F X (gc := [xoA q A, ob2_233]) (gr := []) (xp_idx (n := 2) [0, 1] (by decide +kernel) rfl rfl) (c_G_ofn l D q A z ob2_233 (tN (zS z)) (by first | assumption | omega) (by first | assumption | omega)) (cwV 2 F.1.2.2.2.2 gL_areAll_X7_of rfl rfl rfl (by decide +kernel) ⟨Nat.le_of_ble_eq_true rfl, Nat.le_of_ble_eq_true rfl⟩) rfl rfl (r0 := 0) (ci := 7) (T := TX7) (N := 8) rfl rfl hl.1 ⟨Nat.le_of_ble_eq_true rfl, Nat.le_of_ble_eq_true rfl⟩ (Nat.le_of_ble_eq_true rfl) dL_areAll_243 (fun r_243 g1 H locs hp X => ?_)
        obtain ⟨ob2_243, rfl, rfl, hob2_243⟩ := hp
        have X : xS D A9 s9 [xoA q A, ob2_243] H locs := X
        refine lv_iconst (v := (-1)) hx hb dL_areAll_246 (by decide) ?_
        refine lv_icmp_ne (tgt := 254) hx hb dL_areAll_247 (by decide) (fun h => absurd (by decide) h) (fun _ => ?_)
        refine lv_iconst (v := 1) hx hb dL_areAll_250 (by decide) ?_
        refine lv_goto (tgt := 255) hx hb dL_areAll_251 (by decide) ?_
        exact hret _ _ _ _ _ _ (by exact ⟨_, rfl, rfl, by assumption⟩) X dL_areAll_255
      · have c_25 : i < (tN (zS z)) := Nat.not_le.mp (fun h => c_25 ((nI_leI (a := (tN (zS z))) (b := i) (by omega) (by omega)).mpr h))
        refine lv_iload hx hb dL_areAll_28 (lv_at hl 0 rfl) ?_
        refine lv_bipush (v := 20) hx hb dL_areAll_30 (by decide) ?_
        refine lv_icmp_ge (tgt := 163) hx hb dL_areAll_32 (by decide) (fun c_32 => ?_) (fun c_32 => ?_)
        · exfalso
          have c_32 : 20 ≤ i := (nI_leI (a := 20) (b := i) (by omega) (by omega)).mp c_32
          omega
        have c_32 : i < 20 := Nat.not_le.mp (fun h => c_32 ((nI_leI (a := 20) (b := i) (by omega) (by omega)).mpr h))
        refine lv_iload_n hx hb dL_areAll_35 rfl (lv_at hl 5 rfl) ?_
        refine lv_aload_n hx hb dL_areAll_36 rfl (lv_at hl 7 rfl) ?_
        refine lv_iload hx hb dL_areAll_37 (lv_at hl 0 rfl) ?_
        refine lv_iconst (v := 4) hx hb dL_areAll_39 (by decide) ?_
        refine x_cVi F X (gc := [xoA q A, ob]) (gr := []) (xp_idx (n := 2) [0, 1] (by decide +kernel) rfl rfl) (c_G_of4 l D q A z ob i (by first | assumption | omega) (by first | assumption | omega)) (cwV 2 F.1.2.2.2.2 gL_areAll_X7_of rfl rfl rfl (by decide +kernel) ⟨Nat.le_of_ble_eq_true rfl, Nat.le_of_ble_eq_true rfl⟩) rfl rfl (r0 := 0) (ci := 7) (T := TX7) (N := 8) rfl rfl hl.1 ⟨Nat.le_of_ble_eq_true rfl, Nat.le_of_ble_eq_true rfl⟩ (Nat.le_of_ble_eq_true rfl) dL_areAll_40 (fun r_40 g1 H locs hp X => ?_)
        obtain ⟨ob2_40, rfl, rfl, hob2_40⟩ := hp
        have X : xS D A9 s9 [xoA q A, ob2_40] H locs := X
        refine lv_iadd hx hb dL_areAll_43 ?_
        refine lv_istore_n (lv' := [(2, .int (pe + (x_tP (zS z) i))), (7, .int (nI i)), (6, .int wi), (5, .int (nI le)), (4, .int se), (3, .int ha), (1, .int (nI (tN (zS z)))), (0, .ref (A.1 0))]) hx hb dL_areAll_44 rfl hl (by decide) rfl (fun ls hl => ?_)
        refine lv_iload_n hx hb dL_areAll_45 rfl (lv_at hl 5 rfl) ?_
        refine lv_aload_n hx hb dL_areAll_46 rfl (lv_at hl 7 rfl) ?_
        refine lv_iload hx hb dL_areAll_47 (lv_at hl 1 rfl) ?_
        refine lv_iconst (v := 4) hx hb dL_areAll_49 (by decide) ?_
        refine x_cVi F X (gc := [xoA q A, ob2_40]) (gr := []) (xp_idx (n := 2) [0, 1] (by decide +kernel) rfl rfl) (c_G_now4 l D q A z ob2_40 i (by first | assumption | omega) (by first | assumption | omega)) (cwV 2 F.1.2.2.2.2 gL_areAll_X7_now rfl rfl rfl (by decide +kernel) ⟨Nat.le_of_ble_eq_true rfl, Nat.le_of_ble_eq_true rfl⟩) rfl rfl (r0 := 0) (ci := 7) (T := TX7) (N := 8) rfl rfl hl.1 ⟨Nat.le_of_ble_eq_true rfl, Nat.le_of_ble_eq_true rfl⟩ (Nat.le_of_ble_eq_true rfl) dL_areAll_50 (fun r_50 g1 H locs hp X => ?_)
        obtain ⟨ob2_50, rfl, rfl, hob2_50⟩ := hp
        have X : xS D A9 s9 [xoA q A, ob2_50] H locs := X
        refine lv_iadd hx hb dL_areAll_53 ?_
        refine lv_istore_n (lv' := [(3, .int (ha + (x_hc (zS z) (tF (zS z)) i))), (2, .int (pe + (x_tP (zS z) i))), (7, .int (nI i)), (6, .int wi), (5, .int (nI le)), (4, .int se), (1, .int (nI (tN (zS z)))), (0, .ref (A.1 0))]) hx hb dL_areAll_54 rfl hl (by decide) rfl (fun ls hl => ?_)
        refine lv_iload hx hb dL_areAll_55 (lv_at hl 5 rfl) ?_
        refine lv_aload_n hx hb dL_areAll_57 rfl (lv_at hl 7 rfl) ?_
        refine lv_iload hx hb dL_areAll_58 (lv_at hl 2 rfl) ?_
        refine lv_iconst (v := 4) hx hb dL_areAll_60 (by decide) ?_
        refine x_cVi F X (gc := [xoA q A, ob2_50]) (gr := []) (xp_idx (n := 2) [0, 1] (by decide +kernel) rfl rfl) (c_G_now4 l D q A z ob2_50 i (by first | assumption | omega) (by first | assumption | omega)) (cwV 2 F.1.2.2.2.2 gL_areAll_X7_now rfl rfl rfl (by decide +kernel) ⟨Nat.le_of_ble_eq_true rfl, Nat.le_of_ble_eq_true rfl⟩) rfl rfl (r0 := 0) (ci := 7) (T := TX7) (N := 8) rfl rfl hl.1 ⟨Nat.le_of_ble_eq_true rfl, Nat.le_of_ble_eq_true rfl⟩ (Nat.le_of_ble_eq_true rfl) dL_areAll_61 (fun r_61 g1 H locs hp X => ?_)
        obtain ⟨ob2_61, rfl, rfl, hob2_61⟩ := hp
        have X : xS D A9 s9 [xoA q A, ob2_61] H locs := X
        refine lv_if_ne (tgt := 74) hx hb dL_areAll_64 (by decide) (fun c_64 => ?_) (fun c_64 => ?_)
        · refine lv_iconst (v := 0) hx hb dL_areAll_74 (by decide) ?_
          refine lv_ior hx hb dL_areAll_75 ?_
          refine lv_istore (lv' := [(4, .int (se ||| 0)), (3, .int (ha + (x_hc (zS z) (tF (zS z)) i))), (2, .int (pe + (x_tP (zS z) i))), (7, .int (nI i)), (6, .int wi), (5, .int (nI le)), (1, .int (nI (tN (zS z)))), (0, .ref (A.1 0))]) hx hb dL_areAll_76 hl (by decide) rfl (fun ls hl => ?_)
          refine lv_aload_n hx hb dL_areAll_78 rfl (lv_at hl 7 rfl) ?_
          refine lv_iload hx hb dL_areAll_79 (lv_at hl 3 rfl) ?_
          refine lv_iconst (v := 0) hx hb dL_areAll_81 (by decide) ?_
          refine x_cVi F X (gc := [xoA q A, ob2_61]) (gr := []) (xp_idx (n := 2) [0, 1] (by decide +kernel) rfl rfl) (c_G_now0 l D q A z ob2_61 i (by first | assumption | omega) (by first | assumption | omega)) (cwV 2 F.1.2.2.2.2 gL_areAll_X7_now rfl rfl rfl (by decide +kernel) ⟨Nat.le_of_ble_eq_true rfl, Nat.le_of_ble_eq_true rfl⟩) rfl rfl (r0 := 0) (ci := 7) (T := TX7) (N := 8) rfl rfl hl.1 ⟨Nat.le_of_ble_eq_true rfl, Nat.le_of_ble_eq_true rfl⟩ (Nat.le_of_ble_eq_true rfl) dL_areAll_82 (fun r_82 g1 H locs hp X => ?_)
          obtain ⟨ob2_82, rfl, rfl, hob2_82⟩ := hp
          have X : xS D A9 s9 [xoA q A, ob2_82] H locs := X
          refine lv_aload_n hx hb dL_areAll_85 rfl (lv_at hl 7 rfl) ?_
          refine lv_iload hx hb dL_areAll_86 (lv_at hl 5 rfl) ?_
          refine lv_iconst (v := 0) hx hb dL_areAll_88 (by decide) ?_
          refine x_cVi F X (gc := [xoA q A, ob2_82]) (gr := []) (xp_idx (n := 2) [0, 1] (by decide +kernel) rfl rfl) (c_G_now0 l D q A z ob2_82 le (by first | assumption | omega) (by first | assumption | omega)) (cwV 2 F.1.2.2.2.2 gL_areAll_X7_now rfl rfl rfl (by decide +kernel) ⟨Nat.le_of_ble_eq_true rfl, Nat.le_of_ble_eq_true rfl⟩) rfl rfl (r0 := 0) (ci := 7) (T := TX7) (N := 8) rfl rfl hl.1 ⟨Nat.le_of_ble_eq_true rfl, Nat.le_of_ble_eq_true rfl⟩ (Nat.le_of_ble_eq_true rfl) dL_areAll_89 (fun r_89 g1 H locs hp X => ?_)
          obtain ⟨ob2_89, rfl, rfl, hob2_89⟩ := hp
          have X : xS D A9 s9 [xoA q A, ob2_89] H locs := X
          refine lv_icmp_ge (tgt := 100) hx hb dL_areAll_92 (by decide) (fun c_92 => ?_) (fun c_92 => ?_)
          · refine lv_iload hx hb dL_areAll_100 (lv_at hl 5 rfl) ?_
            refine lv_istore (lv' := [(5, .int (nI le)), (4, .int (se ||| 0)), (3, .int (ha + (x_hc (zS z) (tF (zS z)) i))), (2, .int (pe + (x_tP (zS z) i))), (7, .int (nI i)), (6, .int wi), (1, .int (nI (tN (zS z)))), (0, .ref (A.1 0))]) hx hb dL_areAll_102 hl (by decide) rfl (fun ls hl => ?_)
            refine lv_aload_n hx hb dL_areAll_104 rfl (lv_at hl 7 rfl) ?_
            refine lv_iload hx hb dL_areAll_105 (lv_at hl 4 rfl) ?_
            refine lv_iconst (v := 5) hx hb dL_areAll_107 (by decide) ?_
            refine x_cVi F X (gc := [xoA q A, ob2_89]) (gr := []) (xp_idx (n := 2) [0, 1] (by decide +kernel) rfl rfl) (c_G_of5 l D q A z ob2_89 i (by first | assumption | omega) (by first | assumption | omega)) (cwV 2 F.1.2.2.2.2 gL_areAll_X7_of rfl rfl rfl (by decide +kernel) ⟨Nat.le_of_ble_eq_true rfl, Nat.le_of_ble_eq_true rfl⟩) rfl rfl (r0 := 0) (ci := 7) (T := TX7) (N := 8) rfl rfl hl.1 ⟨Nat.le_of_ble_eq_true rfl, Nat.le_of_ble_eq_true rfl⟩ (Nat.le_of_ble_eq_true rfl) dL_areAll_108 (fun r_108 g1 H locs hp X => ?_)
            obtain ⟨ob2_108, rfl, rfl, hob2_108⟩ := hp
            have X : xS D A9 s9 [xoA q A, ob2_108] H locs := X
            refine lv_if_ne (tgt := 118) hx hb dL_areAll_111 (by decide) (fun c_111 => ?_) (fun c_111 => ?_)
            · refine lv_iconst (v := 0) hx hb dL_areAll_118 (by decide) ?_
              refine lv_istore (lv' := [(8, .int 0), (5, .int (nI le)), (4, .int (se ||| 0)), (3, .int (ha + (x_hc (zS z) (tF (zS z)) i))), (2, .int (pe + (x_tP (zS z) i))), (7, .int (nI i)), (6, .int wi), (1, .int (nI (tN (zS z)))), (0, .ref (A.1 0))]) hx hb dL_areAll_119 hl (by decide) rfl (fun ls hl => ?_)
              refine lv_iload hx hb dL_areAll_121 (lv_at hl 0 rfl) ?_
              refine lv_if_eq (tgt := 153) hx hb dL_areAll_123 (by decide) (fun _ => ?_) (fun h => absurd (by decide) h)
              refine lv_iload hx hb dL_areAll_153 (lv_at hl 6 rfl) ?_
              refine lv_istore (lv' := [(6, .int wi), (8, .int 0), (5, .int (nI le)), (4, .int (se ||| 0)), (3, .int (ha + (x_hc (zS z) (tF (zS z)) i))), (2, .int (pe + (x_tP (zS z) i))), (7, .int (nI i)), (1, .int (nI (tN (zS z)))), (0, .ref (A.1 0))]) hx hb dL_areAll_155 hl (by decide) rfl (fun ls hl => ?_)
              refine lv_iinc (v := (nI (i + 1))) (lv' := [(7, .int (nI (i + 1))), (6, .int wi), (8, .int 0), (5, .int (nI le)), (4, .int (se ||| 0)), (3, .int (ha + (x_hc (zS z) (tF (zS z)) i))), (2, .int (pe + (x_tP (zS z) i))), (1, .int (nI (tN (zS z)))), (0, .ref (A.1 0))]) hx hb dL_areAll_157 hl (k := 6) rfl (nI_add i 1) (by decide) rfl (fun ls hl => ?_)
              refine lv_goto (tgt := 22) hx hb dL_areAll_160 (by decide) ?_
              exact ih_22 _ (i + 1) le _ _ _ wi _ _ _ X (lv_sub hl [0, 1, 3, 4, 5, 6, 7, 8] rfl) (by omega) (by assumption) (by omega) (by rw [hpe]; rfl) (by rw [hha]; rfl) (by exact xv_s0 hse c_64) (by exact xv_l1 hle c_92) (by omega) (by exact xw_n hwi c_111)
            · refine lv_iconst (v := 1) hx hb dL_areAll_114 (by decide) ?_
              refine lv_goto (tgt := 119) hx hb dL_areAll_115 (by decide) ?_
              refine lv_istore (lv' := [(8, .int 1), (5, .int (nI le)), (4, .int (se ||| 0)), (3, .int (ha + (x_hc (zS z) (tF (zS z)) i))), (2, .int (pe + (x_tP (zS z) i))), (7, .int (nI i)), (6, .int wi), (1, .int (nI (tN (zS z)))), (0, .ref (A.1 0))]) hx hb dL_areAll_119 hl (by decide) rfl (fun ls hl => ?_)
              refine lv_iload hx hb dL_areAll_121 (lv_at hl 0 rfl) ?_
              refine lv_if_eq (tgt := 153) hx hb dL_areAll_123 (by decide) (fun h => absurd h (by decide)) (fun _ => ?_)
              refine lv_iload hx hb dL_areAll_126 (lv_at hl 6 rfl) ?_
              refine lv_if_lt (tgt := 148) hx hb dL_areAll_128 (by decide) (fun c_128 => ?_) (fun c_128 => ?_)
              · refine lv_iload hx hb dL_areAll_148 (lv_at hl 5 rfl) ?_
                refine lv_goto (tgt := 155) hx hb dL_areAll_150 (by decide) ?_
                refine lv_istore (lv' := [(6, .int (nI i)), (8, .int 1), (5, .int (nI le)), (4, .int (se ||| 0)), (3, .int (ha + (x_hc (zS z) (tF (zS z)) i))), (2, .int (pe + (x_tP (zS z) i))), (7, .int (nI i)), (1, .int (nI (tN (zS z)))), (0, .ref (A.1 0))]) hx hb dL_areAll_155 hl (by decide) rfl (fun ls hl => ?_)
                refine lv_iinc (v := (nI (i + 1))) (lv' := [(7, .int (nI (i + 1))), (6, .int (nI i)), (8, .int 1), (5, .int (nI le)), (4, .int (se ||| 0)), (3, .int (ha + (x_hc (zS z) (tF (zS z)) i))), (2, .int (pe + (x_tP (zS z) i))), (1, .int (nI (tN (zS z)))), (0, .ref (A.1 0))]) hx hb dL_areAll_157 hl (k := 6) rfl (nI_add i 1) (by decide) rfl (fun ls hl => ?_)
                refine lv_goto (tgt := 22) hx hb dL_areAll_160 (by decide) ?_
                exact ih_22 _ (i + 1) le _ _ _ (nI i) _ _ _ X (lv_sub hl [0, 1, 3, 4, 5, 6, 7, 8] rfl) (by omega) (by assumption) (by omega) (by rw [hpe]; rfl) (by rw [hha]; rfl) (by exact xv_s0 hse c_64) (by exact xv_l1 hle c_92) (by omega) (by exact xw_f hwi c_111 c_128 c_25 (by omega))
              · rcases hwi with ⟨e1, e2⟩ | ⟨j, hj, e1, rfl⟩
                · exact absurd (by rw [e2]; decide) c_128
                refine lv_aload_n hx hb dL_areAll_131 rfl (lv_at hl 8 rfl) ?_
                refine lv_iload hx hb dL_areAll_132 (lv_at hl 5 rfl) ?_
                refine lv_iconst (v := 0) hx hb dL_areAll_134 (by decide) ?_
                refine x_cVi F X (gc := [xoA q A, ob2_108]) (gr := []) (xp_idx (n := 2) [0, 1] (by decide +kernel) rfl rfl) (c_G_now0 l D q A z ob2_108 i (by first | assumption | omega) (by first | assumption | omega)) (cwV 2 F.1.2.2.2.2 gL_areAll_X7_now rfl rfl rfl (by decide +kernel) ⟨Nat.le_of_ble_eq_true rfl, Nat.le_of_ble_eq_true rfl⟩) rfl rfl (r0 := 0) (ci := 7) (T := TX7) (N := 8) rfl rfl hl.1 ⟨Nat.le_of_ble_eq_true rfl, Nat.le_of_ble_eq_true rfl⟩ (Nat.le_of_ble_eq_true rfl) dL_areAll_135 (fun r_135 g1 H locs hp X => ?_)
                obtain ⟨ob2_135, rfl, rfl, hob2_135⟩ := hp
                have X : xS D A9 s9 [xoA q A, ob2_135] H locs := X
                refine lv_aload_n hx hb dL_areAll_138 rfl (lv_at hl 8 rfl) ?_
                refine lv_iload hx hb dL_areAll_139 (lv_at hl 6 rfl) ?_
                refine lv_iconst (v := 0) hx hb dL_areAll_141 (by decide) ?_
                refine x_cVi F X (gc := [xoA q A, ob2_135]) (gr := []) (xp_idx (n := 2) [0, 1] (by decide +kernel) rfl rfl) (c_G_now0 l D q A z ob2_135 j (by first | assumption | omega) (by first | assumption | omega)) (cwV 2 F.1.2.2.2.2 gL_areAll_X7_now rfl rfl rfl (by decide +kernel) ⟨Nat.le_of_ble_eq_true rfl, Nat.le_of_ble_eq_true rfl⟩) rfl rfl (r0 := 0) (ci := 7) (T := TX7) (N := 8) rfl rfl hl.1 ⟨Nat.le_of_ble_eq_true rfl, Nat.le_of_ble_eq_true rfl⟩ (Nat.le_of_ble_eq_true rfl) dL_areAll_142 (fun r_142 g1 H locs hp X => ?_)
                obtain ⟨ob2_142, rfl, rfl, hob2_142⟩ := hp
                have X : xS D A9 s9 [xoA q A, ob2_142] H locs := X
                refine lv_icmp_le (tgt := 153) hx hb dL_areAll_145 (by decide) (fun c_145 => ?_) (fun c_145 => ?_)
                · refine lv_iload hx hb dL_areAll_153 (lv_at hl 6 rfl) ?_
                  refine lv_istore (lv' := [(6, .int (nI j)), (8, .int 1), (5, .int (nI le)), (4, .int (se ||| 0)), (3, .int (ha + (x_hc (zS z) (tF (zS z)) i))), (2, .int (pe + (x_tP (zS z) i))), (7, .int (nI i)), (1, .int (nI (tN (zS z)))), (0, .ref (A.1 0))]) hx hb dL_areAll_155 hl (by decide) rfl (fun ls hl => ?_)
                  refine lv_iinc (v := (nI (i + 1))) (lv' := [(7, .int (nI (i + 1))), (6, .int (nI j)), (8, .int 1), (5, .int (nI le)), (4, .int (se ||| 0)), (3, .int (ha + (x_hc (zS z) (tF (zS z)) i))), (2, .int (pe + (x_tP (zS z) i))), (1, .int (nI (tN (zS z)))), (0, .ref (A.1 0))]) hx hb dL_areAll_157 hl (k := 6) rfl (nI_add i 1) (by decide) rfl (fun ls hl => ?_)
                  refine lv_goto (tgt := 22) hx hb dL_areAll_160 (by decide) ?_
                  exact ih_22 _ (i + 1) le _ _ _ (nI j) _ _ _ X (lv_sub hl [0, 1, 3, 4, 5, 6, 7, 8] rfl) (by omega) (by assumption) (by omega) (by rw [hpe]; rfl) (by rw [hha]; rfl) (by exact xv_s0 hse c_64) (by exact xv_l1 hle c_92) (by omega) (by exact xw_k e1 hj c_145 (by omega))
                · refine lv_iload hx hb dL_areAll_148 (lv_at hl 5 rfl) ?_
                  refine lv_goto (tgt := 155) hx hb dL_areAll_150 (by decide) ?_
                  refine lv_istore (lv' := [(6, .int (nI i)), (8, .int 1), (5, .int (nI le)), (4, .int (se ||| 0)), (3, .int (ha + (x_hc (zS z) (tF (zS z)) i))), (2, .int (pe + (x_tP (zS z) i))), (7, .int (nI i)), (1, .int (nI (tN (zS z)))), (0, .ref (A.1 0))]) hx hb dL_areAll_155 hl (by decide) rfl (fun ls hl => ?_)
                  refine lv_iinc (v := (nI (i + 1))) (lv' := [(7, .int (nI (i + 1))), (6, .int (nI i)), (8, .int 1), (5, .int (nI le)), (4, .int (se ||| 0)), (3, .int (ha + (x_hc (zS z) (tF (zS z)) i))), (2, .int (pe + (x_tP (zS z) i))), (1, .int (nI (tN (zS z)))), (0, .ref (A.1 0))]) hx hb dL_areAll_157 hl (k := 6) rfl (nI_add i 1) (by decide) rfl (fun ls hl => ?_)
                  refine lv_goto (tgt := 22) hx hb dL_areAll_160 (by decide) ?_
                  exact ih_22 _ (i + 1) le _ _ _ (nI i) _ _ _ X (lv_sub hl [0, 1, 3, 4, 5, 6, 7, 8] rfl) (by omega) (by assumption) (by omega) (by rw [hpe]; rfl) (by rw [hha]; rfl) (by exact xv_s0 hse c_64) (by exact xv_l1 hle c_92) (by omega) (by exact xw_y e1 hj c_111 c_145 c_25 (by omega))
          · refine lv_iload hx hb dL_areAll_95 (lv_at hl 3 rfl) ?_
            refine lv_goto (tgt := 102) hx hb dL_areAll_97 (by decide) ?_
            refine lv_istore (lv' := [(5, .int (nI i)), (4, .int (se ||| 0)), (3, .int (ha + (x_hc (zS z) (tF (zS z)) i))), (2, .int (pe + (x_tP (zS z) i))), (7, .int (nI i)), (6, .int wi), (1, .int (nI (tN (zS z)))), (0, .ref (A.1 0))]) hx hb dL_areAll_102 hl (by decide) rfl (fun ls hl => ?_)
            refine lv_aload_n hx hb dL_areAll_104 rfl (lv_at hl 7 rfl) ?_
            refine lv_iload hx hb dL_areAll_105 (lv_at hl 4 rfl) ?_
            refine lv_iconst (v := 5) hx hb dL_areAll_107 (by decide) ?_
            refine x_cVi F X (gc := [xoA q A, ob2_89]) (gr := []) (xp_idx (n := 2) [0, 1] (by decide +kernel) rfl rfl) (c_G_of5 l D q A z ob2_89 i (by first | assumption | omega) (by first | assumption | omega)) (cwV 2 F.1.2.2.2.2 gL_areAll_X7_of rfl rfl rfl (by decide +kernel) ⟨Nat.le_of_ble_eq_true rfl, Nat.le_of_ble_eq_true rfl⟩) rfl rfl (r0 := 0) (ci := 7) (T := TX7) (N := 8) rfl rfl hl.1 ⟨Nat.le_of_ble_eq_true rfl, Nat.le_of_ble_eq_true rfl⟩ (Nat.le_of_ble_eq_true rfl) dL_areAll_108 (fun r_108 g1 H locs hp X => ?_)
            obtain ⟨ob2_108, rfl, rfl, hob2_108⟩ := hp
            have X : xS D A9 s9 [xoA q A, ob2_108] H locs := X
            refine lv_if_ne (tgt := 118) hx hb dL_areAll_111 (by decide) (fun c_111 => ?_) (fun c_111 => ?_)
            · refine lv_iconst (v := 0) hx hb dL_areAll_118 (by decide) ?_
              refine lv_istore (lv' := [(8, .int 0), (5, .int (nI i)), (4, .int (se ||| 0)), (3, .int (ha + (x_hc (zS z) (tF (zS z)) i))), (2, .int (pe + (x_tP (zS z) i))), (7, .int (nI i)), (6, .int wi), (1, .int (nI (tN (zS z)))), (0, .ref (A.1 0))]) hx hb dL_areAll_119 hl (by decide) rfl (fun ls hl => ?_)
              refine lv_iload hx hb dL_areAll_121 (lv_at hl 0 rfl) ?_
              refine lv_if_eq (tgt := 153) hx hb dL_areAll_123 (by decide) (fun _ => ?_) (fun h => absurd (by decide) h)
              refine lv_iload hx hb dL_areAll_153 (lv_at hl 6 rfl) ?_
              refine lv_istore (lv' := [(6, .int wi), (8, .int 0), (5, .int (nI i)), (4, .int (se ||| 0)), (3, .int (ha + (x_hc (zS z) (tF (zS z)) i))), (2, .int (pe + (x_tP (zS z) i))), (7, .int (nI i)), (1, .int (nI (tN (zS z)))), (0, .ref (A.1 0))]) hx hb dL_areAll_155 hl (by decide) rfl (fun ls hl => ?_)
              refine lv_iinc (v := (nI (i + 1))) (lv' := [(7, .int (nI (i + 1))), (6, .int wi), (8, .int 0), (5, .int (nI i)), (4, .int (se ||| 0)), (3, .int (ha + (x_hc (zS z) (tF (zS z)) i))), (2, .int (pe + (x_tP (zS z) i))), (1, .int (nI (tN (zS z)))), (0, .ref (A.1 0))]) hx hb dL_areAll_157 hl (k := 6) rfl (nI_add i 1) (by decide) rfl (fun ls hl => ?_)
              refine lv_goto (tgt := 22) hx hb dL_areAll_160 (by decide) ?_
              exact ih_22 _ (i + 1) i _ _ _ wi _ _ _ X (lv_sub hl [0, 1, 3, 4, 5, 6, 7, 8] rfl) (by omega) (by assumption) (by omega) (by rw [hpe]; rfl) (by rw [hha]; rfl) (by exact xv_s0 hse c_64) (by exact xv_l2 hle c_92) (by omega) (by exact xw_n hwi c_111)
            · refine lv_iconst (v := 1) hx hb dL_areAll_114 (by decide) ?_
              refine lv_goto (tgt := 119) hx hb dL_areAll_115 (by decide) ?_
              refine lv_istore (lv' := [(8, .int 1), (5, .int (nI i)), (4, .int (se ||| 0)), (3, .int (ha + (x_hc (zS z) (tF (zS z)) i))), (2, .int (pe + (x_tP (zS z) i))), (7, .int (nI i)), (6, .int wi), (1, .int (nI (tN (zS z)))), (0, .ref (A.1 0))]) hx hb dL_areAll_119 hl (by decide) rfl (fun ls hl => ?_)
              refine lv_iload hx hb dL_areAll_121 (lv_at hl 0 rfl) ?_
              refine lv_if_eq (tgt := 153) hx hb dL_areAll_123 (by decide) (fun h => absurd h (by decide)) (fun _ => ?_)
              refine lv_iload hx hb dL_areAll_126 (lv_at hl 6 rfl) ?_
              refine lv_if_lt (tgt := 148) hx hb dL_areAll_128 (by decide) (fun c_128 => ?_) (fun c_128 => ?_)
              · refine lv_iload hx hb dL_areAll_148 (lv_at hl 5 rfl) ?_
                refine lv_goto (tgt := 155) hx hb dL_areAll_150 (by decide) ?_
                refine lv_istore (lv' := [(6, .int (nI i)), (8, .int 1), (5, .int (nI i)), (4, .int (se ||| 0)), (3, .int (ha + (x_hc (zS z) (tF (zS z)) i))), (2, .int (pe + (x_tP (zS z) i))), (7, .int (nI i)), (1, .int (nI (tN (zS z)))), (0, .ref (A.1 0))]) hx hb dL_areAll_155 hl (by decide) rfl (fun ls hl => ?_)
                refine lv_iinc (v := (nI (i + 1))) (lv' := [(7, .int (nI (i + 1))), (6, .int (nI i)), (8, .int 1), (5, .int (nI i)), (4, .int (se ||| 0)), (3, .int (ha + (x_hc (zS z) (tF (zS z)) i))), (2, .int (pe + (x_tP (zS z) i))), (1, .int (nI (tN (zS z)))), (0, .ref (A.1 0))]) hx hb dL_areAll_157 hl (k := 6) rfl (nI_add i 1) (by decide) rfl (fun ls hl => ?_)
                refine lv_goto (tgt := 22) hx hb dL_areAll_160 (by decide) ?_
                exact ih_22 _ (i + 1) i _ _ _ (nI i) _ _ _ X (lv_sub hl [0, 1, 3, 4, 5, 6, 7, 8] rfl) (by omega) (by assumption) (by omega) (by rw [hpe]; rfl) (by rw [hha]; rfl) (by exact xv_s0 hse c_64) (by exact xv_l2 hle c_92) (by omega) (by exact xw_f hwi c_111 c_128 c_25 (by omega))
              · rcases hwi with ⟨e1, e2⟩ | ⟨j, hj, e1, rfl⟩
                · exact absurd (by rw [e2]; decide) c_128
                refine lv_aload_n hx hb dL_areAll_131 rfl (lv_at hl 8 rfl) ?_
                refine lv_iload hx hb dL_areAll_132 (lv_at hl 5 rfl) ?_
                refine lv_iconst (v := 0) hx hb dL_areAll_134 (by decide) ?_
                refine x_cVi F X (gc := [xoA q A, ob2_108]) (gr := []) (xp_idx (n := 2) [0, 1] (by decide +kernel) rfl rfl) (c_G_now0 l D q A z ob2_108 i (by first | assumption | omega) (by first | assumption | omega)) (cwV 2 F.1.2.2.2.2 gL_areAll_X7_now rfl rfl rfl (by decide +kernel) ⟨Nat.le_of_ble_eq_true rfl, Nat.le_of_ble_eq_true rfl⟩) rfl rfl (r0 := 0) (ci := 7) (T := TX7) (N := 8) rfl rfl hl.1 ⟨Nat.le_of_ble_eq_true rfl, Nat.le_of_ble_eq_true rfl⟩ (Nat.le_of_ble_eq_true rfl) dL_areAll_135 (fun r_135 g1 H locs hp X => ?_)
                obtain ⟨ob2_135, rfl, rfl, hob2_135⟩ := hp
                have X : xS D A9 s9 [xoA q A, ob2_135] H locs := X
                refine lv_aload_n hx hb dL_areAll_138 rfl (lv_at hl 8 rfl) ?_
                refine lv_iload hx hb dL_areAll_139 (lv_at hl 6 rfl) ?_
                refine lv_iconst (v := 0) hx hb dL_areAll_141 (by decide) ?_
                refine x_cVi F X (gc := [xoA q A, ob2_135]) (gr := []) (xp_idx (n := 2) [0, 1] (by decide +kernel) rfl rfl) (c_G_now0 l D q A z ob2_135 j (by first | assumption | omega) (by first | assumption | omega)) (cwV 2 F.1.2.2.2.2 gL_areAll_X7_now rfl rfl rfl (by decide +kernel) ⟨Nat.le_of_ble_eq_true rfl, Nat.le_of_ble_eq_true rfl⟩) rfl rfl (r0 := 0) (ci := 7) (T := TX7) (N := 8) rfl rfl hl.1 ⟨Nat.le_of_ble_eq_true rfl, Nat.le_of_ble_eq_true rfl⟩ (Nat.le_of_ble_eq_true rfl) dL_areAll_142 (fun r_142 g1 H locs hp X => ?_)
                obtain ⟨ob2_142, rfl, rfl, hob2_142⟩ := hp
                have X : xS D A9 s9 [xoA q A, ob2_142] H locs := X
                refine lv_icmp_le (tgt := 153) hx hb dL_areAll_145 (by decide) (fun c_145 => ?_) (fun c_145 => ?_)
                · refine lv_iload hx hb dL_areAll_153 (lv_at hl 6 rfl) ?_
                  refine lv_istore (lv' := [(6, .int (nI j)), (8, .int 1), (5, .int (nI i)), (4, .int (se ||| 0)), (3, .int (ha + (x_hc (zS z) (tF (zS z)) i))), (2, .int (pe + (x_tP (zS z) i))), (7, .int (nI i)), (1, .int (nI (tN (zS z)))), (0, .ref (A.1 0))]) hx hb dL_areAll_155 hl (by decide) rfl (fun ls hl => ?_)
                  refine lv_iinc (v := (nI (i + 1))) (lv' := [(7, .int (nI (i + 1))), (6, .int (nI j)), (8, .int 1), (5, .int (nI i)), (4, .int (se ||| 0)), (3, .int (ha + (x_hc (zS z) (tF (zS z)) i))), (2, .int (pe + (x_tP (zS z) i))), (1, .int (nI (tN (zS z)))), (0, .ref (A.1 0))]) hx hb dL_areAll_157 hl (k := 6) rfl (nI_add i 1) (by decide) rfl (fun ls hl => ?_)
                  refine lv_goto (tgt := 22) hx hb dL_areAll_160 (by decide) ?_
                  exact ih_22 _ (i + 1) i _ _ _ (nI j) _ _ _ X (lv_sub hl [0, 1, 3, 4, 5, 6, 7, 8] rfl) (by omega) (by assumption) (by omega) (by rw [hpe]; rfl) (by rw [hha]; rfl) (by exact xv_s0 hse c_64) (by exact xv_l2 hle c_92) (by omega) (by exact xw_k e1 hj c_145 (by omega))
                · refine lv_iload hx hb dL_areAll_148 (lv_at hl 5 rfl) ?_
                  refine lv_goto (tgt := 155) hx hb dL_areAll_150 (by decide) ?_
                  refine lv_istore (lv' := [(6, .int (nI i)), (8, .int 1), (5, .int (nI i)), (4, .int (se ||| 0)), (3, .int (ha + (x_hc (zS z) (tF (zS z)) i))), (2, .int (pe + (x_tP (zS z) i))), (7, .int (nI i)), (1, .int (nI (tN (zS z)))), (0, .ref (A.1 0))]) hx hb dL_areAll_155 hl (by decide) rfl (fun ls hl => ?_)
                  refine lv_iinc (v := (nI (i + 1))) (lv' := [(7, .int (nI (i + 1))), (6, .int (nI i)), (8, .int 1), (5, .int (nI i)), (4, .int (se ||| 0)), (3, .int (ha + (x_hc (zS z) (tF (zS z)) i))), (2, .int (pe + (x_tP (zS z) i))), (1, .int (nI (tN (zS z)))), (0, .ref (A.1 0))]) hx hb dL_areAll_157 hl (k := 6) rfl (nI_add i 1) (by decide) rfl (fun ls hl => ?_)
                  refine lv_goto (tgt := 22) hx hb dL_areAll_160 (by decide) ?_
                  exact ih_22 _ (i + 1) i _ _ _ (nI i) _ _ _ X (lv_sub hl [0, 1, 3, 4, 5, 6, 7, 8] rfl) (by omega) (by assumption) (by omega) (by rw [hpe]; rfl) (by rw [hha]; rfl) (by exact xv_s0 hse c_64) (by exact xv_l2 hle c_92) (by omega) (by exact xw_y e1 hj c_111 c_145 c_25 (by omega))
        · refine lv_iconst (v := 1) hx hb dL_areAll_67 (by decide) ?_
          refine lv_iload hx hb dL_areAll_68 (lv_at hl 2 rfl) ?_
          refine lv_ishl hx hb dL_areAll_70 ?_
          refine lv_goto (tgt := 75) hx hb dL_areAll_71 (by decide) ?_
          refine lv_ior hx hb dL_areAll_75 ?_
          refine lv_istore (lv' := [(4, .int (se ||| (1 <<< ((nI i) &&& 31)))), (3, .int (ha + (x_hc (zS z) (tF (zS z)) i))), (2, .int (pe + (x_tP (zS z) i))), (7, .int (nI i)), (6, .int wi), (5, .int (nI le)), (1, .int (nI (tN (zS z)))), (0, .ref (A.1 0))]) hx hb dL_areAll_76 hl (by decide) rfl (fun ls hl => ?_)
          refine lv_aload_n hx hb dL_areAll_78 rfl (lv_at hl 7 rfl) ?_
          refine lv_iload hx hb dL_areAll_79 (lv_at hl 3 rfl) ?_
          refine lv_iconst (v := 0) hx hb dL_areAll_81 (by decide) ?_
          refine x_cVi F X (gc := [xoA q A, ob2_61]) (gr := []) (xp_idx (n := 2) [0, 1] (by decide +kernel) rfl rfl) (c_G_now0 l D q A z ob2_61 i (by first | assumption | omega) (by first | assumption | omega)) (cwV 2 F.1.2.2.2.2 gL_areAll_X7_now rfl rfl rfl (by decide +kernel) ⟨Nat.le_of_ble_eq_true rfl, Nat.le_of_ble_eq_true rfl⟩) rfl rfl (r0 := 0) (ci := 7) (T := TX7) (N := 8) rfl rfl hl.1 ⟨Nat.le_of_ble_eq_true rfl, Nat.le_of_ble_eq_true rfl⟩ (Nat.le_of_ble_eq_true rfl) dL_areAll_82 (fun r_82 g1 H locs hp X => ?_)
          obtain ⟨ob2_82, rfl, rfl, hob2_82⟩ := hp
          have X : xS D A9 s9 [xoA q A, ob2_82] H locs := X
          refine lv_aload_n hx hb dL_areAll_85 rfl (lv_at hl 7 rfl) ?_
          refine lv_iload hx hb dL_areAll_86 (lv_at hl 5 rfl) ?_
          refine lv_iconst (v := 0) hx hb dL_areAll_88 (by decide) ?_
          refine x_cVi F X (gc := [xoA q A, ob2_82]) (gr := []) (xp_idx (n := 2) [0, 1] (by decide +kernel) rfl rfl) (c_G_now0 l D q A z ob2_82 le (by first | assumption | omega) (by first | assumption | omega)) (cwV 2 F.1.2.2.2.2 gL_areAll_X7_now rfl rfl rfl (by decide +kernel) ⟨Nat.le_of_ble_eq_true rfl, Nat.le_of_ble_eq_true rfl⟩) rfl rfl (r0 := 0) (ci := 7) (T := TX7) (N := 8) rfl rfl hl.1 ⟨Nat.le_of_ble_eq_true rfl, Nat.le_of_ble_eq_true rfl⟩ (Nat.le_of_ble_eq_true rfl) dL_areAll_89 (fun r_89 g1 H locs hp X => ?_)
          obtain ⟨ob2_89, rfl, rfl, hob2_89⟩ := hp
          have X : xS D A9 s9 [xoA q A, ob2_89] H locs := X
          refine lv_icmp_ge (tgt := 100) hx hb dL_areAll_92 (by decide) (fun c_92 => ?_) (fun c_92 => ?_)
          · refine lv_iload hx hb dL_areAll_100 (lv_at hl 5 rfl) ?_
            refine lv_istore (lv' := [(5, .int (nI le)), (4, .int (se ||| (1 <<< ((nI i) &&& 31)))), (3, .int (ha + (x_hc (zS z) (tF (zS z)) i))), (2, .int (pe + (x_tP (zS z) i))), (7, .int (nI i)), (6, .int wi), (1, .int (nI (tN (zS z)))), (0, .ref (A.1 0))]) hx hb dL_areAll_102 hl (by decide) rfl (fun ls hl => ?_)
            refine lv_aload_n hx hb dL_areAll_104 rfl (lv_at hl 7 rfl) ?_
            refine lv_iload hx hb dL_areAll_105 (lv_at hl 4 rfl) ?_
            refine lv_iconst (v := 5) hx hb dL_areAll_107 (by decide) ?_
            refine x_cVi F X (gc := [xoA q A, ob2_89]) (gr := []) (xp_idx (n := 2) [0, 1] (by decide +kernel) rfl rfl) (c_G_of5 l D q A z ob2_89 i (by first | assumption | omega) (by first | assumption | omega)) (cwV 2 F.1.2.2.2.2 gL_areAll_X7_of rfl rfl rfl (by decide +kernel) ⟨Nat.le_of_ble_eq_true rfl, Nat.le_of_ble_eq_true rfl⟩) rfl rfl (r0 := 0) (ci := 7) (T := TX7) (N := 8) rfl rfl hl.1 ⟨Nat.le_of_ble_eq_true rfl, Nat.le_of_ble_eq_true rfl⟩ (Nat.le_of_ble_eq_true rfl) dL_areAll_108 (fun r_108 g1 H locs hp X => ?_)
            obtain ⟨ob2_108, rfl, rfl, hob2_108⟩ := hp
            have X : xS D A9 s9 [xoA q A, ob2_108] H locs := X
            refine lv_if_ne (tgt := 118) hx hb dL_areAll_111 (by decide) (fun c_111 => ?_) (fun c_111 => ?_)
            · refine lv_iconst (v := 0) hx hb dL_areAll_118 (by decide) ?_
              refine lv_istore (lv' := [(8, .int 0), (5, .int (nI le)), (4, .int (se ||| (1 <<< ((nI i) &&& 31)))), (3, .int (ha + (x_hc (zS z) (tF (zS z)) i))), (2, .int (pe + (x_tP (zS z) i))), (7, .int (nI i)), (6, .int wi), (1, .int (nI (tN (zS z)))), (0, .ref (A.1 0))]) hx hb dL_areAll_119 hl (by decide) rfl (fun ls hl => ?_)
              refine lv_iload hx hb dL_areAll_121 (lv_at hl 0 rfl) ?_
              refine lv_if_eq (tgt := 153) hx hb dL_areAll_123 (by decide) (fun _ => ?_) (fun h => absurd (by decide) h)
              refine lv_iload hx hb dL_areAll_153 (lv_at hl 6 rfl) ?_
              refine lv_istore (lv' := [(6, .int wi), (8, .int 0), (5, .int (nI le)), (4, .int (se ||| (1 <<< ((nI i) &&& 31)))), (3, .int (ha + (x_hc (zS z) (tF (zS z)) i))), (2, .int (pe + (x_tP (zS z) i))), (7, .int (nI i)), (1, .int (nI (tN (zS z)))), (0, .ref (A.1 0))]) hx hb dL_areAll_155 hl (by decide) rfl (fun ls hl => ?_)
              refine lv_iinc (v := (nI (i + 1))) (lv' := [(7, .int (nI (i + 1))), (6, .int wi), (8, .int 0), (5, .int (nI le)), (4, .int (se ||| (1 <<< ((nI i) &&& 31)))), (3, .int (ha + (x_hc (zS z) (tF (zS z)) i))), (2, .int (pe + (x_tP (zS z) i))), (1, .int (nI (tN (zS z)))), (0, .ref (A.1 0))]) hx hb dL_areAll_157 hl (k := 6) rfl (nI_add i 1) (by decide) rfl (fun ls hl => ?_)
              refine lv_goto (tgt := 22) hx hb dL_areAll_160 (by decide) ?_
              exact ih_22 _ (i + 1) le _ _ _ wi _ _ _ X (lv_sub hl [0, 1, 3, 4, 5, 6, 7, 8] rfl) (by omega) (by assumption) (by omega) (by rw [hpe]; rfl) (by rw [hha]; rfl) (by exact xv_s1 hse c_64) (by exact xv_l1 hle c_92) (by omega) (by exact xw_n hwi c_111)
            · refine lv_iconst (v := 1) hx hb dL_areAll_114 (by decide) ?_
              refine lv_goto (tgt := 119) hx hb dL_areAll_115 (by decide) ?_
              refine lv_istore (lv' := [(8, .int 1), (5, .int (nI le)), (4, .int (se ||| (1 <<< ((nI i) &&& 31)))), (3, .int (ha + (x_hc (zS z) (tF (zS z)) i))), (2, .int (pe + (x_tP (zS z) i))), (7, .int (nI i)), (6, .int wi), (1, .int (nI (tN (zS z)))), (0, .ref (A.1 0))]) hx hb dL_areAll_119 hl (by decide) rfl (fun ls hl => ?_)
              refine lv_iload hx hb dL_areAll_121 (lv_at hl 0 rfl) ?_
              refine lv_if_eq (tgt := 153) hx hb dL_areAll_123 (by decide) (fun h => absurd h (by decide)) (fun _ => ?_)
              refine lv_iload hx hb dL_areAll_126 (lv_at hl 6 rfl) ?_
              refine lv_if_lt (tgt := 148) hx hb dL_areAll_128 (by decide) (fun c_128 => ?_) (fun c_128 => ?_)
              · refine lv_iload hx hb dL_areAll_148 (lv_at hl 5 rfl) ?_
                refine lv_goto (tgt := 155) hx hb dL_areAll_150 (by decide) ?_
                refine lv_istore (lv' := [(6, .int (nI i)), (8, .int 1), (5, .int (nI le)), (4, .int (se ||| (1 <<< ((nI i) &&& 31)))), (3, .int (ha + (x_hc (zS z) (tF (zS z)) i))), (2, .int (pe + (x_tP (zS z) i))), (7, .int (nI i)), (1, .int (nI (tN (zS z)))), (0, .ref (A.1 0))]) hx hb dL_areAll_155 hl (by decide) rfl (fun ls hl => ?_)
                refine lv_iinc (v := (nI (i + 1))) (lv' := [(7, .int (nI (i + 1))), (6, .int (nI i)), (8, .int 1), (5, .int (nI le)), (4, .int (se ||| (1 <<< ((nI i) &&& 31)))), (3, .int (ha + (x_hc (zS z) (tF (zS z)) i))), (2, .int (pe + (x_tP (zS z) i))), (1, .int (nI (tN (zS z)))), (0, .ref (A.1 0))]) hx hb dL_areAll_157 hl (k := 6) rfl (nI_add i 1) (by decide) rfl (fun ls hl => ?_)
                refine lv_goto (tgt := 22) hx hb dL_areAll_160 (by decide) ?_
                exact ih_22 _ (i + 1) le _ _ _ (nI i) _ _ _ X (lv_sub hl [0, 1, 3, 4, 5, 6, 7, 8] rfl) (by omega) (by assumption) (by omega) (by rw [hpe]; rfl) (by rw [hha]; rfl) (by exact xv_s1 hse c_64) (by exact xv_l1 hle c_92) (by omega) (by exact xw_f hwi c_111 c_128 c_25 (by omega))
              · rcases hwi with ⟨e1, e2⟩ | ⟨j, hj, e1, rfl⟩
                · exact absurd (by rw [e2]; decide) c_128
                refine lv_aload_n hx hb dL_areAll_131 rfl (lv_at hl 8 rfl) ?_
                refine lv_iload hx hb dL_areAll_132 (lv_at hl 5 rfl) ?_
                refine lv_iconst (v := 0) hx hb dL_areAll_134 (by decide) ?_
                refine x_cVi F X (gc := [xoA q A, ob2_108]) (gr := []) (xp_idx (n := 2) [0, 1] (by decide +kernel) rfl rfl) (c_G_now0 l D q A z ob2_108 i (by first | assumption | omega) (by first | assumption | omega)) (cwV 2 F.1.2.2.2.2 gL_areAll_X7_now rfl rfl rfl (by decide +kernel) ⟨Nat.le_of_ble_eq_true rfl, Nat.le_of_ble_eq_true rfl⟩) rfl rfl (r0 := 0) (ci := 7) (T := TX7) (N := 8) rfl rfl hl.1 ⟨Nat.le_of_ble_eq_true rfl, Nat.le_of_ble_eq_true rfl⟩ (Nat.le_of_ble_eq_true rfl) dL_areAll_135 (fun r_135 g1 H locs hp X => ?_)
                obtain ⟨ob2_135, rfl, rfl, hob2_135⟩ := hp
                have X : xS D A9 s9 [xoA q A, ob2_135] H locs := X
                refine lv_aload_n hx hb dL_areAll_138 rfl (lv_at hl 8 rfl) ?_
                refine lv_iload hx hb dL_areAll_139 (lv_at hl 6 rfl) ?_
                refine lv_iconst (v := 0) hx hb dL_areAll_141 (by decide) ?_
                refine x_cVi F X (gc := [xoA q A, ob2_135]) (gr := []) (xp_idx (n := 2) [0, 1] (by decide +kernel) rfl rfl) (c_G_now0 l D q A z ob2_135 j (by first | assumption | omega) (by first | assumption | omega)) (cwV 2 F.1.2.2.2.2 gL_areAll_X7_now rfl rfl rfl (by decide +kernel) ⟨Nat.le_of_ble_eq_true rfl, Nat.le_of_ble_eq_true rfl⟩) rfl rfl (r0 := 0) (ci := 7) (T := TX7) (N := 8) rfl rfl hl.1 ⟨Nat.le_of_ble_eq_true rfl, Nat.le_of_ble_eq_true rfl⟩ (Nat.le_of_ble_eq_true rfl) dL_areAll_142 (fun r_142 g1 H locs hp X => ?_)
                obtain ⟨ob2_142, rfl, rfl, hob2_142⟩ := hp
                have X : xS D A9 s9 [xoA q A, ob2_142] H locs := X
                refine lv_icmp_le (tgt := 153) hx hb dL_areAll_145 (by decide) (fun c_145 => ?_) (fun c_145 => ?_)
                · refine lv_iload hx hb dL_areAll_153 (lv_at hl 6 rfl) ?_
                  refine lv_istore (lv' := [(6, .int (nI j)), (8, .int 1), (5, .int (nI le)), (4, .int (se ||| (1 <<< ((nI i) &&& 31)))), (3, .int (ha + (x_hc (zS z) (tF (zS z)) i))), (2, .int (pe + (x_tP (zS z) i))), (7, .int (nI i)), (1, .int (nI (tN (zS z)))), (0, .ref (A.1 0))]) hx hb dL_areAll_155 hl (by decide) rfl (fun ls hl => ?_)
                  refine lv_iinc (v := (nI (i + 1))) (lv' := [(7, .int (nI (i + 1))), (6, .int (nI j)), (8, .int 1), (5, .int (nI le)), (4, .int (se ||| (1 <<< ((nI i) &&& 31)))), (3, .int (ha + (x_hc (zS z) (tF (zS z)) i))), (2, .int (pe + (x_tP (zS z) i))), (1, .int (nI (tN (zS z)))), (0, .ref (A.1 0))]) hx hb dL_areAll_157 hl (k := 6) rfl (nI_add i 1) (by decide) rfl (fun ls hl => ?_)
                  refine lv_goto (tgt := 22) hx hb dL_areAll_160 (by decide) ?_
                  exact ih_22 _ (i + 1) le _ _ _ (nI j) _ _ _ X (lv_sub hl [0, 1, 3, 4, 5, 6, 7, 8] rfl) (by omega) (by assumption) (by omega) (by rw [hpe]; rfl) (by rw [hha]; rfl) (by exact xv_s1 hse c_64) (by exact xv_l1 hle c_92) (by omega) (by exact xw_k e1 hj c_145 (by omega))
                · refine lv_iload hx hb dL_areAll_148 (lv_at hl 5 rfl) ?_
                  refine lv_goto (tgt := 155) hx hb dL_areAll_150 (by decide) ?_
                  refine lv_istore (lv' := [(6, .int (nI i)), (8, .int 1), (5, .int (nI le)), (4, .int (se ||| (1 <<< ((nI i) &&& 31)))), (3, .int (ha + (x_hc (zS z) (tF (zS z)) i))), (2, .int (pe + (x_tP (zS z) i))), (7, .int (nI i)), (1, .int (nI (tN (zS z)))), (0, .ref (A.1 0))]) hx hb dL_areAll_155 hl (by decide) rfl (fun ls hl => ?_)
                  refine lv_iinc (v := (nI (i + 1))) (lv' := [(7, .int (nI (i + 1))), (6, .int (nI i)), (8, .int 1), (5, .int (nI le)), (4, .int (se ||| (1 <<< ((nI i) &&& 31)))), (3, .int (ha + (x_hc (zS z) (tF (zS z)) i))), (2, .int (pe + (x_tP (zS z) i))), (1, .int (nI (tN (zS z)))), (0, .ref (A.1 0))]) hx hb dL_areAll_157 hl (k := 6) rfl (nI_add i 1) (by decide) rfl (fun ls hl => ?_)
                  refine lv_goto (tgt := 22) hx hb dL_areAll_160 (by decide) ?_
                  exact ih_22 _ (i + 1) le _ _ _ (nI i) _ _ _ X (lv_sub hl [0, 1, 3, 4, 5, 6, 7, 8] rfl) (by omega) (by assumption) (by omega) (by rw [hpe]; rfl) (by rw [hha]; rfl) (by exact xv_s1 hse c_64) (by exact xv_l1 hle c_92) (by omega) (by exact xw_y e1 hj c_111 c_145 c_25 (by omega))
          · refine lv_iload hx hb dL_areAll_95 (lv_at hl 3 rfl) ?_
            refine lv_goto (tgt := 102) hx hb dL_areAll_97 (by decide) ?_
            refine lv_istore (lv' := [(5, .int (nI i)), (4, .int (se ||| (1 <<< ((nI i) &&& 31)))), (3, .int (ha + (x_hc (zS z) (tF (zS z)) i))), (2, .int (pe + (x_tP (zS z) i))), (7, .int (nI i)), (6, .int wi), (1, .int (nI (tN (zS z)))), (0, .ref (A.1 0))]) hx hb dL_areAll_102 hl (by decide) rfl (fun ls hl => ?_)
            refine lv_aload_n hx hb dL_areAll_104 rfl (lv_at hl 7 rfl) ?_
            refine lv_iload hx hb dL_areAll_105 (lv_at hl 4 rfl) ?_
            refine lv_iconst (v := 5) hx hb dL_areAll_107 (by decide) ?_
            refine x_cVi F X (gc := [xoA q A, ob2_89]) (gr := []) (xp_idx (n := 2) [0, 1] (by decide +kernel) rfl rfl) (c_G_of5 l D q A z ob2_89 i (by first | assumption | omega) (by first | assumption | omega)) (cwV 2 F.1.2.2.2.2 gL_areAll_X7_of rfl rfl rfl (by decide +kernel) ⟨Nat.le_of_ble_eq_true rfl, Nat.le_of_ble_eq_true rfl⟩) rfl rfl (r0 := 0) (ci := 7) (T := TX7) (N := 8) rfl rfl hl.1 ⟨Nat.le_of_ble_eq_true rfl, Nat.le_of_ble_eq_true rfl⟩ (Nat.le_of_ble_eq_true rfl) dL_areAll_108 (fun r_108 g1 H locs hp X => ?_)
            obtain ⟨ob2_108, rfl, rfl, hob2_108⟩ := hp
            have X : xS D A9 s9 [xoA q A, ob2_108] H locs := X
            refine lv_if_ne (tgt := 118) hx hb dL_areAll_111 (by decide) (fun c_111 => ?_) (fun c_111 => ?_)
            · refine lv_iconst (v := 0) hx hb dL_areAll_118 (by decide) ?_
              refine lv_istore (lv' := [(8, .int 0), (5, .int (nI i)), (4, .int (se ||| (1 <<< ((nI i) &&& 31)))), (3, .int (ha + (x_hc (zS z) (tF (zS z)) i))), (2, .int (pe + (x_tP (zS z) i))), (7, .int (nI i)), (6, .int wi), (1, .int (nI (tN (zS z)))), (0, .ref (A.1 0))]) hx hb dL_areAll_119 hl (by decide) rfl (fun ls hl => ?_)
              refine lv_iload hx hb dL_areAll_121 (lv_at hl 0 rfl) ?_
              refine lv_if_eq (tgt := 153) hx hb dL_areAll_123 (by decide) (fun _ => ?_) (fun h => absurd (by decide) h)
              refine lv_iload hx hb dL_areAll_153 (lv_at hl 6 rfl) ?_
              refine lv_istore (lv' := [(6, .int wi), (8, .int 0), (5, .int (nI i)), (4, .int (se ||| (1 <<< ((nI i) &&& 31)))), (3, .int (ha + (x_hc (zS z) (tF (zS z)) i))), (2, .int (pe + (x_tP (zS z) i))), (7, .int (nI i)), (1, .int (nI (tN (zS z)))), (0, .ref (A.1 0))]) hx hb dL_areAll_155 hl (by decide) rfl (fun ls hl => ?_)
              refine lv_iinc (v := (nI (i + 1))) (lv' := [(7, .int (nI (i + 1))), (6, .int wi), (8, .int 0), (5, .int (nI i)), (4, .int (se ||| (1 <<< ((nI i) &&& 31)))), (3, .int (ha + (x_hc (zS z) (tF (zS z)) i))), (2, .int (pe + (x_tP (zS z) i))), (1, .int (nI (tN (zS z)))), (0, .ref (A.1 0))]) hx hb dL_areAll_157 hl (k := 6) rfl (nI_add i 1) (by decide) rfl (fun ls hl => ?_)
              refine lv_goto (tgt := 22) hx hb dL_areAll_160 (by decide) ?_
              exact ih_22 _ (i + 1) i _ _ _ wi _ _ _ X (lv_sub hl [0, 1, 3, 4, 5, 6, 7, 8] rfl) (by omega) (by assumption) (by omega) (by rw [hpe]; rfl) (by rw [hha]; rfl) (by exact xv_s1 hse c_64) (by exact xv_l2 hle c_92) (by omega) (by exact xw_n hwi c_111)
            · refine lv_iconst (v := 1) hx hb dL_areAll_114 (by decide) ?_
              refine lv_goto (tgt := 119) hx hb dL_areAll_115 (by decide) ?_
              refine lv_istore (lv' := [(8, .int 1), (5, .int (nI i)), (4, .int (se ||| (1 <<< ((nI i) &&& 31)))), (3, .int (ha + (x_hc (zS z) (tF (zS z)) i))), (2, .int (pe + (x_tP (zS z) i))), (7, .int (nI i)), (6, .int wi), (1, .int (nI (tN (zS z)))), (0, .ref (A.1 0))]) hx hb dL_areAll_119 hl (by decide) rfl (fun ls hl => ?_)
              refine lv_iload hx hb dL_areAll_121 (lv_at hl 0 rfl) ?_
              refine lv_if_eq (tgt := 153) hx hb dL_areAll_123 (by decide) (fun h => absurd h (by decide)) (fun _ => ?_)
              refine lv_iload hx hb dL_areAll_126 (lv_at hl 6 rfl) ?_
              refine lv_if_lt (tgt := 148) hx hb dL_areAll_128 (by decide) (fun c_128 => ?_) (fun c_128 => ?_)
              · refine lv_iload hx hb dL_areAll_148 (lv_at hl 5 rfl) ?_
                refine lv_goto (tgt := 155) hx hb dL_areAll_150 (by decide) ?_
                refine lv_istore (lv' := [(6, .int (nI i)), (8, .int 1), (5, .int (nI i)), (4, .int (se ||| (1 <<< ((nI i) &&& 31)))), (3, .int (ha + (x_hc (zS z) (tF (zS z)) i))), (2, .int (pe + (x_tP (zS z) i))), (7, .int (nI i)), (1, .int (nI (tN (zS z)))), (0, .ref (A.1 0))]) hx hb dL_areAll_155 hl (by decide) rfl (fun ls hl => ?_)
                refine lv_iinc (v := (nI (i + 1))) (lv' := [(7, .int (nI (i + 1))), (6, .int (nI i)), (8, .int 1), (5, .int (nI i)), (4, .int (se ||| (1 <<< ((nI i) &&& 31)))), (3, .int (ha + (x_hc (zS z) (tF (zS z)) i))), (2, .int (pe + (x_tP (zS z) i))), (1, .int (nI (tN (zS z)))), (0, .ref (A.1 0))]) hx hb dL_areAll_157 hl (k := 6) rfl (nI_add i 1) (by decide) rfl (fun ls hl => ?_)
                refine lv_goto (tgt := 22) hx hb dL_areAll_160 (by decide) ?_
                exact ih_22 _ (i + 1) i _ _ _ (nI i) _ _ _ X (lv_sub hl [0, 1, 3, 4, 5, 6, 7, 8] rfl) (by omega) (by assumption) (by omega) (by rw [hpe]; rfl) (by rw [hha]; rfl) (by exact xv_s1 hse c_64) (by exact xv_l2 hle c_92) (by omega) (by exact xw_f hwi c_111 c_128 c_25 (by omega))
              · rcases hwi with ⟨e1, e2⟩ | ⟨j, hj, e1, rfl⟩
                · exact absurd (by rw [e2]; decide) c_128
                refine lv_aload_n hx hb dL_areAll_131 rfl (lv_at hl 8 rfl) ?_
                refine lv_iload hx hb dL_areAll_132 (lv_at hl 5 rfl) ?_
                refine lv_iconst (v := 0) hx hb dL_areAll_134 (by decide) ?_
                refine x_cVi F X (gc := [xoA q A, ob2_108]) (gr := []) (xp_idx (n := 2) [0, 1] (by decide +kernel) rfl rfl) (c_G_now0 l D q A z ob2_108 i (by first | assumption | omega) (by first | assumption | omega)) (cwV 2 F.1.2.2.2.2 gL_areAll_X7_now rfl rfl rfl (by decide +kernel) ⟨Nat.le_of_ble_eq_true rfl, Nat.le_of_ble_eq_true rfl⟩) rfl rfl (r0 := 0) (ci := 7) (T := TX7) (N := 8) rfl rfl hl.1 ⟨Nat.le_of_ble_eq_true rfl, Nat.le_of_ble_eq_true rfl⟩ (Nat.le_of_ble_eq_true rfl) dL_areAll_135 (fun r_135 g1 H locs hp X => ?_)
                obtain ⟨ob2_135, rfl, rfl, hob2_135⟩ := hp
                have X : xS D A9 s9 [xoA q A, ob2_135] H locs := X
                refine lv_aload_n hx hb dL_areAll_138 rfl (lv_at hl 8 rfl) ?_
                refine lv_iload hx hb dL_areAll_139 (lv_at hl 6 rfl) ?_
                refine lv_iconst (v := 0) hx hb dL_areAll_141 (by decide) ?_
                refine x_cVi F X (gc := [xoA q A, ob2_135]) (gr := []) (xp_idx (n := 2) [0, 1] (by decide +kernel) rfl rfl) (c_G_now0 l D q A z ob2_135 j (by first | assumption | omega) (by first | assumption | omega)) (cwV 2 F.1.2.2.2.2 gL_areAll_X7_now rfl rfl rfl (by decide +kernel) ⟨Nat.le_of_ble_eq_true rfl, Nat.le_of_ble_eq_true rfl⟩) rfl rfl (r0 := 0) (ci := 7) (T := TX7) (N := 8) rfl rfl hl.1 ⟨Nat.le_of_ble_eq_true rfl, Nat.le_of_ble_eq_true rfl⟩ (Nat.le_of_ble_eq_true rfl) dL_areAll_142 (fun r_142 g1 H locs hp X => ?_)
                obtain ⟨ob2_142, rfl, rfl, hob2_142⟩ := hp
                have X : xS D A9 s9 [xoA q A, ob2_142] H locs := X
                refine lv_icmp_le (tgt := 153) hx hb dL_areAll_145 (by decide) (fun c_145 => ?_) (fun c_145 => ?_)
                · refine lv_iload hx hb dL_areAll_153 (lv_at hl 6 rfl) ?_
                  refine lv_istore (lv' := [(6, .int (nI j)), (8, .int 1), (5, .int (nI i)), (4, .int (se ||| (1 <<< ((nI i) &&& 31)))), (3, .int (ha + (x_hc (zS z) (tF (zS z)) i))), (2, .int (pe + (x_tP (zS z) i))), (7, .int (nI i)), (1, .int (nI (tN (zS z)))), (0, .ref (A.1 0))]) hx hb dL_areAll_155 hl (by decide) rfl (fun ls hl => ?_)
                  refine lv_iinc (v := (nI (i + 1))) (lv' := [(7, .int (nI (i + 1))), (6, .int (nI j)), (8, .int 1), (5, .int (nI i)), (4, .int (se ||| (1 <<< ((nI i) &&& 31)))), (3, .int (ha + (x_hc (zS z) (tF (zS z)) i))), (2, .int (pe + (x_tP (zS z) i))), (1, .int (nI (tN (zS z)))), (0, .ref (A.1 0))]) hx hb dL_areAll_157 hl (k := 6) rfl (nI_add i 1) (by decide) rfl (fun ls hl => ?_)
                  refine lv_goto (tgt := 22) hx hb dL_areAll_160 (by decide) ?_
                  exact ih_22 _ (i + 1) i _ _ _ (nI j) _ _ _ X (lv_sub hl [0, 1, 3, 4, 5, 6, 7, 8] rfl) (by omega) (by assumption) (by omega) (by rw [hpe]; rfl) (by rw [hha]; rfl) (by exact xv_s1 hse c_64) (by exact xv_l2 hle c_92) (by omega) (by exact xw_k e1 hj c_145 (by omega))
                · refine lv_iload hx hb dL_areAll_148 (lv_at hl 5 rfl) ?_
                  refine lv_goto (tgt := 155) hx hb dL_areAll_150 (by decide) ?_
                  refine lv_istore (lv' := [(6, .int (nI i)), (8, .int 1), (5, .int (nI i)), (4, .int (se ||| (1 <<< ((nI i) &&& 31)))), (3, .int (ha + (x_hc (zS z) (tF (zS z)) i))), (2, .int (pe + (x_tP (zS z) i))), (7, .int (nI i)), (1, .int (nI (tN (zS z)))), (0, .ref (A.1 0))]) hx hb dL_areAll_155 hl (by decide) rfl (fun ls hl => ?_)
                  refine lv_iinc (v := (nI (i + 1))) (lv' := [(7, .int (nI (i + 1))), (6, .int (nI i)), (8, .int 1), (5, .int (nI i)), (4, .int (se ||| (1 <<< ((nI i) &&& 31)))), (3, .int (ha + (x_hc (zS z) (tF (zS z)) i))), (2, .int (pe + (x_tP (zS z) i))), (1, .int (nI (tN (zS z)))), (0, .ref (A.1 0))]) hx hb dL_areAll_157 hl (k := 6) rfl (nI_add i 1) (by decide) rfl (fun ls hl => ?_)
                  refine lv_goto (tgt := 22) hx hb dL_areAll_160 (by decide) ?_
                  exact ih_22 _ (i + 1) i _ _ _ (nI i) _ _ _ X (lv_sub hl [0, 1, 3, 4, 5, 6, 7, 8] rfl) (by omega) (by assumption) (by omega) (by rw [hpe]; rfl) (by rw [hha]; rfl) (by exact xv_s1 hse c_64) (by exact xv_l2 hle c_92) (by omega) (by exact xw_y e1 hj c_111 c_145 c_25 (by omega))
  exact L_22 (tN (zS z) + 1) _ 0 0 0 0 0 (-1) _ _ _ X (lv_sub hl [0, 1, 2, 3, 4, 5, 6, 7] rfl) (by omega) (by assumption) (by omega) (by rfl) (by rfl) (by rfl) (by rfl) (by omega) (by exact Or.inl ⟨rfl, rfl⟩)

