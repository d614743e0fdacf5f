set_option maxHeartbeats 1000000 in
set_option maxRecDepth 100000 in
theorem c_L_does (l : Launch) (D : va_G) (q : xQ) (A : xAd) (z : xZt) (ob : va_W) (v : Int32) (w : Int32) (hob : xOb q A z ob) (hw4 : xW z) : xMi l yL_does wsL_does { frames := 27, cells := 0, slots := 0, locals := 1148 } D q [.ref (A.1 0), .int v, .int w] [xoA q A, ob] (fun r gw => ∃ (ob2 : va_W), ∃ (z2 : xZt), gw = [xoA q A, ob2] ∧ r = 1 ∧ (xOb q A z2 ob2) ∧ (xW z2)) := by
  refine xMi_of (cc := cL_does) (maxL := 16) (rt := .boolean) (by decide) rfl (Nat.le_of_ble_eq_true rfl) (fun v w h => by obtain ⟨_, _, _, rfl, _⟩ := h; rfl) ?_
  intro p9 e9 s9 m9 a9 below meth c9 A9 Z9 ls H locs F X hl hret
  have hx := F.1.1
  have hb := F.1.2.1
  have hl : lv_has ls 16 [(0, .ref (A.1 0)), (1, .int v), (2, .int w)] := hl
  have hok := hob.ok
  have hn := hok.1
  have hn1 := hok.2.1
  have hp := xv_hp hok
  refine lv_aload_n hx hb dL_does_0 rfl (lv_at hl 0 rfl) ?_
  refine lv_iconst (v := 0) hx hb dL_does_1 (by decide) ?_
  refine x_cVi F X (gc := [xoA q A, ob]) (gr := []) (xp_idx (n := 2) [0, 1] (by decide +kernel) rfl rfl) (c_G_count0 l D q A z ob (by first | assumption | omega)) (cwV 1 F.1.2.2.2.2 gL_does_X7_count rfl rfl rfl (by decide +kernel) ⟨Nat.le_of_ble_eq_true rfl, Nat.le_of_ble_eq_true rfl⟩) rfl rfl (r0 := 0) (ci := 7) (T := TX7) (N := 8) rfl rfl hl.1 ⟨Nat.le_of_ble_eq_true rfl, Nat.le_of_ble_eq_true rfl⟩ (Nat.le_of_ble_eq_true rfl) dL_does_2 (fun r_2 g1 H locs hp X => ?_)
  obtain ⟨ob2_2, rfl, rfl, hob2_2⟩ := hp
  have X : xS D A9 s9 [xoA q A, ob2_2] H locs := X
  refine lv_istore_n (lv' := [(3, .int (nI (tN (zS z)))), (0, .ref (A.1 0)), (1, .int v), (2, .int w)]) hx hb dL_does_5 rfl hl (by decide) rfl (fun ls hl => ?_)
  refine lv_iload_n hx hb dL_does_6 rfl (lv_at hl 2 rfl) ?_
  refine lv_iconst (v := 5) hx hb dL_does_7 (by decide) ?_
  refine lv_ishr hx hb dL_does_8 ?_
  refine lv_iload_n hx hb dL_does_9 rfl (lv_at hl 0 rfl) ?_
  refine x_cSi F X (gc := []) (gr := [xoA q A, ob2_2]) (xp_idx (n := 2) [0, 1] (by decide +kernel) rfl rfl) (c_L_low l D q (v >>> (5 &&& 31)) (tN (zS z)) (by first | assumption | omega) (by first | assumption | omega)) (va_cwS 2 F.1.2.2.2.2 gL_does_L_low rfl rfl rfl (by decide +kernel) ⟨Nat.le_of_ble_eq_true rfl, Nat.le_of_ble_eq_true rfl⟩) rfl rfl hl.1 ⟨Nat.le_of_ble_eq_true rfl, Nat.le_of_ble_eq_true rfl⟩ (Nat.le_of_ble_eq_true rfl) dL_does_10 (fun r_10 g1 H locs hp X => ?_)
  obtain ⟨rfl, rfl, hlt_10⟩ := hp
  have X : xS D A9 s9 [xoA q A, ob2_2] H locs := X
  refine lv_istore (lv' := [(4, .int (nI (x_low (v >>> (5 &&& 31)) (tN (zS z))))), (3, .int (nI (tN (zS z)))), (0, .ref (A.1 0)), (1, .int v), (2, .int w)]) hx hb dL_does_13 hl (by decide) rfl (fun ls hl => ?_)
  refine lv_iload_n hx hb dL_does_15 rfl (lv_at hl 3 rfl) ?_
  refine lv_bipush (v := 18) hx hb dL_does_16 (by decide) ?_
  refine x_cSi F X (gc := []) (gr := [xoA q A, ob2_2]) (xp_idx (n := 2) [0, 1] (by decide +kernel) rfl rfl) (c_L_low l D q v 18 (by first | assumption | omega) (by first | assumption | omega)) (va_cwS 2 F.1.2.2.2.2 gL_does_L_low rfl rfl rfl (by decide +kernel) ⟨Nat.le_of_ble_eq_true rfl, Nat.le_of_ble_eq_true rfl⟩) rfl rfl hl.1 ⟨Nat.le_of_ble_eq_true rfl, Nat.le_of_ble_eq_true rfl⟩ (Nat.le_of_ble_eq_true rfl) dL_does_18 (fun r_18 g1 H locs hp X => ?_)
  obtain ⟨rfl, rfl, hlt_18⟩ := hp
  have X : xS D A9 s9 [xoA q A, ob2_2] H locs := X
  have hk : (x_low (v >>> (5 &&& 31)) (tN (zS z))) < tN (zS z) := hlt_10
  have J_104 : ∀ (H : Heap) (locs : List Loc) (ls : Array Slot), xS D A9 s9 [xoA q A, ob2_2] H locs → lv_has ls 16 [(4, .int (nI (x_low (v >>> (5 &&& 31)) (tN (zS z))))), (3, .int (nI (tN (zS z)))), (0, .ref (A.1 0)), (1, .int v), (2, .int w)] → W p9 l e9 { frames := 27, cells := 0, slots := 0, locals := 1148 } s9 m9 a9 below meth c9 H locs 0 0 Z9 (F0 m9 104 ls []) := by
    intro  H locs ls X hl 
    have hcl := x_ct_le (x_tF (zS z)) (nI (x_low (v >>> (5 &&& 31)) (tN (zS z)))) (tN (zS z))
    refine lv_iconst (v := 1) hx hb dL_does_104 (by decide) ?_
    refine lv_iload_n hx hb dL_does_105 rfl (lv_at hl 4 rfl) ?_
    refine lv_bipush (v := 9) hx hb dL_does_106 (by decide) ?_
    refine x_cSi F X (gc := []) (gr := [xoA q A, ob2_2]) (xp_idx (n := 2) [0, 1] (by decide +kernel) rfl rfl) (c_L_low l D q w 9 (by first | assumption | omega) (by first | assumption | omega)) (va_cwS 2 F.1.2.2.2.2 gL_does_L_low rfl rfl rfl (by decide +kernel) ⟨Nat.le_of_ble_eq_true rfl, Nat.le_of_ble_eq_true rfl⟩) rfl rfl hl.1 ⟨Nat.le_of_ble_eq_true rfl, Nat.le_of_ble_eq_true rfl⟩ (Nat.le_of_ble_eq_true rfl) dL_does_108 (fun r_108 g1 H locs hp X => ?_)
    obtain ⟨rfl, rfl, hlt_108⟩ := hp
    have X : xS D A9 s9 [xoA q A, ob2_2] H locs := X
    refine lv_iadd hx hb dL_does_111 ?_
    refine x_i (y := (nI (1 + (x_low w 9)))) (nI_add 1 (x_low w 9)) ?_
    refine lv_istore (lv' := [(5, .int (nI (1 + (x_low w 9)))), (4, .int (nI (x_low (v >>> (5 &&& 31)) (tN (zS z))))), (3, .int (nI (tN (zS z)))), (0, .ref (A.1 0)), (1, .int v), (2, .int w)]) hx hb dL_does_112 hl (by decide) rfl (fun ls hl => ?_)
    refine lv_aload_n hx hb dL_does_114 rfl (lv_at hl 3 rfl) ?_
    refine lv_iload hx hb dL_does_115 (lv_at hl 1 rfl) ?_
    refine lv_iconst (v := 5) hx hb dL_does_117 (by decide) ?_
    refine x_cVi F X (gc := [xoA q A, ob2_2]) (gr := []) (xp_idx (n := 2) [0, 1] (by decide +kernel) rfl rfl) (c_G_of5 l D q A z ob2_2 (x_low (v >>> (5 &&& 31)) (tN (zS z))) (by first | assumption | omega) (by first | assumption | omega)) (cwV 2 F.1.2.2.2.2 gL_does_X7_of rfl rfl rfl (by decide +kernel) ⟨Nat.le_of_ble_eq_true rfl, Nat.le_of_ble_eq_true rfl⟩) rfl rfl (r0 := 0) (ci := 7) (T := TX7) (N := 8) rfl rfl hl.1 ⟨Nat.le_of_ble_eq_true rfl, Nat.le_of_ble_eq_true rfl⟩ (Nat.le_of_ble_eq_true rfl) dL_does_118 (fun r_118 g1 H locs hp X => ?_)
    obtain ⟨ob2_118, rfl, rfl, hob2_118⟩ := hp
    have X : xS D A9 s9 [xoA q A, ob2_118] H locs := X
    refine x_cSi F X (gc := []) (gr := [xoA q A, ob2_118]) (xp_idx (n := 2) [0, 1] (by decide +kernel) rfl rfl) (c_L_ones l D q (x_bs (zS z) (tN (zS z)) (x_low (v >>> (5 &&& 31)) (tN (zS z)))) ) (va_cwS 1 F.1.2.2.2.2 gL_does_L_ones rfl rfl rfl (by decide +kernel) ⟨Nat.le_of_ble_eq_true rfl, Nat.le_of_ble_eq_true rfl⟩) rfl rfl hl.1 ⟨Nat.le_of_ble_eq_true rfl, Nat.le_of_ble_eq_true rfl⟩ (Nat.le_of_ble_eq_true rfl) dL_does_121 (fun r_121 g1 H locs hp X => ?_)
    obtain ⟨rfl, rfl⟩ := hp
    have X : xS D A9 s9 [xoA q A, ob2_118] H locs := X
    refine x_i (y := (nI (x_ct (x_tF (zS z)) (nI (x_low (v >>> (5 &&& 31)) (tN (zS z)))) (tN (zS z))))) (x_on_ct _ _ hn) ?_
    refine lv_istore (lv' := [(6, .int (nI (x_ct (x_tF (zS z)) (nI (x_low (v >>> (5 &&& 31)) (tN (zS z)))) (tN (zS z))))), (5, .int (nI (1 + (x_low w 9)))), (4, .int (nI (x_low (v >>> (5 &&& 31)) (tN (zS z))))), (3, .int (nI (tN (zS z)))), (0, .ref (A.1 0)), (1, .int v), (2, .int w)]) hx hb dL_does_124 hl (by decide) rfl (fun ls hl => ?_)
    refine lv_aload_n hx hb dL_does_126 rfl (lv_at hl 4 rfl) ?_
    refine lv_iload hx hb dL_does_127 (lv_at hl 2 rfl) ?_
    refine lv_iload hx hb dL_does_129 (lv_at hl 1 rfl) ?_
    refine x_cVi F X (gc := [xoA q A, ob2_118]) (gr := []) (xp_idx (n := 2) [0, 1] (by decide +kernel) rfl rfl) (c_G_street l D q A z ob2_118 (x_low (v >>> (5 &&& 31)) (tN (zS z))) (1 + (x_low w 9)) (by first | assumption | omega) (by first | assumption | omega) (by omega)) (cwV 2 F.1.2.2.2.2 gL_does_X7_street rfl rfl rfl (by decide +kernel) ⟨Nat.le_of_ble_eq_true rfl, Nat.le_of_ble_eq_true rfl⟩) rfl rfl (r0 := 0) (ci := 7) (T := TX7) (N := 8) rfl rfl hl.1 ⟨Nat.le_of_ble_eq_true rfl, Nat.le_of_ble_eq_true rfl⟩ (Nat.le_of_ble_eq_true rfl) dL_does_131 (fun r_131 g1 H locs hp X => ?_)
    obtain ⟨ob2_131, z2_131, rfl, hob2_131, hbo_131⟩ := hp
    have X : xS D A9 s9 [xoA q A, ob2_131] H locs := X
    refine lv_istore (lv' := [(7, .int r_131), (6, .int (nI (x_ct (x_tF (zS z)) (nI (x_low (v >>> (5 &&& 31)) (tN (zS z)))) (tN (zS z))))), (5, .int (nI (1 + (x_low w 9)))), (4, .int (nI (x_low (v >>> (5 &&& 31)) (tN (zS z))))), (3, .int (nI (tN (zS z)))), (0, .ref (A.1 0)), (1, .int v), (2, .int w)]) hx hb dL_does_134 hl (by decide) rfl (fun ls hl => ?_)
    refine lv_iload_n hx hb dL_does_136 rfl (lv_at hl 4 rfl) ?_
    refine lv_bipush (v := 20) hx hb dL_does_137 (by decide) ?_
    refine lv_icmp_eq (tgt := 148) hx hb dL_does_139 (by decide) (fun c_139 => ?_) (fun c_139 => ?_)
    · have c_139 : (tN (zS z)) = 20 := (nI_eq (a := (tN (zS z))) (b := 20) (by omega) (by omega)).mp c_139
      have hcd : ¬ (tN (zS z) < 20 ∧ x_ct (x_tF (zS z)) (nI (x_low (v >>> (5 &&& 31)) (tN (zS z)))) (tN (zS z)) ≠ 4) := by omega
      obtain ⟨rfl, rfl⟩ : -4 = r_131 ∧ z = z2_131 := by
        rcases hbo_131 with ⟨q, -⟩ | ⟨-, q1, q2⟩
        · exact absurd q hcd
        · exact ⟨q1.symm, q2.symm⟩
      refine lv_iload hx hb dL_does_148 (lv_at hl 0 rfl) ?_
      refine lv_bipush (v := (-4)) hx hb dL_does_150 (by decide) ?_
      refine lv_icmp_ne (tgt := 159) hx hb dL_does_152 (by decide) (fun h => absurd (by decide) h) (fun _ => ?_)
      refine lv_iconst (v := 1) hx hb dL_does_155 (by decide) ?_
      refine lv_goto (tgt := 219) hx hb dL_does_156 (by decide) ?_
      exact hret _ _ _ _ _ _ (by exact ⟨_, _, rfl, rfl, by assumption, by first | assumption | exact hw4.of hax.2.2.2.2 | exact hw4.of (pk_un (by omega)) | exact ⟨x_low w 201, by omega, rfl⟩⟩) X dL_does_219
    · have c_139 : ¬ ((tN (zS z)) = 20) := fun h => c_139 ((nI_eq (a := (tN (zS z))) (b := 20) (by omega) (by omega)).mpr h)
      refine lv_iload hx hb dL_does_142 (lv_at hl 1 rfl) ?_
      refine lv_iconst (v := 4) hx hb dL_does_144 (by decide) ?_
      refine lv_icmp_ne (tgt := 163) hx hb dL_does_145 (by decide) (fun c_145 => ?_) (fun c_145 => ?_)
      · have c_145 : ¬ (x_ct (x_tF (zS z)) (nI (x_low (v >>> (5 &&& 31)) (tN (zS z)))) (tN (zS z)) = 4) := fun h => c_145 ((nI_eq (a := x_ct (x_tF (zS z)) (nI (x_low (v >>> (5 &&& 31)) (tN (zS z)))) (tN (zS z))) (b := 4) (by omega) (by omega)).mpr h)
        have hcd : tN (zS z) < 20 ∧ x_ct (x_tF (zS z)) (nI (x_low (v >>> (5 &&& 31)) (tN (zS z)))) (tN (zS z)) ≠ 4 := by omega
        obtain ⟨rfl, rfl⟩ : nI (tN (zS z)) = r_131 ∧ zAdd z (x_low (v >>> (5 &&& 31)) (tN (zS z))) (1 + x_low w 9) = z2_131 := by
          rcases hbo_131 with ⟨-, q1, q2⟩ | ⟨q, -⟩
          · exact ⟨q1.symm, q2.symm⟩
          · exact absurd hcd q
        have hax := xa_all (zS z) (n := tN (zS z)) (kk := (x_low (v >>> (5 &&& 31)) (tN (zS z)))) (w := nI (1 + x_low w 9)) hn (by omega)
        have hkn : tN (zS z) < tN (zS (zAdd z (x_low (v >>> (5 &&& 31)) (tN (zS z))) (1 + x_low w 9))) := by rw [show tN (zS (zAdd z (x_low (v >>> (5 &&& 31)) (tN (zS z))) (1 + x_low w 9))) = tN (zS z) + 1 from hax.1]; omega
        refine lv_iload hx hb dL_does_163 (lv_at hl 0 rfl) ?_
        refine lv_iload_n hx hb dL_does_165 rfl (lv_at hl 4 rfl) ?_
        refine lv_icmp_ne (tgt := 218) hx hb dL_does_166 (by decide) (fun c_166 => ?_) (fun c_166 => ?_)
        · exfalso
          have c_166 : ¬ (tN (zS z) = (tN (zS z))) := fun h => c_166 ((nI_eq (a := tN (zS z)) (b := (tN (zS z))) (by omega) (by omega)).mpr h)
          exact c_166 rfl
        have c_166 : tN (zS z) = (tN (zS z)) := (nI_eq (a := tN (zS z)) (b := (tN (zS z))) (by omega) (by omega)).mp c_166
        refine lv_aload_n hx hb dL_does_169 rfl (lv_at hl 5 rfl) ?_
        refine lv_iload_n hx hb dL_does_170 rfl (lv_at hl 4 rfl) ?_
        refine lv_iconst (v := 0) hx hb dL_does_171 (by decide) ?_
        refine x_cVi F X (gc := [xoA q A, ob2_131]) (gr := []) (xp_idx (n := 2) [0, 1] (by decide +kernel) rfl rfl) (c_G_of0 l D q A (zAdd z (x_low (v >>> (5 &&& 31)) (tN (zS z))) (1 + x_low w 9)) ob2_131 (tN (zS z)) (by first | assumption | omega) (by exact hkn)) (cwV 2 F.1.2.2.2.2 gL_does_X7_of rfl rfl rfl (by decide +kernel) ⟨Nat.le_of_ble_eq_true rfl, Nat.le_of_ble_eq_true rfl⟩) rfl rfl (r0 := 0) (ci := 7) (T := TX7) (N := 8) rfl rfl hl.1 ⟨Nat.le_of_ble_eq_true rfl, Nat.le_of_ble_eq_true rfl⟩ (Nat.le_of_ble_eq_true rfl) dL_does_172 (fun r_172 g1 H locs hp X => ?_)
        obtain ⟨ob2_172, rfl, rfl, hob2_172⟩ := hp
        have X : xS D A9 s9 [xoA q A, ob2_172] H locs := X
        refine lv_iload hx hb dL_does_175 (lv_at hl 3 rfl) ?_
        refine lv_icmp_ne (tgt := 218) hx hb dL_does_177 (by decide) (fun c_177 => ?_) (fun c_177 => ?_)
        · exfalso
          exact c_177 hax.2.1
        refine lv_aload_n hx hb dL_does_180 rfl (lv_at hl 5 rfl) ?_
        refine lv_iload_n hx hb dL_does_181 rfl (lv_at hl 4 rfl) ?_
        refine lv_iconst (v := 1) hx hb dL_does_182 (by decide) ?_
        refine x_cVi F X (gc := [xoA q A, ob2_172]) (gr := []) (xp_idx (n := 2) [0, 1] (by decide +kernel) rfl rfl) (c_G_of1 l D q A (zAdd z (x_low (v >>> (5 &&& 31)) (tN (zS z))) (1 + x_low w 9)) ob2_172 (tN (zS z)) (by first | assumption | omega) (by exact hkn)) (cwV 2 F.1.2.2.2.2 gL_does_X7_of rfl rfl rfl (by decide +kernel) ⟨Nat.le_of_ble_eq_true rfl, Nat.le_of_ble_eq_true rfl⟩) rfl rfl (r0 := 0) (ci := 7) (T := TX7) (N := 8) rfl rfl hl.1 ⟨Nat.le_of_ble_eq_true rfl, Nat.le_of_ble_eq_true rfl⟩ (Nat.le_of_ble_eq_true rfl) dL_does_183 (fun r_183 g1 H locs hp X => ?_)
        obtain ⟨ob2_183, rfl, rfl, hob2_183⟩ := hp
        have X : xS D A9 s9 [xoA q A, ob2_183] H locs := X
        refine lv_iload hx hb dL_does_186 (lv_at hl 2 rfl) ?_
        refine lv_icmp_ne (tgt := 218) hx hb dL_does_188 (by decide) (fun c_188 => ?_) (fun c_188 => ?_)
        · exfalso
          exact c_188 hax.2.2.1
        refine lv_aload_n hx hb dL_does_191 rfl (lv_at hl 5 rfl) ?_
        refine lv_iload_n hx hb dL_does_192 rfl (lv_at hl 4 rfl) ?_
        refine lv_iconst (v := 2) hx hb dL_does_193 (by decide) ?_
        refine x_cVi F X (gc := [xoA q A, ob2_183]) (gr := []) (xp_idx (n := 2) [0, 1] (by decide +kernel) rfl rfl) (c_G_of2 l D q A (zAdd z (x_low (v >>> (5 &&& 31)) (tN (zS z))) (1 + x_low w 9)) ob2_183 (tN (zS z)) (by first | assumption | omega) (by exact hkn)) (cwV 2 F.1.2.2.2.2 gL_does_X7_of rfl rfl rfl (by decide +kernel) ⟨Nat.le_of_ble_eq_true rfl, Nat.le_of_ble_eq_true rfl⟩) rfl rfl (r0 := 0) (ci := 7) (T := TX7) (N := 8) rfl rfl hl.1 ⟨Nat.le_of_ble_eq_true rfl, Nat.le_of_ble_eq_true rfl⟩ (Nat.le_of_ble_eq_true rfl) dL_does_194 (fun r_194 g1 H locs hp X => ?_)
        obtain ⟨ob2_194, rfl, rfl, hob2_194⟩ := hp
        have X : xS D A9 s9 [xoA q A, ob2_194] H locs := X
        refine lv_aload_n hx hb dL_does_197 rfl (lv_at hl 5 rfl) ?_
        refine lv_iload_n hx hb dL_does_198 rfl (lv_at hl 4 rfl) ?_
        refine lv_iconst (v := 3) hx hb dL_does_199 (by decide) ?_
        refine x_cVi F X (gc := [xoA q A, ob2_194]) (gr := []) (xp_idx (n := 2) [0, 1] (by decide +kernel) rfl rfl) (c_G_of3 l D q A (zAdd z (x_low (v >>> (5 &&& 31)) (tN (zS z))) (1 + x_low w 9)) ob2_194 (tN (zS z)) (by first | assumption | omega) (by exact hkn)) (cwV 2 F.1.2.2.2.2 gL_does_X7_of rfl rfl rfl (by decide +kernel) ⟨Nat.le_of_ble_eq_true rfl, Nat.le_of_ble_eq_true rfl⟩) rfl rfl (r0 := 0) (ci := 7) (T := TX7) (N := 8) rfl rfl hl.1 ⟨Nat.le_of_ble_eq_true rfl, Nat.le_of_ble_eq_true rfl⟩ (Nat.le_of_ble_eq_true rfl) dL_does_200 (fun r_200 g1 H locs hp X => ?_)
        obtain ⟨ob2_200, rfl, rfl, hob2_200⟩ := hp
        have X : xS D A9 s9 [xoA q A, ob2_200] H locs := X
        refine lv_iadd hx hb dL_does_203 ?_
        refine lv_aload_n hx hb dL_does_204 rfl (lv_at hl 5 rfl) ?_
        refine lv_iload_n hx hb dL_does_205 rfl (lv_at hl 4 rfl) ?_
        refine lv_iconst (v := 4) hx hb dL_does_206 (by decide) ?_
        refine x_cVi F X (gc := [xoA q A, ob2_200]) (gr := []) (xp_idx (n := 2) [0, 1] (by decide +kernel) rfl rfl) (c_G_of4 l D q A (zAdd z (x_low (v >>> (5 &&& 31)) (tN (zS z))) (1 + x_low w 9)) ob2_200 (tN (zS z)) (by first | assumption | omega) (by exact hkn)) (cwV 2 F.1.2.2.2.2 gL_does_X7_of rfl rfl rfl (by decide +kernel) ⟨Nat.le_of_ble_eq_true rfl, Nat.le_of_ble_eq_true rfl⟩) rfl rfl (r0 := 0) (ci := 7) (T := TX7) (N := 8) rfl rfl hl.1 ⟨Nat.le_of_ble_eq_true rfl, Nat.le_of_ble_eq_true rfl⟩ (Nat.le_of_ble_eq_true rfl) dL_does_207 (fun r_207 g1 H locs hp X => ?_)
        obtain ⟨ob2_207, rfl, rfl, hob2_207⟩ := hp
        have X : xS D A9 s9 [xoA q A, ob2_207] H locs := X
        refine lv_iadd hx hb dL_does_210 ?_
        refine lv_if_ne (tgt := 218) hx hb dL_does_211 (by decide) (fun c_211 => ?_) (fun c_211 => ?_)
        · exfalso
          exact c_211 hax.2.2.2.1
        refine lv_iconst (v := 1) hx hb dL_does_214 (by decide) ?_
        refine lv_goto (tgt := 219) hx hb dL_does_215 (by decide) ?_
        exact hret _ _ _ _ _ _ (by exact ⟨_, _, rfl, rfl, by assumption, by first | assumption | exact hw4.of hax.2.2.2.2 | exact hw4.of (pk_un (by omega)) | exact ⟨x_low w 201, by omega, rfl⟩⟩) X dL_does_219
      · have c_145 : x_ct (x_tF (zS z)) (nI (x_low (v >>> (5 &&& 31)) (tN (zS z)))) (tN (zS z)) = 4 := (nI_eq (a := x_ct (x_tF (zS z)) (nI (x_low (v >>> (5 &&& 31)) (tN (zS z)))) (tN (zS z))) (b := 4) (by omega) (by omega)).mp c_145
        have hcd : ¬ (tN (zS z) < 20 ∧ x_ct (x_tF (zS z)) (nI (x_low (v >>> (5 &&& 31)) (tN (zS z)))) (tN (zS z)) ≠ 4) := by omega
        obtain ⟨rfl, rfl⟩ : -4 = r_131 ∧ z = z2_131 := by
          rcases hbo_131 with ⟨q, -⟩ | ⟨-, q1, q2⟩
          · exact absurd q hcd
          · exact ⟨q1.symm, q2.symm⟩
        refine lv_iload hx hb dL_does_148 (lv_at hl 0 rfl) ?_
        refine lv_bipush (v := (-4)) hx hb dL_does_150 (by decide) ?_
        refine lv_icmp_ne (tgt := 159) hx hb dL_does_152 (by decide) (fun h => absurd (by decide) h) (fun _ => ?_)
        refine lv_iconst (v := 1) hx hb dL_does_155 (by decide) ?_
        refine lv_goto (tgt := 219) hx hb dL_does_156 (by decide) ?_
        exact hret _ _ _ _ _ _ (by exact ⟨_, _, rfl, rfl, by assumption, by first | assumption | exact hw4.of hax.2.2.2.2 | exact hw4.of (pk_un (by omega)) | exact ⟨x_low w 201, by omega, rfl⟩⟩) X dL_does_219
  have J_220 : ∀ (H : Heap) (locs : List Loc) (ls : Array Slot), xS D A9 s9 [xoA q A, ob2_2] H locs → lv_has ls 16 [(4, .int (nI (x_low (v >>> (5 &&& 31)) (tN (zS z))))), (3, .int (nI (tN (zS z)))), (0, .ref (A.1 0)), (1, .int v), (2, .int w)] → W p9 l e9 { frames := 27, cells := 0, slots := 0, locals := 1148 } s9 m9 a9 below meth c9 H locs 0 0 Z9 (F0 m9 220 ls []) := by
    intro  H locs ls X hl 
    refine lv_iload_n hx hb dL_does_220 rfl (lv_at hl 4 rfl) ?_
    refine lv_iconst (v := 4) hx hb dL_does_221 (by decide) ?_
    refine x_cSi F X (gc := []) (gr := [xoA q A, ob2_2]) (xp_idx (n := 2) [0, 1] (by decide +kernel) rfl rfl) (c_L_low l D q w 4 (by first | assumption | omega) (by first | assumption | omega)) (va_cwS 2 F.1.2.2.2.2 gL_does_L_low rfl rfl rfl (by decide +kernel) ⟨Nat.le_of_ble_eq_true rfl, Nat.le_of_ble_eq_true rfl⟩) rfl rfl hl.1 ⟨Nat.le_of_ble_eq_true rfl, Nat.le_of_ble_eq_true rfl⟩ (Nat.le_of_ble_eq_true rfl) dL_does_222 (fun r_222 g1 H locs hp X => ?_)
    obtain ⟨rfl, rfl, hlt_222⟩ := hp
    have X : xS D A9 s9 [xoA q A, ob2_2] H locs := X
    refine lv_istore (lv' := [(8, .int (nI (x_low w 4))), (4, .int (nI (x_low (v >>> (5 &&& 31)) (tN (zS z))))), (3, .int (nI (tN (zS z)))), (0, .ref (A.1 0)), (1, .int v), (2, .int w)]) hx hb dL_does_225 hl (by decide) rfl (fun ls hl => ?_)
    rcases (show (x_low w 4) = 0 ∨ (x_low w 4) = 1 ∨ (x_low w 4) = 2 ∨ (x_low w 4) = 3 by omega) with ea | ea | ea | ea
    · rw [ea] at hl
      have hl : lv_has ls 16 [(8, .int 0), (4, .int (nI (x_low (v >>> (5 &&& 31)) (tN (zS z))))), (3, .int (nI (tN (zS z)))), (0, .ref (A.1 0)), (1, .int v), (2, .int w)] := hl
      refine lv_iload hx hb dL_does_227 (lv_at hl 0 rfl) ?_
      refine lv_iconst (v := 3) hx hb dL_does_229 (by decide) ?_
      refine lv_icmp_ne (tgt := 237) hx hb dL_does_230 (by decide) (fun _ => ?_) (fun h => absurd h (by decide))
      refine lv_iconst (v := 2) hx hb dL_does_237 (by decide) ?_
      refine lv_iload hx hb dL_does_238 (lv_at hl 0 rfl) ?_
      refine lv_iadd hx hb dL_does_240 ?_
      refine x_i (y := 2) (by decide) ?_
      refine lv_istore (lv' := [(9, .int 2), (8, .int 0), (4, .int (nI (x_low (v >>> (5 &&& 31)) (tN (zS z))))), (3, .int (nI (tN (zS z)))), (0, .ref (A.1 0)), (1, .int v), (2, .int w)]) hx hb dL_does_241 hl (by decide) rfl (fun ls hl => ?_)
      refine lv_iload hx hb dL_does_243 (lv_at hl 1 rfl) ?_
      refine lv_if_ne (tgt := 259) hx hb dL_does_245 (by decide) (fun h => absurd (by decide) h) (fun _ => ?_)
      refine lv_iload_n hx hb dL_does_248 rfl (lv_at hl 6 rfl) ?_
      refine lv_iconst (v := 2) hx hb dL_does_249 (by decide) ?_
      refine lv_ishr hx hb dL_does_250 ?_
      refine lv_bipush (v := 6) hx hb dL_does_251 (by decide) ?_
      refine x_cSi F X (gc := []) (gr := [xoA q A, ob2_2]) (xp_idx (n := 2) [0, 1] (by decide +kernel) rfl rfl) (c_L_low l D q (w >>> (2 &&& 31)) 6 (by first | assumption | omega) (by first | assumption | omega)) (va_cwS 2 F.1.2.2.2.2 gL_does_L_low rfl rfl rfl (by decide +kernel) ⟨Nat.le_of_ble_eq_true rfl, Nat.le_of_ble_eq_true rfl⟩) rfl rfl hl.1 ⟨Nat.le_of_ble_eq_true rfl, Nat.le_of_ble_eq_true rfl⟩ (Nat.le_of_ble_eq_true rfl) dL_does_253 (fun r_253 g1 H locs hp X => ?_)
      obtain ⟨rfl, rfl, hlt_253⟩ := hp
      have X : xS D A9 s9 [xoA q A, ob2_2] H locs := X
      refine lv_goto (tgt := 300) hx hb dL_does_256 (by decide) ?_
      refine lv_istore (lv' := [(10, .int (nI (x_low (w >>> (2 &&& 31)) 6))), (9, .int 2), (8, .int 0), (4, .int (nI (x_low (v >>> (5 &&& 31)) (tN (zS z))))), (3, .int (nI (tN (zS z)))), (0, .ref (A.1 0)), (1, .int v), (2, .int w)]) hx hb dL_does_300 hl (by decide) rfl (fun ls hl => ?_)
      have hbt := x_bt_lt (w >>> (2 &&& 31))
      refine lv_aload_n hx hb dL_does_302 rfl (lv_at hl 5 rfl) ?_
      refine lv_iload hx hb dL_does_303 (lv_at hl 3 rfl) ?_
      refine lv_iload hx hb dL_does_305 (lv_at hl 1 rfl) ?_
      refine x_cVi F X (gc := [xoA q A, ob2_2]) (gr := []) (xp_idx (n := 2) [0, 1] (by decide +kernel) rfl rfl) (c_G_of2 l D q A z ob2_2 (x_low (v >>> (5 &&& 31)) (tN (zS z))) (by first | assumption | omega) (by first | assumption | omega)) (cwV 2 F.1.2.2.2.2 gL_does_X7_of rfl rfl rfl (by decide +kernel) ⟨Nat.le_of_ble_eq_true rfl, Nat.le_of_ble_eq_true rfl⟩) rfl rfl (r0 := 0) (ci := 7) (T := TX7) (N := 8) rfl rfl hl.1 ⟨Nat.le_of_ble_eq_true rfl, Nat.le_of_ble_eq_true rfl⟩ (Nat.le_of_ble_eq_true rfl) dL_does_307 (fun r_307 g1 H locs hp X => ?_)
      obtain ⟨ob2_307, rfl, rfl, hob2_307⟩ := hp
      have X : xS D A9 s9 [xoA q A, ob2_307] H locs := X
      refine lv_istore (lv' := [(11, .int (x_tC (zS z) (x_low (v >>> (5 &&& 31)) (tN (zS z))))), (10, .int (nI (x_low (w >>> (2 &&& 31)) 6))), (9, .int 2), (8, .int 0), (4, .int (nI (x_low (v >>> (5 &&& 31)) (tN (zS z))))), (3, .int (nI (tN (zS z)))), (0, .ref (A.1 0)), (1, .int v), (2, .int w)]) hx hb dL_does_310 hl (by decide) rfl (fun ls hl => ?_)
      refine lv_aload_n hx hb dL_does_312 rfl (lv_at hl 6 rfl) ?_
      refine lv_iload hx hb dL_does_313 (lv_at hl 4 rfl) ?_
      refine lv_iload hx hb dL_does_315 (lv_at hl 3 rfl) ?_
      refine lv_iload hx hb dL_does_317 (lv_at hl 1 rfl) ?_
      refine x_cVi F X (gc := [xoA q A, ob2_307]) (gr := []) (xp_idx (n := 2) [0, 1] (by decide +kernel) rfl rfl) (c_G_change l D q A z ob2_307 (x_low (v >>> (5 &&& 31)) (tN (zS z))) 0 (nI (x_low (w >>> (2 &&& 31)) 6)) (by first | assumption | omega) (by first | assumption | omega) (by omega) (by exact Or.inl ⟨rfl, ((x_rng (a := 0) (b := 5) (by omega) (by omega)).mpr ⟨x_low (w >>> (2 &&& 31)) 6, by omega, by omega, rfl⟩).1, ((x_rng (a := 0) (b := 5) (by omega) (by omega)).mpr ⟨x_low (w >>> (2 &&& 31)) 6, by omega, by omega, rfl⟩).2⟩)) (cwV 3 F.1.2.2.2.2 gL_does_X7_change rfl rfl rfl (by decide +kernel) ⟨Nat.le_of_ble_eq_true rfl, Nat.le_of_ble_eq_true rfl⟩) rfl rfl (r0 := 0) (ci := 7) (T := TX7) (N := 8) rfl rfl hl.1 ⟨Nat.le_of_ble_eq_true rfl, Nat.le_of_ble_eq_true rfl⟩ (Nat.le_of_ble_eq_true rfl) dL_does_319 (fun r_319 g1 H locs hp X => ?_)
      obtain ⟨ob2_319, rfl, rfl, hob2_319⟩ := hp
      have X : xS D A9 s9 [xoA q A, ob2_319] H locs := X
      have e5 : tN (zS (zCh z (upd (zS z) (33 + 5 * (x_low (v >>> (5 &&& 31)) (tN (zS z))) + x_kp 0) (nI (x_low (w >>> (2 &&& 31)) 6))))) = tN (zS z) := tN_eq (pk_un (by omega))
      refine lv_iload hx hb dL_does_322 (lv_at hl 0 rfl) ?_
      refine lv_icmp_ne (tgt := 344) hx hb dL_does_324 (by decide) (fun c_324 => ?_) (fun c_324 => ?_)
      · exfalso
        exact c_324 rfl
      refine lv_aload_n hx hb dL_does_327 rfl (lv_at hl 6 rfl) ?_
      refine lv_iload hx hb dL_does_328 (lv_at hl 4 rfl) ?_
      refine lv_iload hx hb dL_does_330 (lv_at hl 2 rfl) ?_
      refine x_cVi F X (gc := [xoA q A, ob2_319]) (gr := []) (xp_idx (n := 2) [0, 1] (by decide +kernel) rfl rfl) (c_G_of2 l D q A (zCh z (upd (zS z) (33 + 5 * (x_low (v >>> (5 &&& 31)) (tN (zS z))) + x_kp 0) (nI (x_low (w >>> (2 &&& 31)) 6)))) ob2_319 (x_low (v >>> (5 &&& 31)) (tN (zS z))) (by first | assumption | omega) (by rw [e5]; exact hk)) (cwV 2 F.1.2.2.2.2 gL_does_X7_of rfl rfl rfl (by decide +kernel) ⟨Nat.le_of_ble_eq_true rfl, Nat.le_of_ble_eq_true rfl⟩) rfl rfl (r0 := 0) (ci := 7) (T := TX7) (N := 8) rfl rfl hl.1 ⟨Nat.le_of_ble_eq_true rfl, Nat.le_of_ble_eq_true rfl⟩ (Nat.le_of_ble_eq_true rfl) dL_does_332 (fun r_332 g1 H locs hp X => ?_)
      obtain ⟨ob2_332, rfl, rfl, hob2_332⟩ := hp
      have X : xS D A9 s9 [xoA q A, ob2_332] H locs := X
      refine lv_iload hx hb dL_does_335 (lv_at hl 1 rfl) ?_
      refine lv_icmp_ne (tgt := 344) hx hb dL_does_337 (by decide) (fun c_337 => ?_) (fun c_337 => ?_)
      · exfalso
        exact c_337 (pk_us (f := zS z) (k := 33 + 5 * (x_low (v >>> (5 &&& 31)) (tN (zS z))) + x_kp 0) (x := (nI (x_low (w >>> (2 &&& 31)) 6))))
      refine lv_iconst (v := 1) hx hb dL_does_340 (by decide) ?_
      refine lv_goto (tgt := 345) hx hb dL_does_341 (by decide) ?_
      exact hret _ _ _ _ _ _ (by exact ⟨_, _, rfl, rfl, by assumption, by first | assumption | exact hw4.of hax.2.2.2.2 | exact hw4.of (pk_un (by omega)) | exact ⟨x_low w 201, by omega, rfl⟩⟩) X dL_does_345
    · rw [ea] at hl
      have hl : lv_has ls 16 [(8, .int 1), (4, .int (nI (x_low (v >>> (5 &&& 31)) (tN (zS z))))), (3, .int (nI (tN (zS z)))), (0, .ref (A.1 0)), (1, .int v), (2, .int w)] := hl
      refine lv_iload hx hb dL_does_227 (lv_at hl 0 rfl) ?_
      refine lv_iconst (v := 3) hx hb dL_does_229 (by decide) ?_
      refine lv_icmp_ne (tgt := 237) hx hb dL_does_230 (by decide) (fun _ => ?_) (fun h => absurd h (by decide))
      refine lv_iconst (v := 2) hx hb dL_does_237 (by decide) ?_
      refine lv_iload hx hb dL_does_238 (lv_at hl 0 rfl) ?_
      refine lv_iadd hx hb dL_does_240 ?_
      refine x_i (y := 3) (by decide) ?_
      refine lv_istore (lv' := [(9, .int 3), (8, .int 1), (4, .int (nI (x_low (v >>> (5 &&& 31)) (tN (zS z))))), (3, .int (nI (tN (zS z)))), (0, .ref (A.1 0)), (1, .int v), (2, .int w)]) hx hb dL_does_241 hl (by decide) rfl (fun ls hl => ?_)
      refine lv_iload hx hb dL_does_243 (lv_at hl 1 rfl) ?_
      refine lv_if_ne (tgt := 259) hx hb dL_does_245 (by decide) (fun _ => ?_) (fun h => absurd h (by decide))
      refine lv_iload hx hb dL_does_259 (lv_at hl 1 rfl) ?_
      refine lv_iconst (v := 1) hx hb dL_does_261 (by decide) ?_
      refine lv_icmp_ne (tgt := 273) hx hb dL_does_262 (by decide) (fun h => absurd (by decide) h) (fun _ => ?_)
      refine lv_iload_n hx hb dL_does_265 rfl (lv_at hl 6 rfl) ?_
      refine lv_iconst (v := 2) hx hb dL_does_266 (by decide) ?_
      refine lv_ishr hx hb dL_does_267 ?_
      refine lv_iconst (v := 1) hx hb dL_does_268 (by decide) ?_
      refine lv_iand hx hb dL_does_269 ?_
      refine x_i (y := (nI (x_bt (w >>> (2 &&& 31))))) (x_bt_eq _) ?_
      refine lv_goto (tgt := 300) hx hb dL_does_270 (by decide) ?_
      refine lv_istore (lv' := [(10, .int (nI (x_bt (w >>> (2 &&& 31))))), (9, .int 3), (8, .int 1), (4, .int (nI (x_low (v >>> (5 &&& 31)) (tN (zS z))))), (3, .int (nI (tN (zS z)))), (0, .ref (A.1 0)), (1, .int v), (2, .int w)]) hx hb dL_does_300 hl (by decide) rfl (fun ls hl => ?_)
      have hbt := x_bt_lt (w >>> (2 &&& 31))
      refine lv_aload_n hx hb dL_does_302 rfl (lv_at hl 5 rfl) ?_
      refine lv_iload hx hb dL_does_303 (lv_at hl 3 rfl) ?_
      refine lv_iload hx hb dL_does_305 (lv_at hl 1 rfl) ?_
      refine x_cVi F X (gc := [xoA q A, ob2_2]) (gr := []) (xp_idx (n := 2) [0, 1] (by decide +kernel) rfl rfl) (c_G_of3 l D q A z ob2_2 (x_low (v >>> (5 &&& 31)) (tN (zS z))) (by first | assumption | omega) (by first | assumption | omega)) (cwV 2 F.1.2.2.2.2 gL_does_X7_of rfl rfl rfl (by decide +kernel) ⟨Nat.le_of_ble_eq_true rfl, Nat.le_of_ble_eq_true rfl⟩) rfl rfl (r0 := 0) (ci := 7) (T := TX7) (N := 8) rfl rfl hl.1 ⟨Nat.le_of_ble_eq_true rfl, Nat.le_of_ble_eq_true rfl⟩ (Nat.le_of_ble_eq_true rfl) dL_does_307 (fun r_307 g1 H locs hp X => ?_)
      obtain ⟨ob2_307, rfl, rfl, hob2_307⟩ := hp
      have X : xS D A9 s9 [xoA q A, ob2_307] H locs := X
      refine lv_istore (lv' := [(11, .int (x_tM (zS z) (x_low (v >>> (5 &&& 31)) (tN (zS z))))), (10, .int (nI (x_bt (w >>> (2 &&& 31))))), (9, .int 3), (8, .int 1), (4, .int (nI (x_low (v >>> (5 &&& 31)) (tN (zS z))))), (3, .int (nI (tN (zS z)))), (0, .ref (A.1 0)), (1, .int v), (2, .int w)]) hx hb dL_does_310 hl (by decide) rfl (fun ls hl => ?_)
      refine lv_aload_n hx hb dL_does_312 rfl (lv_at hl 6 rfl) ?_
      refine lv_iload hx hb dL_does_313 (lv_at hl 4 rfl) ?_
      refine lv_iload hx hb dL_does_315 (lv_at hl 3 rfl) ?_
      refine lv_iload hx hb dL_does_317 (lv_at hl 1 rfl) ?_
      refine x_cVi F X (gc := [xoA q A, ob2_307]) (gr := []) (xp_idx (n := 2) [0, 1] (by decide +kernel) rfl rfl) (c_G_change l D q A z ob2_307 (x_low (v >>> (5 &&& 31)) (tN (zS z))) 1 (nI (x_bt (w >>> (2 &&& 31)))) (by first | assumption | omega) (by first | assumption | omega) (by omega) (by exact Or.inr (Or.inl ⟨rfl, ((x_rng (a := 0) (b := 1) (by omega) (by omega)).mpr ⟨x_bt (w >>> (2 &&& 31)), by omega, by omega, rfl⟩).1, ((x_rng (a := 0) (b := 1) (by omega) (by omega)).mpr ⟨x_bt (w >>> (2 &&& 31)), by omega, by omega, rfl⟩).2⟩))) (cwV 3 F.1.2.2.2.2 gL_does_X7_change rfl rfl rfl (by decide +kernel) ⟨Nat.le_of_ble_eq_true rfl, Nat.le_of_ble_eq_true rfl⟩) rfl rfl (r0 := 0) (ci := 7) (T := TX7) (N := 8) rfl rfl hl.1 ⟨Nat.le_of_ble_eq_true rfl, Nat.le_of_ble_eq_true rfl⟩ (Nat.le_of_ble_eq_true rfl) dL_does_319 (fun r_319 g1 H locs hp X => ?_)
      obtain ⟨ob2_319, rfl, rfl, hob2_319⟩ := hp
      have X : xS D A9 s9 [xoA q A, ob2_319] H locs := X
      have e5 : tN (zS (zCh z (upd (zS z) (33 + 5 * (x_low (v >>> (5 &&& 31)) (tN (zS z))) + x_kp 1) (nI (x_bt (w >>> (2 &&& 31))))))) = tN (zS z) := tN_eq (pk_un (by omega))
      refine lv_iload hx hb dL_does_322 (lv_at hl 0 rfl) ?_
      refine lv_icmp_ne (tgt := 344) hx hb dL_does_324 (by decide) (fun c_324 => ?_) (fun c_324 => ?_)
      · exfalso
        exact c_324 rfl
      refine lv_aload_n hx hb dL_does_327 rfl (lv_at hl 6 rfl) ?_
      refine lv_iload hx hb dL_does_328 (lv_at hl 4 rfl) ?_
      refine lv_iload hx hb dL_does_330 (lv_at hl 2 rfl) ?_
      refine x_cVi F X (gc := [xoA q A, ob2_319]) (gr := []) (xp_idx (n := 2) [0, 1] (by decide +kernel) rfl rfl) (c_G_of3 l D q A (zCh z (upd (zS z) (33 + 5 * (x_low (v >>> (5 &&& 31)) (tN (zS z))) + x_kp 1) (nI (x_bt (w >>> (2 &&& 31)))))) ob2_319 (x_low (v >>> (5 &&& 31)) (tN (zS z))) (by first | assumption | omega) (by rw [e5]; exact hk)) (cwV 2 F.1.2.2.2.2 gL_does_X7_of rfl rfl rfl (by decide +kernel) ⟨Nat.le_of_ble_eq_true rfl, Nat.le_of_ble_eq_true rfl⟩) rfl rfl (r0 := 0) (ci := 7) (T := TX7) (N := 8) rfl rfl hl.1 ⟨Nat.le_of_ble_eq_true rfl, Nat.le_of_ble_eq_true rfl⟩ (Nat.le_of_ble_eq_true rfl) dL_does_332 (fun r_332 g1 H locs hp X => ?_)
      obtain ⟨ob2_332, rfl, rfl, hob2_332⟩ := hp
      have X : xS D A9 s9 [xoA q A, ob2_332] H locs := X
      refine lv_iload hx hb dL_does_335 (lv_at hl 1 rfl) ?_
      refine lv_icmp_ne (tgt := 344) hx hb dL_does_337 (by decide) (fun c_337 => ?_) (fun c_337 => ?_)
      · exfalso
        exact c_337 (pk_us (f := zS z) (k := 33 + 5 * (x_low (v >>> (5 &&& 31)) (tN (zS z))) + x_kp 1) (x := (nI (x_bt (w >>> (2 &&& 31))))))
      refine lv_iconst (v := 1) hx hb dL_does_340 (by decide) ?_
      refine lv_goto (tgt := 345) hx hb dL_does_341 (by decide) ?_
      exact hret _ _ _ _ _ _ (by exact ⟨_, _, rfl, rfl, by assumption, by first | assumption | exact hw4.of hax.2.2.2.2 | exact hw4.of (pk_un (by omega)) | exact ⟨x_low w 201, by omega, rfl⟩⟩) X dL_does_345
    · rw [ea] at hl
      have hl : lv_has ls 16 [(8, .int 2), (4, .int (nI (x_low (v >>> (5 &&& 31)) (tN (zS z))))), (3, .int (nI (tN (zS z)))), (0, .ref (A.1 0)), (1, .int v), (2, .int w)] := hl
      refine lv_iload hx hb dL_does_227 (lv_at hl 0 rfl) ?_
      refine lv_iconst (v := 3) hx hb dL_does_229 (by decide) ?_
      refine lv_icmp_ne (tgt := 237) hx hb dL_does_230 (by decide) (fun _ => ?_) (fun h => absurd h (by decide))
      refine lv_iconst (v := 2) hx hb dL_does_237 (by decide) ?_
      refine lv_iload hx hb dL_does_238 (lv_at hl 0 rfl) ?_
      refine lv_iadd hx hb dL_does_240 ?_
      refine x_i (y := 4) (by decide) ?_
      refine lv_istore (lv' := [(9, .int 4), (8, .int 2), (4, .int (nI (x_low (v >>> (5 &&& 31)) (tN (zS z))))), (3, .int (nI (tN (zS z)))), (0, .ref (A.1 0)), (1, .int v), (2, .int w)]) hx hb dL_does_241 hl (by decide) rfl (fun ls hl => ?_)
      refine lv_iload hx hb dL_does_243 (lv_at hl 1 rfl) ?_
      refine lv_if_ne (tgt := 259) hx hb dL_does_245 (by decide) (fun _ => ?_) (fun h => absurd h (by decide))
      refine lv_iload hx hb dL_does_259 (lv_at hl 1 rfl) ?_
      refine lv_iconst (v := 1) hx hb dL_does_261 (by decide) ?_
      refine lv_icmp_ne (tgt := 273) hx hb dL_does_262 (by decide) (fun _ => ?_) (fun h => absurd h (by decide))
      refine lv_iload hx hb dL_does_273 (lv_at hl 1 rfl) ?_
      refine lv_iconst (v := 2) hx hb dL_does_275 (by decide) ?_
      refine lv_icmp_ne (tgt := 290) hx hb dL_does_276 (by decide) (fun h => absurd (by decide) h) (fun _ => ?_)
      refine lv_iload_n hx hb dL_does_279 rfl (lv_at hl 6 rfl) ?_
      refine lv_iconst (v := 2) hx hb dL_does_280 (by decide) ?_
      refine lv_ishr hx hb dL_does_281 ?_
      refine lv_bipush (v := 100) hx hb dL_does_282 (by decide) ?_
      refine x_cSi F X (gc := []) (gr := [xoA q A, ob2_2]) (xp_idx (n := 2) [0, 1] (by decide +kernel) rfl rfl) (c_L_low l D q (w >>> (2 &&& 31)) 100 (by first | assumption | omega) (by first | assumption | omega)) (va_cwS 2 F.1.2.2.2.2 gL_does_L_low rfl rfl rfl (by decide +kernel) ⟨Nat.le_of_ble_eq_true rfl, Nat.le_of_ble_eq_true rfl⟩) rfl rfl hl.1 ⟨Nat.le_of_ble_eq_true rfl, Nat.le_of_ble_eq_true rfl⟩ (Nat.le_of_ble_eq_true rfl) dL_does_284 (fun r_284 g1 H locs hp X => ?_)
      obtain ⟨rfl, rfl, hlt_284⟩ := hp
      have X : xS D A9 s9 [xoA q A, ob2_2] H locs := X
      refine lv_goto (tgt := 300) hx hb dL_does_287 (by decide) ?_
      refine lv_istore (lv' := [(10, .int (nI (x_low (w >>> (2 &&& 31)) 100))), (9, .int 4), (8, .int 2), (4, .int (nI (x_low (v >>> (5 &&& 31)) (tN (zS z))))), (3, .int (nI (tN (zS z)))), (0, .ref (A.1 0)), (1, .int v), (2, .int w)]) hx hb dL_does_300 hl (by decide) rfl (fun ls hl => ?_)
      have hbt := x_bt_lt (w >>> (2 &&& 31))
      refine lv_aload_n hx hb dL_does_302 rfl (lv_at hl 5 rfl) ?_
      refine lv_iload hx hb dL_does_303 (lv_at hl 3 rfl) ?_
      refine lv_iload hx hb dL_does_305 (lv_at hl 1 rfl) ?_
      refine x_cVi F X (gc := [xoA q A, ob2_2]) (gr := []) (xp_idx (n := 2) [0, 1] (by decide +kernel) rfl rfl) (c_G_of4 l D q A z ob2_2 (x_low (v >>> (5 &&& 31)) (tN (zS z))) (by first | assumption | omega) (by first | assumption | omega)) (cwV 2 F.1.2.2.2.2 gL_does_X7_of rfl rfl rfl (by decide +kernel) ⟨Nat.le_of_ble_eq_true rfl, Nat.le_of_ble_eq_true rfl⟩) rfl rfl (r0 := 0) (ci := 7) (T := TX7) (N := 8) rfl rfl hl.1 ⟨Nat.le_of_ble_eq_true rfl, Nat.le_of_ble_eq_true rfl⟩ (Nat.le_of_ble_eq_true rfl) dL_does_307 (fun r_307 g1 H locs hp X => ?_)
      obtain ⟨ob2_307, rfl, rfl, hob2_307⟩ := hp
      have X : xS D A9 s9 [xoA q A, ob2_307] H locs := X
      refine lv_istore (lv' := [(11, .int (x_tP (zS z) (x_low (v >>> (5 &&& 31)) (tN (zS z))))), (10, .int (nI (x_low (w >>> (2 &&& 31)) 100))), (9, .int 4), (8, .int 2), (4, .int (nI (x_low (v >>> (5 &&& 31)) (tN (zS z))))), (3, .int (nI (tN (zS z)))), (0, .ref (A.1 0)), (1, .int v), (2, .int w)]) hx hb dL_does_310 hl (by decide) rfl (fun ls hl => ?_)
      refine lv_aload_n hx hb dL_does_312 rfl (lv_at hl 6 rfl) ?_
      refine lv_iload hx hb dL_does_313 (lv_at hl 4 rfl) ?_
      refine lv_iload hx hb dL_does_315 (lv_at hl 3 rfl) ?_
      refine lv_iload hx hb dL_does_317 (lv_at hl 1 rfl) ?_
      refine x_cVi F X (gc := [xoA q A, ob2_307]) (gr := []) (xp_idx (n := 2) [0, 1] (by decide +kernel) rfl rfl) (c_G_change l D q A z ob2_307 (x_low (v >>> (5 &&& 31)) (tN (zS z))) 2 (nI (x_low (w >>> (2 &&& 31)) 100)) (by first | assumption | omega) (by first | assumption | omega) (by omega) (by exact Or.inr (Or.inr (Or.inl ⟨rfl, ((x_rng (a := 0) (b := 99) (by omega) (by omega)).mpr ⟨x_low (w >>> (2 &&& 31)) 100, by omega, by omega, rfl⟩).1, ((x_rng (a := 0) (b := 99) (by omega) (by omega)).mpr ⟨x_low (w >>> (2 &&& 31)) 100, by omega, by omega, rfl⟩).2⟩)))) (cwV 3 F.1.2.2.2.2 gL_does_X7_change rfl rfl rfl (by decide +kernel) ⟨Nat.le_of_ble_eq_true rfl, Nat.le_of_ble_eq_true rfl⟩) rfl rfl (r0 := 0) (ci := 7) (T := TX7) (N := 8) rfl rfl hl.1 ⟨Nat.le_of_ble_eq_true rfl, Nat.le_of_ble_eq_true rfl⟩ (Nat.le_of_ble_eq_true rfl) dL_does_319 (fun r_319 g1 H locs hp X => ?_)
      obtain ⟨ob2_319, rfl, rfl, hob2_319⟩ := hp
      have X : xS D A9 s9 [xoA q A, ob2_319] H locs := X
      have e5 : tN (zS (zCh z (upd (zS z) (33 + 5 * (x_low (v >>> (5 &&& 31)) (tN (zS z))) + x_kp 2) (nI (x_low (w >>> (2 &&& 31)) 100))))) = tN (zS z) := tN_eq (pk_un (by omega))
      refine lv_iload hx hb dL_does_322 (lv_at hl 0 rfl) ?_
      refine lv_icmp_ne (tgt := 344) hx hb dL_does_324 (by decide) (fun c_324 => ?_) (fun c_324 => ?_)
      · exfalso
        exact c_324 rfl
      refine lv_aload_n hx hb dL_does_327 rfl (lv_at hl 6 rfl) ?_
      refine lv_iload hx hb dL_does_328 (lv_at hl 4 rfl) ?_
      refine lv_iload hx hb dL_does_330 (lv_at hl 2 rfl) ?_
      refine x_cVi F X (gc := [xoA q A, ob2_319]) (gr := []) (xp_idx (n := 2) [0, 1] (by decide +kernel) rfl rfl) (c_G_of4 l D q A (zCh z (upd (zS z) (33 + 5 * (x_low (v >>> (5 &&& 31)) (tN (zS z))) + x_kp 2) (nI (x_low (w >>> (2 &&& 31)) 100)))) ob2_319 (x_low (v >>> (5 &&& 31)) (tN (zS z))) (by first | assumption | omega) (by rw [e5]; exact hk)) (cwV 2 F.1.2.2.2.2 gL_does_X7_of rfl rfl rfl (by decide +kernel) ⟨Nat.le_of_ble_eq_true rfl, Nat.le_of_ble_eq_true rfl⟩) rfl rfl (r0 := 0) (ci := 7) (T := TX7) (N := 8) rfl rfl hl.1 ⟨Nat.le_of_ble_eq_true rfl, Nat.le_of_ble_eq_true rfl⟩ (Nat.le_of_ble_eq_true rfl) dL_does_332 (fun r_332 g1 H locs hp X => ?_)
      obtain ⟨ob2_332, rfl, rfl, hob2_332⟩ := hp
      have X : xS D A9 s9 [xoA q A, ob2_332] H locs := X
      refine lv_iload hx hb dL_does_335 (lv_at hl 1 rfl) ?_
      refine lv_icmp_ne (tgt := 344) hx hb dL_does_337 (by decide) (fun c_337 => ?_) (fun c_337 => ?_)
      · exfalso
        exact c_337 (pk_us (f := zS z) (k := 33 + 5 * (x_low (v >>> (5 &&& 31)) (tN (zS z))) + x_kp 2) (x := (nI (x_low (w >>> (2 &&& 31)) 100))))
      refine lv_iconst (v := 1) hx hb dL_does_340 (by decide) ?_
      refine lv_goto (tgt := 345) hx hb dL_does_341 (by decide) ?_
      exact hret _ _ _ _ _ _ (by exact ⟨_, _, rfl, rfl, by assumption, by first | assumption | exact hw4.of hax.2.2.2.2 | exact hw4.of (pk_un (by omega)) | exact ⟨x_low w 201, by omega, rfl⟩⟩) X dL_does_345
    · rw [ea] at hl
      have hl : lv_has ls 16 [(8, .int 3), (4, .int (nI (x_low (v >>> (5 &&& 31)) (tN (zS z))))), (3, .int (nI (tN (zS z)))), (0, .ref (A.1 0)), (1, .int v), (2, .int w)] := hl
      refine lv_iload hx hb dL_does_227 (lv_at hl 0 rfl) ?_
      refine lv_iconst (v := 3) hx hb dL_does_229 (by decide) ?_
      refine lv_icmp_ne (tgt := 237) hx hb dL_does_230 (by decide) (fun h => absurd (by decide) h) (fun _ => ?_)
      refine lv_iconst (v := 1) hx hb dL_does_233 (by decide) ?_
      refine lv_goto (tgt := 241) hx hb dL_does_234 (by decide) ?_
      refine lv_istore (lv' := [(9, .int 1), (8, .int 3), (4, .int (nI (x_low (v >>> (5 &&& 31)) (tN (zS z))))), (3, .int (nI (tN (zS z)))), (0, .ref (A.1 0)), (1, .int v), (2, .int w)]) hx hb dL_does_241 hl (by decide) rfl (fun ls hl => ?_)
      refine lv_iload hx hb dL_does_243 (lv_at hl 1 rfl) ?_
      refine lv_if_ne (tgt := 259) hx hb dL_does_245 (by decide) (fun _ => ?_) (fun h => absurd h (by decide))
      refine lv_iload hx hb dL_does_259 (lv_at hl 1 rfl) ?_
      refine lv_iconst (v := 1) hx hb dL_does_261 (by decide) ?_
      refine lv_icmp_ne (tgt := 273) hx hb dL_does_262 (by decide) (fun _ => ?_) (fun h => absurd h (by decide))
      refine lv_iload hx hb dL_does_273 (lv_at hl 1 rfl) ?_
      refine lv_iconst (v := 2) hx hb dL_does_275 (by decide) ?_
      refine lv_icmp_ne (tgt := 290) hx hb dL_does_276 (by decide) (fun _ => ?_) (fun h => absurd h (by decide))
      refine lv_iconst (v := 1) hx hb dL_does_290 (by decide) ?_
      refine lv_iload_n hx hb dL_does_291 rfl (lv_at hl 6 rfl) ?_
      refine lv_iconst (v := 2) hx hb dL_does_292 (by decide) ?_
      refine lv_ishr hx hb dL_does_293 ?_
      refine lv_bipush (v := 9) hx hb dL_does_294 (by decide) ?_
      refine x_cSi F X (gc := []) (gr := [xoA q A, ob2_2]) (xp_idx (n := 2) [0, 1] (by decide +kernel) rfl rfl) (c_L_low l D q (w >>> (2 &&& 31)) 9 (by first | assumption | omega) (by first | assumption | omega)) (va_cwS 2 F.1.2.2.2.2 gL_does_L_low rfl rfl rfl (by decide +kernel) ⟨Nat.le_of_ble_eq_true rfl, Nat.le_of_ble_eq_true rfl⟩) rfl rfl hl.1 ⟨Nat.le_of_ble_eq_true rfl, Nat.le_of_ble_eq_true rfl⟩ (Nat.le_of_ble_eq_true rfl) dL_does_296 (fun r_296 g1 H locs hp X => ?_)
      obtain ⟨rfl, rfl, hlt_296⟩ := hp
      have X : xS D A9 s9 [xoA q A, ob2_2] H locs := X
      refine lv_iadd hx hb dL_does_299 ?_
      refine x_i (y := (nI (1 + (x_low (w >>> (2 &&& 31)) 9)))) (nI_add 1 (x_low (w >>> (2 &&& 31)) 9)) ?_
      refine lv_istore (lv' := [(10, .int (nI (1 + (x_low (w >>> (2 &&& 31)) 9)))), (9, .int 1), (8, .int 3), (4, .int (nI (x_low (v >>> (5 &&& 31)) (tN (zS z))))), (3, .int (nI (tN (zS z)))), (0, .ref (A.1 0)), (1, .int v), (2, .int w)]) hx hb dL_does_300 hl (by decide) rfl (fun ls hl => ?_)
      have hbt := x_bt_lt (w >>> (2 &&& 31))
      refine lv_aload_n hx hb dL_does_302 rfl (lv_at hl 5 rfl) ?_
      refine lv_iload hx hb dL_does_303 (lv_at hl 3 rfl) ?_
      refine lv_iload hx hb dL_does_305 (lv_at hl 1 rfl) ?_
      refine x_cVi F X (gc := [xoA q A, ob2_2]) (gr := []) (xp_idx (n := 2) [0, 1] (by decide +kernel) rfl rfl) (c_G_of1 l D q A z ob2_2 (x_low (v >>> (5 &&& 31)) (tN (zS z))) (by first | assumption | omega) (by first | assumption | omega)) (cwV 2 F.1.2.2.2.2 gL_does_X7_of rfl rfl rfl (by decide +kernel) ⟨Nat.le_of_ble_eq_true rfl, Nat.le_of_ble_eq_true rfl⟩) rfl rfl (r0 := 0) (ci := 7) (T := TX7) (N := 8) rfl rfl hl.1 ⟨Nat.le_of_ble_eq_true rfl, Nat.le_of_ble_eq_true rfl⟩ (Nat.le_of_ble_eq_true rfl) dL_does_307 (fun r_307 g1 H locs hp X => ?_)
      obtain ⟨ob2_307, rfl, rfl, hob2_307⟩ := hp
      have X : xS D A9 s9 [xoA q A, ob2_307] H locs := X
      refine lv_istore (lv' := [(11, .int (x_tW (zS z) (x_low (v >>> (5 &&& 31)) (tN (zS z))))), (10, .int (nI (1 + (x_low (w >>> (2 &&& 31)) 9)))), (9, .int 1), (8, .int 3), (4, .int (nI (x_low (v >>> (5 &&& 31)) (tN (zS z))))), (3, .int (nI (tN (zS z)))), (0, .ref (A.1 0)), (1, .int v), (2, .int w)]) hx hb dL_does_310 hl (by decide) rfl (fun ls hl => ?_)
      refine lv_aload_n hx hb dL_does_312 rfl (lv_at hl 6 rfl) ?_
      refine lv_iload hx hb dL_does_313 (lv_at hl 4 rfl) ?_
      refine lv_iload hx hb dL_does_315 (lv_at hl 3 rfl) ?_
      refine lv_iload hx hb dL_does_317 (lv_at hl 1 rfl) ?_
      refine x_cVi F X (gc := [xoA q A, ob2_307]) (gr := []) (xp_idx (n := 2) [0, 1] (by decide +kernel) rfl rfl) (c_G_change l D q A z ob2_307 (x_low (v >>> (5 &&& 31)) (tN (zS z))) 3 (nI (1 + (x_low (w >>> (2 &&& 31)) 9))) (by first | assumption | omega) (by first | assumption | omega) (by omega) (by exact Or.inr (Or.inr (Or.inr ⟨rfl, ((x_rng (a := 1) (b := 9) (by omega) (by omega)).mpr ⟨1 + (x_low (w >>> (2 &&& 31)) 9), by omega, by omega, rfl⟩).1, ((x_rng (a := 1) (b := 9) (by omega) (by omega)).mpr ⟨1 + (x_low (w >>> (2 &&& 31)) 9), by omega, by omega, rfl⟩).2⟩)))) (cwV 3 F.1.2.2.2.2 gL_does_X7_change rfl rfl rfl (by decide +kernel) ⟨Nat.le_of_ble_eq_true rfl, Nat.le_of_ble_eq_true rfl⟩) rfl rfl (r0 := 0) (ci := 7) (T := TX7) (N := 8) rfl rfl hl.1 ⟨Nat.le_of_ble_eq_true rfl, Nat.le_of_ble_eq_true rfl⟩ (Nat.le_of_ble_eq_true rfl) dL_does_319 (fun r_319 g1 H locs hp X => ?_)
      obtain ⟨ob2_319, rfl, rfl, hob2_319⟩ := hp
      have X : xS D A9 s9 [xoA q A, ob2_319] H locs := X
      have e5 : tN (zS (zCh z (upd (zS z) (33 + 5 * (x_low (v >>> (5 &&& 31)) (tN (zS z))) + x_kp 3) (nI (1 + (x_low (w >>> (2 &&& 31)) 9)))))) = tN (zS z) := tN_eq (pk_un (by omega))
      refine lv_iload hx hb dL_does_322 (lv_at hl 0 rfl) ?_
      refine lv_icmp_ne (tgt := 344) hx hb dL_does_324 (by decide) (fun c_324 => ?_) (fun c_324 => ?_)
      · exfalso
        exact c_324 rfl
      refine lv_aload_n hx hb dL_does_327 rfl (lv_at hl 6 rfl) ?_
      refine lv_iload hx hb dL_does_328 (lv_at hl 4 rfl) ?_
      refine lv_iload hx hb dL_does_330 (lv_at hl 2 rfl) ?_
      refine x_cVi F X (gc := [xoA q A, ob2_319]) (gr := []) (xp_idx (n := 2) [0, 1] (by decide +kernel) rfl rfl) (c_G_of1 l D q A (zCh z (upd (zS z) (33 + 5 * (x_low (v >>> (5 &&& 31)) (tN (zS z))) + x_kp 3) (nI (1 + (x_low (w >>> (2 &&& 31)) 9))))) ob2_319 (x_low (v >>> (5 &&& 31)) (tN (zS z))) (by first | assumption | omega) (by rw [e5]; exact hk)) (cwV 2 F.1.2.2.2.2 gL_does_X7_of rfl rfl rfl (by decide +kernel) ⟨Nat.le_of_ble_eq_true rfl, Nat.le_of_ble_eq_true rfl⟩) rfl rfl (r0 := 0) (ci := 7) (T := TX7) (N := 8) rfl rfl hl.1 ⟨Nat.le_of_ble_eq_true rfl, Nat.le_of_ble_eq_true rfl⟩ (Nat.le_of_ble_eq_true rfl) dL_does_332 (fun r_332 g1 H locs hp X => ?_)
      obtain ⟨ob2_332, rfl, rfl, hob2_332⟩ := hp
      have X : xS D A9 s9 [xoA q A, ob2_332] H locs := X
      refine lv_iload hx hb dL_does_335 (lv_at hl 1 rfl) ?_
      refine lv_icmp_ne (tgt := 344) hx hb dL_does_337 (by decide) (fun c_337 => ?_) (fun c_337 => ?_)
      · exfalso
        exact c_337 (pk_us (f := zS z) (k := 33 + 5 * (x_low (v >>> (5 &&& 31)) (tN (zS z))) + x_kp 3) (x := (nI (1 + (x_low (w >>> (2 &&& 31)) 9)))))
      refine lv_iconst (v := 1) hx hb dL_does_340 (by decide) ?_
      refine lv_goto (tgt := 345) hx hb dL_does_341 (by decide) ?_
      exact hret _ _ _ _ _ _ (by exact ⟨_, _, rfl, rfl, by assumption, by first | assumption | exact hw4.of hax.2.2.2.2 | exact hw4.of (pk_un (by omega)) | exact ⟨x_low w 201, by omega, rfl⟩⟩) X dL_does_345
  have J_346 : ∀ (H : Heap) (locs : List Loc) (ls : Array Slot), xS D A9 s9 [xoA q A, ob2_2] H locs → lv_has ls 16 [(4, .int (nI (x_low (v >>> (5 &&& 31)) (tN (zS z))))), (3, .int (nI (tN (zS z)))), (0, .ref (A.1 0)), (1, .int v), (2, .int w)] → W p9 l e9 { frames := 27, cells := 0, slots := 0, locals := 1148 } s9 m9 a9 below meth c9 H locs 0 0 Z9 (F0 m9 346 ls []) := by
    intro  H locs ls X hl 
    refine lv_aload_n hx hb dL_does_346 rfl (lv_at hl 2 rfl) ?_
    refine lv_iconst (v := 1) hx hb dL_does_347 (by decide) ?_
    refine x_cVi F X (gc := [xoA q A, ob2_2]) (gr := []) (xp_idx (n := 2) [0, 1] (by decide +kernel) rfl rfl) (c_G_count1 l D q A z ob2_2 (by first | assumption | omega)) (cwV 1 F.1.2.2.2.2 gL_does_X7_count rfl rfl rfl (by decide +kernel) ⟨Nat.le_of_ble_eq_true rfl, Nat.le_of_ble_eq_true rfl⟩) rfl rfl (r0 := 0) (ci := 7) (T := TX7) (N := 8) rfl rfl hl.1 ⟨Nat.le_of_ble_eq_true rfl, Nat.le_of_ble_eq_true rfl⟩ (Nat.le_of_ble_eq_true rfl) dL_does_348 (fun r_348 g1 H locs hp X => ?_)
    obtain ⟨ob2_348, rfl, rfl, hob2_348⟩ := hp
    have X : xS D A9 s9 [xoA q A, ob2_348] H locs := X
    refine lv_istore (lv' := [(12, .int ((zS z) 4)), (4, .int (nI (x_low (v >>> (5 &&& 31)) (tN (zS z))))), (3, .int (nI (tN (zS z)))), (0, .ref (A.1 0)), (1, .int v), (2, .int w)]) hx hb dL_does_351 hl (by decide) rfl (fun ls hl => ?_)
    refine lv_aload_n hx hb dL_does_353 rfl (lv_at hl 3 rfl) ?_
    refine lv_iload_n hx hb dL_does_354 rfl (lv_at hl 5 rfl) ?_
    refine lv_sipush (v := 201) hx hb dL_does_355 (by decide) ?_
    refine x_cSi F X (gc := []) (gr := [xoA q A, ob2_348]) (xp_idx (n := 2) [0, 1] (by decide +kernel) rfl rfl) (c_L_low l D q w 201 (by first | assumption | omega) (by first | assumption | omega)) (va_cwS 2 F.1.2.2.2.2 gL_does_L_low rfl rfl rfl (by decide +kernel) ⟨Nat.le_of_ble_eq_true rfl, Nat.le_of_ble_eq_true rfl⟩) rfl rfl hl.1 ⟨Nat.le_of_ble_eq_true rfl, Nat.le_of_ble_eq_true rfl⟩ (Nat.le_of_ble_eq_true rfl) dL_does_358 (fun r_358 g1 H locs hp X => ?_)
    obtain ⟨rfl, rfl, hlt_358⟩ := hp
    have X : xS D A9 s9 [xoA q A, ob2_348] H locs := X
    refine x_cVi F X (gc := [xoA q A, ob2_348]) (gr := []) (xp_idx (n := 2) [0, 1] (by decide +kernel) rfl rfl) (c_G_wind l D q A z ob2_348 (nI (x_low w 201)) (by first | assumption | omega) (by exact (x_rng (a := 0) (b := 200) (by omega) (by omega)).mpr ⟨x_low w 201, by omega, by omega, rfl⟩)) (cwV 1 F.1.2.2.2.2 gL_does_X7_wind rfl rfl rfl (by decide +kernel) ⟨Nat.le_of_ble_eq_true rfl, Nat.le_of_ble_eq_true rfl⟩) rfl rfl (r0 := 0) (ci := 7) (T := TX7) (N := 8) rfl rfl hl.1 ⟨Nat.le_of_ble_eq_true rfl, Nat.le_of_ble_eq_true rfl⟩ (Nat.le_of_ble_eq_true rfl) dL_does_361 (fun r_361 g1 H locs hp X => ?_)
    obtain ⟨ob2_361, rfl, rfl, hob2_361⟩ := hp
    have X : xS D A9 s9 [xoA q A, ob2_361] H locs := X
    refine lv_iload hx hb dL_does_364 (lv_at hl 0 rfl) ?_
    refine lv_icmp_ne (tgt := 388) hx hb dL_does_366 (by decide) (fun c_366 => ?_) (fun c_366 => ?_)
    · exfalso
      exact c_366 rfl
    refine lv_aload_n hx hb dL_does_369 rfl (lv_at hl 3 rfl) ?_
    refine lv_iconst (v := 1) hx hb dL_does_370 (by decide) ?_
    refine x_cVi F X (gc := [xoA q A, ob2_361]) (gr := []) (xp_idx (n := 2) [0, 1] (by decide +kernel) rfl rfl) (c_G_count1 l D q A (zW z (nI (x_low w 201))) ob2_361 (by first | assumption | omega)) (cwV 1 F.1.2.2.2.2 gL_does_X7_count rfl rfl rfl (by decide +kernel) ⟨Nat.le_of_ble_eq_true rfl, Nat.le_of_ble_eq_true rfl⟩) rfl rfl (r0 := 0) (ci := 7) (T := TX7) (N := 8) rfl rfl hl.1 ⟨Nat.le_of_ble_eq_true rfl, Nat.le_of_ble_eq_true rfl⟩ (Nat.le_of_ble_eq_true rfl) dL_does_371 (fun r_371 g1 H locs hp X => ?_)
    obtain ⟨ob2_371, rfl, rfl, hob2_371⟩ := hp
    have X : xS D A9 s9 [xoA q A, ob2_371] H locs := X
    refine lv_iload_n hx hb dL_does_374 rfl (lv_at hl 5 rfl) ?_
    refine lv_sipush (v := 201) hx hb dL_does_375 (by decide) ?_
    refine x_cSi F X (gc := []) (gr := [xoA q A, ob2_371]) (xp_idx (n := 2) [0, 1] (by decide +kernel) rfl rfl) (c_L_low l D q w 201 (by first | assumption | omega) (by first | assumption | omega)) (va_cwS 2 F.1.2.2.2.2 gL_does_L_low rfl rfl rfl (by decide +kernel) ⟨Nat.le_of_ble_eq_true rfl, Nat.le_of_ble_eq_true rfl⟩) rfl rfl hl.1 ⟨Nat.le_of_ble_eq_true rfl, Nat.le_of_ble_eq_true rfl⟩ (Nat.le_of_ble_eq_true rfl) dL_does_378 (fun r_378 g1 H locs hp X => ?_)
    obtain ⟨rfl, rfl, hlt_378⟩ := hp
    have X : xS D A9 s9 [xoA q A, ob2_371] H locs := X
    refine lv_icmp_ne (tgt := 388) hx hb dL_does_381 (by decide) (fun c_381 => ?_) (fun c_381 => ?_)
    · exfalso
      exact c_381 rfl
    refine lv_iconst (v := 1) hx hb dL_does_384 (by decide) ?_
    refine lv_goto (tgt := 389) hx hb dL_does_385 (by decide) ?_
    exact hret _ _ _ _ _ _ (by exact ⟨_, _, rfl, rfl, by assumption, by first | assumption | exact hw4.of hax.2.2.2.2 | exact hw4.of (pk_un (by omega)) | exact ⟨x_low w 201, by omega, rfl⟩⟩) X dL_does_389
  have J_501 : ∀ (H : Heap) (locs : List Loc) (ls : Array Slot), xS D A9 s9 [xoA q A, ob2_2] H locs → lv_has ls 16 [(4, .int (nI (x_low (v >>> (5 &&& 31)) (tN (zS z))))), (3, .int (nI (tN (zS z)))), (0, .ref (A.1 0)), (1, .int v), (2, .int w)] → W p9 l e9 { frames := 27, cells := 0, slots := 0, locals := 1148 } s9 m9 a9 below meth c9 H locs 0 0 Z9 (F0 m9 501 ls []) := by
    intro  H locs ls X hl 
    refine lv_aload_n hx hb dL_does_501 rfl (lv_at hl 2 rfl) ?_
    refine lv_iconst (v := 1) hx hb dL_does_502 (by decide) ?_
    refine lv_iload_n hx hb dL_does_503 rfl (lv_at hl 4 rfl) ?_
    refine lv_iload_n hx hb dL_does_504 rfl (lv_at hl 4 rfl) ?_
    refine lv_iconst (v := 5) hx hb dL_does_505 (by decide) ?_
    refine lv_ishr hx hb dL_does_506 ?_
    refine lv_iconst (v := 1) hx hb dL_does_507 (by decide) ?_
    refine lv_iand hx hb dL_does_508 ?_
    refine lv_if_ne (tgt := 517) hx hb dL_does_509 (by decide) (fun c_509 => ?_) (fun c_509 => ?_)
    · refine lv_iconst (v := 3) hx hb dL_does_517 (by decide) ?_
      refine x_cSi F X (gc := []) (gr := [xoA q A, ob2_2]) (xp_idx (n := 2) [0, 1] (by decide +kernel) rfl rfl) (c_L_low l D q w 3 (by first | assumption | omega) (by first | assumption | omega)) (va_cwS 2 F.1.2.2.2.2 gL_does_L_low rfl rfl rfl (by decide +kernel) ⟨Nat.le_of_ble_eq_true rfl, Nat.le_of_ble_eq_true rfl⟩) rfl rfl hl.1 ⟨Nat.le_of_ble_eq_true rfl, Nat.le_of_ble_eq_true rfl⟩ (Nat.le_of_ble_eq_true rfl) dL_does_518 (fun r_518 g1 H locs hp X => ?_)
      obtain ⟨rfl, rfl, hlt_518⟩ := hp
      have X : xS D A9 s9 [xoA q A, ob2_2] H locs := X
      refine lv_iadd hx hb dL_does_521 ?_
      refine x_i (y := (nI (1 + (x_low w 3)))) (nI_add 1 (x_low w 3)) ?_
      refine x_cSi F X (gc := [xoA q A, ob2_2]) (gr := []) (xp_idx (n := 2) [0, 1] (by decide +kernel) rfl rfl) (c_L_isPassed l D q A z ob2_2 (1 + (x_low w 3)) (by first | assumption | omega) (by first | assumption | omega) (by first | assumption | omega)) (va_cwS 2 F.1.2.2.2.2 gL_does_L_isPassed rfl rfl rfl (by decide +kernel) ⟨Nat.le_of_ble_eq_true rfl, Nat.le_of_ble_eq_true rfl⟩) rfl rfl hl.1 ⟨Nat.le_of_ble_eq_true rfl, Nat.le_of_ble_eq_true rfl⟩ (Nat.le_of_ble_eq_true rfl) dL_does_522 (fun r_522 g1 H locs hp X => ?_)
      obtain ⟨ob2_522, z2_522, rfl, rfl, hob2_522, hw2_522⟩ := hp
      have X : xS D A9 s9 [xoA q A, ob2_522] H locs := X
      exact hret _ _ _ _ _ _ (by exact ⟨_, _, rfl, rfl, by assumption, by first | assumption | exact hw4.of hax.2.2.2.2 | exact hw4.of (pk_un (by omega)) | exact ⟨x_low w 201, by omega, rfl⟩⟩) X dL_does_525
    · refine lv_bipush (v := 24) hx hb dL_does_512 (by decide) ?_
      refine lv_goto (tgt := 518) hx hb dL_does_514 (by decide) ?_
      refine x_cSi F X (gc := []) (gr := [xoA q A, ob2_2]) (xp_idx (n := 2) [0, 1] (by decide +kernel) rfl rfl) (c_L_low l D q w 24 (by first | assumption | omega) (by first | assumption | omega)) (va_cwS 2 F.1.2.2.2.2 gL_does_L_low rfl rfl rfl (by decide +kernel) ⟨Nat.le_of_ble_eq_true rfl, Nat.le_of_ble_eq_true rfl⟩) rfl rfl hl.1 ⟨Nat.le_of_ble_eq_true rfl, Nat.le_of_ble_eq_true rfl⟩ (Nat.le_of_ble_eq_true rfl) dL_does_518 (fun r_518 g1 H locs hp X => ?_)
      obtain ⟨rfl, rfl, hlt_518⟩ := hp
      have X : xS D A9 s9 [xoA q A, ob2_2] H locs := X
      refine lv_iadd hx hb dL_does_521 ?_
      refine x_i (y := (nI (1 + (x_low w 24)))) (nI_add 1 (x_low w 24)) ?_
      refine x_cSi F X (gc := [xoA q A, ob2_2]) (gr := []) (xp_idx (n := 2) [0, 1] (by decide +kernel) rfl rfl) (c_L_isPassed l D q A z ob2_2 (1 + (x_low w 24)) (by first | assumption | omega) (by first | assumption | omega) (by first | assumption | omega)) (va_cwS 2 F.1.2.2.2.2 gL_does_L_isPassed rfl rfl rfl (by decide +kernel) ⟨Nat.le_of_ble_eq_true rfl, Nat.le_of_ble_eq_true rfl⟩) rfl rfl hl.1 ⟨Nat.le_of_ble_eq_true rfl, Nat.le_of_ble_eq_true rfl⟩ (Nat.le_of_ble_eq_true rfl) dL_does_522 (fun r_522 g1 H locs hp X => ?_)
      obtain ⟨ob2_522, z2_522, rfl, rfl, hob2_522, hw2_522⟩ := hp
      have X : xS D A9 s9 [xoA q A, ob2_522] H locs := X
      exact hret _ _ _ _ _ _ (by exact ⟨_, _, rfl, rfl, by assumption, by first | assumption | exact hw4.of hax.2.2.2.2 | exact hw4.of (pk_un (by omega)) | exact ⟨x_low w 201, by omega, rfl⟩⟩) X dL_does_525
  have J_569 : ∀ (H : Heap) (locs : List Loc) (ls : Array Slot), xS D A9 s9 [xoA q A, ob2_2] H locs → lv_has ls 16 [(4, .int (nI (x_low (v >>> (5 &&& 31)) (tN (zS z))))), (3, .int (nI (tN (zS z)))), (0, .ref (A.1 0)), (1, .int v), (2, .int w)] → W p9 l e9 { frames := 27, cells := 0, slots := 0, locals := 1148 } s9 m9 a9 below meth c9 H locs 0 0 Z9 (F0 m9 569 ls []) := by
    intro  H locs ls X hl 
    refine lv_aload_n hx hb dL_does_569 rfl (lv_at hl 2 rfl) ?_
    refine lv_iload hx hb dL_does_570 (lv_at hl 0 rfl) ?_
    refine lv_iload_n hx hb dL_does_572 rfl (lv_at hl 4 rfl) ?_
    refine lv_iload_n hx hb dL_does_573 rfl (lv_at hl 1 rfl) ?_
    refine x_cSi F X (gc := []) (gr := [xoA q A, ob2_2]) (xp_idx (n := 2) [0, 1] (by decide +kernel) rfl rfl) (c_L_low l D q w (tN (zS z)) (by first | assumption | omega) (by first | assumption | omega)) (va_cwS 2 F.1.2.2.2.2 gL_does_L_low rfl rfl rfl (by decide +kernel) ⟨Nat.le_of_ble_eq_true rfl, Nat.le_of_ble_eq_true rfl⟩) rfl rfl hl.1 ⟨Nat.le_of_ble_eq_true rfl, Nat.le_of_ble_eq_true rfl⟩ (Nat.le_of_ble_eq_true rfl) dL_does_574 (fun r_574 g1 H locs hp X => ?_)
    obtain ⟨rfl, rfl, hlt_574⟩ := hp
    have X : xS D A9 s9 [xoA q A, ob2_2] H locs := X
    refine x_cSi F X (gc := [xoA q A, ob2_2]) (gr := []) (xp_idx (n := 2) [0, 1] (by decide +kernel) rfl rfl) (c_L_isWithout l D q A z ob2_2 (x_low (v >>> (5 &&& 31)) (tN (zS z))) (x_low w (tN (zS z))) (by first | assumption | omega) (by first | assumption | omega) (by first | assumption | omega)) (va_cwS 3 F.1.2.2.2.2 gL_does_L_isWithout rfl rfl rfl (by decide +kernel) ⟨Nat.le_of_ble_eq_true rfl, Nat.le_of_ble_eq_true rfl⟩) rfl rfl hl.1 ⟨Nat.le_of_ble_eq_true rfl, Nat.le_of_ble_eq_true rfl⟩ (Nat.le_of_ble_eq_true rfl) dL_does_577 (fun r_577 g1 H locs hp X => ?_)
    obtain ⟨ob2_577, rfl, rfl, hob2_577⟩ := hp
    have X : xS D A9 s9 [xoA q A, ob2_577] H locs := X
    exact hret _ _ _ _ _ _ (by exact ⟨_, _, rfl, rfl, by assumption, by first | assumption | exact hw4.of hax.2.2.2.2 | exact hw4.of (pk_un (by omega)) | exact ⟨x_low w 201, by omega, rfl⟩⟩) X dL_does_580
  have D_21 : (x_low v 18 ≠ 0 ∧ x_low v 18 ≠ 1 ∧ x_low v 18 ≠ 2 ∧ x_low v 18 ≠ 3 ∧ x_low v 18 ≠ 4 ∧ x_low v 18 ≠ 5 ∧ x_low v 18 ≠ 6 ∧ x_low v 18 ≠ 7 ∧ x_low v 18 ≠ 8 ∧ x_low v 18 ≠ 9 ∧ x_low v 18 ≠ 10 ∧ x_low v 18 ≠ 11 ∧ x_low v 18 ≠ 12 ∧ x_low v 18 ≠ 13 ∧ x_low v 18 ≠ 14 ∧ x_low v 18 ≠ 15 ∧ x_low v 18 ≠ 16) → W p9 l e9 { frames := 27, cells := 0, slots := 0, locals := 1148 } s9 m9 a9 below meth c9 H locs 0 0 Z9 (F0 m9 586 ls []) := by
    intro c_21
    refine lv_aload_n hx hb dL_does_586 rfl (lv_at hl 2 rfl) ?_
    refine lv_iload hx hb dL_does_587 (lv_at hl 0 rfl) ?_
    refine x_cSi F X (gc := [xoA q A, ob2_2]) (gr := []) (xp_idx (n := 2) [0, 1] (by decide +kernel) rfl rfl) (c_L_isStreet l D q A z ob2_2 (x_low (v >>> (5 &&& 31)) (tN (zS z))) (by first | assumption | omega) (by first | assumption | omega)) (va_cwS 2 F.1.2.2.2.2 gL_does_L_isStreet rfl rfl rfl (by decide +kernel) ⟨Nat.le_of_ble_eq_true rfl, Nat.le_of_ble_eq_true rfl⟩) rfl rfl hl.1 ⟨Nat.le_of_ble_eq_true rfl, Nat.le_of_ble_eq_true rfl⟩ (Nat.le_of_ble_eq_true rfl) dL_does_589 (fun r_589 g1 H locs hp X => ?_)
    obtain ⟨ob2_589, rfl, rfl, hob2_589⟩ := hp
    have X : xS D A9 s9 [xoA q A, ob2_589] H locs := X
    exact hret _ _ _ _ _ _ (by exact ⟨_, _, rfl, rfl, by assumption, by first | assumption | exact hw4.of hax.2.2.2.2 | exact hw4.of (pk_un (by omega)) | exact ⟨x_low w 201, by omega, rfl⟩⟩) X dL_does_592
  rcases x_swn (x_low v 18) 0 16 with c_21 | c_21
  · exact lv_tableOut (tgt := 586) hx hb dL_does_21 (x_swo (by omega) c_21 (by decide) (by decide)) (by decide) (D_21 (by omega))
  rcases (show x_low v 18 = 0 ∨ x_low v 18 = 1 ∨ x_low v 18 = 2 ∨ x_low v 18 = 3 ∨ x_low v 18 = 4 ∨ x_low v 18 = 5 ∨ x_low v 18 = 6 ∨ x_low v 18 = 7 ∨ x_low v 18 = 8 ∨ x_low v 18 = 9 ∨ x_low v 18 = 10 ∨ x_low v 18 = 11 ∨ x_low v 18 = 12 ∨ x_low v 18 = 13 ∨ x_low v 18 = 14 ∨ x_low v 18 = 15 ∨ x_low v 18 = 16 by omega) with c_21e | c_21e | c_21e | c_21e | c_21e | c_21e | c_21e | c_21e | c_21e | c_21e | c_21e | c_21e | c_21e | c_21e | c_21e | c_21e | c_21e
  · refine x_i (y := 0) (by rw [c_21e]; rfl) (lv_tableIn (off := 83) (tgt := 104) hx hb dL_does_21 (by decide) (by decide) (by decide) (by decide) ?_)
    have hcl := x_ct_le (x_tF (zS z)) (nI (x_low (v >>> (5 &&& 31)) (tN (zS z)))) (tN (zS z))
    exact J_104  _ _ _ X (lv_sub hl [0, 1, 2, 3, 4] rfl) 
  · refine x_i (y := 1) (by rw [c_21e]; rfl) (lv_tableIn (off := 83) (tgt := 104) hx hb dL_does_21 (by decide) (by decide) (by decide) (by decide) ?_)
    have hcl := x_ct_le (x_tF (zS z)) (nI (x_low (v >>> (5 &&& 31)) (tN (zS z)))) (tN (zS z))
    exact J_104  _ _ _ X (lv_sub hl [0, 1, 2, 3, 4] rfl) 
  · refine x_i (y := 2) (by rw [c_21e]; rfl) (lv_tableIn (off := 83) (tgt := 104) hx hb dL_does_21 (by decide) (by decide) (by decide) (by decide) ?_)
    have hcl := x_ct_le (x_tF (zS z)) (nI (x_low (v >>> (5 &&& 31)) (tN (zS z)))) (tN (zS z))
    exact J_104  _ _ _ X (lv_sub hl [0, 1, 2, 3, 4] rfl) 
  · refine x_i (y := 3) (by rw [c_21e]; rfl) (lv_tableIn (off := 199) (tgt := 220) hx hb dL_does_21 (by decide) (by decide) (by decide) (by decide) ?_)
    exact J_220  _ _ _ X (lv_sub hl [0, 1, 2, 3, 4] rfl) 
  · refine x_i (y := 4) (by rw [c_21e]; rfl) (lv_tableIn (off := 199) (tgt := 220) hx hb dL_does_21 (by decide) (by decide) (by decide) (by decide) ?_)
    exact J_220  _ _ _ X (lv_sub hl [0, 1, 2, 3, 4] rfl) 
  · refine x_i (y := 5) (by rw [c_21e]; rfl) (lv_tableIn (off := 199) (tgt := 220) hx hb dL_does_21 (by decide) (by decide) (by decide) (by decide) ?_)
    exact J_220  _ _ _ X (lv_sub hl [0, 1, 2, 3, 4] rfl) 
  · refine x_i (y := 6) (by rw [c_21e]; rfl) (lv_tableIn (off := 199) (tgt := 220) hx hb dL_does_21 (by decide) (by decide) (by decide) (by decide) ?_)
    exact J_220  _ _ _ X (lv_sub hl [0, 1, 2, 3, 4] rfl) 
  · refine x_i (y := 7) (by rw [c_21e]; rfl) (lv_tableIn (off := 199) (tgt := 220) hx hb dL_does_21 (by decide) (by decide) (by decide) (by decide) ?_)
    exact J_220  _ _ _ X (lv_sub hl [0, 1, 2, 3, 4] rfl) 
  · refine x_i (y := 8) (by rw [c_21e]; rfl) (lv_tableIn (off := 325) (tgt := 346) hx hb dL_does_21 (by decide) (by decide) (by decide) (by decide) ?_)
    exact J_346  _ _ _ X (lv_sub hl [0, 1, 2, 3, 4] rfl) 
  · refine x_i (y := 9) (by rw [c_21e]; rfl) (lv_tableIn (off := 325) (tgt := 346) hx hb dL_does_21 (by decide) (by decide) (by decide) (by decide) ?_)
    exact J_346  _ _ _ X (lv_sub hl [0, 1, 2, 3, 4] rfl) 
  · refine x_i (y := 10) (by rw [c_21e]; rfl) (lv_tableIn (off := 369) (tgt := 390) hx hb dL_does_21 (by decide) (by decide) (by decide) (by decide) ?_)
    refine lv_iload_n hx hb dL_does_390 rfl (lv_at hl 3 rfl) ?_
    refine lv_iconst (v := 5) hx hb dL_does_391 (by decide) ?_
    refine lv_ishr hx hb dL_does_392 ?_
    refine lv_iconst (v := 4) hx hb dL_does_393 (by decide) ?_
    refine x_cSi F X (gc := []) (gr := [xoA q A, ob2_2]) (xp_idx (n := 2) [0, 1] (by decide +kernel) rfl rfl) (c_L_low l D q (v >>> (5 &&& 31)) 4 (by first | assumption | omega) (by first | assumption | omega)) (va_cwS 2 F.1.2.2.2.2 gL_does_L_low rfl rfl rfl (by decide +kernel) ⟨Nat.le_of_ble_eq_true rfl, Nat.le_of_ble_eq_true rfl⟩) rfl rfl hl.1 ⟨Nat.le_of_ble_eq_true rfl, Nat.le_of_ble_eq_true rfl⟩ (Nat.le_of_ble_eq_true rfl) dL_does_394 (fun r_394 g1 H locs hp X => ?_)
    obtain ⟨rfl, rfl, hlt_394⟩ := hp
    have X : xS D A9 s9 [xoA q A, ob2_2] H locs := X
    refine lv_istore (lv' := [(13, .int (nI (x_low (v >>> (5 &&& 31)) 4))), (4, .int (nI (x_low (v >>> (5 &&& 31)) (tN (zS z))))), (3, .int (nI (tN (zS z)))), (0, .ref (A.1 0)), (1, .int v), (2, .int w)]) hx hb dL_does_397 hl (by decide) rfl (fun ls hl => ?_)
    rcases (show (x_low (v >>> (5 &&& 31)) 4) = 0 ∨ (x_low (v >>> (5 &&& 31)) 4) = 1 ∨ (x_low (v >>> (5 &&& 31)) 4) = 2 ∨ (x_low (v >>> (5 &&& 31)) 4) = 3 by omega) with ea | ea | ea | ea
    · rw [ea] at hl
      have hl : lv_has ls 16 [(13, .int 0), (4, .int (nI (x_low (v >>> (5 &&& 31)) (tN (zS z))))), (3, .int (nI (tN (zS z)))), (0, .ref (A.1 0)), (1, .int v), (2, .int w)] := hl
      refine lv_iload hx hb dL_does_399 (lv_at hl 0 rfl) ?_
      refine lv_if_ne (tgt := 415) hx hb dL_does_401 (by decide) (fun h => absurd (by decide) h) (fun _ => ?_)
      refine lv_iconst (v := 1) hx hb dL_does_404 (by decide) ?_
      refine lv_iload_n hx hb dL_does_405 rfl (lv_at hl 5 rfl) ?_
      refine lv_bipush (v := 20) hx hb dL_does_406 (by decide) ?_
      refine x_cSi F X (gc := []) (gr := [xoA q A, ob2_2]) (xp_idx (n := 2) [0, 1] (by decide +kernel) rfl rfl) (c_L_low l D q w 20 (by first | assumption | omega) (by first | assumption | omega)) (va_cwS 2 F.1.2.2.2.2 gL_does_L_low rfl rfl rfl (by decide +kernel) ⟨Nat.le_of_ble_eq_true rfl, Nat.le_of_ble_eq_true rfl⟩) rfl rfl hl.1 ⟨Nat.le_of_ble_eq_true rfl, Nat.le_of_ble_eq_true rfl⟩ (Nat.le_of_ble_eq_true rfl) dL_does_408 (fun r_408 g1 H locs hp X => ?_)
      obtain ⟨rfl, rfl, hlt_408⟩ := hp
      have X : xS D A9 s9 [xoA q A, ob2_2] H locs := X
      refine lv_iadd hx hb dL_does_411 ?_
      refine x_i (y := (nI (1 + (x_low w 20)))) (nI_add 1 (x_low w 20)) ?_
      refine lv_goto (tgt := 455) hx hb dL_does_412 (by decide) ?_
      refine lv_istore (lv' := [(14, .int (nI (1 + (x_low w 20)))), (13, .int 0), (4, .int (nI (x_low (v >>> (5 &&& 31)) (tN (zS z))))), (3, .int (nI (tN (zS z)))), (0, .ref (A.1 0)), (1, .int v), (2, .int w)]) hx hb dL_does_455 hl (by decide) rfl (fun ls hl => ?_)
      refine lv_aload_n hx hb dL_does_457 rfl (lv_at hl 4 rfl) ?_
      refine lv_bipush (v := 8) hx hb dL_does_458 (by decide) ?_
      refine lv_iload hx hb dL_does_460 (lv_at hl 1 rfl) ?_
      refine lv_iadd hx hb dL_does_462 ?_
      refine x_i (y := 8) (by decide) ?_
      refine x_cVi F X (gc := [xoA q A, ob2_2]) (gr := []) (xp_idx (n := 2) [0, 1] (by decide +kernel) rfl rfl) (c_G_count8 l D q A z ob2_2 (by first | assumption | omega)) (cwV 1 F.1.2.2.2.2 gL_does_X7_count rfl rfl rfl (by decide +kernel) ⟨Nat.le_of_ble_eq_true rfl, Nat.le_of_ble_eq_true rfl⟩) rfl rfl (r0 := 0) (ci := 7) (T := TX7) (N := 8) rfl rfl hl.1 ⟨Nat.le_of_ble_eq_true rfl, Nat.le_of_ble_eq_true rfl⟩ (Nat.le_of_ble_eq_true rfl) dL_does_463 (fun r_463 g1 H locs hp X => ?_)
      obtain ⟨ob2_463, rfl, rfl, hob2_463⟩ := hp
      have X : xS D A9 s9 [xoA q A, ob2_463] H locs := X
      refine lv_istore (lv' := [(15, .int ((zS z) 0)), (14, .int (nI (1 + (x_low w 20)))), (13, .int 0), (4, .int (nI (x_low (v >>> (5 &&& 31)) (tN (zS z))))), (3, .int (nI (tN (zS z)))), (0, .ref (A.1 0)), (1, .int v), (2, .int w)]) hx hb dL_does_466 hl (by decide) rfl (fun ls hl => ?_)
      refine lv_aload_n hx hb dL_does_468 rfl (lv_at hl 5 rfl) ?_
      refine lv_iload hx hb dL_does_469 (lv_at hl 2 rfl) ?_
      refine lv_iload hx hb dL_does_471 (lv_at hl 1 rfl) ?_
      refine x_cVi F X (gc := [xoA q A, ob2_463]) (gr := []) (xp_idx (n := 2) [0, 1] (by decide +kernel) rfl rfl) (c_G_set l D q A z ob2_463 0 (nI (1 + (x_low w 20))) (by first | assumption | omega) (by omega) (by exact Or.inl ⟨rfl, ((x_rng (a := 1) (b := 20) (by omega) (by omega)).mpr ⟨1 + (x_low w 20), by omega, by omega, rfl⟩).1, ((x_rng (a := 1) (b := 20) (by omega) (by omega)).mpr ⟨1 + (x_low w 20), by omega, by omega, rfl⟩).2⟩)) (cwV 2 F.1.2.2.2.2 gL_does_X7_set rfl rfl rfl (by decide +kernel) ⟨Nat.le_of_ble_eq_true rfl, Nat.le_of_ble_eq_true rfl⟩) rfl rfl (r0 := 0) (ci := 7) (T := TX7) (N := 8) rfl rfl hl.1 ⟨Nat.le_of_ble_eq_true rfl, Nat.le_of_ble_eq_true rfl⟩ (Nat.le_of_ble_eq_true rfl) dL_does_473 (fun r_473 g1 H locs hp X => ?_)
      obtain ⟨ob2_473, rfl, rfl, hob2_473⟩ := hp
      have X : xS D A9 s9 [xoA q A, ob2_473] H locs := X
      refine lv_iload hx hb dL_does_476 (lv_at hl 0 rfl) ?_
      refine lv_icmp_ne (tgt := 499) hx hb dL_does_478 (by decide) (fun c_478 => ?_) (fun c_478 => ?_)
      · exfalso
        exact c_478 rfl
      refine lv_aload_n hx hb dL_does_481 rfl (lv_at hl 5 rfl) ?_
      refine lv_bipush (v := 8) hx hb dL_does_482 (by decide) ?_
      refine lv_iload hx hb dL_does_484 (lv_at hl 2 rfl) ?_
      refine lv_iadd hx hb dL_does_486 ?_
      refine x_i (y := 8) (by decide) ?_
      refine x_cVi F X (gc := [xoA q A, ob2_473]) (gr := []) (xp_idx (n := 2) [0, 1] (by decide +kernel) rfl rfl) (c_G_count8 l D q A (zCh z (upd (zS z) 0 (nI (1 + (x_low w 20))))) ob2_473 (by first | assumption | omega)) (cwV 1 F.1.2.2.2.2 gL_does_X7_count rfl rfl rfl (by decide +kernel) ⟨Nat.le_of_ble_eq_true rfl, Nat.le_of_ble_eq_true rfl⟩) rfl rfl (r0 := 0) (ci := 7) (T := TX7) (N := 8) rfl rfl hl.1 ⟨Nat.le_of_ble_eq_true rfl, Nat.le_of_ble_eq_true rfl⟩ (Nat.le_of_ble_eq_true rfl) dL_does_487 (fun r_487 g1 H locs hp X => ?_)
      obtain ⟨ob2_487, rfl, rfl, hob2_487⟩ := hp
      have X : xS D A9 s9 [xoA q A, ob2_487] H locs := X
      refine lv_iload hx hb dL_does_490 (lv_at hl 1 rfl) ?_
      refine lv_icmp_ne (tgt := 499) hx hb dL_does_492 (by decide) (fun c_492 => ?_) (fun c_492 => ?_)
      · exfalso
        exact c_492 rfl
      refine lv_iconst (v := 1) hx hb dL_does_495 (by decide) ?_
      refine lv_goto (tgt := 500) hx hb dL_does_496 (by decide) ?_
      exact hret _ _ _ _ _ _ (by exact ⟨_, _, rfl, rfl, by assumption, by first | assumption | exact hw4.of hax.2.2.2.2 | exact hw4.of (pk_un (by omega)) | exact ⟨x_low w 201, by omega, rfl⟩⟩) X dL_does_500
    · rw [ea] at hl
      have hl : lv_has ls 16 [(13, .int 1), (4, .int (nI (x_low (v >>> (5 &&& 31)) (tN (zS z))))), (3, .int (nI (tN (zS z)))), (0, .ref (A.1 0)), (1, .int v), (2, .int w)] := hl
      refine lv_iload hx hb dL_does_399 (lv_at hl 0 rfl) ?_
      refine lv_if_ne (tgt := 415) hx hb dL_does_401 (by decide) (fun _ => ?_) (fun h => absurd h (by decide))
      refine lv_iload hx hb dL_does_415 (lv_at hl 0 rfl) ?_
      refine lv_iconst (v := 1) hx hb dL_does_417 (by decide) ?_
      refine lv_icmp_ne (tgt := 432) hx hb dL_does_418 (by decide) (fun h => absurd (by decide) h) (fun _ => ?_)
      refine lv_iconst (v := 1) hx hb dL_does_421 (by decide) ?_
      refine lv_iload_n hx hb dL_does_422 rfl (lv_at hl 5 rfl) ?_
      refine lv_bipush (v := 60) hx hb dL_does_423 (by decide) ?_
      refine x_cSi F X (gc := []) (gr := [xoA q A, ob2_2]) (xp_idx (n := 2) [0, 1] (by decide +kernel) rfl rfl) (c_L_low l D q w 60 (by first | assumption | omega) (by first | assumption | omega)) (va_cwS 2 F.1.2.2.2.2 gL_does_L_low rfl rfl rfl (by decide +kernel) ⟨Nat.le_of_ble_eq_true rfl, Nat.le_of_ble_eq_true rfl⟩) rfl rfl hl.1 ⟨Nat.le_of_ble_eq_true rfl, Nat.le_of_ble_eq_true rfl⟩ (Nat.le_of_ble_eq_true rfl) dL_does_425 (fun r_425 g1 H locs hp X => ?_)
      obtain ⟨rfl, rfl, hlt_425⟩ := hp
      have X : xS D A9 s9 [xoA q A, ob2_2] H locs := X
      refine lv_iadd hx hb dL_does_428 ?_
      refine x_i (y := (nI (1 + (x_low w 60)))) (nI_add 1 (x_low w 60)) ?_
      refine lv_goto (tgt := 455) hx hb dL_does_429 (by decide) ?_
      refine lv_istore (lv' := [(14, .int (nI (1 + (x_low w 60)))), (13, .int 1), (4, .int (nI (x_low (v >>> (5 &&& 31)) (tN (zS z))))), (3, .int (nI (tN (zS z)))), (0, .ref (A.1 0)), (1, .int v), (2, .int w)]) hx hb dL_does_455 hl (by decide) rfl (fun ls hl => ?_)
      refine lv_aload_n hx hb dL_does_457 rfl (lv_at hl 4 rfl) ?_
      refine lv_bipush (v := 8) hx hb dL_does_458 (by decide) ?_
      refine lv_iload hx hb dL_does_460 (lv_at hl 1 rfl) ?_
      refine lv_iadd hx hb dL_does_462 ?_
      refine x_i (y := 9) (by decide) ?_
      refine x_cVi F X (gc := [xoA q A, ob2_2]) (gr := []) (xp_idx (n := 2) [0, 1] (by decide +kernel) rfl rfl) (c_G_count9 l D q A z ob2_2 (by first | assumption | omega)) (cwV 1 F.1.2.2.2.2 gL_does_X7_count rfl rfl rfl (by decide +kernel) ⟨Nat.le_of_ble_eq_true rfl, Nat.le_of_ble_eq_true rfl⟩) rfl rfl (r0 := 0) (ci := 7) (T := TX7) (N := 8) rfl rfl hl.1 ⟨Nat.le_of_ble_eq_true rfl, Nat.le_of_ble_eq_true rfl⟩ (Nat.le_of_ble_eq_true rfl) dL_does_463 (fun r_463 g1 H locs hp X => ?_)
      obtain ⟨ob2_463, rfl, rfl, hob2_463⟩ := hp
      have X : xS D A9 s9 [xoA q A, ob2_463] H locs := X
      refine lv_istore (lv' := [(15, .int ((zS z) 1)), (14, .int (nI (1 + (x_low w 60)))), (13, .int 1), (4, .int (nI (x_low (v >>> (5 &&& 31)) (tN (zS z))))), (3, .int (nI (tN (zS z)))), (0, .ref (A.1 0)), (1, .int v), (2, .int w)]) hx hb dL_does_466 hl (by decide) rfl (fun ls hl => ?_)
      refine lv_aload_n hx hb dL_does_468 rfl (lv_at hl 5 rfl) ?_
      refine lv_iload hx hb dL_does_469 (lv_at hl 2 rfl) ?_
      refine lv_iload hx hb dL_does_471 (lv_at hl 1 rfl) ?_
      refine x_cVi F X (gc := [xoA q A, ob2_463]) (gr := []) (xp_idx (n := 2) [0, 1] (by decide +kernel) rfl rfl) (c_G_set l D q A z ob2_463 1 (nI (1 + (x_low w 60))) (by first | assumption | omega) (by omega) (by exact Or.inr (Or.inl ⟨rfl, ((x_rng (a := 1) (b := 60) (by omega) (by omega)).mpr ⟨1 + (x_low w 60), by omega, by omega, rfl⟩).1, ((x_rng (a := 1) (b := 60) (by omega) (by omega)).mpr ⟨1 + (x_low w 60), by omega, by omega, rfl⟩).2⟩))) (cwV 2 F.1.2.2.2.2 gL_does_X7_set rfl rfl rfl (by decide +kernel) ⟨Nat.le_of_ble_eq_true rfl, Nat.le_of_ble_eq_true rfl⟩) rfl rfl (r0 := 0) (ci := 7) (T := TX7) (N := 8) rfl rfl hl.1 ⟨Nat.le_of_ble_eq_true rfl, Nat.le_of_ble_eq_true rfl⟩ (Nat.le_of_ble_eq_true rfl) dL_does_473 (fun r_473 g1 H locs hp X => ?_)
      obtain ⟨ob2_473, rfl, rfl, hob2_473⟩ := hp
      have X : xS D A9 s9 [xoA q A, ob2_473] H locs := X
      refine lv_iload hx hb dL_does_476 (lv_at hl 0 rfl) ?_
      refine lv_icmp_ne (tgt := 499) hx hb dL_does_478 (by decide) (fun c_478 => ?_) (fun c_478 => ?_)
      · exfalso
        exact c_478 rfl
      refine lv_aload_n hx hb dL_does_481 rfl (lv_at hl 5 rfl) ?_
      refine lv_bipush (v := 8) hx hb dL_does_482 (by decide) ?_
      refine lv_iload hx hb dL_does_484 (lv_at hl 2 rfl) ?_
      refine lv_iadd hx hb dL_does_486 ?_
      refine x_i (y := 9) (by decide) ?_
      refine x_cVi F X (gc := [xoA q A, ob2_473]) (gr := []) (xp_idx (n := 2) [0, 1] (by decide +kernel) rfl rfl) (c_G_count9 l D q A (zCh z (upd (zS z) 1 (nI (1 + (x_low w 60))))) ob2_473 (by first | assumption | omega)) (cwV 1 F.1.2.2.2.2 gL_does_X7_count rfl rfl rfl (by decide +kernel) ⟨Nat.le_of_ble_eq_true rfl, Nat.le_of_ble_eq_true rfl⟩) rfl rfl (r0 := 0) (ci := 7) (T := TX7) (N := 8) rfl rfl hl.1 ⟨Nat.le_of_ble_eq_true rfl, Nat.le_of_ble_eq_true rfl⟩ (Nat.le_of_ble_eq_true rfl) dL_does_487 (fun r_487 g1 H locs hp X => ?_)
      obtain ⟨ob2_487, rfl, rfl, hob2_487⟩ := hp
      have X : xS D A9 s9 [xoA q A, ob2_487] H locs := X
      refine lv_iload hx hb dL_does_490 (lv_at hl 1 rfl) ?_
      refine lv_icmp_ne (tgt := 499) hx hb dL_does_492 (by decide) (fun c_492 => ?_) (fun c_492 => ?_)
      · exfalso
        exact c_492 rfl
      refine lv_iconst (v := 1) hx hb dL_does_495 (by decide) ?_
      refine lv_goto (tgt := 500) hx hb dL_does_496 (by decide) ?_
      exact hret _ _ _ _ _ _ (by exact ⟨_, _, rfl, rfl, by assumption, by first | assumption | exact hw4.of hax.2.2.2.2 | exact hw4.of (pk_un (by omega)) | exact ⟨x_low w 201, by omega, rfl⟩⟩) X dL_does_500
    · rw [ea] at hl
      have hl : lv_has ls 16 [(13, .int 2), (4, .int (nI (x_low (v >>> (5 &&& 31)) (tN (zS z))))), (3, .int (nI (tN (zS z)))), (0, .ref (A.1 0)), (1, .int v), (2, .int w)] := hl
      refine lv_iload hx hb dL_does_399 (lv_at hl 0 rfl) ?_
      refine lv_if_ne (tgt := 415) hx hb dL_does_401 (by decide) (fun _ => ?_) (fun h => absurd h (by decide))
      refine lv_iload hx hb dL_does_415 (lv_at hl 0 rfl) ?_
      refine lv_iconst (v := 1) hx hb dL_does_417 (by decide) ?_
      refine lv_icmp_ne (tgt := 432) hx hb dL_does_418 (by decide) (fun _ => ?_) (fun h => absurd h (by decide))
      refine lv_iload hx hb dL_does_432 (lv_at hl 0 rfl) ?_
      refine lv_iconst (v := 2) hx hb dL_does_434 (by decide) ?_
      refine lv_icmp_ne (tgt := 447) hx hb dL_does_435 (by decide) (fun h => absurd (by decide) h) (fun _ => ?_)
      refine lv_iload_n hx hb dL_does_438 rfl (lv_at hl 5 rfl) ?_
      refine lv_bipush (v := 101) hx hb dL_does_439 (by decide) ?_
      refine x_cSi F X (gc := []) (gr := [xoA q A, ob2_2]) (xp_idx (n := 2) [0, 1] (by decide +kernel) rfl rfl) (c_L_low l D q w 101 (by first | assumption | omega) (by first | assumption | omega)) (va_cwS 2 F.1.2.2.2.2 gL_does_L_low rfl rfl rfl (by decide +kernel) ⟨Nat.le_of_ble_eq_true rfl, Nat.le_of_ble_eq_true rfl⟩) rfl rfl hl.1 ⟨Nat.le_of_ble_eq_true rfl, Nat.le_of_ble_eq_true rfl⟩ (Nat.le_of_ble_eq_true rfl) dL_does_441 (fun r_441 g1 H locs hp X => ?_)
      obtain ⟨rfl, rfl, hlt_441⟩ := hp
      have X : xS D A9 s9 [xoA q A, ob2_2] H locs := X
      refine lv_goto (tgt := 455) hx hb dL_does_444 (by decide) ?_
      refine lv_istore (lv' := [(14, .int (nI (x_low w 101))), (13, .int 2), (4, .int (nI (x_low (v >>> (5 &&& 31)) (tN (zS z))))), (3, .int (nI (tN (zS z)))), (0, .ref (A.1 0)), (1, .int v), (2, .int w)]) hx hb dL_does_455 hl (by decide) rfl (fun ls hl => ?_)
      refine lv_aload_n hx hb dL_does_457 rfl (lv_at hl 4 rfl) ?_
      refine lv_bipush (v := 8) hx hb dL_does_458 (by decide) ?_
      refine lv_iload hx hb dL_does_460 (lv_at hl 1 rfl) ?_
      refine lv_iadd hx hb dL_does_462 ?_
      refine x_i (y := 10) (by decide) ?_
      refine x_cVi F X (gc := [xoA q A, ob2_2]) (gr := []) (xp_idx (n := 2) [0, 1] (by decide +kernel) rfl rfl) (c_G_count10 l D q A z ob2_2 (by first | assumption | omega)) (cwV 1 F.1.2.2.2.2 gL_does_X7_count rfl rfl rfl (by decide +kernel) ⟨Nat.le_of_ble_eq_true rfl, Nat.le_of_ble_eq_true rfl⟩) rfl rfl (r0 := 0) (ci := 7) (T := TX7) (N := 8) rfl rfl hl.1 ⟨Nat.le_of_ble_eq_true rfl, Nat.le_of_ble_eq_true rfl⟩ (Nat.le_of_ble_eq_true rfl) dL_does_463 (fun r_463 g1 H locs hp X => ?_)
      obtain ⟨ob2_463, rfl, rfl, hob2_463⟩ := hp
      have X : xS D A9 s9 [xoA q A, ob2_463] H locs := X
      refine lv_istore (lv' := [(15, .int ((zS z) 2)), (14, .int (nI (x_low w 101))), (13, .int 2), (4, .int (nI (x_low (v >>> (5 &&& 31)) (tN (zS z))))), (3, .int (nI (tN (zS z)))), (0, .ref (A.1 0)), (1, .int v), (2, .int w)]) hx hb dL_does_466 hl (by decide) rfl (fun ls hl => ?_)
      refine lv_aload_n hx hb dL_does_468 rfl (lv_at hl 5 rfl) ?_
      refine lv_iload hx hb dL_does_469 (lv_at hl 2 rfl) ?_
      refine lv_iload hx hb dL_does_471 (lv_at hl 1 rfl) ?_
      refine x_cVi F X (gc := [xoA q A, ob2_463]) (gr := []) (xp_idx (n := 2) [0, 1] (by decide +kernel) rfl rfl) (c_G_set l D q A z ob2_463 2 (nI (x_low w 101)) (by first | assumption | omega) (by omega) (by exact Or.inr (Or.inr (Or.inl ⟨rfl, ((x_rng (a := 0) (b := 100) (by omega) (by omega)).mpr ⟨x_low w 101, by omega, by omega, rfl⟩).1, ((x_rng (a := 0) (b := 100) (by omega) (by omega)).mpr ⟨x_low w 101, by omega, by omega, rfl⟩).2⟩)))) (cwV 2 F.1.2.2.2.2 gL_does_X7_set rfl rfl rfl (by decide +kernel) ⟨Nat.le_of_ble_eq_true rfl, Nat.le_of_ble_eq_true rfl⟩) rfl rfl (r0 := 0) (ci := 7) (T := TX7) (N := 8) rfl rfl hl.1 ⟨Nat.le_of_ble_eq_true rfl, Nat.le_of_ble_eq_true rfl⟩ (Nat.le_of_ble_eq_true rfl) dL_does_473 (fun r_473 g1 H locs hp X => ?_)
      obtain ⟨ob2_473, rfl, rfl, hob2_473⟩ := hp
      have X : xS D A9 s9 [xoA q A, ob2_473] H locs := X
      refine lv_iload hx hb dL_does_476 (lv_at hl 0 rfl) ?_
      refine lv_icmp_ne (tgt := 499) hx hb dL_does_478 (by decide) (fun c_478 => ?_) (fun c_478 => ?_)
      · exfalso
        exact c_478 rfl
      refine lv_aload_n hx hb dL_does_481 rfl (lv_at hl 5 rfl) ?_
      refine lv_bipush (v := 8) hx hb dL_does_482 (by decide) ?_
      refine lv_iload hx hb dL_does_484 (lv_at hl 2 rfl) ?_
      refine lv_iadd hx hb dL_does_486 ?_
      refine x_i (y := 10) (by decide) ?_
      refine x_cVi F X (gc := [xoA q A, ob2_473]) (gr := []) (xp_idx (n := 2) [0, 1] (by decide +kernel) rfl rfl) (c_G_count10 l D q A (zCh z (upd (zS z) 2 (nI (x_low w 101)))) ob2_473 (by first | assumption | omega)) (cwV 1 F.1.2.2.2.2 gL_does_X7_count rfl rfl rfl (by decide +kernel) ⟨Nat.le_of_ble_eq_true rfl, Nat.le_of_ble_eq_true rfl⟩) rfl rfl (r0 := 0) (ci := 7) (T := TX7) (N := 8) rfl rfl hl.1 ⟨Nat.le_of_ble_eq_true rfl, Nat.le_of_ble_eq_true rfl⟩ (Nat.le_of_ble_eq_true rfl) dL_does_487 (fun r_487 g1 H locs hp X => ?_)
      obtain ⟨ob2_487, rfl, rfl, hob2_487⟩ := hp
      have X : xS D A9 s9 [xoA q A, ob2_487] H locs := X
      refine lv_iload hx hb dL_does_490 (lv_at hl 1 rfl) ?_
      refine lv_icmp_ne (tgt := 499) hx hb dL_does_492 (by decide) (fun c_492 => ?_) (fun c_492 => ?_)
      · exfalso
        exact c_492 rfl
      refine lv_iconst (v := 1) hx hb dL_does_495 (by decide) ?_
      refine lv_goto (tgt := 500) hx hb dL_does_496 (by decide) ?_
      exact hret _ _ _ _ _ _ (by exact ⟨_, _, rfl, rfl, by assumption, by first | assumption | exact hw4.of hax.2.2.2.2 | exact hw4.of (pk_un (by omega)) | exact ⟨x_low w 201, by omega, rfl⟩⟩) X dL_does_500
    · rw [ea] at hl
      have hl : lv_has ls 16 [(13, .int 3), (4, .int (nI (x_low (v >>> (5 &&& 31)) (tN (zS z))))), (3, .int (nI (tN (zS z)))), (0, .ref (A.1 0)), (1, .int v), (2, .int w)] := hl
      refine lv_iload hx hb dL_does_399 (lv_at hl 0 rfl) ?_
      refine lv_if_ne (tgt := 415) hx hb dL_does_401 (by decide) (fun _ => ?_) (fun h => absurd h (by decide))
      refine lv_iload hx hb dL_does_415 (lv_at hl 0 rfl) ?_
      refine lv_iconst (v := 1) hx hb dL_does_417 (by decide) ?_
      refine lv_icmp_ne (tgt := 432) hx hb dL_does_418 (by decide) (fun _ => ?_) (fun h => absurd h (by decide))
      refine lv_iload hx hb dL_does_432 (lv_at hl 0 rfl) ?_
      refine lv_iconst (v := 2) hx hb dL_does_434 (by decide) ?_
      refine lv_icmp_ne (tgt := 447) hx hb dL_does_435 (by decide) (fun _ => ?_) (fun h => absurd h (by decide))
      refine lv_iconst (v := 1) hx hb dL_does_447 (by decide) ?_
      refine lv_iload_n hx hb dL_does_448 rfl (lv_at hl 5 rfl) ?_
      refine lv_bipush (v := 30) hx hb dL_does_449 (by decide) ?_
      refine x_cSi F X (gc := []) (gr := [xoA q A, ob2_2]) (xp_idx (n := 2) [0, 1] (by decide +kernel) rfl rfl) (c_L_low l D q w 30 (by first | assumption | omega) (by first | assumption | omega)) (va_cwS 2 F.1.2.2.2.2 gL_does_L_low rfl rfl rfl (by decide +kernel) ⟨Nat.le_of_ble_eq_true rfl, Nat.le_of_ble_eq_true rfl⟩) rfl rfl hl.1 ⟨Nat.le_of_ble_eq_true rfl, Nat.le_of_ble_eq_true rfl⟩ (Nat.le_of_ble_eq_true rfl) dL_does_451 (fun r_451 g1 H locs hp X => ?_)
      obtain ⟨rfl, rfl, hlt_451⟩ := hp
      have X : xS D A9 s9 [xoA q A, ob2_2] H locs := X
      refine lv_iadd hx hb dL_does_454 ?_
      refine x_i (y := (nI (1 + (x_low w 30)))) (nI_add 1 (x_low w 30)) ?_
      refine lv_istore (lv' := [(14, .int (nI (1 + (x_low w 30)))), (13, .int 3), (4, .int (nI (x_low (v >>> (5 &&& 31)) (tN (zS z))))), (3, .int (nI (tN (zS z)))), (0, .ref (A.1 0)), (1, .int v), (2, .int w)]) hx hb dL_does_455 hl (by decide) rfl (fun ls hl => ?_)
      refine lv_aload_n hx hb dL_does_457 rfl (lv_at hl 4 rfl) ?_
      refine lv_bipush (v := 8) hx hb dL_does_458 (by decide) ?_
      refine lv_iload hx hb dL_does_460 (lv_at hl 1 rfl) ?_
      refine lv_iadd hx hb dL_does_462 ?_
      refine x_i (y := 11) (by decide) ?_
      refine x_cVi F X (gc := [xoA q A, ob2_2]) (gr := []) (xp_idx (n := 2) [0, 1] (by decide +kernel) rfl rfl) (c_G_count11 l D q A z ob2_2 (by first | assumption | omega)) (cwV 1 F.1.2.2.2.2 gL_does_X7_count rfl rfl rfl (by decide +kernel) ⟨Nat.le_of_ble_eq_true rfl, Nat.le_of_ble_eq_true rfl⟩) rfl rfl (r0 := 0) (ci := 7) (T := TX7) (N := 8) rfl rfl hl.1 ⟨Nat.le_of_ble_eq_true rfl, Nat.le_of_ble_eq_true rfl⟩ (Nat.le_of_ble_eq_true rfl) dL_does_463 (fun r_463 g1 H locs hp X => ?_)
      obtain ⟨ob2_463, rfl, rfl, hob2_463⟩ := hp
      have X : xS D A9 s9 [xoA q A, ob2_463] H locs := X
      refine lv_istore (lv' := [(15, .int ((zS z) 3)), (14, .int (nI (1 + (x_low w 30)))), (13, .int 3), (4, .int (nI (x_low (v >>> (5 &&& 31)) (tN (zS z))))), (3, .int (nI (tN (zS z)))), (0, .ref (A.1 0)), (1, .int v), (2, .int w)]) hx hb dL_does_466 hl (by decide) rfl (fun ls hl => ?_)
      refine lv_aload_n hx hb dL_does_468 rfl (lv_at hl 5 rfl) ?_
      refine lv_iload hx hb dL_does_469 (lv_at hl 2 rfl) ?_
      refine lv_iload hx hb dL_does_471 (lv_at hl 1 rfl) ?_
      refine x_cVi F X (gc := [xoA q A, ob2_463]) (gr := []) (xp_idx (n := 2) [0, 1] (by decide +kernel) rfl rfl) (c_G_set l D q A z ob2_463 3 (nI (1 + (x_low w 30))) (by first | assumption | omega) (by omega) (by exact Or.inr (Or.inr (Or.inr ⟨rfl, ((x_rng (a := 1) (b := 30) (by omega) (by omega)).mpr ⟨1 + (x_low w 30), by omega, by omega, rfl⟩).1, ((x_rng (a := 1) (b := 30) (by omega) (by omega)).mpr ⟨1 + (x_low w 30), by omega, by omega, rfl⟩).2⟩)))) (cwV 2 F.1.2.2.2.2 gL_does_X7_set rfl rfl rfl (by decide +kernel) ⟨Nat.le_of_ble_eq_true rfl, Nat.le_of_ble_eq_true rfl⟩) rfl rfl (r0 := 0) (ci := 7) (T := TX7) (N := 8) rfl rfl hl.1 ⟨Nat.le_of_ble_eq_true rfl, Nat.le_of_ble_eq_true rfl⟩ (Nat.le_of_ble_eq_true rfl) dL_does_473 (fun r_473 g1 H locs hp X => ?_)
      obtain ⟨ob2_473, rfl, rfl, hob2_473⟩ := hp
      have X : xS D A9 s9 [xoA q A, ob2_473] H locs := X
      refine lv_iload hx hb dL_does_476 (lv_at hl 0 rfl) ?_
      refine lv_icmp_ne (tgt := 499) hx hb dL_does_478 (by decide) (fun c_478 => ?_) (fun c_478 => ?_)
      · exfalso
        exact c_478 rfl
      refine lv_aload_n hx hb dL_does_481 rfl (lv_at hl 5 rfl) ?_
      refine lv_bipush (v := 8) hx hb dL_does_482 (by decide) ?_
      refine lv_iload hx hb dL_does_484 (lv_at hl 2 rfl) ?_
      refine lv_iadd hx hb dL_does_486 ?_
      refine x_i (y := 11) (by decide) ?_
      refine x_cVi F X (gc := [xoA q A, ob2_473]) (gr := []) (xp_idx (n := 2) [0, 1] (by decide +kernel) rfl rfl) (c_G_count11 l D q A (zCh z (upd (zS z) 3 (nI (1 + (x_low w 30))))) ob2_473 (by first | assumption | omega)) (cwV 1 F.1.2.2.2.2 gL_does_X7_count rfl rfl rfl (by decide +kernel) ⟨Nat.le_of_ble_eq_true rfl, Nat.le_of_ble_eq_true rfl⟩) rfl rfl (r0 := 0) (ci := 7) (T := TX7) (N := 8) rfl rfl hl.1 ⟨Nat.le_of_ble_eq_true rfl, Nat.le_of_ble_eq_true rfl⟩ (Nat.le_of_ble_eq_true rfl) dL_does_487 (fun r_487 g1 H locs hp X => ?_)
      obtain ⟨ob2_487, rfl, rfl, hob2_487⟩ := hp
      have X : xS D A9 s9 [xoA q A, ob2_487] H locs := X
      refine lv_iload hx hb dL_does_490 (lv_at hl 1 rfl) ?_
      refine lv_icmp_ne (tgt := 499) hx hb dL_does_492 (by decide) (fun c_492 => ?_) (fun c_492 => ?_)
      · exfalso
        exact c_492 rfl
      refine lv_iconst (v := 1) hx hb dL_does_495 (by decide) ?_
      refine lv_goto (tgt := 500) hx hb dL_does_496 (by decide) ?_
      exact hret _ _ _ _ _ _ (by exact ⟨_, _, rfl, rfl, by assumption, by first | assumption | exact hw4.of hax.2.2.2.2 | exact hw4.of (pk_un (by omega)) | exact ⟨x_low w 201, by omega, rfl⟩⟩) X dL_does_500
  · refine x_i (y := 11) (by rw [c_21e]; rfl) (lv_tableIn (off := 480) (tgt := 501) hx hb dL_does_21 (by decide) (by decide) (by decide) (by decide) ?_)
    exact J_501  _ _ _ X (lv_sub hl [0, 1, 2, 3, 4] rfl) 
  · refine x_i (y := 12) (by rw [c_21e]; rfl) (lv_tableIn (off := 480) (tgt := 501) hx hb dL_does_21 (by decide) (by decide) (by decide) (by decide) ?_)
    exact J_501  _ _ _ X (lv_sub hl [0, 1, 2, 3, 4] rfl) 
  · refine x_i (y := 13) (by rw [c_21e]; rfl) (lv_tableIn (off := 505) (tgt := 526) hx hb dL_does_21 (by decide) (by decide) (by decide) (by decide) ?_)
    refine lv_iload_n hx hb dL_does_526 rfl (lv_at hl 4 rfl) ?_
    refine lv_iconst (v := 1) hx hb dL_does_527 (by decide) ?_
    refine lv_iand hx hb dL_does_528 ?_
    refine lv_if_eq (tgt := 563) hx hb dL_does_529 (by decide) (fun c_529 => ?_) (fun c_529 => ?_)
    · refine lv_iconst (v := 1) hx hb dL_does_563 (by decide) ?_
      refine lv_goto (tgt := 568) hx hb dL_does_564 (by decide) ?_
      exact hret _ _ _ _ _ _ (by exact ⟨_, _, rfl, rfl, by assumption, by first | assumption | exact hw4.of hax.2.2.2.2 | exact hw4.of (pk_un (by omega)) | exact ⟨x_low w 201, by omega, rfl⟩⟩) X dL_does_568
    · refine lv_aload_n hx hb dL_does_532 rfl (lv_at hl 2 rfl) ?_
      refine lv_iconst (v := 1) hx hb dL_does_533 (by decide) ?_
      refine lv_iload_n hx hb dL_does_534 rfl (lv_at hl 4 rfl) ?_
      refine lv_iconst (v := 1) hx hb dL_does_535 (by decide) ?_
      refine lv_ishr hx hb dL_does_536 ?_
      refine lv_sipush (v := 200) hx hb dL_does_537 (by decide) ?_
      refine x_cSi F X (gc := []) (gr := [xoA q A, ob2_2]) (xp_idx (n := 2) [0, 1] (by decide +kernel) rfl rfl) (c_L_low l D q (w >>> (1 &&& 31)) 200 (by first | assumption | omega) (by first | assumption | omega)) (va_cwS 2 F.1.2.2.2.2 gL_does_L_low rfl rfl rfl (by decide +kernel) ⟨Nat.le_of_ble_eq_true rfl, Nat.le_of_ble_eq_true rfl⟩) rfl rfl hl.1 ⟨Nat.le_of_ble_eq_true rfl, Nat.le_of_ble_eq_true rfl⟩ (Nat.le_of_ble_eq_true rfl) dL_does_540 (fun r_540 g1 H locs hp X => ?_)
      obtain ⟨rfl, rfl, hlt_540⟩ := hp
      have X : xS D A9 s9 [xoA q A, ob2_2] H locs := X
      refine lv_iadd hx hb dL_does_543 ?_
      refine x_i (y := (nI (1 + (x_low (w >>> (1 &&& 31)) 200)))) (nI_add 1 (x_low (w >>> (1 &&& 31)) 200)) ?_
      refine lv_iload hx hb dL_does_544 (lv_at hl 0 rfl) ?_
      refine lv_iconst (v := 1) hx hb dL_does_546 (by decide) ?_
      refine lv_iload_n hx hb dL_does_547 rfl (lv_at hl 4 rfl) ?_
      refine lv_bipush (v := 9) hx hb dL_does_548 (by decide) ?_
      refine lv_ishr hx hb dL_does_550 ?_
      refine lv_bipush (v := 12) hx hb dL_does_551 (by decide) ?_
      refine x_cSi F X (gc := []) (gr := [xoA q A, ob2_2]) (xp_idx (n := 2) [0, 1] (by decide +kernel) rfl rfl) (c_L_low l D q (w >>> (9 &&& 31)) 12 (by first | assumption | omega) (by first | assumption | omega)) (va_cwS 2 F.1.2.2.2.2 gL_does_L_low rfl rfl rfl (by decide +kernel) ⟨Nat.le_of_ble_eq_true rfl, Nat.le_of_ble_eq_true rfl⟩) rfl rfl hl.1 ⟨Nat.le_of_ble_eq_true rfl, Nat.le_of_ble_eq_true rfl⟩ (Nat.le_of_ble_eq_true rfl) dL_does_553 (fun r_553 g1 H locs hp X => ?_)
      obtain ⟨rfl, rfl, hlt_553⟩ := hp
      have X : xS D A9 s9 [xoA q A, ob2_2] H locs := X
      refine lv_iadd hx hb dL_does_556 ?_
      refine x_i (y := (nI (1 + (x_low (w >>> (9 &&& 31)) 12)))) (nI_add 1 (x_low (w >>> (9 &&& 31)) 12)) ?_
      refine x_cSi F X (gc := [xoA q A, ob2_2]) (gr := []) (xp_idx (n := 2) [0, 1] (by decide +kernel) rfl rfl) (c_L_isLeast l D q A z ob2_2 (1 + (x_low (w >>> (1 &&& 31)) 200)) (x_low (v >>> (5 &&& 31)) (tN (zS z))) (1 + (x_low (w >>> (9 &&& 31)) 12)) (by first | assumption | omega) (by first | assumption | omega) (by first | assumption | omega) (by first | assumption | omega) (by first | assumption | omega)) (va_cwS 4 F.1.2.2.2.2 gL_does_L_isLeast rfl rfl rfl (by decide +kernel) ⟨Nat.le_of_ble_eq_true rfl, Nat.le_of_ble_eq_true rfl⟩) rfl rfl hl.1 ⟨Nat.le_of_ble_eq_true rfl, Nat.le_of_ble_eq_true rfl⟩ (Nat.le_of_ble_eq_true rfl) dL_does_557 (fun r_557 g1 H locs hp X => ?_)
      obtain ⟨ob2_557, z2_557, rfl, rfl, hob2_557, hw2_557⟩ := hp
      have X : xS D A9 s9 [xoA q A, ob2_557] H locs := X
      refine lv_if_eq (tgt := 567) hx hb dL_does_560 (by decide) (fun h => absurd h (by decide)) (fun _ => ?_)
      refine lv_iconst (v := 1) hx hb dL_does_563 (by decide) ?_
      refine lv_goto (tgt := 568) hx hb dL_does_564 (by decide) ?_
      exact hret _ _ _ _ _ _ (by exact ⟨_, _, rfl, rfl, by assumption, by first | assumption | exact hw4.of hax.2.2.2.2 | exact hw4.of (pk_un (by omega)) | exact ⟨x_low w 201, by omega, rfl⟩⟩) X dL_does_568
  · refine x_i (y := 14) (by rw [c_21e]; rfl) (lv_tableIn (off := 548) (tgt := 569) hx hb dL_does_21 (by decide) (by decide) (by decide) (by decide) ?_)
    exact J_569  _ _ _ X (lv_sub hl [0, 1, 2, 3, 4] rfl) 
  · refine x_i (y := 15) (by rw [c_21e]; rfl) (lv_tableIn (off := 548) (tgt := 569) hx hb dL_does_21 (by decide) (by decide) (by decide) (by decide) ?_)
    exact J_569  _ _ _ X (lv_sub hl [0, 1, 2, 3, 4] rfl) 
  · refine x_i (y := 16) (by rw [c_21e]; rfl) (lv_tableIn (off := 560) (tgt := 581) hx hb dL_does_21 (by decide) (by decide) (by decide) (by decide) ?_)
    refine lv_aload_n hx hb dL_does_581 rfl (lv_at hl 2 rfl) ?_
    refine x_cSi F X (gc := [xoA q A, ob2_2]) (gr := []) (xp_idx (n := 2) [0, 1] (by decide +kernel) rfl rfl) (c_L_isWritten l D q A z ob2_2 (by first | assumption | omega) (by first | assumption | omega)) (va_cwS 1 F.1.2.2.2.2 gL_does_L_isWritten rfl rfl rfl (by decide +kernel) ⟨Nat.le_of_ble_eq_true rfl, Nat.le_of_ble_eq_true rfl⟩) rfl rfl hl.1 ⟨Nat.le_of_ble_eq_true rfl, Nat.le_of_ble_eq_true rfl⟩ (Nat.le_of_ble_eq_true rfl) dL_does_582 (fun r_582 g1 H locs hp X => ?_)
    obtain ⟨ob2_582, z2_582, rfl, rfl, hob2_582, hw2_582⟩ := hp
    have X : xS D A9 s9 [xoA q A, ob2_582] H locs := X
    exact hret _ _ _ _ _ _ (by exact ⟨_, _, rfl, rfl, by assumption, by first | assumption | exact hw4.of hax.2.2.2.2 | exact hw4.of (pk_un (by omega)) | exact ⟨x_low w 201, by omega, rfl⟩⟩) X dL_does_585

