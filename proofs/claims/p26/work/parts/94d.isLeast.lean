set_option maxHeartbeats 1000000 in
set_option maxRecDepth 100000 in
theorem c_L_isLeast (l : Launch) (D : va_G) (q : xQ) (A : xAd) (z : xZt) (ob : va_W) (x : Nat) (k : Nat) (st : Nat) (hob : xOb q A z ob) (hw4 : xW z) (hx1 : 1 ≤ x ∧ x ≤ 200) (hk : k < tN (zS z)) (hst : 1 ≤ st ∧ st ≤ 12) : xMi l yL_isLeast wsL_isLeast { frames := 6, cells := 0, slots := 0, locals := 146 } D q [.ref (A.1 0), .int (nI x), .int (nI k), .int (nI st)] [xoA q A, ob] (fun r gw => ∃ (ob2 : va_W), ∃ (z2 : xZt), gw = [xoA q A, ob2] ∧ r = 1 ∧ (xOb q A z2 ob2) ∧ (xW z2)) := by
  refine xMi_of (cc := cL_isLeast) (maxL := 12) (rt := .boolean) (by decide) rfl (Nat.le_of_ble_eq_true rfl) (fun v w h => by obtain ⟨_, _, _, rfl, _⟩ := h; rfl) ?_
  intro p9 e9 s9 m9 a9 below meth c9 A9 Z9 ls H locs F X hl hret
  have hx := F.1.1
  have hb := F.1.2.1
  have hl : lv_has ls 12 [(0, .ref (A.1 0)), (1, .int (nI x)), (2, .int (nI k)), (3, .int (nI st))] := hl
  have hok := hob.ok
  have hn := hok.1
  have hn1 := hok.2.1
  have hp := xv_hp hok
  refine lv_aload_n hx hb dL_isLeast_0 rfl (lv_at hl 0 rfl) ?_
  refine lv_iload_n hx hb dL_isLeast_1 rfl (lv_at hl 1 rfl) ?_
  refine x_cVi F X (gc := [xoA q A, ob]) (gr := []) (xp_idx (n := 2) [0, 1] (by decide +kernel) rfl rfl) (c_G_windFor l D q A z ob (nI x) (by first | assumption | omega) (by exact (x_rng (a := 1) (b := 999) (by omega) (by omega)).mpr ⟨x, by omega, by omega, rfl⟩)) (cwV 1 F.1.2.2.2.2 gL_isLeast_X7_windFor rfl rfl rfl (by decide +kernel) ⟨Nat.le_of_ble_eq_true rfl, Nat.le_of_ble_eq_true rfl⟩) rfl rfl (r0 := 0) (ci := 7) (T := TX7) (N := 8) rfl rfl hl.1 ⟨Nat.le_of_ble_eq_true rfl, Nat.le_of_ble_eq_true rfl⟩ (Nat.le_of_ble_eq_true rfl) dL_isLeast_2 (fun r_2 g1 H locs hp X => ?_)
  obtain ⟨ob2_2, rfl, rfl, hob2_2⟩ := hp
  have X : xS D A9 s9 [xoA q A, ob2_2] H locs := X
  refine lv_istore (lv' := [(4, .int (x_fnd (x_hb (zS z) (tR (zS z)) (tN (zS z))) (nI x) 0 201)), (0, .ref (A.1 0)), (1, .int (nI x)), (2, .int (nI k)), (3, .int (nI st))]) hx hb dL_isLeast_5 hl (by decide) rfl (fun ls hl => ?_)
  refine lv_bipush (v := (-6)) hx hb dL_isLeast_7 (by decide) ?_
  refine lv_istore (lv' := [(5, .int (-6)), (4, .int (x_fnd (x_hb (zS z) (tR (zS z)) (tN (zS z))) (nI x) 0 201)), (0, .ref (A.1 0)), (1, .int (nI x)), (2, .int (nI k)), (3, .int (nI st))]) hx hb dL_isLeast_9 hl (by decide) rfl (fun ls hl => ?_)
  refine lv_sipush (v := 200) hx hb dL_isLeast_11 (by decide) ?_
  refine lv_istore (lv' := [(6, .int 200), (5, .int (-6)), (4, .int (x_fnd (x_hb (zS z) (tR (zS z)) (tN (zS z))) (nI x) 0 201)), (0, .ref (A.1 0)), (1, .int (nI x)), (2, .int (nI k)), (3, .int (nI st))]) hx hb dL_isLeast_14 hl (by decide) rfl (fun ls hl => ?_)
  have L_16 : ∀ (nn : Nat) (ob : va_W) (i : Nat) (fi : Int32) (H : Heap) (locs : List Loc) (ls : Array Slot), xS D A9 s9 [xoA q A, ob] H locs → lv_has ls 12 [(6, .int (nI i - 1)), (5, .int fi), (4, .int (x_fnd (x_hb (zS z) (tR (zS z)) (tN (zS z))) (nI x) 0 201)), (0, .ref (A.1 0)), (1, .int (nI x)), (2, .int (nI k)), (3, .int (nI st))] → (i < nn) → (xOb q A z ob) → (i ≤ 201) → (fi = x_fnd (x_hb (zS z) (tR (zS z)) (tN (zS z))) (nI x) i (201 - i)) → W p9 l e9 { frames := 6, cells := 0, slots := 0, locals := 146 } s9 m9 a9 below meth c9 H locs 0 0 Z9 (F0 m9 16 ls []) := by
    intro nn
    induction nn with
    | zero => intro ob i fi H locs ls X hl hfuel hob hi hfi; exact absurd hfuel (by omega)
    | succ nn ih_16 =>
      intro ob i fi H locs ls X hl hfuel hob hi hfi
      refine lv_iload hx hb dL_isLeast_16 (lv_at hl 0 rfl) ?_
      refine lv_if_lt (tgt := 46) hx hb dL_isLeast_18 (by decide) (fun c_18 => ?_) (fun c_18 => ?_)
      · have hi0 : i = 0 := (x_dm (by omega)).mp c_18
        subst hi0
        refine lv_iload hx hb dL_isLeast_46 (lv_at hl 2 rfl) ?_
        refine lv_iload hx hb dL_isLeast_48 (lv_at hl 1 rfl) ?_
        refine lv_icmp_eq (tgt := 55) hx hb dL_isLeast_50 (by decide) (fun c_50 => ?_) (fun c_50 => ?_)
        rotate_left
        · exfalso
          exact c_50 hfi.symm
        refine lv_aload_n hx hb dL_isLeast_55 rfl (lv_at hl 3 rfl) ?_
        refine lv_iload_n hx hb dL_isLeast_56 rfl (lv_at hl 5 rfl) ?_
        refine lv_iload_n hx hb dL_isLeast_57 rfl (lv_at hl 6 rfl) ?_
        refine x_cVi F X (gc := [xoA q A, ob]) (gr := []) (xp_idx (n := 2) [0, 1] (by decide +kernel) rfl rfl) (c_G_windOfFlag l D q A z ob k (nI st) (by first | assumption | omega) (by first | assumption | omega) (by exact (x_rng (a := 1) (b := 12) (by omega) (by omega)).mpr ⟨st, by omega, by omega, rfl⟩)) (cwV 2 F.1.2.2.2.2 gL_isLeast_X7_windOfFlag rfl rfl rfl (by decide +kernel) ⟨Nat.le_of_ble_eq_true rfl, Nat.le_of_ble_eq_true rfl⟩) rfl rfl (r0 := 0) (ci := 7) (T := TX7) (N := 8) rfl rfl hl.1 ⟨Nat.le_of_ble_eq_true rfl, Nat.le_of_ble_eq_true rfl⟩ (Nat.le_of_ble_eq_true rfl) dL_isLeast_58 (fun r_58 g1 H locs hp X => ?_)
        obtain ⟨ob2_58, rfl, rfl, hob2_58⟩ := hp
        have X : xS D A9 s9 [xoA q A, ob2_58] H locs := X
        refine lv_istore (lv' := [(6, .int (if x_tC (zS z) k = 0 then -5 else x_fnd (fun f => x_fst (zS z) (x_FT (zS z) (tR (zS z)) (tN (zS z)) (-6) f) k) (nI st) 0 201)), (5, .int fi), (4, .int (x_fnd (x_hb (zS z) (tR (zS z)) (tN (zS z))) (nI x) 0 201)), (0, .ref (A.1 0)), (1, .int (nI x)), (2, .int (nI k)), (3, .int (nI st))]) hx hb dL_isLeast_61 hl (by decide) rfl (fun ls hl => ?_)
        refine lv_aload_n hx hb dL_isLeast_63 rfl (lv_at hl 3 rfl) ?_
        refine lv_iload_n hx hb dL_isLeast_64 rfl (lv_at hl 5 rfl) ?_
        refine lv_iconst (v := 2) hx hb dL_isLeast_65 (by decide) ?_
        refine x_cVi F X (gc := [xoA q A, ob2_58]) (gr := []) (xp_idx (n := 2) [0, 1] (by decide +kernel) rfl rfl) (c_G_of2 l D q A z ob2_58 k (by first | assumption | omega) (by first | assumption | omega)) (cwV 2 F.1.2.2.2.2 gL_isLeast_X7_of rfl rfl rfl (by decide +kernel) ⟨Nat.le_of_ble_eq_true rfl, Nat.le_of_ble_eq_true rfl⟩) rfl rfl (r0 := 0) (ci := 7) (T := TX7) (N := 8) rfl rfl hl.1 ⟨Nat.le_of_ble_eq_true rfl, Nat.le_of_ble_eq_true rfl⟩ (Nat.le_of_ble_eq_true rfl) dL_isLeast_66 (fun r_66 g1 H locs hp X => ?_)
        obtain ⟨ob2_66, rfl, rfl, hob2_66⟩ := hp
        have X : xS D A9 s9 [xoA q A, ob2_66] H locs := X
        refine lv_if_ne (tgt := 85) hx hb dL_isLeast_69 (by decide) (fun c_69 => ?_) (fun c_69 => ?_)
        · rcases x_fnd_all (g := (fun f => x_fst (zS z) (x_FT (zS z) (tR (zS z)) (tN (zS z)) (-6) f) k)) (h := nI st) 201 0 with ⟨ew, hno⟩ | ⟨t, -, ht2, ew, hyes, hlo⟩
          · rw [if_neg c_69, ew] at hl
            have hl : lv_has ls 12 [(6, .int (-6)), (5, .int fi), (4, .int (x_fnd (x_hb (zS z) (tR (zS z)) (tN (zS z))) (nI x) 0 201)), (0, .ref (A.1 0)), (1, .int (nI x)), (2, .int (nI k)), (3, .int (nI st))] := hl
            refine lv_aload_n hx hb dL_isLeast_85 rfl (lv_at hl 3 rfl) ?_
            refine lv_sipush (v := 200) hx hb dL_isLeast_86 (by decide) ?_
            refine x_cVi F X (gc := [xoA q A, ob2_66]) (gr := []) (xp_idx (n := 2) [0, 1] (by decide +kernel) rfl rfl) (c_G_wind l D q A z ob2_66 200 (by first | assumption | omega) (by exact ⟨by decide, by decide⟩)) (cwV 1 F.1.2.2.2.2 gL_isLeast_X7_wind rfl rfl rfl (by decide +kernel) ⟨Nat.le_of_ble_eq_true rfl, Nat.le_of_ble_eq_true rfl⟩) rfl rfl (r0 := 0) (ci := 7) (T := TX7) (N := 8) rfl rfl hl.1 ⟨Nat.le_of_ble_eq_true rfl, Nat.le_of_ble_eq_true rfl⟩ (Nat.le_of_ble_eq_true rfl) dL_isLeast_89 (fun r_89 g1 H locs hp X => ?_)
            obtain ⟨ob2_89, rfl, rfl, hob2_89⟩ := hp
            have X : xS D A9 s9 [xoA q A, ob2_89] H locs := X
            refine lv_istore (lv' := [(7, .int ((zS z) 4)), (6, .int (-6)), (5, .int fi), (4, .int (x_fnd (x_hb (zS z) (tR (zS z)) (tN (zS z))) (nI x) 0 201)), (0, .ref (A.1 0)), (1, .int (nI x)), (2, .int (nI k)), (3, .int (nI st))]) hx hb dL_isLeast_92 hl (by decide) rfl (fun ls hl => ?_)
            refine lv_iload hx hb dL_isLeast_94 (lv_at hl 1 rfl) ?_
            refine lv_bipush (v := (-6)) hx hb dL_isLeast_96 (by decide) ?_
            refine lv_icmp_ne (tgt := 111) hx hb dL_isLeast_98 (by decide) (fun h => absurd (by decide) h) (fun _ => ?_)
            refine lv_aload_n hx hb dL_isLeast_101 rfl (lv_at hl 4 rfl) ?_
            refine lv_iload_n hx hb dL_isLeast_102 rfl (lv_at hl 6 rfl) ?_
            refine lv_iconst (v := 2) hx hb dL_isLeast_103 (by decide) ?_
            refine x_cVi F X (gc := [xoA q A, ob2_89]) (gr := []) (xp_idx (n := 2) [0, 1] (by decide +kernel) rfl rfl) (c_G_now2 l D q A (zW z 200) ob2_89 k (by first | assumption | omega) (by exact hk)) (cwV 2 F.1.2.2.2.2 gL_isLeast_X7_now rfl rfl rfl (by decide +kernel) ⟨Nat.le_of_ble_eq_true rfl, Nat.le_of_ble_eq_true rfl⟩) rfl rfl (r0 := 0) (ci := 7) (T := TX7) (N := 8) rfl rfl hl.1 ⟨Nat.le_of_ble_eq_true rfl, Nat.le_of_ble_eq_true rfl⟩ (Nat.le_of_ble_eq_true rfl) dL_isLeast_104 (fun r_104 g1 H locs hp X => ?_)
            obtain ⟨ob2_104, rfl, rfl, hob2_104⟩ := hp
            have X : xS D A9 s9 [xoA q A, ob2_104] H locs := X
            refine lv_iload_n hx hb dL_isLeast_107 rfl (lv_at hl 7 rfl) ?_
            refine lv_icmp_ge (tgt := 115) hx hb dL_isLeast_108 (by decide) (fun c_108 => ?_) (fun c_108 => ?_)
            · exfalso
              rw [(xf_now (s1 := zS (zW z 200)) (f := nI 200) hok hk (fun j hj => by show (upd (zS z) 4 200) j = zS z j; rw [pk_un hj]) rfl c_69)] at c_108
              exact hno 200 (by omega) (by omega) c_108
            refine lv_iconst (v := 1) hx hb dL_isLeast_111 (by decide) ?_
            refine lv_goto (tgt := 116) hx hb dL_isLeast_112 (by decide) ?_
            refine lv_istore (lv' := [(8, .int 1), (7, .int ((zS z) 4)), (6, .int (-6)), (5, .int fi), (4, .int (x_fnd (x_hb (zS z) (tR (zS z)) (tN (zS z))) (nI x) 0 201)), (0, .ref (A.1 0)), (1, .int (nI x)), (2, .int (nI k)), (3, .int (nI st))]) hx hb dL_isLeast_116 hl (by decide) rfl (fun ls hl => ?_)
            refine lv_iload hx hb dL_isLeast_118 (lv_at hl 2 rfl) ?_
            refine lv_bipush (v := (-6)) hx hb dL_isLeast_120 (by decide) ?_
            refine lv_icmp_ne (tgt := 131) hx hb dL_isLeast_122 (by decide) (fun h => absurd (by decide) h) (fun _ => ?_)
            refine lv_sipush (v := 200) hx hb dL_isLeast_125 (by decide) ?_
            refine lv_goto (tgt := 133) hx hb dL_isLeast_128 (by decide) ?_
            refine lv_istore (lv' := [(9, .int 200), (8, .int 1), (7, .int ((zS z) 4)), (6, .int (-6)), (5, .int fi), (4, .int (x_fnd (x_hb (zS z) (tR (zS z)) (tN (zS z))) (nI x) 0 201)), (0, .ref (A.1 0)), (1, .int (nI x)), (2, .int (nI k)), (3, .int (nI st))]) hx hb dL_isLeast_133 hl (by decide) rfl (fun ls hl => ?_)
            refine lv_aload_n hx hb dL_isLeast_135 rfl (lv_at hl 6 rfl) ?_
            refine lv_iload hx hb dL_isLeast_136 (lv_at hl 0 rfl) ?_
            refine x_cVi F X (gc := [xoA q A, ob2_104]) (gr := []) (xp_idx (n := 2) [0, 1] (by decide +kernel) rfl rfl) (c_G_wind l D q A (zW z 200) ob2_104 200 (by first | assumption | omega) (by exact ⟨by decide, by decide⟩)) (cwV 1 F.1.2.2.2.2 gL_isLeast_X7_wind rfl rfl rfl (by decide +kernel) ⟨Nat.le_of_ble_eq_true rfl, Nat.le_of_ble_eq_true rfl⟩) rfl rfl (r0 := 0) (ci := 7) (T := TX7) (N := 8) rfl rfl hl.1 ⟨Nat.le_of_ble_eq_true rfl, Nat.le_of_ble_eq_true rfl⟩ (Nat.le_of_ble_eq_true rfl) dL_isLeast_138 (fun r_138 g1 H locs hp X => ?_)
            obtain ⟨ob2_138, rfl, rfl, hob2_138⟩ := hp
            have X : xS D A9 s9 [xoA q A, ob2_138] H locs := X
            refine x_i (y := 200) (rfl) ?_
            refine lv_istore (lv' := [(10, .int 200), (9, .int 200), (8, .int 1), (7, .int ((zS z) 4)), (6, .int (-6)), (5, .int fi), (4, .int (x_fnd (x_hb (zS z) (tR (zS z)) (tN (zS z))) (nI x) 0 201)), (0, .ref (A.1 0)), (1, .int (nI x)), (2, .int (nI k)), (3, .int (nI st))]) hx hb dL_isLeast_141 hl (by decide) rfl (fun ls hl => ?_)
            refine lv_iload hx hb dL_isLeast_143 (lv_at hl 2 rfl) ?_
            refine lv_if_eq (tgt := 177) hx hb dL_isLeast_145 (by decide) (fun h => absurd h (by decide)) (fun _ => ?_)
            refine lv_iload hx hb dL_isLeast_148 (lv_at hl 0 rfl) ?_
            refine lv_sipush (v := 200) hx hb dL_isLeast_150 (by decide) ?_
            refine lv_icmp_ne (tgt := 177) hx hb dL_isLeast_153 (by decide) (fun h => absurd (by decide) h) (fun _ => ?_)
            refine lv_iload hx hb dL_isLeast_156 (lv_at hl 4 rfl) ?_
            refine lv_bipush (v := (-6)) hx hb dL_isLeast_158 (by decide) ?_
            refine lv_icmp_eq (tgt := 173) hx hb dL_isLeast_160 (by decide) (fun _ => ?_) (fun h => absurd (by decide) h)
            refine lv_iconst (v := 1) hx hb dL_isLeast_173 (by decide) ?_
            refine lv_goto (tgt := 178) hx hb dL_isLeast_174 (by decide) ?_
            refine lv_istore (lv' := [(8, .int 1), (10, .int 200), (9, .int 200), (7, .int ((zS z) 4)), (6, .int (-6)), (5, .int fi), (4, .int (x_fnd (x_hb (zS z) (tR (zS z)) (tN (zS z))) (nI x) 0 201)), (0, .ref (A.1 0)), (1, .int (nI x)), (2, .int (nI k)), (3, .int (nI st))]) hx hb dL_isLeast_178 hl (by decide) rfl (fun ls hl => ?_)
            refine lv_iload hx hb dL_isLeast_180 (lv_at hl 4 rfl) ?_
            refine lv_if_le (tgt := 224) hx hb dL_isLeast_182 (by decide) (fun _ => ?_) (fun h => absurd (by decide) h)
            refine lv_aload_n hx hb dL_isLeast_224 rfl (lv_at hl 7 rfl) ?_
            refine lv_iload hx hb dL_isLeast_225 (lv_at hl 3 rfl) ?_
            refine x_cVi F X (gc := [xoA q A, ob2_138]) (gr := []) (xp_idx (n := 2) [0, 1] (by decide +kernel) rfl rfl) (c_G_wind l D q A (zW (zW z 200) 200) ob2_138 ((zS z) 4) (by first | assumption | omega) (by exact hw4.rg)) (cwV 1 F.1.2.2.2.2 gL_isLeast_X7_wind rfl rfl rfl (by decide +kernel) ⟨Nat.le_of_ble_eq_true rfl, Nat.le_of_ble_eq_true rfl⟩) rfl rfl (r0 := 0) (ci := 7) (T := TX7) (N := 8) rfl rfl hl.1 ⟨Nat.le_of_ble_eq_true rfl, Nat.le_of_ble_eq_true rfl⟩ (Nat.le_of_ble_eq_true rfl) dL_isLeast_227 (fun r_227 g1 H locs hp X => ?_)
            obtain ⟨ob2_227, rfl, rfl, hob2_227⟩ := hp
            have X : xS D A9 s9 [xoA q A, ob2_227] H locs := X
            refine x_i (y := 200) (rfl) ?_
            refine lv_istore (lv' := [(11, .int 200), (8, .int 1), (10, .int 200), (9, .int 200), (7, .int ((zS z) 4)), (6, .int (-6)), (5, .int fi), (4, .int (x_fnd (x_hb (zS z) (tR (zS z)) (tN (zS z))) (nI x) 0 201)), (0, .ref (A.1 0)), (1, .int (nI x)), (2, .int (nI k)), (3, .int (nI st))]) hx hb dL_isLeast_230 hl (by decide) rfl (fun ls hl => ?_)
            refine lv_iload hx hb dL_isLeast_232 (lv_at hl 1 rfl) ?_
            refine lv_if_eq (tgt := 256) hx hb dL_isLeast_234 (by decide) (fun h => absurd h (by decide)) (fun _ => ?_)
            refine lv_iload hx hb dL_isLeast_237 (lv_at hl 0 rfl) ?_
            refine lv_if_lt (tgt := 256) hx hb dL_isLeast_239 (by decide) (fun h => absurd h (by decide)) (fun _ => ?_)
            refine lv_aload_n hx hb dL_isLeast_242 rfl (lv_at hl 8 rfl) ?_
            refine lv_iconst (v := 1) hx hb dL_isLeast_243 (by decide) ?_
            refine x_cVi F X (gc := [xoA q A, ob2_227]) (gr := []) (xp_idx (n := 2) [0, 1] (by decide +kernel) rfl rfl) (c_G_count1 l D q A (zW (zW (zW z 200) 200) ((zS z) 4)) ob2_227 (by first | assumption | omega)) (cwV 1 F.1.2.2.2.2 gL_isLeast_X7_count rfl rfl rfl (by decide +kernel) ⟨Nat.le_of_ble_eq_true rfl, Nat.le_of_ble_eq_true rfl⟩) rfl rfl (r0 := 0) (ci := 7) (T := TX7) (N := 8) rfl rfl hl.1 ⟨Nat.le_of_ble_eq_true rfl, Nat.le_of_ble_eq_true rfl⟩ (Nat.le_of_ble_eq_true rfl) dL_isLeast_244 (fun r_244 g1 H locs hp X => ?_)
            obtain ⟨ob2_244, rfl, rfl, hob2_244⟩ := hp
            have X : xS D A9 s9 [xoA q A, ob2_244] H locs := X
            refine lv_iload hx hb dL_isLeast_247 (lv_at hl 4 rfl) ?_
            refine lv_icmp_ne (tgt := 256) hx hb dL_isLeast_249 (by decide) (fun c_249 => ?_) (fun c_249 => ?_)
            · exfalso
              exact c_249 rfl
            refine lv_iconst (v := 1) hx hb dL_isLeast_252 (by decide) ?_
            refine lv_goto (tgt := 257) hx hb dL_isLeast_253 (by decide) ?_
            refine hret _ _ _ _ _ _ ?_ X dL_isLeast_257
            refine ⟨_, _, rfl, rfl, by assumption, ?_⟩
            exact hw4.of rfl
          · have ht2 : t < 201 := by omega
            rw [if_neg c_69, ew] at hl
            have hl : lv_has ls 12 [(6, .int (nI t)), (5, .int fi), (4, .int (x_fnd (x_hb (zS z) (tR (zS z)) (tN (zS z))) (nI x) 0 201)), (0, .ref (A.1 0)), (1, .int (nI x)), (2, .int (nI k)), (3, .int (nI st))] := hl
            refine lv_aload_n hx hb dL_isLeast_85 rfl (lv_at hl 3 rfl) ?_
            refine lv_sipush (v := 200) hx hb dL_isLeast_86 (by decide) ?_
            refine x_cVi F X (gc := [xoA q A, ob2_66]) (gr := []) (xp_idx (n := 2) [0, 1] (by decide +kernel) rfl rfl) (c_G_wind l D q A z ob2_66 200 (by first | assumption | omega) (by exact ⟨by decide, by decide⟩)) (cwV 1 F.1.2.2.2.2 gL_isLeast_X7_wind rfl rfl rfl (by decide +kernel) ⟨Nat.le_of_ble_eq_true rfl, Nat.le_of_ble_eq_true rfl⟩) rfl rfl (r0 := 0) (ci := 7) (T := TX7) (N := 8) rfl rfl hl.1 ⟨Nat.le_of_ble_eq_true rfl, Nat.le_of_ble_eq_true rfl⟩ (Nat.le_of_ble_eq_true rfl) dL_isLeast_89 (fun r_89 g1 H locs hp X => ?_)
            obtain ⟨ob2_89, rfl, rfl, hob2_89⟩ := hp
            have X : xS D A9 s9 [xoA q A, ob2_89] H locs := X
            refine lv_istore (lv' := [(7, .int ((zS z) 4)), (6, .int (nI t)), (5, .int fi), (4, .int (x_fnd (x_hb (zS z) (tR (zS z)) (tN (zS z))) (nI x) 0 201)), (0, .ref (A.1 0)), (1, .int (nI x)), (2, .int (nI k)), (3, .int (nI st))]) hx hb dL_isLeast_92 hl (by decide) rfl (fun ls hl => ?_)
            refine lv_iload hx hb dL_isLeast_94 (lv_at hl 1 rfl) ?_
            refine lv_bipush (v := (-6)) hx hb dL_isLeast_96 (by decide) ?_
            refine lv_icmp_ne (tgt := 111) hx hb dL_isLeast_98 (by decide) (fun c_98 => ?_) (fun c_98 => ?_)
            rotate_left
            · exfalso
              exact x_m6 t (by omega) c_98.symm
            refine lv_iconst (v := 1) hx hb dL_isLeast_111 (by decide) ?_
            refine lv_goto (tgt := 116) hx hb dL_isLeast_112 (by decide) ?_
            refine lv_istore (lv' := [(8, .int 1), (7, .int ((zS z) 4)), (6, .int (nI t)), (5, .int fi), (4, .int (x_fnd (x_hb (zS z) (tR (zS z)) (tN (zS z))) (nI x) 0 201)), (0, .ref (A.1 0)), (1, .int (nI x)), (2, .int (nI k)), (3, .int (nI st))]) hx hb dL_isLeast_116 hl (by decide) rfl (fun ls hl => ?_)
            refine lv_iload hx hb dL_isLeast_118 (lv_at hl 2 rfl) ?_
            refine lv_bipush (v := (-6)) hx hb dL_isLeast_120 (by decide) ?_
            refine lv_icmp_ne (tgt := 131) hx hb dL_isLeast_122 (by decide) (fun c_122 => ?_) (fun c_122 => ?_)
            rotate_left
            · exfalso
              exact x_m6 t (by omega) c_122.symm
            refine lv_iload hx hb dL_isLeast_131 (lv_at hl 2 rfl) ?_
            refine lv_istore (lv' := [(9, .int (nI t)), (8, .int 1), (7, .int ((zS z) 4)), (6, .int (nI t)), (5, .int fi), (4, .int (x_fnd (x_hb (zS z) (tR (zS z)) (tN (zS z))) (nI x) 0 201)), (0, .ref (A.1 0)), (1, .int (nI x)), (2, .int (nI k)), (3, .int (nI st))]) hx hb dL_isLeast_133 hl (by decide) rfl (fun ls hl => ?_)
            refine lv_aload_n hx hb dL_isLeast_135 rfl (lv_at hl 6 rfl) ?_
            refine lv_iload hx hb dL_isLeast_136 (lv_at hl 0 rfl) ?_
            refine x_cVi F X (gc := [xoA q A, ob2_89]) (gr := []) (xp_idx (n := 2) [0, 1] (by decide +kernel) rfl rfl) (c_G_wind l D q A (zW z 200) ob2_89 (nI t) (by first | assumption | omega) (by exact (x_rng (a := 0) (b := 200) (by omega) (by omega)).mpr ⟨t, by omega, by omega, rfl⟩)) (cwV 1 F.1.2.2.2.2 gL_isLeast_X7_wind rfl rfl rfl (by decide +kernel) ⟨Nat.le_of_ble_eq_true rfl, Nat.le_of_ble_eq_true rfl⟩) rfl rfl (r0 := 0) (ci := 7) (T := TX7) (N := 8) rfl rfl hl.1 ⟨Nat.le_of_ble_eq_true rfl, Nat.le_of_ble_eq_true rfl⟩ (Nat.le_of_ble_eq_true rfl) dL_isLeast_138 (fun r_138 g1 H locs hp X => ?_)
            obtain ⟨ob2_138, rfl, rfl, hob2_138⟩ := hp
            have X : xS D A9 s9 [xoA q A, ob2_138] H locs := X
            refine x_i (y := 200) (rfl) ?_
            refine lv_istore (lv' := [(10, .int 200), (9, .int (nI t)), (8, .int 1), (7, .int ((zS z) 4)), (6, .int (nI t)), (5, .int fi), (4, .int (x_fnd (x_hb (zS z) (tR (zS z)) (tN (zS z))) (nI x) 0 201)), (0, .ref (A.1 0)), (1, .int (nI x)), (2, .int (nI k)), (3, .int (nI st))]) hx hb dL_isLeast_141 hl (by decide) rfl (fun ls hl => ?_)
            refine lv_iload hx hb dL_isLeast_143 (lv_at hl 2 rfl) ?_
            refine lv_if_eq (tgt := 177) hx hb dL_isLeast_145 (by decide) (fun h => absurd h (by decide)) (fun _ => ?_)
            refine lv_iload hx hb dL_isLeast_148 (lv_at hl 0 rfl) ?_
            refine lv_sipush (v := 200) hx hb dL_isLeast_150 (by decide) ?_
            refine lv_icmp_ne (tgt := 177) hx hb dL_isLeast_153 (by decide) (fun h => absurd (by decide) h) (fun _ => ?_)
            refine lv_iload hx hb dL_isLeast_156 (lv_at hl 4 rfl) ?_
            refine lv_bipush (v := (-6)) hx hb dL_isLeast_158 (by decide) ?_
            refine lv_icmp_eq (tgt := 173) hx hb dL_isLeast_160 (by decide) (fun c_160 => ?_) (fun c_160 => ?_)
            · exfalso
              exact x_m6 t (by omega) c_160.symm
            refine lv_aload_n hx hb dL_isLeast_163 rfl (lv_at hl 7 rfl) ?_
            refine lv_iload_n hx hb dL_isLeast_164 rfl (lv_at hl 9 rfl) ?_
            refine lv_iconst (v := 2) hx hb dL_isLeast_165 (by decide) ?_
            refine x_cVi F X (gc := [xoA q A, ob2_138]) (gr := []) (xp_idx (n := 2) [0, 1] (by decide +kernel) rfl rfl) (c_G_now2 l D q A (zW (zW z 200) (nI t)) ob2_138 k (by first | assumption | omega) (by exact hk)) (cwV 2 F.1.2.2.2.2 gL_isLeast_X7_now rfl rfl rfl (by decide +kernel) ⟨Nat.le_of_ble_eq_true rfl, Nat.le_of_ble_eq_true rfl⟩) rfl rfl (r0 := 0) (ci := 7) (T := TX7) (N := 8) rfl rfl hl.1 ⟨Nat.le_of_ble_eq_true rfl, Nat.le_of_ble_eq_true rfl⟩ (Nat.le_of_ble_eq_true rfl) dL_isLeast_166 (fun r_166 g1 H locs hp X => ?_)
            obtain ⟨ob2_166, rfl, rfl, hob2_166⟩ := hp
            have X : xS D A9 s9 [xoA q A, ob2_166] H locs := X
            refine lv_iload_n hx hb dL_isLeast_169 rfl (lv_at hl 10 rfl) ?_
            refine lv_icmp_lt (tgt := 177) hx hb dL_isLeast_170 (by decide) (fun c_170 => ?_) (fun c_170 => ?_)
            · exfalso
              rw [(xf_now (s1 := zS (zW (zW z 200) (nI t))) (f := nI t) hok hk (fun j hj => by show (upd (upd (zS z) 4 200) 4 (nI t)) j = zS z j; rw [pk_un hj, pk_un hj]) rfl c_69)] at c_170
              exact (Int32.not_lt.mpr hyes) c_170
            refine lv_iconst (v := 1) hx hb dL_isLeast_173 (by decide) ?_
            refine lv_goto (tgt := 178) hx hb dL_isLeast_174 (by decide) ?_
            refine lv_istore (lv' := [(8, .int 1), (10, .int 200), (9, .int (nI t)), (7, .int ((zS z) 4)), (6, .int (nI t)), (5, .int fi), (4, .int (x_fnd (x_hb (zS z) (tR (zS z)) (tN (zS z))) (nI x) 0 201)), (0, .ref (A.1 0)), (1, .int (nI x)), (2, .int (nI k)), (3, .int (nI st))]) hx hb dL_isLeast_178 hl (by decide) rfl (fun ls hl => ?_)
            refine lv_iload hx hb dL_isLeast_180 (lv_at hl 4 rfl) ?_
            refine lv_if_le (tgt := 224) hx hb dL_isLeast_182 (by decide) (fun c_182 => ?_) (fun c_182 => ?_)
            · have c_182 : t ≤ 0 := (nI_leI (a := t) (b := 0) (by omega) (by omega)).mp c_182
              refine lv_aload_n hx hb dL_isLeast_224 rfl (lv_at hl 7 rfl) ?_
              refine lv_iload hx hb dL_isLeast_225 (lv_at hl 3 rfl) ?_
              refine x_cVi F X (gc := [xoA q A, ob2_166]) (gr := []) (xp_idx (n := 2) [0, 1] (by decide +kernel) rfl rfl) (c_G_wind l D q A (zW (zW z 200) (nI t)) ob2_166 ((zS z) 4) (by first | assumption | omega) (by exact hw4.rg)) (cwV 1 F.1.2.2.2.2 gL_isLeast_X7_wind rfl rfl rfl (by decide +kernel) ⟨Nat.le_of_ble_eq_true rfl, Nat.le_of_ble_eq_true rfl⟩) rfl rfl (r0 := 0) (ci := 7) (T := TX7) (N := 8) rfl rfl hl.1 ⟨Nat.le_of_ble_eq_true rfl, Nat.le_of_ble_eq_true rfl⟩ (Nat.le_of_ble_eq_true rfl) dL_isLeast_227 (fun r_227 g1 H locs hp X => ?_)
              obtain ⟨ob2_227, rfl, rfl, hob2_227⟩ := hp
              have X : xS D A9 s9 [xoA q A, ob2_227] H locs := X
              refine x_i (y := (nI t)) (rfl) ?_
              refine lv_istore (lv' := [(11, .int (nI t)), (8, .int 1), (10, .int 200), (9, .int (nI t)), (7, .int ((zS z) 4)), (6, .int (nI t)), (5, .int fi), (4, .int (x_fnd (x_hb (zS z) (tR (zS z)) (tN (zS z))) (nI x) 0 201)), (0, .ref (A.1 0)), (1, .int (nI x)), (2, .int (nI k)), (3, .int (nI st))]) hx hb dL_isLeast_230 hl (by decide) rfl (fun ls hl => ?_)
              refine lv_iload hx hb dL_isLeast_232 (lv_at hl 1 rfl) ?_
              refine lv_if_eq (tgt := 256) hx hb dL_isLeast_234 (by decide) (fun h => absurd h (by decide)) (fun _ => ?_)
              refine lv_iload hx hb dL_isLeast_237 (lv_at hl 0 rfl) ?_
              refine lv_if_lt (tgt := 256) hx hb dL_isLeast_239 (by decide) (fun c_239 => ?_) (fun c_239 => ?_)
              · exfalso
                have c_239 : t < 0 := (nI_ltI (a := t) (b := 0) (by omega) (by omega)).mp c_239
                omega
              have c_239 : 0 ≤ t := Nat.not_lt.mp (fun h => c_239 ((nI_ltI (a := t) (b := 0) (by omega) (by omega)).mpr h))
              refine lv_aload_n hx hb dL_isLeast_242 rfl (lv_at hl 8 rfl) ?_
              refine lv_iconst (v := 1) hx hb dL_isLeast_243 (by decide) ?_
              refine x_cVi F X (gc := [xoA q A, ob2_227]) (gr := []) (xp_idx (n := 2) [0, 1] (by decide +kernel) rfl rfl) (c_G_count1 l D q A (zW (zW (zW z 200) (nI t)) ((zS z) 4)) ob2_227 (by first | assumption | omega)) (cwV 1 F.1.2.2.2.2 gL_isLeast_X7_count rfl rfl rfl (by decide +kernel) ⟨Nat.le_of_ble_eq_true rfl, Nat.le_of_ble_eq_true rfl⟩) rfl rfl (r0 := 0) (ci := 7) (T := TX7) (N := 8) rfl rfl hl.1 ⟨Nat.le_of_ble_eq_true rfl, Nat.le_of_ble_eq_true rfl⟩ (Nat.le_of_ble_eq_true rfl) dL_isLeast_244 (fun r_244 g1 H locs hp X => ?_)
              obtain ⟨ob2_244, rfl, rfl, hob2_244⟩ := hp
              have X : xS D A9 s9 [xoA q A, ob2_244] H locs := X
              refine lv_iload hx hb dL_isLeast_247 (lv_at hl 4 rfl) ?_
              refine lv_icmp_ne (tgt := 256) hx hb dL_isLeast_249 (by decide) (fun c_249 => ?_) (fun c_249 => ?_)
              · exfalso
                exact c_249 rfl
              refine lv_iconst (v := 1) hx hb dL_isLeast_252 (by decide) ?_
              refine lv_goto (tgt := 257) hx hb dL_isLeast_253 (by decide) ?_
              refine hret _ _ _ _ _ _ ?_ X dL_isLeast_257
              refine ⟨_, _, rfl, rfl, by assumption, ?_⟩
              exact hw4.of rfl
            · have c_182 : 0 < t := Nat.not_le.mp (fun h => c_182 ((nI_leI (a := t) (b := 0) (by omega) (by omega)).mpr h))
              refine lv_aload_n hx hb dL_isLeast_185 rfl (lv_at hl 7 rfl) ?_
              refine lv_iload hx hb dL_isLeast_186 (lv_at hl 4 rfl) ?_
              refine lv_iconst (v := 1) hx hb dL_isLeast_188 (by decide) ?_
              refine lv_isub hx hb dL_isLeast_189 ?_
              refine x_i (y := (nI (t - 1))) (pk_sub (a := t) (b := 1) (by omega)) ?_
              refine x_cVi F X (gc := [xoA q A, ob2_166]) (gr := []) (xp_idx (n := 2) [0, 1] (by decide +kernel) rfl rfl) (c_G_wind l D q A (zW (zW z 200) (nI t)) ob2_166 (nI (t - 1)) (by first | assumption | omega) (by exact (x_rng (a := 0) (b := 200) (by omega) (by omega)).mpr ⟨t - 1, by omega, by omega, rfl⟩)) (cwV 1 F.1.2.2.2.2 gL_isLeast_X7_wind rfl rfl rfl (by decide +kernel) ⟨Nat.le_of_ble_eq_true rfl, Nat.le_of_ble_eq_true rfl⟩) rfl rfl (r0 := 0) (ci := 7) (T := TX7) (N := 8) rfl rfl hl.1 ⟨Nat.le_of_ble_eq_true rfl, Nat.le_of_ble_eq_true rfl⟩ (Nat.le_of_ble_eq_true rfl) dL_isLeast_190 (fun r_190 g1 H locs hp X => ?_)
              obtain ⟨ob2_190, rfl, rfl, hob2_190⟩ := hp
              have X : xS D A9 s9 [xoA q A, ob2_190] H locs := X
              refine x_i (y := (nI t)) (rfl) ?_
              refine lv_istore (lv' := [(11, .int (nI t)), (8, .int 1), (10, .int 200), (9, .int (nI t)), (7, .int ((zS z) 4)), (6, .int (nI t)), (5, .int fi), (4, .int (x_fnd (x_hb (zS z) (tR (zS z)) (tN (zS z))) (nI x) 0 201)), (0, .ref (A.1 0)), (1, .int (nI x)), (2, .int (nI k)), (3, .int (nI st))]) hx hb dL_isLeast_193 hl (by decide) rfl (fun ls hl => ?_)
              refine lv_iload hx hb dL_isLeast_195 (lv_at hl 1 rfl) ?_
              refine lv_if_eq (tgt := 221) hx hb dL_isLeast_197 (by decide) (fun h => absurd h (by decide)) (fun _ => ?_)
              refine lv_iload hx hb dL_isLeast_200 (lv_at hl 0 rfl) ?_
              refine lv_iload hx hb dL_isLeast_202 (lv_at hl 5 rfl) ?_
              refine lv_icmp_ne (tgt := 221) hx hb dL_isLeast_204 (by decide) (fun c_204 => ?_) (fun c_204 => ?_)
              · exfalso
                have c_204 : ¬ (t = t) := fun h => c_204 ((nI_eq (a := t) (b := t) (by omega) (by omega)).mpr h)
                exact c_204 rfl
              have c_204 : t = t := (nI_eq (a := t) (b := t) (by omega) (by omega)).mp c_204
              refine lv_aload_n hx hb dL_isLeast_207 rfl (lv_at hl 8 rfl) ?_
              refine lv_iload_n hx hb dL_isLeast_208 rfl (lv_at hl 10 rfl) ?_
              refine lv_iconst (v := 2) hx hb dL_isLeast_209 (by decide) ?_
              refine x_cVi F X (gc := [xoA q A, ob2_190]) (gr := []) (xp_idx (n := 2) [0, 1] (by decide +kernel) rfl rfl) (c_G_now2 l D q A (zW (zW (zW z 200) (nI t)) (nI (t - 1))) ob2_190 k (by first | assumption | omega) (by exact hk)) (cwV 2 F.1.2.2.2.2 gL_isLeast_X7_now rfl rfl rfl (by decide +kernel) ⟨Nat.le_of_ble_eq_true rfl, Nat.le_of_ble_eq_true rfl⟩) rfl rfl (r0 := 0) (ci := 7) (T := TX7) (N := 8) rfl rfl hl.1 ⟨Nat.le_of_ble_eq_true rfl, Nat.le_of_ble_eq_true rfl⟩ (Nat.le_of_ble_eq_true rfl) dL_isLeast_210 (fun r_210 g1 H locs hp X => ?_)
              obtain ⟨ob2_210, rfl, rfl, hob2_210⟩ := hp
              have X : xS D A9 s9 [xoA q A, ob2_210] H locs := X
              refine lv_iload_n hx hb dL_isLeast_213 rfl (lv_at hl 11 rfl) ?_
              refine lv_icmp_ge (tgt := 221) hx hb dL_isLeast_214 (by decide) (fun c_214 => ?_) (fun c_214 => ?_)
              · exfalso
                rw [(xf_now (s1 := zS (zW (zW (zW z 200) (nI t)) (nI (t - 1)))) (f := nI (t - 1)) hok hk (fun j hj => by show (upd (upd (upd (zS z) 4 200) 4 (nI t)) 4 (nI (t - 1))) j = zS z j; rw [pk_un hj, pk_un hj, pk_un hj]) rfl c_69)] at c_214
                exact hlo (t - 1) (by omega) (by omega) c_214
              refine lv_iconst (v := 1) hx hb dL_isLeast_217 (by decide) ?_
              refine lv_goto (tgt := 222) hx hb dL_isLeast_218 (by decide) ?_
              refine lv_istore (lv' := [(8, .int 1), (11, .int (nI t)), (10, .int 200), (9, .int (nI t)), (7, .int ((zS z) 4)), (6, .int (nI t)), (5, .int fi), (4, .int (x_fnd (x_hb (zS z) (tR (zS z)) (tN (zS z))) (nI x) 0 201)), (0, .ref (A.1 0)), (1, .int (nI x)), (2, .int (nI k)), (3, .int (nI st))]) hx hb dL_isLeast_222 hl (by decide) rfl (fun ls hl => ?_)
              refine lv_aload_n hx hb dL_isLeast_224 rfl (lv_at hl 8 rfl) ?_
              refine lv_iload hx hb dL_isLeast_225 (lv_at hl 4 rfl) ?_
              refine x_cVi F X (gc := [xoA q A, ob2_210]) (gr := []) (xp_idx (n := 2) [0, 1] (by decide +kernel) rfl rfl) (c_G_wind l D q A (zW (zW (zW z 200) (nI t)) (nI (t - 1))) ob2_210 ((zS z) 4) (by first | assumption | omega) (by exact hw4.rg)) (cwV 1 F.1.2.2.2.2 gL_isLeast_X7_wind rfl rfl rfl (by decide +kernel) ⟨Nat.le_of_ble_eq_true rfl, Nat.le_of_ble_eq_true rfl⟩) rfl rfl (r0 := 0) (ci := 7) (T := TX7) (N := 8) rfl rfl hl.1 ⟨Nat.le_of_ble_eq_true rfl, Nat.le_of_ble_eq_true rfl⟩ (Nat.le_of_ble_eq_true rfl) dL_isLeast_227 (fun r_227 g1 H locs hp X => ?_)
              obtain ⟨ob2_227, rfl, rfl, hob2_227⟩ := hp
              have X : xS D A9 s9 [xoA q A, ob2_227] H locs := X
              refine x_i (y := (nI (t - 1))) (rfl) ?_
              refine lv_istore (lv' := [(11, .int (nI (t - 1))), (8, .int 1), (10, .int 200), (9, .int (nI t)), (7, .int ((zS z) 4)), (6, .int (nI t)), (5, .int fi), (4, .int (x_fnd (x_hb (zS z) (tR (zS z)) (tN (zS z))) (nI x) 0 201)), (0, .ref (A.1 0)), (1, .int (nI x)), (2, .int (nI k)), (3, .int (nI st))]) hx hb dL_isLeast_230 hl (by decide) rfl (fun ls hl => ?_)
              refine lv_iload hx hb dL_isLeast_232 (lv_at hl 1 rfl) ?_
              refine lv_if_eq (tgt := 256) hx hb dL_isLeast_234 (by decide) (fun h => absurd h (by decide)) (fun _ => ?_)
              refine lv_iload hx hb dL_isLeast_237 (lv_at hl 0 rfl) ?_
              refine lv_if_lt (tgt := 256) hx hb dL_isLeast_239 (by decide) (fun c_239 => ?_) (fun c_239 => ?_)
              · exfalso
                have c_239 : t - 1 < 0 := (nI_ltI (a := t - 1) (b := 0) (by omega) (by omega)).mp c_239
                omega
              have c_239 : 0 ≤ t - 1 := Nat.not_lt.mp (fun h => c_239 ((nI_ltI (a := t - 1) (b := 0) (by omega) (by omega)).mpr h))
              refine lv_aload_n hx hb dL_isLeast_242 rfl (lv_at hl 8 rfl) ?_
              refine lv_iconst (v := 1) hx hb dL_isLeast_243 (by decide) ?_
              refine x_cVi F X (gc := [xoA q A, ob2_227]) (gr := []) (xp_idx (n := 2) [0, 1] (by decide +kernel) rfl rfl) (c_G_count1 l D q A (zW (zW (zW (zW z 200) (nI t)) (nI (t - 1))) ((zS z) 4)) ob2_227 (by first | assumption | omega)) (cwV 1 F.1.2.2.2.2 gL_isLeast_X7_count rfl rfl rfl (by decide +kernel) ⟨Nat.le_of_ble_eq_true rfl, Nat.le_of_ble_eq_true rfl⟩) rfl rfl (r0 := 0) (ci := 7) (T := TX7) (N := 8) rfl rfl hl.1 ⟨Nat.le_of_ble_eq_true rfl, Nat.le_of_ble_eq_true rfl⟩ (Nat.le_of_ble_eq_true rfl) dL_isLeast_244 (fun r_244 g1 H locs hp X => ?_)
              obtain ⟨ob2_244, rfl, rfl, hob2_244⟩ := hp
              have X : xS D A9 s9 [xoA q A, ob2_244] H locs := X
              refine lv_iload hx hb dL_isLeast_247 (lv_at hl 4 rfl) ?_
              refine lv_icmp_ne (tgt := 256) hx hb dL_isLeast_249 (by decide) (fun c_249 => ?_) (fun c_249 => ?_)
              · exfalso
                exact c_249 rfl
              refine lv_iconst (v := 1) hx hb dL_isLeast_252 (by decide) ?_
              refine lv_goto (tgt := 257) hx hb dL_isLeast_253 (by decide) ?_
              refine hret _ _ _ _ _ _ ?_ X dL_isLeast_257
              refine ⟨_, _, rfl, rfl, by assumption, ?_⟩
              exact hw4.of rfl
        · refine lv_iload hx hb dL_isLeast_72 (lv_at hl 0 rfl) ?_
          refine lv_bipush (v := (-5)) hx hb dL_isLeast_74 (by decide) ?_
          refine lv_icmp_ne (tgt := 83) hx hb dL_isLeast_76 (by decide) (fun c_76 => ?_) (fun c_76 => ?_)
          · exfalso
            exact c_76 (if_pos c_69)
          refine lv_iconst (v := 1) hx hb dL_isLeast_79 (by decide) ?_
          refine lv_goto (tgt := 84) hx hb dL_isLeast_80 (by decide) ?_
          exact hret _ _ _ _ _ _ (by exact ⟨_, _, rfl, rfl, by assumption, hw4⟩) X dL_isLeast_84
      · have hi1 : 1 ≤ i := by
          rcases Nat.eq_zero_or_pos i with q | q
          · exact absurd ((x_dm (by omega)).mpr q) c_18
          · exact q
        rw [x_pred hi1] at hl
        refine lv_aload_n hx hb dL_isLeast_21 rfl (lv_at hl 3 rfl) ?_
        refine lv_iload hx hb dL_isLeast_22 (lv_at hl 0 rfl) ?_
        refine x_cVi F X (gc := [xoA q A, ob]) (gr := []) (xp_idx (n := 2) [0, 1] (by decide +kernel) rfl rfl) (c_G_ifWind l D q A z ob (nI (i - 1)) (by first | assumption | omega) (by exact (x_rng (a := 0) (b := 200) (by omega) (by omega)).mpr ⟨i - 1, by omega, by omega, rfl⟩)) (cwV 1 F.1.2.2.2.2 gL_isLeast_X7_ifWind rfl rfl rfl (by decide +kernel) ⟨Nat.le_of_ble_eq_true rfl, Nat.le_of_ble_eq_true rfl⟩) rfl rfl (r0 := 0) (ci := 7) (T := TX7) (N := 8) rfl rfl hl.1 ⟨Nat.le_of_ble_eq_true rfl, Nat.le_of_ble_eq_true rfl⟩ (Nat.le_of_ble_eq_true rfl) dL_isLeast_24 (fun r_24 g1 H locs hp X => ?_)
        obtain ⟨ob2_24, rfl, rfl, hob2_24⟩ := hp
        have X : xS D A9 s9 [xoA q A, ob2_24] H locs := X
        refine lv_iload_n hx hb dL_isLeast_27 rfl (lv_at hl 4 rfl) ?_
        refine lv_icmp_lt (tgt := 36) hx hb dL_isLeast_28 (by decide) (fun c_28 => ?_) (fun c_28 => ?_)
        · refine lv_iload hx hb dL_isLeast_36 (lv_at hl 1 rfl) ?_
          refine lv_istore (lv' := [(5, .int fi), (6, .int (nI (i - 1))), (4, .int (x_fnd (x_hb (zS z) (tR (zS z)) (tN (zS z))) (nI x) 0 201)), (0, .ref (A.1 0)), (1, .int (nI x)), (2, .int (nI k)), (3, .int (nI st))]) hx hb dL_isLeast_38 hl (by decide) rfl (fun ls hl => ?_)
          refine lv_iinc (v := ((nI (i - 1)) + Int32.ofInt (-1))) (lv' := [(6, .int ((nI (i - 1)) + Int32.ofInt (-1))), (5, .int fi), (4, .int (x_fnd (x_hb (zS z) (tR (zS z)) (tN (zS z))) (nI x) 0 201)), (0, .ref (A.1 0)), (1, .int (nI x)), (2, .int (nI k)), (3, .int (nI st))]) hx hb dL_isLeast_40 hl (k := 1) rfl rfl (by decide) rfl (fun ls hl => ?_)
          rw [x_dm2] at hl
          refine lv_goto (tgt := 16) hx hb dL_isLeast_43 (by decide) ?_
          exact ih_16 _ (i - 1) _ _ _ _ X (lv_sub hl [0, 1, 2, 3, 4, 5, 6] rfl) (by omega) (by assumption) (by omega) (by exact xf_n (by omega) hi hfi c_28)
        · refine lv_iload hx hb dL_isLeast_31 (lv_at hl 0 rfl) ?_
          refine lv_goto (tgt := 38) hx hb dL_isLeast_33 (by decide) ?_
          refine lv_istore (lv' := [(5, .int (nI (i - 1))), (6, .int (nI (i - 1))), (4, .int (x_fnd (x_hb (zS z) (tR (zS z)) (tN (zS z))) (nI x) 0 201)), (0, .ref (A.1 0)), (1, .int (nI x)), (2, .int (nI k)), (3, .int (nI st))]) hx hb dL_isLeast_38 hl (by decide) rfl (fun ls hl => ?_)
          refine lv_iinc (v := ((nI (i - 1)) + Int32.ofInt (-1))) (lv' := [(6, .int ((nI (i - 1)) + Int32.ofInt (-1))), (5, .int (nI (i - 1))), (4, .int (x_fnd (x_hb (zS z) (tR (zS z)) (tN (zS z))) (nI x) 0 201)), (0, .ref (A.1 0)), (1, .int (nI x)), (2, .int (nI k)), (3, .int (nI st))]) hx hb dL_isLeast_40 hl (k := 1) rfl rfl (by decide) rfl (fun ls hl => ?_)
          rw [x_dm2] at hl
          refine lv_goto (tgt := 16) hx hb dL_isLeast_43 (by decide) ?_
          exact ih_16 _ (i - 1) _ _ _ _ X (lv_sub hl [0, 1, 2, 3, 4, 5, 6] rfl) (by omega) (by assumption) (by omega) (by exact xf_y (by omega) hi c_28)
  exact L_16 (202) _ 201 (-6) _ _ _ X (lv_sub hl [0, 1, 2, 3, 4, 5, 6] rfl) (by omega) (by assumption) (by omega) (by rfl)

