set_option maxHeartbeats 1000000 in
set_option maxRecDepth 100000 in
theorem c_L_isWithout (l : Launch) (D : va_G) (q : xQ) (A : xAd) (z : xZt) (ob : va_W) (k : Nat) (o : Nat) (hob : xOb q A z ob) (hk : k < tN (zS z)) (ho : o < tN (zS z)) : xMi l yL_isWithout wsL_isWithout { frames := 6, cells := 0, slots := 0, locals := 133 } D q [.ref (A.1 0), .int (nI k), .int (nI o)] [xoA q A, ob] (fun r gw => ∃ (ob2 : va_W), gw = [xoA q A, ob2] ∧ r = 1 ∧ (xOb q A z ob2)) := by
  refine xMi_of (cc := cL_isWithout) (maxL := 9) (rt := .boolean) (by decide) rfl (Nat.le_of_ble_eq_true rfl) (fun v w h => by obtain ⟨_, _, rfl, _⟩ := h; rfl) ?_
  intro p9 e9 s9 m9 a9 below meth c9 A9 Z9 ls H locs F X hl hret
  have hx := F.1.1
  have hb := F.1.2.1
  have hl : lv_has ls 9 [(0, .ref (A.1 0)), (1, .int (nI k)), (2, .int (nI o))] := hl
  have hok := hob.ok
  have hn := hok.1
  have hn1 := hok.2.1
  have hp := xv_hp hok
  refine lv_aload_n hx hb dL_isWithout_0 rfl (lv_at hl 0 rfl) ?_
  refine lv_iload_n hx hb dL_isWithout_1 rfl (lv_at hl 1 rfl) ?_
  refine lv_iload_n hx hb dL_isWithout_2 rfl (lv_at hl 2 rfl) ?_
  refine x_cVi F X (gc := [xoA q A, ob]) (gr := []) (xp_idx (n := 2) [0, 1] (by decide +kernel) rfl rfl) (c_G_without l D q A z ob k o (by first | assumption | omega) (by first | assumption | omega) (by first | assumption | omega)) (cwV 2 F.1.2.2.2.2 gL_isWithout_X7_without rfl rfl rfl (by decide +kernel) ⟨Nat.le_of_ble_eq_true rfl, Nat.le_of_ble_eq_true rfl⟩) rfl rfl (r0 := 0) (ci := 7) (T := TX7) (N := 8) rfl rfl hl.1 ⟨Nat.le_of_ble_eq_true rfl, Nat.le_of_ble_eq_true rfl⟩ (Nat.le_of_ble_eq_true rfl) dL_isWithout_3 (fun r_3 g1 H locs hp X => ?_)
  obtain ⟨ob2_3, rfl, rfl, hob2_3⟩ := hp
  have X : xS D A9 s9 [xoA q A, ob2_3] H locs := X
  refine lv_istore_n (lv' := [(3, .int (x_wok (zS z) (tR (zS z)) (tN (zS z)) k o)), (0, .ref (A.1 0)), (1, .int (nI k)), (2, .int (nI o))]) hx hb dL_isWithout_6 rfl hl (by decide) rfl (fun ls hl => ?_)
  refine lv_aload_n hx hb dL_isWithout_7 rfl (lv_at hl 1 rfl) ?_
  refine lv_iload_n hx hb dL_isWithout_8 rfl (lv_at hl 2 rfl) ?_
  refine lv_iconst (v := 0) hx hb dL_isWithout_9 (by decide) ?_
  refine x_cVi F X (gc := [xoA q A, ob2_3]) (gr := []) (xp_idx (n := 2) [0, 1] (by decide +kernel) rfl rfl) (c_G_of0 l D q A z ob2_3 k (by first | assumption | omega) (by first | assumption | omega)) (cwV 2 F.1.2.2.2.2 gL_isWithout_X7_of rfl rfl rfl (by decide +kernel) ⟨Nat.le_of_ble_eq_true rfl, Nat.le_of_ble_eq_true rfl⟩) rfl rfl (r0 := 0) (ci := 7) (T := TX7) (N := 8) rfl rfl hl.1 ⟨Nat.le_of_ble_eq_true rfl, Nat.le_of_ble_eq_true rfl⟩ (Nat.le_of_ble_eq_true rfl) dL_isWithout_10 (fun r_10 g1 H locs hp X => ?_)
  obtain ⟨ob2_10, rfl, rfl, hob2_10⟩ := hp
  have X : xS D A9 s9 [xoA q A, ob2_10] H locs := X
  refine lv_istore (lv' := [(4, .int (x_np (x_tF (zS z) k))), (3, .int (x_wok (zS z) (tR (zS z)) (tN (zS z)) k o)), (0, .ref (A.1 0)), (1, .int (nI k)), (2, .int (nI o))]) hx hb dL_isWithout_13 hl (by decide) rfl (fun ls hl => ?_)
  refine lv_iload_n hx hb dL_isWithout_15 rfl (lv_at hl 3 rfl) ?_
  refine lv_iload_n hx hb dL_isWithout_16 rfl (lv_at hl 4 rfl) ?_
  refine lv_icmp_eq (tgt := 39) hx hb dL_isWithout_17 (by decide) (fun c_17 => ?_) (fun c_17 => ?_)
  · have c_17 : k = o := (nI_eq (a := k) (b := o) (by omega) (by omega)).mp c_17
    refine lv_iload_n hx hb dL_isWithout_39 rfl (lv_at hl 1 rfl) ?_
    refine lv_bipush (v := (-5)) hx hb dL_isWithout_40 (by decide) ?_
    refine lv_icmp_ne (tgt := 49) hx hb dL_isWithout_42 (by decide) (fun c_42 => ?_) (fun c_42 => ?_)
    · exfalso
      exact c_42 (xo_no (Or.inl c_17))
    refine lv_iconst (v := 1) hx hb dL_isWithout_45 (by decide) ?_
    refine lv_goto (tgt := 50) hx hb dL_isWithout_46 (by decide) ?_
    exact hret _ _ _ _ _ _ (by exact ⟨_, rfl, rfl, by assumption⟩) X dL_isWithout_50
  · have c_17 : ¬ (k = o) := fun h => c_17 ((nI_eq (a := k) (b := o) (by omega) (by omega)).mpr h)
    refine lv_iload_n hx hb dL_isWithout_20 rfl (lv_at hl 3 rfl) ?_
    refine lv_if_eq (tgt := 39) hx hb dL_isWithout_21 (by decide) (fun c_21 => ?_) (fun c_21 => ?_)
    · have c_21 : k = 0 := (nI_eq (a := k) (b := 0) (by omega) (by omega)).mp c_21
      refine lv_iload_n hx hb dL_isWithout_39 rfl (lv_at hl 1 rfl) ?_
      refine lv_bipush (v := (-5)) hx hb dL_isWithout_40 (by decide) ?_
      refine lv_icmp_ne (tgt := 49) hx hb dL_isWithout_42 (by decide) (fun c_42 => ?_) (fun c_42 => ?_)
      · exfalso
        exact c_42 (xo_no (Or.inr (Or.inl c_21)))
      refine lv_iconst (v := 1) hx hb dL_isWithout_45 (by decide) ?_
      refine lv_goto (tgt := 50) hx hb dL_isWithout_46 (by decide) ?_
      exact hret _ _ _ _ _ _ (by exact ⟨_, rfl, rfl, by assumption⟩) X dL_isWithout_50
    · have c_21 : ¬ (k = 0) := fun h => c_21 ((nI_eq (a := k) (b := 0) (by omega) (by omega)).mpr h)
      refine lv_iload_n hx hb dL_isWithout_24 rfl (lv_at hl 4 rfl) ?_
      refine lv_if_eq (tgt := 39) hx hb dL_isWithout_25 (by decide) (fun c_25 => ?_) (fun c_25 => ?_)
      · have c_25 : o = 0 := (nI_eq (a := o) (b := 0) (by omega) (by omega)).mp c_25
        refine lv_iload_n hx hb dL_isWithout_39 rfl (lv_at hl 1 rfl) ?_
        refine lv_bipush (v := (-5)) hx hb dL_isWithout_40 (by decide) ?_
        refine lv_icmp_ne (tgt := 49) hx hb dL_isWithout_42 (by decide) (fun c_42 => ?_) (fun c_42 => ?_)
        · exfalso
          exact c_42 (xo_no (Or.inr (Or.inr (Or.inl c_25))))
        refine lv_iconst (v := 1) hx hb dL_isWithout_45 (by decide) ?_
        refine lv_goto (tgt := 50) hx hb dL_isWithout_46 (by decide) ?_
        exact hret _ _ _ _ _ _ (by exact ⟨_, rfl, rfl, by assumption⟩) X dL_isWithout_50
      · have c_25 : ¬ (o = 0) := fun h => c_25 ((nI_eq (a := o) (b := 0) (by omega) (by omega)).mpr h)
        refine lv_iload hx hb dL_isWithout_28 (lv_at hl 0 rfl) ?_
        refine lv_aload_n hx hb dL_isWithout_30 rfl (lv_at hl 2 rfl) ?_
        refine lv_iload_n hx hb dL_isWithout_31 rfl (lv_at hl 4 rfl) ?_
        refine lv_iconst (v := 0) hx hb dL_isWithout_32 (by decide) ?_
        refine x_cVi F X (gc := [xoA q A, ob2_10]) (gr := []) (xp_idx (n := 2) [0, 1] (by decide +kernel) rfl rfl) (c_G_of0 l D q A z ob2_10 o (by first | assumption | omega) (by first | assumption | omega)) (cwV 2 F.1.2.2.2.2 gL_isWithout_X7_of rfl rfl rfl (by decide +kernel) ⟨Nat.le_of_ble_eq_true rfl, Nat.le_of_ble_eq_true rfl⟩) rfl rfl (r0 := 0) (ci := 7) (T := TX7) (N := 8) rfl rfl hl.1 ⟨Nat.le_of_ble_eq_true rfl, Nat.le_of_ble_eq_true rfl⟩ (Nat.le_of_ble_eq_true rfl) dL_isWithout_33 (fun r_33 g1 H locs hp X => ?_)
        obtain ⟨ob2_33, rfl, rfl, hob2_33⟩ := hp
        have X : xS D A9 s9 [xoA q A, ob2_33] H locs := X
        refine lv_icmp_eq (tgt := 51) hx hb dL_isWithout_36 (by decide) (fun c_36 => ?_) (fun c_36 => ?_)
        · have hk1 : 1 ≤ k := by omega
          have ho1 : 1 ≤ o := by omega
          have hz := xo_z (o := o) hok hk hk1
          refine lv_iconst (v := 0) hx hb dL_isWithout_51 (by decide) ?_
          refine lv_istore (lv' := [(5, .int 0), (4, .int (x_np (x_tF (zS z) k))), (3, .int (x_wok (zS z) (tR (zS z)) (tN (zS z)) k o)), (0, .ref (A.1 0)), (1, .int (nI k)), (2, .int (nI o))]) hx hb dL_isWithout_52 hl (by decide) rfl (fun ls hl => ?_)
          refine lv_iconst (v := 0) hx hb dL_isWithout_54 (by decide) ?_
          refine lv_istore (lv' := [(6, .int 0), (5, .int 0), (4, .int (x_np (x_tF (zS z) k))), (3, .int (x_wok (zS z) (tR (zS z)) (tN (zS z)) k o)), (0, .ref (A.1 0)), (1, .int (nI k)), (2, .int (nI o))]) hx hb dL_isWithout_55 hl (by decide) rfl (fun ls hl => ?_)
          refine lv_iconst (v := 1) hx hb dL_isWithout_57 (by decide) ?_
          refine lv_istore (lv' := [(7, .int 1), (6, .int 0), (5, .int 0), (4, .int (x_np (x_tF (zS z) k))), (3, .int (x_wok (zS z) (tR (zS z)) (tN (zS z)) k o)), (0, .ref (A.1 0)), (1, .int (nI k)), (2, .int (nI o))]) hx hb dL_isWithout_58 hl (by decide) rfl (fun ls hl => ?_)
          have L_60 : ∀ (nn : Nat) (ob : va_W) (i : Nat) (wd na : Int32) (H : Heap) (locs : List Loc) (ls : Array Slot), xS D A9 s9 [xoA q A, ob] H locs → lv_has ls 9 [(7, .int (nI i)), (6, .int na), (5, .int wd), (4, .int (x_np (x_tF (zS z) k))), (3, .int (x_wok (zS z) (tR (zS z)) (tN (zS z)) k o)), (0, .ref (A.1 0)), (1, .int (nI k)), (2, .int (nI o))] → (tN (zS z) < i + nn) → (xOb q A z ob) → (1 ≤ i) → (i ≤ tN (zS z)) → (wd = x_sm (x_tg (x_tF (zS z)) (x_tW (zS z)) (nI o) k) i) → (na = x_sm (x_nr (x_tF (zS z)) (x_tW (zS z)) (nI o) k) i) → W p9 l e9 { frames := 6, cells := 0, slots := 0, locals := 133 } s9 m9 a9 below meth c9 H locs 0 0 Z9 (F0 m9 60 ls []) := by
            intro nn
            induction nn with
            | zero => intro ob i wd na H locs ls X hl hfuel hob hi1 hi hwd hna; exact absurd hfuel (by omega)
            | succ nn ih_60 =>
              intro ob i wd na H locs ls X hl hfuel hob hi1 hi hwd hna
              refine lv_iload hx hb dL_isWithout_60 (lv_at hl 0 rfl) ?_
              refine lv_aload_n hx hb dL_isWithout_62 rfl (lv_at hl 5 rfl) ?_
              refine lv_iconst (v := 0) hx hb dL_isWithout_63 (by decide) ?_
              refine x_cVi F X (gc := [xoA q A, ob]) (gr := []) (xp_idx (n := 2) [0, 1] (by decide +kernel) rfl rfl) (c_G_count0 l D q A z ob (by first | assumption | omega)) (cwV 1 F.1.2.2.2.2 gL_isWithout_X7_count rfl rfl rfl (by decide +kernel) ⟨Nat.le_of_ble_eq_true rfl, Nat.le_of_ble_eq_true rfl⟩) rfl rfl (r0 := 0) (ci := 7) (T := TX7) (N := 8) rfl rfl hl.1 ⟨Nat.le_of_ble_eq_true rfl, Nat.le_of_ble_eq_true rfl⟩ (Nat.le_of_ble_eq_true rfl) dL_isWithout_64 (fun r_64 g1 H locs hp X => ?_)
              obtain ⟨ob2_64, rfl, rfl, hob2_64⟩ := hp
              have X : xS D A9 s9 [xoA q A, ob2_64] H locs := X
              refine lv_icmp_ge (tgt := 153) hx hb dL_isWithout_67 (by decide) (fun c_67 => ?_) (fun c_67 => ?_)
              · have c_67 : (tN (zS z)) ≤ i := (nI_leI (a := (tN (zS z))) (b := i) (by omega) (by omega)).mp c_67
                obtain rfl : i = tN (zS z) := by omega
                have hpk := hp k hk1 hk
                obtain ⟨a, ha9, hwa, ha1⟩ := x_tg_pos (F := x_tF (zS z)) (W := x_tW (zS z)) (m := nI o) (k := k) (n := tN (zS z)) hok.2.2.2.2.2.1 (fun z => c_17 ((nI_eq (by omega) (by omega)).mp z)) (tN (zS z)) (Nat.le_refl _)
                have ha := ha1 hk
                obtain rfl : wd = nI a := hwd.trans hwa
                have hfk := xo_fk hok hk1 hk ho1 ho c_17 ((xv_np2 hok hk1 hk ho1 ho).mp c_36) ha (by omega) hwa.symm hna
                rw [xv_npk hok hk1 hk] at hl
                refine lv_aload_n hx hb dL_isWithout_153 rfl (lv_at hl 5 rfl) ?_
                refine lv_iload hx hb dL_isWithout_154 (lv_at hl 3 rfl) ?_
                refine lv_iconst (v := 0) hx hb dL_isWithout_156 (by decide) ?_
                refine x_cVi F X (gc := [xoA q A, ob2_64]) (gr := []) (xp_idx (n := 2) [0, 1] (by decide +kernel) rfl rfl) (c_G_now0 l D q A z ob2_64 (tR (zS z) k) (by first | assumption | omega) (by first | assumption | omega)) (cwV 2 F.1.2.2.2.2 gL_isWithout_X7_now rfl rfl rfl (by decide +kernel) ⟨Nat.le_of_ble_eq_true rfl, Nat.le_of_ble_eq_true rfl⟩) rfl rfl (r0 := 0) (ci := 7) (T := TX7) (N := 8) rfl rfl hl.1 ⟨Nat.le_of_ble_eq_true rfl, Nat.le_of_ble_eq_true rfl⟩ (Nat.le_of_ble_eq_true rfl) dL_isWithout_157 (fun r_157 g1 H locs hp X => ?_)
                obtain ⟨ob2_157, rfl, rfl, hob2_157⟩ := hp
                have X : xS D A9 s9 [xoA q A, ob2_157] H locs := X
                refine lv_istore (lv' := [(7, .int (tF (zS z) (tR (zS z) k))), (6, .int na), (5, .int (nI a)), (4, .int (nI (tR (zS z) k))), (3, .int (x_wok (zS z) (tR (zS z)) (tN (zS z)) k o)), (0, .ref (A.1 0)), (1, .int (nI k)), (2, .int (nI o))]) hx hb dL_isWithout_160 hl (by decide) rfl (fun ls hl => ?_)
                refine lv_iload hx hb dL_isWithout_162 (lv_at hl 0 rfl) ?_
                refine lv_aload_n hx hb dL_isWithout_164 rfl (lv_at hl 5 rfl) ?_
                refine lv_iload_n hx hb dL_isWithout_165 rfl (lv_at hl 6 rfl) ?_
                refine lv_iconst (v := 1) hx hb dL_isWithout_166 (by decide) ?_
                refine x_cVi F X (gc := [xoA q A, ob2_157]) (gr := []) (xp_idx (n := 2) [0, 1] (by decide +kernel) rfl rfl) (c_G_of1 l D q A z ob2_157 k (by first | assumption | omega) (by first | assumption | omega)) (cwV 2 F.1.2.2.2.2 gL_isWithout_X7_of rfl rfl rfl (by decide +kernel) ⟨Nat.le_of_ble_eq_true rfl, Nat.le_of_ble_eq_true rfl⟩) rfl rfl (r0 := 0) (ci := 7) (T := TX7) (N := 8) rfl rfl hl.1 ⟨Nat.le_of_ble_eq_true rfl, Nat.le_of_ble_eq_true rfl⟩ (Nat.le_of_ble_eq_true rfl) dL_isWithout_167 (fun r_167 g1 H locs hp X => ?_)
                obtain ⟨ob2_167, rfl, rfl, hob2_167⟩ := hp
                have X : xS D A9 s9 [xoA q A, ob2_167] H locs := X
                refine lv_imul hx hb dL_isWithout_170 ?_
                refine lv_iload hx hb dL_isWithout_171 (lv_at hl 2 rfl) ?_
                refine lv_idiv hx hb dL_isWithout_173 (by exact fun h => by have := (nI_eq (b := 0) (by omega) (by omega)).mp h; omega) ?_
                refine lv_iconst (v := 5) hx hb dL_isWithout_174 (by decide) ?_
                refine lv_iload hx hb dL_isWithout_175 (lv_at hl 1 rfl) ?_
                refine lv_imul hx hb dL_isWithout_177 ?_
                refine lv_iadd hx hb dL_isWithout_178 ?_
                refine lv_istore (lv' := [(8, .int ((((tF (zS z) (tR (zS z) k)) * (x_tW (zS z) k)) / (nI a)) + (5 * na))), (7, .int (tF (zS z) (tR (zS z) k))), (6, .int na), (5, .int (nI a)), (4, .int (nI (tR (zS z) k))), (3, .int (x_wok (zS z) (tR (zS z)) (tN (zS z)) k o)), (0, .ref (A.1 0)), (1, .int (nI k)), (2, .int (nI o))]) hx hb dL_isWithout_179 hl (by decide) rfl (fun ls hl => ?_)
                refine lv_iload_n hx hb dL_isWithout_181 rfl (lv_at hl 5 rfl) ?_
                refine lv_iload hx hb dL_isWithout_182 (lv_at hl 0 rfl) ?_
                refine lv_iload hx hb dL_isWithout_184 (lv_at hl 1 rfl) ?_
                refine lv_icmp_le (tgt := 194) hx hb dL_isWithout_186 (by decide) (fun c_186 => ?_) (fun c_186 => ?_)
                · refine lv_iload hx hb dL_isWithout_194 (lv_at hl 0 rfl) ?_
                  refine lv_aload_n hx hb dL_isWithout_196 rfl (lv_at hl 6 rfl) ?_
                  refine lv_iload_n hx hb dL_isWithout_197 rfl (lv_at hl 7 rfl) ?_
                  refine lv_iconst (v := 0) hx hb dL_isWithout_198 (by decide) ?_
                  refine x_cVi F X (gc := [xoA q A, ob2_167]) (gr := []) (xp_idx (n := 2) [0, 1] (by decide +kernel) rfl rfl) (c_G_now0 l D q A z ob2_167 k (by first | assumption | omega) (by first | assumption | omega)) (cwV 2 F.1.2.2.2.2 gL_isWithout_X7_now rfl rfl rfl (by decide +kernel) ⟨Nat.le_of_ble_eq_true rfl, Nat.le_of_ble_eq_true rfl⟩) rfl rfl (r0 := 0) (ci := 7) (T := TX7) (N := 8) rfl rfl hl.1 ⟨Nat.le_of_ble_eq_true rfl, Nat.le_of_ble_eq_true rfl⟩ (Nat.le_of_ble_eq_true rfl) dL_isWithout_199 (fun r_199 g1 H locs hp X => ?_)
                  obtain ⟨ob2_199, rfl, rfl, hob2_199⟩ := hp
                  have X : xS D A9 s9 [xoA q A, ob2_199] H locs := X
                  refine lv_isub hx hb dL_isWithout_202 ?_
                  refine lv_sipush (v := 500) hx hb dL_isWithout_203 (by decide) ?_
                  refine lv_iadd hx hb dL_isWithout_206 ?_
                  refine lv_icmp_ne (tgt := 214) hx hb dL_isWithout_207 (by decide) (fun c_207 => ?_) (fun c_207 => ?_)
                  · exfalso
                    exact c_207 (hfk.trans (by rw [x_mn_le c_186]))
                  refine lv_iconst (v := 1) hx hb dL_isWithout_210 (by decide) ?_
                  refine lv_goto (tgt := 215) hx hb dL_isWithout_211 (by decide) ?_
                  exact hret _ _ _ _ _ _ (by exact ⟨_, rfl, rfl, by assumption⟩) X dL_isWithout_215
                · refine lv_iload hx hb dL_isWithout_189 (lv_at hl 1 rfl) ?_
                  refine lv_goto (tgt := 196) hx hb dL_isWithout_191 (by decide) ?_
                  refine lv_aload_n hx hb dL_isWithout_196 rfl (lv_at hl 6 rfl) ?_
                  refine lv_iload_n hx hb dL_isWithout_197 rfl (lv_at hl 7 rfl) ?_
                  refine lv_iconst (v := 0) hx hb dL_isWithout_198 (by decide) ?_
                  refine x_cVi F X (gc := [xoA q A, ob2_167]) (gr := []) (xp_idx (n := 2) [0, 1] (by decide +kernel) rfl rfl) (c_G_now0 l D q A z ob2_167 k (by first | assumption | omega) (by first | assumption | omega)) (cwV 2 F.1.2.2.2.2 gL_isWithout_X7_now rfl rfl rfl (by decide +kernel) ⟨Nat.le_of_ble_eq_true rfl, Nat.le_of_ble_eq_true rfl⟩) rfl rfl (r0 := 0) (ci := 7) (T := TX7) (N := 8) rfl rfl hl.1 ⟨Nat.le_of_ble_eq_true rfl, Nat.le_of_ble_eq_true rfl⟩ (Nat.le_of_ble_eq_true rfl) dL_isWithout_199 (fun r_199 g1 H locs hp X => ?_)
                  obtain ⟨ob2_199, rfl, rfl, hob2_199⟩ := hp
                  have X : xS D A9 s9 [xoA q A, ob2_199] H locs := X
                  refine lv_isub hx hb dL_isWithout_202 ?_
                  refine lv_sipush (v := 500) hx hb dL_isWithout_203 (by decide) ?_
                  refine lv_iadd hx hb dL_isWithout_206 ?_
                  refine lv_icmp_ne (tgt := 214) hx hb dL_isWithout_207 (by decide) (fun c_207 => ?_) (fun c_207 => ?_)
                  · exfalso
                    exact c_207 (hfk.trans (by rw [x_mn_ge (Int32.le_of_lt (Int32.not_le.mp c_186))]))
                  refine lv_iconst (v := 1) hx hb dL_isWithout_210 (by decide) ?_
                  refine lv_goto (tgt := 215) hx hb dL_isWithout_211 (by decide) ?_
                  exact hret _ _ _ _ _ _ (by exact ⟨_, rfl, rfl, by assumption⟩) X dL_isWithout_215
              · have c_67 : i < (tN (zS z)) := Nat.not_le.mp (fun h => c_67 ((nI_leI (a := (tN (zS z))) (b := i) (by omega) (by omega)).mpr h))
                refine lv_iload hx hb dL_isWithout_70 (lv_at hl 0 rfl) ?_
                refine lv_iload_n hx hb dL_isWithout_72 rfl (lv_at hl 7 rfl) ?_
                refine lv_icmp_eq (tgt := 92) hx hb dL_isWithout_73 (by decide) (fun c_73 => ?_) (fun c_73 => ?_)
                · have c_73 : i = o := (nI_eq (a := i) (b := o) (by omega) (by omega)).mp c_73
                  refine lv_iconst (v := 0) hx hb dL_isWithout_92 (by decide) ?_
                  refine lv_istore (lv' := [(8, .int 0), (7, .int (nI i)), (6, .int na), (5, .int wd), (4, .int (x_np (x_tF (zS z) k))), (3, .int (x_wok (zS z) (tR (zS z)) (tN (zS z)) k o)), (0, .ref (A.1 0)), (1, .int (nI k)), (2, .int (nI o))]) hx hb dL_isWithout_93 hl (by decide) rfl (fun ls hl => ?_)
                  refine lv_iload hx hb dL_isWithout_95 (lv_at hl 3 rfl) ?_
                  refine lv_iload hx hb dL_isWithout_97 (lv_at hl 0 rfl) ?_
                  refine lv_if_eq (tgt := 112) hx hb dL_isWithout_99 (by decide) (fun _ => ?_) (fun h => absurd (by decide) h)
                  refine lv_iconst (v := 0) hx hb dL_isWithout_112 (by decide) ?_
                  refine lv_iadd hx hb dL_isWithout_113 ?_
                  refine lv_istore (lv' := [(5, .int (wd + 0)), (8, .int 0), (7, .int (nI i)), (6, .int na), (4, .int (x_np (x_tF (zS z) k))), (3, .int (x_wok (zS z) (tR (zS z)) (tN (zS z)) k o)), (0, .ref (A.1 0)), (1, .int (nI k)), (2, .int (nI o))]) hx hb dL_isWithout_114 hl (by decide) rfl (fun ls hl => ?_)
                  refine lv_iload hx hb dL_isWithout_116 (lv_at hl 3 rfl) ?_
                  refine lv_iload hx hb dL_isWithout_118 (lv_at hl 1 rfl) ?_
                  refine lv_if_eq (tgt := 143) hx hb dL_isWithout_120 (by decide) (fun _ => ?_) (fun h => absurd (by decide) h)
                  refine lv_iconst (v := 0) hx hb dL_isWithout_143 (by decide) ?_
                  refine lv_iadd hx hb dL_isWithout_144 ?_
                  refine lv_istore (lv' := [(6, .int (na + 0)), (5, .int (wd + 0)), (8, .int 0), (7, .int (nI i)), (4, .int (x_np (x_tF (zS z) k))), (3, .int (x_wok (zS z) (tR (zS z)) (tN (zS z)) k o)), (0, .ref (A.1 0)), (1, .int (nI k)), (2, .int (nI o))]) hx hb dL_isWithout_145 hl (by decide) rfl (fun ls hl => ?_)
                  refine lv_iinc (v := (nI (i + 1))) (lv' := [(7, .int (nI (i + 1))), (6, .int (na + 0)), (5, .int (wd + 0)), (8, .int 0), (4, .int (x_np (x_tF (zS z) k))), (3, .int (x_wok (zS z) (tR (zS z)) (tN (zS z)) k o)), (0, .ref (A.1 0)), (1, .int (nI k)), (2, .int (nI o))]) hx hb dL_isWithout_147 hl (k := 3) rfl (nI_add i 1) (by decide) rfl (fun ls hl => ?_)
                  refine lv_goto (tgt := 60) hx hb dL_isWithout_150 (by decide) ?_
                  exact ih_60 _ (i + 1) _ _ _ _ _ X (lv_sub hl [0, 1, 2, 4, 5, 6, 7, 8] rfl) (by omega) (by assumption) (by omega) (by omega) (by exact xo_0 hok c_67 hk hi1 hk1 hwd (Or.inl c_73)) (by exact xo_n0 hok c_67 hk hi1 hk1 hna (Or.inl c_73))
                · have c_73 : ¬ (i = o) := fun h => c_73 ((nI_eq (a := i) (b := o) (by omega) (by omega)).mpr h)
                  refine lv_aload_n hx hb dL_isWithout_76 rfl (lv_at hl 5 rfl) ?_
                  refine lv_iload hx hb dL_isWithout_77 (lv_at hl 0 rfl) ?_
                  refine lv_iconst (v := 0) hx hb dL_isWithout_79 (by decide) ?_
                  refine x_cVi F X (gc := [xoA q A, ob2_64]) (gr := []) (xp_idx (n := 2) [0, 1] (by decide +kernel) rfl rfl) (c_G_of0 l D q A z ob2_64 i (by first | assumption | omega) (by first | assumption | omega)) (cwV 2 F.1.2.2.2.2 gL_isWithout_X7_of rfl rfl rfl (by decide +kernel) ⟨Nat.le_of_ble_eq_true rfl, Nat.le_of_ble_eq_true rfl⟩) rfl rfl (r0 := 0) (ci := 7) (T := TX7) (N := 8) rfl rfl hl.1 ⟨Nat.le_of_ble_eq_true rfl, Nat.le_of_ble_eq_true rfl⟩ (Nat.le_of_ble_eq_true rfl) dL_isWithout_80 (fun r_80 g1 H locs hp X => ?_)
                  obtain ⟨ob2_80, rfl, rfl, hob2_80⟩ := hp
                  have X : xS D A9 s9 [xoA q A, ob2_80] H locs := X
                  refine lv_iload hx hb dL_isWithout_83 (lv_at hl 3 rfl) ?_
                  refine lv_icmp_ne (tgt := 92) hx hb dL_isWithout_85 (by decide) (fun c_85 => ?_) (fun c_85 => ?_)
                  · refine lv_iconst (v := 0) hx hb dL_isWithout_92 (by decide) ?_
                    refine lv_istore (lv' := [(8, .int 0), (7, .int (nI i)), (6, .int na), (5, .int wd), (4, .int (x_np (x_tF (zS z) k))), (3, .int (x_wok (zS z) (tR (zS z)) (tN (zS z)) k o)), (0, .ref (A.1 0)), (1, .int (nI k)), (2, .int (nI o))]) hx hb dL_isWithout_93 hl (by decide) rfl (fun ls hl => ?_)
                    refine lv_iload hx hb dL_isWithout_95 (lv_at hl 3 rfl) ?_
                    refine lv_iload hx hb dL_isWithout_97 (lv_at hl 0 rfl) ?_
                    refine lv_if_eq (tgt := 112) hx hb dL_isWithout_99 (by decide) (fun _ => ?_) (fun h => absurd (by decide) h)
                    refine lv_iconst (v := 0) hx hb dL_isWithout_112 (by decide) ?_
                    refine lv_iadd hx hb dL_isWithout_113 ?_
                    refine lv_istore (lv' := [(5, .int (wd + 0)), (8, .int 0), (7, .int (nI i)), (6, .int na), (4, .int (x_np (x_tF (zS z) k))), (3, .int (x_wok (zS z) (tR (zS z)) (tN (zS z)) k o)), (0, .ref (A.1 0)), (1, .int (nI k)), (2, .int (nI o))]) hx hb dL_isWithout_114 hl (by decide) rfl (fun ls hl => ?_)
                    refine lv_iload hx hb dL_isWithout_116 (lv_at hl 3 rfl) ?_
                    refine lv_iload hx hb dL_isWithout_118 (lv_at hl 1 rfl) ?_
                    refine lv_if_eq (tgt := 143) hx hb dL_isWithout_120 (by decide) (fun _ => ?_) (fun h => absurd (by decide) h)
                    refine lv_iconst (v := 0) hx hb dL_isWithout_143 (by decide) ?_
                    refine lv_iadd hx hb dL_isWithout_144 ?_
                    refine lv_istore (lv' := [(6, .int (na + 0)), (5, .int (wd + 0)), (8, .int 0), (7, .int (nI i)), (4, .int (x_np (x_tF (zS z) k))), (3, .int (x_wok (zS z) (tR (zS z)) (tN (zS z)) k o)), (0, .ref (A.1 0)), (1, .int (nI k)), (2, .int (nI o))]) hx hb dL_isWithout_145 hl (by decide) rfl (fun ls hl => ?_)
                    refine lv_iinc (v := (nI (i + 1))) (lv' := [(7, .int (nI (i + 1))), (6, .int (na + 0)), (5, .int (wd + 0)), (8, .int 0), (4, .int (x_np (x_tF (zS z) k))), (3, .int (x_wok (zS z) (tR (zS z)) (tN (zS z)) k o)), (0, .ref (A.1 0)), (1, .int (nI k)), (2, .int (nI o))]) hx hb dL_isWithout_147 hl (k := 3) rfl (nI_add i 1) (by decide) rfl (fun ls hl => ?_)
                    refine lv_goto (tgt := 60) hx hb dL_isWithout_150 (by decide) ?_
                    exact ih_60 _ (i + 1) _ _ _ _ _ X (lv_sub hl [0, 1, 2, 4, 5, 6, 7, 8] rfl) (by omega) (by assumption) (by omega) (by omega) (by exact xo_0 hok c_67 hk hi1 hk1 hwd (Or.inr c_85)) (by exact xo_n0 hok c_67 hk hi1 hk1 hna (Or.inr c_85))
                  · refine lv_iconst (v := 1) hx hb dL_isWithout_88 (by decide) ?_
                    refine lv_goto (tgt := 93) hx hb dL_isWithout_89 (by decide) ?_
                    refine lv_istore (lv' := [(8, .int 1), (7, .int (nI i)), (6, .int na), (5, .int wd), (4, .int (x_np (x_tF (zS z) k))), (3, .int (x_wok (zS z) (tR (zS z)) (tN (zS z)) k o)), (0, .ref (A.1 0)), (1, .int (nI k)), (2, .int (nI o))]) hx hb dL_isWithout_93 hl (by decide) rfl (fun ls hl => ?_)
                    refine lv_iload hx hb dL_isWithout_95 (lv_at hl 3 rfl) ?_
                    refine lv_iload hx hb dL_isWithout_97 (lv_at hl 0 rfl) ?_
                    refine lv_if_eq (tgt := 112) hx hb dL_isWithout_99 (by decide) (fun h => absurd h (by decide)) (fun _ => ?_)
                    refine lv_aload_n hx hb dL_isWithout_102 rfl (lv_at hl 6 rfl) ?_
                    refine lv_iload hx hb dL_isWithout_103 (lv_at hl 1 rfl) ?_
                    refine lv_iconst (v := 1) hx hb dL_isWithout_105 (by decide) ?_
                    refine x_cVi F X (gc := [xoA q A, ob2_80]) (gr := []) (xp_idx (n := 2) [0, 1] (by decide +kernel) rfl rfl) (c_G_of1 l D q A z ob2_80 i (by first | assumption | omega) (by first | assumption | omega)) (cwV 2 F.1.2.2.2.2 gL_isWithout_X7_of rfl rfl rfl (by decide +kernel) ⟨Nat.le_of_ble_eq_true rfl, Nat.le_of_ble_eq_true rfl⟩) rfl rfl (r0 := 0) (ci := 7) (T := TX7) (N := 8) rfl rfl hl.1 ⟨Nat.le_of_ble_eq_true rfl, Nat.le_of_ble_eq_true rfl⟩ (Nat.le_of_ble_eq_true rfl) dL_isWithout_106 (fun r_106 g1 H locs hp X => ?_)
                    obtain ⟨ob2_106, rfl, rfl, hob2_106⟩ := hp
                    have X : xS D A9 s9 [xoA q A, ob2_106] H locs := X
                    refine lv_goto (tgt := 113) hx hb dL_isWithout_109 (by decide) ?_
                    refine lv_iadd hx hb dL_isWithout_113 ?_
                    refine lv_istore (lv' := [(5, .int (wd + (x_tW (zS z) i))), (8, .int 1), (7, .int (nI i)), (6, .int na), (4, .int (x_np (x_tF (zS z) k))), (3, .int (x_wok (zS z) (tR (zS z)) (tN (zS z)) k o)), (0, .ref (A.1 0)), (1, .int (nI k)), (2, .int (nI o))]) hx hb dL_isWithout_114 hl (by decide) rfl (fun ls hl => ?_)
                    refine lv_iload hx hb dL_isWithout_116 (lv_at hl 3 rfl) ?_
                    refine lv_iload hx hb dL_isWithout_118 (lv_at hl 1 rfl) ?_
                    refine lv_if_eq (tgt := 143) hx hb dL_isWithout_120 (by decide) (fun h => absurd h (by decide)) (fun _ => ?_)
                    refine lv_aload_n hx hb dL_isWithout_123 rfl (lv_at hl 6 rfl) ?_
                    refine lv_iload hx hb dL_isWithout_124 (lv_at hl 2 rfl) ?_
                    refine lv_iconst (v := 1) hx hb dL_isWithout_126 (by decide) ?_
                    refine x_cVi F X (gc := [xoA q A, ob2_106]) (gr := []) (xp_idx (n := 2) [0, 1] (by decide +kernel) rfl rfl) (c_G_of1 l D q A z ob2_106 i (by first | assumption | omega) (by first | assumption | omega)) (cwV 2 F.1.2.2.2.2 gL_isWithout_X7_of rfl rfl rfl (by decide +kernel) ⟨Nat.le_of_ble_eq_true rfl, Nat.le_of_ble_eq_true rfl⟩) rfl rfl (r0 := 0) (ci := 7) (T := TX7) (N := 8) rfl rfl hl.1 ⟨Nat.le_of_ble_eq_true rfl, Nat.le_of_ble_eq_true rfl⟩ (Nat.le_of_ble_eq_true rfl) dL_isWithout_127 (fun r_127 g1 H locs hp X => ?_)
                    obtain ⟨ob2_127, rfl, rfl, hob2_127⟩ := hp
                    have X : xS D A9 s9 [xoA q A, ob2_127] H locs := X
                    refine lv_aload_n hx hb dL_isWithout_130 rfl (lv_at hl 6 rfl) ?_
                    refine lv_iload_n hx hb dL_isWithout_131 rfl (lv_at hl 7 rfl) ?_
                    refine lv_iconst (v := 1) hx hb dL_isWithout_132 (by decide) ?_
                    refine x_cVi F X (gc := [xoA q A, ob2_127]) (gr := []) (xp_idx (n := 2) [0, 1] (by decide +kernel) rfl rfl) (c_G_of1 l D q A z ob2_127 k (by first | assumption | omega) (by first | assumption | omega)) (cwV 2 F.1.2.2.2.2 gL_isWithout_X7_of rfl rfl rfl (by decide +kernel) ⟨Nat.le_of_ble_eq_true rfl, Nat.le_of_ble_eq_true rfl⟩) rfl rfl (r0 := 0) (ci := 7) (T := TX7) (N := 8) rfl rfl hl.1 ⟨Nat.le_of_ble_eq_true rfl, Nat.le_of_ble_eq_true rfl⟩ (Nat.le_of_ble_eq_true rfl) dL_isWithout_133 (fun r_133 g1 H locs hp X => ?_)
                    obtain ⟨ob2_133, rfl, rfl, hob2_133⟩ := hp
                    have X : xS D A9 s9 [xoA q A, ob2_133] H locs := X
                    refine lv_icmp_ge (tgt := 143) hx hb dL_isWithout_136 (by decide) (fun c_136 => ?_) (fun c_136 => ?_)
                    · refine lv_iconst (v := 0) hx hb dL_isWithout_143 (by decide) ?_
                      refine lv_iadd hx hb dL_isWithout_144 ?_
                      refine lv_istore (lv' := [(6, .int (na + 0)), (5, .int (wd + (x_tW (zS z) i))), (8, .int 1), (7, .int (nI i)), (4, .int (x_np (x_tF (zS z) k))), (3, .int (x_wok (zS z) (tR (zS z)) (tN (zS z)) k o)), (0, .ref (A.1 0)), (1, .int (nI k)), (2, .int (nI o))]) hx hb dL_isWithout_145 hl (by decide) rfl (fun ls hl => ?_)
                      refine lv_iinc (v := (nI (i + 1))) (lv' := [(7, .int (nI (i + 1))), (6, .int (na + 0)), (5, .int (wd + (x_tW (zS z) i))), (8, .int 1), (4, .int (x_np (x_tF (zS z) k))), (3, .int (x_wok (zS z) (tR (zS z)) (tN (zS z)) k o)), (0, .ref (A.1 0)), (1, .int (nI k)), (2, .int (nI o))]) hx hb dL_isWithout_147 hl (k := 3) rfl (nI_add i 1) (by decide) rfl (fun ls hl => ?_)
                      refine lv_goto (tgt := 60) hx hb dL_isWithout_150 (by decide) ?_
                      exact ih_60 _ (i + 1) _ _ _ _ _ X (lv_sub hl [0, 1, 2, 4, 5, 6, 7, 8] rfl) (by omega) (by assumption) (by omega) (by omega) (by exact xo_1 hok c_67 hk hi1 hk1 ho hwd c_73 c_85) (by exact xo_n2 hna c_136)
                    · refine lv_iconst (v := 1) hx hb dL_isWithout_139 (by decide) ?_
                      refine lv_goto (tgt := 144) hx hb dL_isWithout_140 (by decide) ?_
                      refine lv_iadd hx hb dL_isWithout_144 ?_
                      refine lv_istore (lv' := [(6, .int (na + 1)), (5, .int (wd + (x_tW (zS z) i))), (8, .int 1), (7, .int (nI i)), (4, .int (x_np (x_tF (zS z) k))), (3, .int (x_wok (zS z) (tR (zS z)) (tN (zS z)) k o)), (0, .ref (A.1 0)), (1, .int (nI k)), (2, .int (nI o))]) hx hb dL_isWithout_145 hl (by decide) rfl (fun ls hl => ?_)
                      refine lv_iinc (v := (nI (i + 1))) (lv' := [(7, .int (nI (i + 1))), (6, .int (na + 1)), (5, .int (wd + (x_tW (zS z) i))), (8, .int 1), (4, .int (x_np (x_tF (zS z) k))), (3, .int (x_wok (zS z) (tR (zS z)) (tN (zS z)) k o)), (0, .ref (A.1 0)), (1, .int (nI k)), (2, .int (nI o))]) hx hb dL_isWithout_147 hl (k := 3) rfl (nI_add i 1) (by decide) rfl (fun ls hl => ?_)
                      refine lv_goto (tgt := 60) hx hb dL_isWithout_150 (by decide) ?_
                      exact ih_60 _ (i + 1) _ _ _ _ _ X (lv_sub hl [0, 1, 2, 4, 5, 6, 7, 8] rfl) (by omega) (by assumption) (by omega) (by omega) (by exact xo_1 hok c_67 hk hi1 hk1 ho hwd c_73 c_85) (by exact xo_n1 hok c_67 hk hi1 hk1 ho hna c_73 c_85 c_136)
          exact L_60 (tN (zS z) + 1) _ 1 0 0 _ _ _ X (lv_sub hl [0, 1, 2, 3, 4, 5, 6, 7] rfl) (by omega) (by assumption) (by omega) (by omega) (by exact hz.1) (by exact hz.2)
        · refine lv_iload_n hx hb dL_isWithout_39 rfl (lv_at hl 1 rfl) ?_
          refine lv_bipush (v := (-5)) hx hb dL_isWithout_40 (by decide) ?_
          refine lv_icmp_ne (tgt := 49) hx hb dL_isWithout_42 (by decide) (fun c_42 => ?_) (fun c_42 => ?_)
          · exfalso
            exact c_42 (xo_no (Or.inr (Or.inr (Or.inr (fun z => c_36 (congrArg x_np z))))))
          refine lv_iconst (v := 1) hx hb dL_isWithout_45 (by decide) ?_
          refine lv_goto (tgt := 50) hx hb dL_isWithout_46 (by decide) ?_
          exact hret _ _ _ _ _ _ (by exact ⟨_, rfl, rfl, by assumption⟩) X dL_isWithout_50

