set_option maxHeartbeats 1000000 in
set_option maxRecDepth 100000 in
theorem c_X8_put (l : Launch) (D : va_G) (q : xQ) (b0 : Nat) (b1 : Nat) (b2 : Nat) (b3 : Nat) (b4 : Nat) (b5 : Nat) (b6 : Nat) (b7 : Nat) (b8 : Nat) (s : Nat → Int32) (p : Nat → Int32) (sl : Nat → Int32) (sv : Nat → Int32) (pd : Nat → Int32) (fo : Nat → Int32) (to : Nat → Int32) (ou : Nat → Int32) (kn : Int32) (ln : Nat) (mn : Int32) (la : Int32) (op : Int32) (wr : Int32) (ch : Int64) (hln : ln ≤ 80) : xMi l yX8_put wsX8_put { frames := 1, cells := 0, slots := 0, locals := 22 } D q [.ref b0, .long ch] [mW q b0 b1 b2 b3 b4 b5 b6 b7 b8 s p sl sv pd fo to ou kn (nI ln) mn la op wr] (fun r gw => ∃ (pd2 : Nat → Int32), ∃ (ln2 : Nat), gw = [mW q b0 b1 b2 b3 b4 b5 b6 b7 b8 s p sl sv pd2 fo to ou kn (nI ln2) mn la op wr] ∧ ((∃ n, 1 ≤ n ∧ x_pv ch n ∧ ln + n ≤ 80 ∧ r = nI (ln + n) ∧ ln2 = ln + n ∧ pd2 = x_pt pd (fun i => nI (x_by ch (n - 1 - i))) ln n) ∨ (((∃ n, 1 ≤ n ∧ x_pv ch n ∧ 80 < ln + n ∧ r = -4) ∨ ((∀ n, 1 ≤ n → ¬ x_pv ch n) ∧ r = -2)) ∧ pd2 = pd ∧ ln2 = ln))) := by
  refine xMi_of (cc := cX8_put) (maxL := 8) (rt := .int) (by decide) rfl (Nat.le_of_ble_eq_true rfl) (fun _ _ _ => rfl) ?_
  intro p9 e9 s9 m9 a9 below meth c9 A9 Z9 ls H locs F X hl hret
  have hx := F.1.1
  have hb := F.1.2.1
  have in_X8 : ∀ w ∈ wsX80, w ∈ wsX8_put := by decide +kernel
  have mw_0 : Cond.fieldLink RX8 106 "HatWindsModel" "length" "I" ∈ wsX8_put := by decide +kernel
  have mw_1 : Cond.fieldLink RX8 23 "HatWindsModel" "pad" "[I" ∈ wsX8_put := by decide +kernel
  have mw_2 : Cond.constantLong RX8 115 (255) ∈ wsX8_put := by decide +kernel
  have mw_3 : Cond.initialized RX8 ∈ wsX8_put := by decide +kernel
  have hl : lv_has ls 8 [(0, .ref b0), (1, .long ch)] := hl
  refine lv_iconst (v := 0) hx hb dX8_put_0 (by decide) ?_
  refine lv_istore_n (lv' := [(3, .int 0), (0, .ref b0), (1, .long ch)]) hx hb dX8_put_1 rfl hl (by decide) rfl (fun ls hl => ?_)
  refine lv_iconst (v := 1) hx hb dX8_put_2 (by decide) ?_
  refine lv_istore (lv' := [(4, .int 1), (3, .int 0), (0, .ref b0), (1, .long ch)]) hx hb dX8_put_3 hl (by decide) rfl (fun ls hl => ?_)
  refine lv_iconst (v := 0) hx hb dX8_put_5 (by decide) ?_
  refine lv_istore (lv' := [(5, .int 0), (4, .int 1), (3, .int 0), (0, .ref b0), (1, .long ch)]) hx hb dX8_put_6 hl (by decide) rfl (fun ls hl => ?_)
  refine lv_iconst (v := 0) hx hb dX8_put_8 (by decide) ?_
  refine lv_istore (lv' := [(6, .int 0), (5, .int 0), (4, .int 1), (3, .int 0), (0, .ref b0), (1, .long ch)]) hx hb dX8_put_9 hl (by decide) rfl (fun ls hl => ?_)
  have L_11 : ∀ (nn : Nat) (k t en rg : Nat) (H : Heap) (locs : List Loc) (ls : Array Slot), xS D A9 s9 [mW q b0 b1 b2 b3 b4 b5 b6 b7 b8 s p sl sv pd fo to ou kn (nI ln) mn la op wr] H locs → lv_has ls 8 [(6, .int (nI k)), (5, .int (nI en)), (4, .int (nI rg)), (3, .int (nI t)), (0, .ref b0), (1, .long ch)] → (8 < k + nn) → (k ≤ 8) → (t ≤ k) → (en ≤ 1) → (rg ≤ 1) → (x_pw ch k = (t, en, rg)) → W p9 l e9 { frames := 1, cells := 0, slots := 0, locals := 22 } s9 m9 a9 below meth c9 H locs 0 0 Z9 (F0 m9 11 ls []) := by
    intro nn
    induction nn with
    | zero => intro k t en rg H locs ls X hl hfuel hk htk hen hrg hp; exact absurd hfuel (by omega)
    | succ nn ih_11 =>
      intro k t en rg H locs ls X hl hfuel hk htk hen hrg hp
      refine lv_iload hx hb dX8_put_11 (lv_at hl 0 rfl) ?_
      refine lv_bipush (v := 8) hx hb dX8_put_13 (by decide) ?_
      refine lv_icmp_ge (tgt := 105) hx hb dX8_put_15 (by decide) (fun c_15 => ?_) (fun c_15 => ?_)
      · have c_15 : 8 ≤ k := (nI_leI (a := 8) (b := k) (by omega) (by omega)).mp c_15
        refine lv_iload hx hb dX8_put_105 (lv_at hl 2 rfl) ?_
        refine lv_if_eq (tgt := 114) hx hb dX8_put_107 (by decide) (fun c_107 => ?_) (fun c_107 => ?_)
        · have c_107 : rg = 0 := (nI_eq (a := rg) (b := 0) (by omega) (by omega)).mp c_107
          refine lv_bipush (v := (-2)) hx hb dX8_put_114 (by decide) ?_
          refine hret _ _ _ _ _ _ ?_ X dX8_put_116
          obtain rfl : k = 8 := by omega
          exact ⟨pd, ln, rfl, Or.inr ⟨Or.inr ⟨fun n h1 h => by have e := x_pw_u hp h; subst e; have := (x_pw_v hp).mpr h; omega, rfl⟩, rfl, rfl⟩⟩
        · have c_107 : ¬ (rg = 0) := fun h => c_107 ((nI_eq (a := rg) (b := 0) (by omega) (by omega)).mpr h)
          refine lv_iload_n hx hb dX8_put_110 rfl (lv_at hl 3 rfl) ?_
          refine lv_if_ne (tgt := 117) hx hb dX8_put_111 (by decide) (fun c_111 => ?_) (fun c_111 => ?_)
          · have c_111 : ¬ (t = 0) := fun h => c_111 ((nI_eq (a := t) (b := 0) (by omega) (by omega)).mpr h)
            obtain rfl : k = 8 := by omega
            have htl := (x_pw_ok ch 8 _ _ _ hp).1
            have hv : x_pv ch t := (x_pw_v hp).mp (by have := (x_pw_ok ch 8 _ _ _ hp).2.2.1; omega)
            refine lv_aload_n hx hb dX8_put_117 rfl (lv_at hl 4 rfl) ?_
            refine x_get F X (v := .int (nI ln)) (C := RX8) (T := TX8) (N := 14) (ci := 8) in_X8 0 rfl rfl 6 (by decide) mw_0 rfl dX8_put_118 ?_
            refine lv_iload_n hx hb dX8_put_121 rfl (lv_at hl 3 rfl) ?_
            refine lv_iadd hx hb dX8_put_122 ?_
            refine x_i (y := (nI (ln + t))) (nI_add ln t) ?_
            refine lv_bipush (v := 80) hx hb dX8_put_123 (by decide) ?_
            refine lv_icmp_le (tgt := 131) hx hb dX8_put_125 (by decide) (fun c_125 => ?_) (fun c_125 => ?_)
            · have c_125 : ln + t ≤ 80 := (nI_leI (a := ln + t) (b := 80) (by omega) (by omega)).mp c_125
              refine lv_iload_n hx hb dX8_put_131 rfl (lv_at hl 3 rfl) ?_
              refine lv_iconst (v := 1) hx hb dX8_put_132 (by decide) ?_
              refine lv_isub hx hb dX8_put_133 ?_
              refine lv_istore (lv' := [(6, .int ((nI t) - 1)), (5, .int (nI en)), (4, .int (nI rg)), (3, .int (nI t)), (0, .ref b0), (1, .long ch)]) hx hb dX8_put_134 hl (by decide) rfl (fun ls hl => ?_)
              have L_136 : ∀ (nn : Nat) (i : Nat) (w : Nat → Int32) (H : Heap) (locs : List Loc) (ls : Array Slot), xS D A9 s9 [mW q b0 b1 b2 b3 b4 b5 b6 b7 b8 s p sl sv w fo to ou kn (nI (ln + i)) mn la op wr] H locs → lv_has ls 8 [(6, .int (nI (t - i) - 1)), (5, .int (nI en)), (4, .int (nI rg)), (3, .int (nI t)), (0, .ref b0), (1, .long ch)] → (t < i + nn) → (i ≤ t) → (w = x_pt pd (fun i => nI (x_by ch (t - 1 - i))) ln i) → W p9 l e9 { frames := 1, cells := 0, slots := 0, locals := 22 } s9 m9 a9 below meth c9 H locs 0 0 Z9 (F0 m9 136 ls []) := by
                intro nn
                induction nn with
                | zero => intro i w H locs ls X hl hfuel hi hw; exact absurd hfuel (by omega)
                | succ nn ih_136 =>
                  intro i w H locs ls X hl hfuel hi hw
                  refine lv_iload hx hb dX8_put_136 (lv_at hl 0 rfl) ?_
                  refine lv_if_lt (tgt := 178) hx hb dX8_put_138 (by decide) (fun c_138 => ?_) (fun c_138 => ?_)
                  · refine lv_aload_n hx hb dX8_put_178 rfl (lv_at hl 4 rfl) ?_
                    refine x_get F X (v := .int (nI (ln + i))) (C := RX8) (T := TX8) (N := 14) (ci := 8) in_X8 0 rfl rfl 6 (by decide) mw_0 rfl dX8_put_179 ?_
                    refine hret _ _ _ _ _ _ ?_ X dX8_put_182
                    have hti := (x_dm (by omega)).mp c_138
                    obtain rfl : i = t := by omega
                    exact ⟨_, _, rfl, Or.inl ⟨i, by omega, hv, by omega, rfl, rfl, hw⟩⟩
                  · have hti : i < t := Nat.lt_of_not_le (fun h => c_138 ((x_dm (by omega)).mpr (by omega)))
                    rw [x_pred (n := t - i) (by omega)] at hl
                    refine lv_aload_n hx hb dX8_put_141 rfl (lv_at hl 4 rfl) ?_
                    refine x_get F X (v := .ref b5) (C := RX8) (T := TX8) (N := 14) (ci := 8) in_X8 0 rfl rfl 5 (by decide) mw_1 rfl dX8_put_142 ?_
                    refine lv_aload_n hx hb dX8_put_145 rfl (lv_at hl 4 rfl) ?_
                    refine x_get F X (v := .int (nI (ln + i))) (C := RX8) (T := TX8) (N := 14) (ci := 8) in_X8 0 rfl rfl 6 (by decide) mw_0 rfl dX8_put_146 ?_
                    refine lv_lload_n hx hb dX8_put_149 rfl (lv_at hl 5 rfl) ?_
                    refine lv_bipush (v := 8) hx hb dX8_put_150 (by decide) ?_
                    refine lv_iload hx hb dX8_put_152 (lv_at hl 0 rfl) ?_
                    refine lv_imul hx hb dX8_put_154 ?_
                    refine x_i (y := (nI (8 * (t - i - 1)))) (pk_mul 8 (t - i - 1)) ?_
                    refine lv_lshr (v := (ch >>> ((Int32.toInt64 (nI (8 * (t - i - 1)))) &&& 63))) hx hb dX8_put_155 rfl ?_
                    refine lv_ldc2 (v := 255) hx hb F.1.2.2.2.1 (F.1.2.2.2.2 _ mw_2) dX8_put_156 ?_
                    refine lv_land hx hb dX8_put_159 ?_
                    refine lv_l2i (v := (Int64.toInt32 (((ch >>> ((Int32.toInt64 (nI (8 * (t - i - 1)))) &&& 63))) &&& 255))) hx hb dX8_put_160 rfl ?_
                    refine x_i (y := (nI (x_by ch (t - 1 - i)))) (by rw [x_lsh (by omega), lN_i]; exact congrArg nI (congrArg (x_by ch) (by omega))) ?_
                    refine x_iast F X (gs' := [mW q b0 b1 b2 b3 b4 b5 b6 b7 b8 s p sl sv (upd w (ln + i) (nI (x_by ch (t - 1 - i)))) fo to ou kn (nI (ln + i)) mn la op wr]) (n := 80) (f := w) (k := (ln + i)) 5 rfl (vp_in_nI (by omega) (by omega)) (nI_clamp (by omega)) dX8_put_161 rfl (fun H locs X => ?_)
                    refine lv_aload_n hx hb dX8_put_162 rfl (lv_at hl 4 rfl) ?_
                    refine lv_dup hx hb dX8_put_163 rfl ?_
                    refine x_get F X (v := .int (nI (ln + i))) (C := RX8) (T := TX8) (N := 14) (ci := 8) in_X8 0 rfl rfl 6 (by decide) mw_0 rfl dX8_put_164 ?_
                    refine lv_iconst (v := 1) hx hb dX8_put_167 (by decide) ?_
                    refine lv_iadd hx hb dX8_put_168 ?_
                    refine x_i (y := (nI (ln + i + 1))) (nI_add (ln + i) 1) ?_
                    refine x_put F X (gs' := [mW q b0 b1 b2 b3 b4 b5 b6 b7 b8 s p sl sv (upd w (ln + i) (nI (x_by ch (t - 1 - i)))) fo to ou kn (nI (ln + i + 1)) mn la op wr]) (v := .int (nI (ln + i + 1))) (C := RX8) (T := TX8) (N := 14) (ci := 8) in_X8 tyX8 tyX8_ok nmX8 0 rfl rfl 6 (by decide) mw_0 rfl rfl rfl (Nat.le_of_ble_eq_true rfl) dX8_put_169 rfl (fun H locs X => ?_)
                    refine lv_iinc (v := ((nI (t - i - 1)) + Int32.ofInt (-1))) (lv' := [(6, .int ((nI (t - i - 1)) + Int32.ofInt (-1))), (5, .int (nI en)), (4, .int (nI rg)), (3, .int (nI t)), (0, .ref b0), (1, .long ch)]) hx hb dX8_put_172 hl (k := 0) rfl rfl (by decide) rfl (fun ls hl => ?_)
                    rw [x_dm2, show nI (t - i - 1) = nI (t - (i + 1)) from rfl] at hl
                    refine lv_goto (tgt := 136) hx hb dX8_put_175 (by decide) ?_
                    exact ih_136 (i + 1) _ _ _ _ X (lv_sub hl [0, 1, 2, 3, 4, 5] rfl) (by omega) (by omega) (by rw [hw, ← x_pt_s])
              exact L_136 (t + 1) 0 pd _ _ _ X (lv_sub hl [0, 1, 2, 3, 4, 5] rfl) (by omega) (by omega) (by exact (x_pt_0 _ _ _).symm)
            · have c_125 : 80 < ln + t := Nat.not_le.mp (fun h => c_125 ((nI_leI (a := ln + t) (b := 80) (by omega) (by omega)).mpr h))
              refine lv_bipush (v := (-4)) hx hb dX8_put_128 (by decide) ?_
              exact hret _ _ _ _ _ _ (by exact ⟨pd, ln, rfl, Or.inr ⟨Or.inl ⟨t, by omega, hv, by omega, rfl⟩, rfl, rfl⟩⟩) X dX8_put_130
          · have c_111 : t = 0 := (nI_eq (a := t) (b := 0) (by omega) (by omega)).mp c_111
            refine lv_bipush (v := (-2)) hx hb dX8_put_114 (by decide) ?_
            refine hret _ _ _ _ _ _ ?_ X dX8_put_116
            obtain rfl : k = 8 := by omega
            exact ⟨pd, ln, rfl, Or.inr ⟨Or.inr ⟨fun n h1 h => by have e := x_pw_u hp h; omega, rfl⟩, rfl, rfl⟩⟩
      · have c_15 : k < 8 := Nat.not_le.mp (fun h => c_15 ((nI_leI (a := 8) (b := k) (by omega) (by omega)).mpr h))
        refine lv_lload_n hx hb dX8_put_18 rfl (lv_at hl 5 rfl) ?_
        refine lv_bipush (v := 8) hx hb dX8_put_19 (by decide) ?_
        refine lv_iload hx hb dX8_put_21 (lv_at hl 0 rfl) ?_
        refine lv_imul hx hb dX8_put_23 ?_
        refine x_i (y := (nI (8 * k))) (pk_mul 8 k) ?_
        refine lv_lshr (v := (ch >>> ((Int32.toInt64 (nI (8 * k))) &&& 63))) hx hb dX8_put_24 rfl ?_
        refine lv_ldc2 (v := 255) hx hb F.1.2.2.2.1 (F.1.2.2.2.2 _ mw_2) dX8_put_25 ?_
        refine lv_land hx hb dX8_put_28 ?_
        refine lv_l2i (v := (Int64.toInt32 (((ch >>> ((Int32.toInt64 (nI (8 * k))) &&& 63))) &&& 255))) hx hb dX8_put_29 rfl ?_
        refine x_i (y := (nI (x_by ch k))) (by rw [x_lsh (by omega)]; exact lN_i _) ?_
        have hby := x_by_lt ch k
        refine lv_istore (lv' := [(7, .int (nI (x_by ch k))), (6, .int (nI k)), (5, .int (nI en)), (4, .int (nI rg)), (3, .int (nI t)), (0, .ref b0), (1, .long ch)]) hx hb dX8_put_30 hl (by decide) rfl (fun ls hl => ?_)
        refine lv_iload hx hb dX8_put_32 (lv_at hl 2 rfl) ?_
        refine lv_if_ne (tgt := 42) hx hb dX8_put_34 (by decide) (fun c_34 => ?_) (fun c_34 => ?_)
        · have c_34 : ¬ (en = 0) := fun h => c_34 ((nI_eq (a := en) (b := 0) (by omega) (by omega)).mpr h)
          refine lv_iconst (v := 1) hx hb dX8_put_42 (by decide) ?_
          refine lv_goto (tgt := 47) hx hb dX8_put_43 (by decide) ?_
          refine lv_istore (lv' := [(5, .int 1), (7, .int (nI (x_by ch k))), (6, .int (nI k)), (4, .int (nI rg)), (3, .int (nI t)), (0, .ref b0), (1, .long ch)]) hx hb dX8_put_47 hl (by decide) rfl (fun ls hl => ?_)
          refine lv_iload hx hb dX8_put_49 (lv_at hl 3 rfl) ?_
          refine lv_if_eq (tgt := 83) hx hb dX8_put_51 (by decide) (fun c_51 => ?_) (fun c_51 => ?_)
          · have c_51 : rg = 0 := (nI_eq (a := rg) (b := 0) (by omega) (by omega)).mp c_51
            refine lv_iconst (v := 0) hx hb dX8_put_83 (by decide) ?_
            refine lv_istore (lv' := [(4, .int 0), (5, .int 1), (7, .int (nI (x_by ch k))), (6, .int (nI k)), (3, .int (nI t)), (0, .ref b0), (1, .long ch)]) hx hb dX8_put_84 hl (by decide) rfl (fun ls hl => ?_)
            refine lv_iload_n hx hb dX8_put_86 rfl (lv_at hl 4 rfl) ?_
            refine lv_iload hx hb dX8_put_87 (lv_at hl 1 rfl) ?_
            refine lv_if_eq (tgt := 96) hx hb dX8_put_89 (by decide) (fun h => absurd h (by decide)) (fun _ => ?_)
            refine lv_iconst (v := 0) hx hb dX8_put_92 (by decide) ?_
            refine lv_goto (tgt := 97) hx hb dX8_put_93 (by decide) ?_
            refine lv_iadd hx hb dX8_put_97 ?_
            refine x_i (y := (nI (t + 0))) (nI_add t 0) ?_
            refine lv_istore_n (lv' := [(3, .int (nI (t + 0))), (4, .int 0), (5, .int 1), (7, .int (nI (x_by ch k))), (6, .int (nI k)), (0, .ref b0), (1, .long ch)]) hx hb dX8_put_98 rfl hl (by decide) rfl (fun ls hl => ?_)
            refine lv_iinc (v := (nI (k + 1))) (lv' := [(6, .int (nI (k + 1))), (3, .int (nI (t + 0))), (4, .int 0), (5, .int 1), (7, .int (nI (x_by ch k))), (0, .ref b0), (1, .long ch)]) hx hb dX8_put_99 hl (k := 4) rfl (nI_add k 1) (by decide) rfl (fun ls hl => ?_)
            refine lv_goto (tgt := 11) hx hb dX8_put_102 (by decide) ?_
            exact ih_11 (k + 1) t 1 0 _ _ _ X (lv_sub hl [0, 3, 2, 1, 5, 6] rfl) (by omega) (by omega) (by omega) (by omega) (by omega) (by
                rw [x_pw, hp]
                dsimp only
                first
                | rw [if_pos (by omega), if_pos (by omega)]
                | rw [if_pos (by omega), if_neg (by omega)]
                | rw [if_neg (by omega), if_pos (by omega)]
                | rw [if_neg (by omega), if_neg (by omega)])
          · have c_51 : ¬ (rg = 0) := fun h => c_51 ((nI_eq (a := rg) (b := 0) (by omega) (by omega)).mpr h)
            refine lv_iload hx hb dX8_put_54 (lv_at hl 0 rfl) ?_
            refine lv_if_eq (tgt := 67) hx hb dX8_put_56 (by decide) (fun h => absurd h (by decide)) (fun _ => ?_)
            refine lv_iload hx hb dX8_put_59 (lv_at hl 1 rfl) ?_
            refine lv_if_ne (tgt := 83) hx hb dX8_put_61 (by decide) (fun c_61 => ?_) (fun c_61 => ?_)
            · have c_61 : ¬ ((x_by ch k) = 0) := fun h => c_61 ((nI_eq (a := (x_by ch k)) (b := 0) (by omega) (by omega)).mpr h)
              refine lv_iconst (v := 0) hx hb dX8_put_83 (by decide) ?_
              refine lv_istore (lv' := [(4, .int 0), (5, .int 1), (7, .int (nI (x_by ch k))), (6, .int (nI k)), (3, .int (nI t)), (0, .ref b0), (1, .long ch)]) hx hb dX8_put_84 hl (by decide) rfl (fun ls hl => ?_)
              refine lv_iload_n hx hb dX8_put_86 rfl (lv_at hl 4 rfl) ?_
              refine lv_iload hx hb dX8_put_87 (lv_at hl 1 rfl) ?_
              refine lv_if_eq (tgt := 96) hx hb dX8_put_89 (by decide) (fun h => absurd h (by decide)) (fun _ => ?_)
              refine lv_iconst (v := 0) hx hb dX8_put_92 (by decide) ?_
              refine lv_goto (tgt := 97) hx hb dX8_put_93 (by decide) ?_
              refine lv_iadd hx hb dX8_put_97 ?_
              refine x_i (y := (nI (t + 0))) (nI_add t 0) ?_
              refine lv_istore_n (lv' := [(3, .int (nI (t + 0))), (4, .int 0), (5, .int 1), (7, .int (nI (x_by ch k))), (6, .int (nI k)), (0, .ref b0), (1, .long ch)]) hx hb dX8_put_98 rfl hl (by decide) rfl (fun ls hl => ?_)
              refine lv_iinc (v := (nI (k + 1))) (lv' := [(6, .int (nI (k + 1))), (3, .int (nI (t + 0))), (4, .int 0), (5, .int 1), (7, .int (nI (x_by ch k))), (0, .ref b0), (1, .long ch)]) hx hb dX8_put_99 hl (k := 4) rfl (nI_add k 1) (by decide) rfl (fun ls hl => ?_)
              refine lv_goto (tgt := 11) hx hb dX8_put_102 (by decide) ?_
              exact ih_11 (k + 1) t 1 0 _ _ _ X (lv_sub hl [0, 3, 2, 1, 5, 6] rfl) (by omega) (by omega) (by omega) (by omega) (by omega) (by
                  rw [x_pw, hp]
                  dsimp only
                  first
                  | rw [if_pos (by omega), if_pos (by omega)]
                  | rw [if_pos (by omega), if_neg (by omega)]
                  | rw [if_neg (by omega), if_pos (by omega)]
                  | rw [if_neg (by omega), if_neg (by omega)])
            · have c_61 : (x_by ch k) = 0 := (nI_eq (a := (x_by ch k)) (b := 0) (by omega) (by omega)).mp c_61
              refine lv_goto (tgt := 79) hx hb dX8_put_64 (by decide) ?_
              refine lv_iconst (v := 1) hx hb dX8_put_79 (by decide) ?_
              refine lv_goto (tgt := 84) hx hb dX8_put_80 (by decide) ?_
              refine lv_istore (lv' := [(4, .int 1), (5, .int 1), (7, .int (nI (x_by ch k))), (6, .int (nI k)), (3, .int (nI t)), (0, .ref b0), (1, .long ch)]) hx hb dX8_put_84 hl (by decide) rfl (fun ls hl => ?_)
              refine lv_iload_n hx hb dX8_put_86 rfl (lv_at hl 4 rfl) ?_
              refine lv_iload hx hb dX8_put_87 (lv_at hl 1 rfl) ?_
              refine lv_if_eq (tgt := 96) hx hb dX8_put_89 (by decide) (fun h => absurd h (by decide)) (fun _ => ?_)
              refine lv_iconst (v := 0) hx hb dX8_put_92 (by decide) ?_
              refine lv_goto (tgt := 97) hx hb dX8_put_93 (by decide) ?_
              refine lv_iadd hx hb dX8_put_97 ?_
              refine x_i (y := (nI (t + 0))) (nI_add t 0) ?_
              refine lv_istore_n (lv' := [(3, .int (nI (t + 0))), (4, .int 1), (5, .int 1), (7, .int (nI (x_by ch k))), (6, .int (nI k)), (0, .ref b0), (1, .long ch)]) hx hb dX8_put_98 rfl hl (by decide) rfl (fun ls hl => ?_)
              refine lv_iinc (v := (nI (k + 1))) (lv' := [(6, .int (nI (k + 1))), (3, .int (nI (t + 0))), (4, .int 1), (5, .int 1), (7, .int (nI (x_by ch k))), (0, .ref b0), (1, .long ch)]) hx hb dX8_put_99 hl (k := 4) rfl (nI_add k 1) (by decide) rfl (fun ls hl => ?_)
              refine lv_goto (tgt := 11) hx hb dX8_put_102 (by decide) ?_
              exact ih_11 (k + 1) t 1 1 _ _ _ X (lv_sub hl [0, 3, 2, 1, 5, 6] rfl) (by omega) (by omega) (by omega) (by omega) (by omega) (by
                  rw [x_pw, hp]
                  dsimp only
                  first
                  | rw [if_pos (by omega), if_pos (by omega)]
                  | rw [if_pos (by omega), if_neg (by omega)]
                  | rw [if_neg (by omega), if_pos (by omega)]
                  | rw [if_neg (by omega), if_neg (by omega)])
        · have c_34 : en = 0 := (nI_eq (a := en) (b := 0) (by omega) (by omega)).mp c_34
          refine lv_iload hx hb dX8_put_37 (lv_at hl 0 rfl) ?_
          refine lv_if_ne (tgt := 46) hx hb dX8_put_39 (by decide) (fun c_39 => ?_) (fun c_39 => ?_)
          · have c_39 : ¬ ((x_by ch k) = 0) := fun h => c_39 ((nI_eq (a := (x_by ch k)) (b := 0) (by omega) (by omega)).mpr h)
            refine lv_iconst (v := 0) hx hb dX8_put_46 (by decide) ?_
            refine lv_istore (lv' := [(5, .int 0), (7, .int (nI (x_by ch k))), (6, .int (nI k)), (4, .int (nI rg)), (3, .int (nI t)), (0, .ref b0), (1, .long ch)]) hx hb dX8_put_47 hl (by decide) rfl (fun ls hl => ?_)
            refine lv_iload hx hb dX8_put_49 (lv_at hl 3 rfl) ?_
            refine lv_if_eq (tgt := 83) hx hb dX8_put_51 (by decide) (fun c_51 => ?_) (fun c_51 => ?_)
            · have c_51 : rg = 0 := (nI_eq (a := rg) (b := 0) (by omega) (by omega)).mp c_51
              refine lv_iconst (v := 0) hx hb dX8_put_83 (by decide) ?_
              refine lv_istore (lv' := [(4, .int 0), (5, .int 0), (7, .int (nI (x_by ch k))), (6, .int (nI k)), (3, .int (nI t)), (0, .ref b0), (1, .long ch)]) hx hb dX8_put_84 hl (by decide) rfl (fun ls hl => ?_)
              refine lv_iload_n hx hb dX8_put_86 rfl (lv_at hl 4 rfl) ?_
              refine lv_iload hx hb dX8_put_87 (lv_at hl 1 rfl) ?_
              refine lv_if_eq (tgt := 96) hx hb dX8_put_89 (by decide) (fun _ => ?_) (fun h => absurd (by decide) h)
              refine lv_iconst (v := 1) hx hb dX8_put_96 (by decide) ?_
              refine lv_iadd hx hb dX8_put_97 ?_
              refine x_i (y := (nI (t + 1))) (nI_add t 1) ?_
              refine lv_istore_n (lv' := [(3, .int (nI (t + 1))), (4, .int 0), (5, .int 0), (7, .int (nI (x_by ch k))), (6, .int (nI k)), (0, .ref b0), (1, .long ch)]) hx hb dX8_put_98 rfl hl (by decide) rfl (fun ls hl => ?_)
              refine lv_iinc (v := (nI (k + 1))) (lv' := [(6, .int (nI (k + 1))), (3, .int (nI (t + 1))), (4, .int 0), (5, .int 0), (7, .int (nI (x_by ch k))), (0, .ref b0), (1, .long ch)]) hx hb dX8_put_99 hl (k := 4) rfl (nI_add k 1) (by decide) rfl (fun ls hl => ?_)
              refine lv_goto (tgt := 11) hx hb dX8_put_102 (by decide) ?_
              exact ih_11 (k + 1) (t + 1) 0 0 _ _ _ X (lv_sub hl [0, 3, 2, 1, 5, 6] rfl) (by omega) (by omega) (by omega) (by omega) (by omega) (by
                  rw [x_pw, hp]
                  dsimp only
                  first
                  | rw [if_pos (by omega), if_pos (by omega)]
                  | rw [if_pos (by omega), if_neg (by omega)]
                  | rw [if_neg (by omega), if_pos (by omega)]
                  | rw [if_neg (by omega), if_neg (by omega)])
            · have c_51 : ¬ (rg = 0) := fun h => c_51 ((nI_eq (a := rg) (b := 0) (by omega) (by omega)).mpr h)
              refine lv_iload hx hb dX8_put_54 (lv_at hl 0 rfl) ?_
              refine lv_if_eq (tgt := 67) hx hb dX8_put_56 (by decide) (fun _ => ?_) (fun h => absurd (by decide) h)
              refine lv_iload hx hb dX8_put_67 (lv_at hl 1 rfl) ?_
              refine lv_bipush (v := 33) hx hb dX8_put_69 (by decide) ?_
              refine lv_bipush (v := 126) hx hb dX8_put_71 (by decide) ?_
              refine x_cSi F X (gc := []) (gr := [mW q b0 b1 b2 b3 b4 b5 b6 b7 b8 s p sl sv pd fo to ou kn (nI ln) mn la op wr]) (xp_idx (n := 1) [0] (by decide +kernel) rfl rfl) (c_X8_inN l D q (x_by ch k) 33 126 (by first | assumption | omega) (by first | assumption | omega) (by first | assumption | omega)) (va_cwS 3 F.1.2.2.2.2 gX8_put_X8_in rfl rfl rfl (by decide +kernel) ⟨Nat.le_of_ble_eq_true rfl, Nat.le_of_ble_eq_true rfl⟩) rfl rfl hl.1 ⟨Nat.le_of_ble_eq_true rfl, Nat.le_of_ble_eq_true rfl⟩ (Nat.le_of_ble_eq_true rfl) dX8_put_73 (fun r_73 g1 H locs hp X => ?_)
              obtain ⟨rfl, hz⟩ := hp
              have X : xS D A9 s9 [mW q b0 b1 b2 b3 b4 b5 b6 b7 b8 s p sl sv pd fo to ou kn (nI ln) mn la op wr] H locs := X
              rcases hz with ⟨rfl, b_73⟩ | ⟨rfl, b_73⟩
              · refine lv_if_eq (tgt := 83) hx hb dX8_put_76 (by decide) (fun h => absurd h (by decide)) (fun _ => ?_)
                refine lv_iconst (v := 1) hx hb dX8_put_79 (by decide) ?_
                refine lv_goto (tgt := 84) hx hb dX8_put_80 (by decide) ?_
                refine lv_istore (lv' := [(4, .int 1), (5, .int 0), (7, .int (nI (x_by ch k))), (6, .int (nI k)), (3, .int (nI t)), (0, .ref b0), (1, .long ch)]) hx hb dX8_put_84 hl (by decide) rfl (fun ls hl => ?_)
                refine lv_iload_n hx hb dX8_put_86 rfl (lv_at hl 4 rfl) ?_
                refine lv_iload hx hb dX8_put_87 (lv_at hl 1 rfl) ?_
                refine lv_if_eq (tgt := 96) hx hb dX8_put_89 (by decide) (fun _ => ?_) (fun h => absurd (by decide) h)
                refine lv_iconst (v := 1) hx hb dX8_put_96 (by decide) ?_
                refine lv_iadd hx hb dX8_put_97 ?_
                refine x_i (y := (nI (t + 1))) (nI_add t 1) ?_
                refine lv_istore_n (lv' := [(3, .int (nI (t + 1))), (4, .int 1), (5, .int 0), (7, .int (nI (x_by ch k))), (6, .int (nI k)), (0, .ref b0), (1, .long ch)]) hx hb dX8_put_98 rfl hl (by decide) rfl (fun ls hl => ?_)
                refine lv_iinc (v := (nI (k + 1))) (lv' := [(6, .int (nI (k + 1))), (3, .int (nI (t + 1))), (4, .int 1), (5, .int 0), (7, .int (nI (x_by ch k))), (0, .ref b0), (1, .long ch)]) hx hb dX8_put_99 hl (k := 4) rfl (nI_add k 1) (by decide) rfl (fun ls hl => ?_)
                refine lv_goto (tgt := 11) hx hb dX8_put_102 (by decide) ?_
                exact ih_11 (k + 1) (t + 1) 0 1 _ _ _ X (lv_sub hl [0, 3, 2, 1, 5, 6] rfl) (by omega) (by omega) (by omega) (by omega) (by omega) (by
                    rw [x_pw, hp]
                    dsimp only
                    first
                    | rw [if_pos (by omega), if_pos (by omega)]
                    | rw [if_pos (by omega), if_neg (by omega)]
                    | rw [if_neg (by omega), if_pos (by omega)]
                    | rw [if_neg (by omega), if_neg (by omega)])
              · refine lv_if_eq (tgt := 83) hx hb dX8_put_76 (by decide) (fun _ => ?_) (fun h => absurd (by decide) h)
                refine lv_iconst (v := 0) hx hb dX8_put_83 (by decide) ?_
                refine lv_istore (lv' := [(4, .int 0), (5, .int 0), (7, .int (nI (x_by ch k))), (6, .int (nI k)), (3, .int (nI t)), (0, .ref b0), (1, .long ch)]) hx hb dX8_put_84 hl (by decide) rfl (fun ls hl => ?_)
                refine lv_iload_n hx hb dX8_put_86 rfl (lv_at hl 4 rfl) ?_
                refine lv_iload hx hb dX8_put_87 (lv_at hl 1 rfl) ?_
                refine lv_if_eq (tgt := 96) hx hb dX8_put_89 (by decide) (fun _ => ?_) (fun h => absurd (by decide) h)
                refine lv_iconst (v := 1) hx hb dX8_put_96 (by decide) ?_
                refine lv_iadd hx hb dX8_put_97 ?_
                refine x_i (y := (nI (t + 1))) (nI_add t 1) ?_
                refine lv_istore_n (lv' := [(3, .int (nI (t + 1))), (4, .int 0), (5, .int 0), (7, .int (nI (x_by ch k))), (6, .int (nI k)), (0, .ref b0), (1, .long ch)]) hx hb dX8_put_98 rfl hl (by decide) rfl (fun ls hl => ?_)
                refine lv_iinc (v := (nI (k + 1))) (lv' := [(6, .int (nI (k + 1))), (3, .int (nI (t + 1))), (4, .int 0), (5, .int 0), (7, .int (nI (x_by ch k))), (0, .ref b0), (1, .long ch)]) hx hb dX8_put_99 hl (k := 4) rfl (nI_add k 1) (by decide) rfl (fun ls hl => ?_)
                refine lv_goto (tgt := 11) hx hb dX8_put_102 (by decide) ?_
                exact ih_11 (k + 1) (t + 1) 0 0 _ _ _ X (lv_sub hl [0, 3, 2, 1, 5, 6] rfl) (by omega) (by omega) (by omega) (by omega) (by omega) (by
                    rw [x_pw, hp]
                    dsimp only
                    first
                    | rw [if_pos (by omega), if_pos (by omega)]
                    | rw [if_pos (by omega), if_neg (by omega)]
                    | rw [if_neg (by omega), if_pos (by omega)]
                    | rw [if_neg (by omega), if_neg (by omega)])
          · have c_39 : (x_by ch k) = 0 := (nI_eq (a := (x_by ch k)) (b := 0) (by omega) (by omega)).mp c_39
            refine lv_iconst (v := 1) hx hb dX8_put_42 (by decide) ?_
            refine lv_goto (tgt := 47) hx hb dX8_put_43 (by decide) ?_
            refine lv_istore (lv' := [(5, .int 1), (7, .int (nI (x_by ch k))), (6, .int (nI k)), (4, .int (nI rg)), (3, .int (nI t)), (0, .ref b0), (1, .long ch)]) hx hb dX8_put_47 hl (by decide) rfl (fun ls hl => ?_)
            refine lv_iload hx hb dX8_put_49 (lv_at hl 3 rfl) ?_
            refine lv_if_eq (tgt := 83) hx hb dX8_put_51 (by decide) (fun c_51 => ?_) (fun c_51 => ?_)
            · have c_51 : rg = 0 := (nI_eq (a := rg) (b := 0) (by omega) (by omega)).mp c_51
              refine lv_iconst (v := 0) hx hb dX8_put_83 (by decide) ?_
              refine lv_istore (lv' := [(4, .int 0), (5, .int 1), (7, .int (nI (x_by ch k))), (6, .int (nI k)), (3, .int (nI t)), (0, .ref b0), (1, .long ch)]) hx hb dX8_put_84 hl (by decide) rfl (fun ls hl => ?_)
              refine lv_iload_n hx hb dX8_put_86 rfl (lv_at hl 4 rfl) ?_
              refine lv_iload hx hb dX8_put_87 (lv_at hl 1 rfl) ?_
              refine lv_if_eq (tgt := 96) hx hb dX8_put_89 (by decide) (fun h => absurd h (by decide)) (fun _ => ?_)
              refine lv_iconst (v := 0) hx hb dX8_put_92 (by decide) ?_
              refine lv_goto (tgt := 97) hx hb dX8_put_93 (by decide) ?_
              refine lv_iadd hx hb dX8_put_97 ?_
              refine x_i (y := (nI (t + 0))) (nI_add t 0) ?_
              refine lv_istore_n (lv' := [(3, .int (nI (t + 0))), (4, .int 0), (5, .int 1), (7, .int (nI (x_by ch k))), (6, .int (nI k)), (0, .ref b0), (1, .long ch)]) hx hb dX8_put_98 rfl hl (by decide) rfl (fun ls hl => ?_)
              refine lv_iinc (v := (nI (k + 1))) (lv' := [(6, .int (nI (k + 1))), (3, .int (nI (t + 0))), (4, .int 0), (5, .int 1), (7, .int (nI (x_by ch k))), (0, .ref b0), (1, .long ch)]) hx hb dX8_put_99 hl (k := 4) rfl (nI_add k 1) (by decide) rfl (fun ls hl => ?_)
              refine lv_goto (tgt := 11) hx hb dX8_put_102 (by decide) ?_
              exact ih_11 (k + 1) t 1 0 _ _ _ X (lv_sub hl [0, 3, 2, 1, 5, 6] rfl) (by omega) (by omega) (by omega) (by omega) (by omega) (by
                  rw [x_pw, hp]
                  dsimp only
                  first
                  | rw [if_pos (by omega), if_pos (by omega)]
                  | rw [if_pos (by omega), if_neg (by omega)]
                  | rw [if_neg (by omega), if_pos (by omega)]
                  | rw [if_neg (by omega), if_neg (by omega)])
            · have c_51 : ¬ (rg = 0) := fun h => c_51 ((nI_eq (a := rg) (b := 0) (by omega) (by omega)).mpr h)
              refine lv_iload hx hb dX8_put_54 (lv_at hl 0 rfl) ?_
              refine lv_if_eq (tgt := 67) hx hb dX8_put_56 (by decide) (fun h => absurd h (by decide)) (fun _ => ?_)
              refine lv_iload hx hb dX8_put_59 (lv_at hl 1 rfl) ?_
              refine lv_if_ne (tgt := 83) hx hb dX8_put_61 (by decide) (fun c_61 => ?_) (fun c_61 => ?_)
              · exfalso
                have c_61 : ¬ ((x_by ch k) = 0) := fun h => c_61 ((nI_eq (a := (x_by ch k)) (b := 0) (by omega) (by omega)).mpr h)
                omega
              have c_61 : (x_by ch k) = 0 := (nI_eq (a := (x_by ch k)) (b := 0) (by omega) (by omega)).mp c_61
              refine lv_goto (tgt := 79) hx hb dX8_put_64 (by decide) ?_
              refine lv_iconst (v := 1) hx hb dX8_put_79 (by decide) ?_
              refine lv_goto (tgt := 84) hx hb dX8_put_80 (by decide) ?_
              refine lv_istore (lv' := [(4, .int 1), (5, .int 1), (7, .int (nI (x_by ch k))), (6, .int (nI k)), (3, .int (nI t)), (0, .ref b0), (1, .long ch)]) hx hb dX8_put_84 hl (by decide) rfl (fun ls hl => ?_)
              refine lv_iload_n hx hb dX8_put_86 rfl (lv_at hl 4 rfl) ?_
              refine lv_iload hx hb dX8_put_87 (lv_at hl 1 rfl) ?_
              refine lv_if_eq (tgt := 96) hx hb dX8_put_89 (by decide) (fun h => absurd h (by decide)) (fun _ => ?_)
              refine lv_iconst (v := 0) hx hb dX8_put_92 (by decide) ?_
              refine lv_goto (tgt := 97) hx hb dX8_put_93 (by decide) ?_
              refine lv_iadd hx hb dX8_put_97 ?_
              refine x_i (y := (nI (t + 0))) (nI_add t 0) ?_
              refine lv_istore_n (lv' := [(3, .int (nI (t + 0))), (4, .int 1), (5, .int 1), (7, .int (nI (x_by ch k))), (6, .int (nI k)), (0, .ref b0), (1, .long ch)]) hx hb dX8_put_98 rfl hl (by decide) rfl (fun ls hl => ?_)
              refine lv_iinc (v := (nI (k + 1))) (lv' := [(6, .int (nI (k + 1))), (3, .int (nI (t + 0))), (4, .int 1), (5, .int 1), (7, .int (nI (x_by ch k))), (0, .ref b0), (1, .long ch)]) hx hb dX8_put_99 hl (k := 4) rfl (nI_add k 1) (by decide) rfl (fun ls hl => ?_)
              refine lv_goto (tgt := 11) hx hb dX8_put_102 (by decide) ?_
              exact ih_11 (k + 1) t 1 1 _ _ _ X (lv_sub hl [0, 3, 2, 1, 5, 6] rfl) (by omega) (by omega) (by omega) (by omega) (by omega) (by
                  rw [x_pw, hp]
                  dsimp only
                  first
                  | rw [if_pos (by omega), if_pos (by omega)]
                  | rw [if_pos (by omega), if_neg (by omega)]
                  | rw [if_neg (by omega), if_pos (by omega)]
                  | rw [if_neg (by omega), if_neg (by omega)])
  exact L_11 (9) 0 0 0 1 _ _ _ X (lv_sub hl [0, 1, 2, 3, 4, 5] rfl) (by omega) (by omega) (by omega) (by omega) (by omega) (by rfl)

