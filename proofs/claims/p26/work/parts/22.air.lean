set_option maxHeartbeats 1000000 in
set_option maxRecDepth 100000 in
theorem c_X0_part (l : Launch) (D : va_G) (q : xQ) (a0 : Nat) (a1 : Nat) (a2 : Nat) (a3 : Nat) (t1 : Nat → Int32) (t2 : Nat → Int32) (t3 : Nat → Int32) (h0 : Nat) (h1 : Nat) (h2 : Nat) (h3 : Nat) (h4 : Nat) (h5 : Nat) (n : Nat) (f1 : Nat → Int32) (f2 : Nat → Int32) (f3 : Nat → Int32) (f4 : Nat → Int32) (f5 : Nat → Int32) (m : Int32) (hn : n ≤ 20) : xMv l yX0_part wsX0_part { frames := 0, cells := 0, slots := 0, locals := 0 } D q [.ref a0, .ref h0, .int m] [aW q a0 a1 a2 a3 t1 t2 t3, sW q h0 h1 h2 h3 h4 h5 f1 f2 f3 f4 f5 (nI n)] (fun gw => ∃ (w1 : Nat → Int32), ∃ (w2 : Nat → Int32), gw = [aW q a0 a1 a2 a3 w1 w2 t3, sW q h0 h1 h2 h3 h4 h5 f1 f2 f3 f4 f5 (nI n)] ∧ (∀ k, k < n → w1 k = x_sm (x_tg f1 f2 m k) n) ∧ (∀ k, k < n → w2 k = x_sm (x_nr f1 f2 m k) n)) := by
  refine xMv_of (cc := cX0_part) (maxL := 5) (by decide) rfl (Nat.le_of_ble_eq_true rfl) ?_
  intro p9 e9 s9 m9 a9 below meth c9 A9 Z9 ls H locs F hini X hl hret
  have hx := F.1.1
  have hb := F.1.2.1
  have in_X5 : ∀ w ∈ wsX50, w ∈ wsX0_part := by decide +kernel
  have in_X0 : ∀ w ∈ wsX00, w ∈ wsX0_part := by decide +kernel
  have mw_0 : Cond.fieldLink RX0 37 "HatWinds$Streets" "number" "I" ∈ wsX0_part := by decide +kernel
  have mw_1 : Cond.fieldLink RX0 9 "HatWinds$Air" "together" "[I" ∈ wsX0_part := by decide +kernel
  have mw_2 : Cond.fieldLink RX0 15 "HatWinds$Air" "narrower" "[I" ∈ wsX0_part := by decide +kernel
  have mw_3 : Cond.fieldLink RX0 42 "HatWinds$Streets" "from" "[I" ∈ wsX0_part := by decide +kernel
  have mw_4 : Cond.fieldLink RX0 45 "HatWinds$Streets" "width" "[I" ∈ wsX0_part := by decide +kernel
  have hl : lv_has ls 5 [(0, .ref a0), (1, .ref h0), (2, .int m)] := hl
  refine lv_iconst (v := 0) hx hb dX0_part_0 (by decide) ?_
  refine lv_istore_n (lv' := [(3, .int 0), (0, .ref a0), (1, .ref h0), (2, .int m)]) hx hb dX0_part_1 rfl hl (by decide) rfl (fun ls hl => ?_)
  have L_2 : ∀ (nn : Nat) (i : Nat) (u1 u2 : Nat → Int32) (H : Heap) (locs : List Loc) (ls : Array Slot), xS D A9 s9 [aW q a0 a1 a2 a3 u1 u2 t3, sW q h0 h1 h2 h3 h4 h5 f1 f2 f3 f4 f5 (nI n)] H locs → lv_has ls 5 [(3, .int (nI i)), (0, .ref a0), (1, .ref h0), (2, .int m)] → (n < i + nn) → (i ≤ n) → (∀ k, k < i → u1 k = x_sm (x_tg f1 f2 m k) n) → (∀ k, k < i → u2 k = x_sm (x_nr f1 f2 m k) n) → W p9 l e9 { frames := 0, cells := 0, slots := 0, locals := 0 } s9 m9 a9 below meth c9 H locs 0 0 Z9 (F0 m9 2 ls []) := by
    intro nn
    induction nn with
    | zero => intro i u1 u2 H locs ls X hl hfuel hi hu1 hu2; exact absurd hfuel (by omega)
    | succ nn ih_2 =>
      intro i u1 u2 H locs ls X hl hfuel hi hu1 hu2
      refine lv_iload_n hx hb dX0_part_2 rfl (lv_at hl 0 rfl) ?_
      refine lv_aload_n hx hb dX0_part_3 rfl (lv_at hl 2 rfl) ?_
      refine x_get F X (v := .int (nI n)) (C := RX5) (T := TX5) (N := 6) (ci := 5) in_X5 4 rfl rfl 5 (by decide) mw_0 rfl dX0_part_4 ?_
      refine lv_icmp_ge (tgt := 116) hx hb dX0_part_7 (by decide) (fun c_7 => ?_) (fun c_7 => ?_)
      · have c_7 : n ≤ i := (nI_leI (a := n) (b := i) (by omega) (by omega)).mp c_7
        refine hret _ _ _ _ _ ?_ X dX0_part_116
        obtain rfl : i = n := by omega
        exact ⟨_, _, rfl, hu1, hu2⟩
      · have c_7 : i < n := Nat.not_le.mp (fun h => c_7 ((nI_leI (a := n) (b := i) (by omega) (by omega)).mpr h))
        refine lv_aload_n hx hb dX0_part_10 rfl (lv_at hl 1 rfl) ?_
        refine x_get F X (v := .ref a1) (C := RX0) (T := TX0) (N := 3) (ci := 0) in_X0 0 rfl rfl 0 (by decide) mw_1 rfl dX0_part_11 ?_
        refine lv_iload_n hx hb dX0_part_14 rfl (lv_at hl 0 rfl) ?_
        refine lv_iconst (v := 0) hx hb dX0_part_15 (by decide) ?_
        refine x_iast F X (gs' := [aW q a0 a1 a2 a3 (upd u1 i 0) u2 t3, sW q h0 h1 h2 h3 h4 h5 f1 f2 f3 f4 f5 (nI n)]) (n := 20) (f := u1) (k := i) 1 rfl (vp_in_nI (by omega) (by omega)) (nI_clamp (by omega)) dX0_part_16 rfl (fun H locs X => ?_)
        refine lv_aload_n hx hb dX0_part_17 rfl (lv_at hl 1 rfl) ?_
        refine x_get F X (v := .ref a2) (C := RX0) (T := TX0) (N := 3) (ci := 0) in_X0 0 rfl rfl 1 (by decide) mw_2 rfl dX0_part_18 ?_
        refine lv_iload_n hx hb dX0_part_21 rfl (lv_at hl 0 rfl) ?_
        refine lv_iconst (v := 0) hx hb dX0_part_22 (by decide) ?_
        refine x_iast F X (gs' := [aW q a0 a1 a2 a3 (upd u1 i 0) (upd u2 i 0) t3, sW q h0 h1 h2 h3 h4 h5 f1 f2 f3 f4 f5 (nI n)]) (n := 20) (f := u2) (k := i) 2 rfl (vp_in_nI (by omega) (by omega)) (nI_clamp (by omega)) dX0_part_23 rfl (fun H locs X => ?_)
        refine lv_iconst (v := 0) hx hb dX0_part_24 (by decide) ?_
        refine lv_istore (lv' := [(4, .int 0), (3, .int (nI i)), (0, .ref a0), (1, .ref h0), (2, .int m)]) hx hb dX0_part_25 hl (by decide) rfl (fun ls hl => ?_)
        have L_27 : ∀ (nn : Nat) (j : Nat) (w1 w2 : Nat → Int32) (H : Heap) (locs : List Loc) (ls : Array Slot), xS D A9 s9 [aW q a0 a1 a2 a3 w1 w2 t3, sW q h0 h1 h2 h3 h4 h5 f1 f2 f3 f4 f5 (nI n)] H locs → lv_has ls 5 [(4, .int (nI j)), (3, .int (nI i)), (0, .ref a0), (1, .ref h0), (2, .int m)] → (n < j + nn) → (j ≤ n) → (∀ k, k < i → w1 k = x_sm (x_tg f1 f2 m k) n) → (∀ k, k < i → w2 k = x_sm (x_nr f1 f2 m k) n) → (w1 i = x_sm (x_tg f1 f2 m i) j) → (w2 i = x_sm (x_nr f1 f2 m i) j) → W p9 l e9 { frames := 0, cells := 0, slots := 0, locals := 0 } s9 m9 a9 below meth c9 H locs 0 0 Z9 (F0 m9 27 ls []) := by
          intro nn
          induction nn with
          | zero => intro j w1 w2 H locs ls X hl hfuel hj hw1 hw2 hp1 hp2; exact absurd hfuel (by omega)
          | succ nn ih_27 =>
            intro j w1 w2 H locs ls X hl hfuel hj hw1 hw2 hp1 hp2
            refine lv_iload hx hb dX0_part_27 (lv_at hl 0 rfl) ?_
            refine lv_aload_n hx hb dX0_part_29 rfl (lv_at hl 3 rfl) ?_
            refine x_get F X (v := .int (nI n)) (C := RX5) (T := TX5) (N := 6) (ci := 5) in_X5 4 rfl rfl 5 (by decide) mw_0 rfl dX0_part_30 ?_
            refine lv_icmp_ge (tgt := 110) hx hb dX0_part_33 (by decide) (fun c_33 => ?_) (fun c_33 => ?_)
            · have c_33 : n ≤ j := (nI_leI (a := n) (b := j) (by omega) (by omega)).mp c_33
              refine lv_iinc (v := (nI (i + 1))) (lv' := [(3, .int (nI (i + 1))), (4, .int (nI j)), (0, .ref a0), (1, .ref h0), (2, .int m)]) hx hb dX0_part_110 hl (k := 1) rfl (nI_add i 1) (by decide) rfl (fun ls hl => ?_)
              refine lv_goto (tgt := 2) hx hb dX0_part_113 (by decide) ?_
              exact ih_2 (i + 1) _ _ _ _ _ X (lv_sub hl [0, 2, 3, 4] rfl) (by omega) (by omega) (by
                  obtain rfl : j = n := by omega
                  intro k hk
                  by_cases e : k = i
                  · subst e; exact hp1
                  · exact hw1 k (by omega)) (by
                  obtain rfl : j = n := by omega
                  intro k hk
                  by_cases e : k = i
                  · subst e; exact hp2
                  · exact hw2 k (by omega))
            · have c_33 : j < n := Nat.not_le.mp (fun h => c_33 ((nI_leI (a := n) (b := j) (by omega) (by omega)).mpr h))
              refine lv_iload hx hb dX0_part_36 (lv_at hl 0 rfl) ?_
              refine lv_iload_n hx hb dX0_part_38 rfl (lv_at hl 4 rfl) ?_
              refine lv_icmp_eq (tgt := 104) hx hb dX0_part_39 (by decide) (fun c_39 => ?_) (fun c_39 => ?_)
              · refine lv_iinc (v := (nI (j + 1))) (lv' := [(4, .int (nI (j + 1))), (3, .int (nI i)), (0, .ref a0), (1, .ref h0), (2, .int m)]) hx hb dX0_part_104 hl (k := 0) rfl (nI_add j 1) (by decide) rfl (fun ls hl => ?_)
                refine lv_goto (tgt := 27) hx hb dX0_part_107 (by decide) ?_
                exact ih_27 (j + 1) _ _ _ _ _ X (lv_sub hl [0, 1, 2, 3, 4] rfl) (by omega) (by omega) (by exact hw1) (by exact hw2) (by rw [x_sm_z (if_neg (fun h => h.1 c_39))]; exact hp1) (by rw [x_sm_z (if_neg (fun h => h.1.1 c_39))]; exact hp2)
              · refine lv_aload_n hx hb dX0_part_42 rfl (lv_at hl 3 rfl) ?_
                refine x_get F X (v := .ref h1) (C := RX5) (T := TX5) (N := 6) (ci := 5) in_X5 4 rfl rfl 0 (by decide) mw_3 rfl dX0_part_43 ?_
                refine lv_iload hx hb dX0_part_46 (lv_at hl 0 rfl) ?_
                refine x_iald F X (v := (f1 j)) (n := 20) (f := f1) 5 rfl (vp_in_nI (by omega) (by omega)) (x_cl (by omega)) dX0_part_48 ?_
                refine lv_aload_n hx hb dX0_part_49 rfl (lv_at hl 3 rfl) ?_
                refine x_get F X (v := .ref h1) (C := RX5) (T := TX5) (N := 6) (ci := 5) in_X5 4 rfl rfl 0 (by decide) mw_3 rfl dX0_part_50 ?_
                refine lv_iload_n hx hb dX0_part_53 rfl (lv_at hl 1 rfl) ?_
                refine x_iald F X (v := (f1 i)) (n := 20) (f := f1) 5 rfl (vp_in_nI (by omega) (by omega)) (x_cl (by omega)) dX0_part_54 ?_
                refine lv_icmp_ne (tgt := 104) hx hb dX0_part_55 (by decide) (fun c_55 => ?_) (fun c_55 => ?_)
                · refine lv_iinc (v := (nI (j + 1))) (lv' := [(4, .int (nI (j + 1))), (3, .int (nI i)), (0, .ref a0), (1, .ref h0), (2, .int m)]) hx hb dX0_part_104 hl (k := 0) rfl (nI_add j 1) (by decide) rfl (fun ls hl => ?_)
                  refine lv_goto (tgt := 27) hx hb dX0_part_107 (by decide) ?_
                  exact ih_27 (j + 1) _ _ _ _ _ X (lv_sub hl [0, 1, 2, 3, 4] rfl) (by omega) (by omega) (by exact hw1) (by exact hw2) (by rw [x_sm_z (if_neg (fun h => c_55 h.2))]; exact hp1) (by rw [x_sm_z (if_neg (fun h => c_55 h.1.2))]; exact hp2)
                · refine lv_aload_n hx hb dX0_part_58 rfl (lv_at hl 2 rfl) ?_
                  refine x_get F X (v := .ref a1) (C := RX0) (T := TX0) (N := 3) (ci := 0) in_X0 0 rfl rfl 0 (by decide) mw_1 rfl dX0_part_59 ?_
                  refine lv_iload_n hx hb dX0_part_62 rfl (lv_at hl 1 rfl) ?_
                  refine lv_dup2_11 hx hb dX0_part_63 rfl rfl ?_
                  refine x_iald F X (v := (w1 i)) (n := 20) (f := w1) 1 rfl (vp_in_nI (by omega) (by omega)) (x_cl (by omega)) dX0_part_64 ?_
                  refine lv_aload_n hx hb dX0_part_65 rfl (lv_at hl 3 rfl) ?_
                  refine x_get F X (v := .ref h2) (C := RX5) (T := TX5) (N := 6) (ci := 5) in_X5 4 rfl rfl 1 (by decide) mw_4 rfl dX0_part_66 ?_
                  refine lv_iload hx hb dX0_part_69 (lv_at hl 0 rfl) ?_
                  refine x_iald F X (v := (f2 j)) (n := 20) (f := f2) 6 rfl (vp_in_nI (by omega) (by omega)) (x_cl (by omega)) dX0_part_71 ?_
                  refine lv_iadd hx hb dX0_part_72 ?_
                  refine x_iast F X (gs' := [aW q a0 a1 a2 a3 (upd w1 i ((w1 i) + (f2 j))) w2 t3, sW q h0 h1 h2 h3 h4 h5 f1 f2 f3 f4 f5 (nI n)]) (n := 20) (f := w1) (k := i) 1 rfl (vp_in_nI (by omega) (by omega)) (nI_clamp (by omega)) dX0_part_73 rfl (fun H locs X => ?_)
                  refine lv_aload_n hx hb dX0_part_74 rfl (lv_at hl 2 rfl) ?_
                  refine x_get F X (v := .ref a2) (C := RX0) (T := TX0) (N := 3) (ci := 0) in_X0 0 rfl rfl 1 (by decide) mw_2 rfl dX0_part_75 ?_
                  refine lv_iload_n hx hb dX0_part_78 rfl (lv_at hl 1 rfl) ?_
                  refine lv_dup2_11 hx hb dX0_part_79 rfl rfl ?_
                  refine x_iald F X (v := (w2 i)) (n := 20) (f := w2) 2 rfl (vp_in_nI (by omega) (by omega)) (x_cl (by omega)) dX0_part_80 ?_
                  refine lv_aload_n hx hb dX0_part_81 rfl (lv_at hl 3 rfl) ?_
                  refine x_get F X (v := .ref h2) (C := RX5) (T := TX5) (N := 6) (ci := 5) in_X5 4 rfl rfl 1 (by decide) mw_4 rfl dX0_part_82 ?_
                  refine lv_iload hx hb dX0_part_85 (lv_at hl 0 rfl) ?_
                  refine x_iald F X (v := (f2 j)) (n := 20) (f := f2) 6 rfl (vp_in_nI (by omega) (by omega)) (x_cl (by omega)) dX0_part_87 ?_
                  refine lv_aload_n hx hb dX0_part_88 rfl (lv_at hl 3 rfl) ?_
                  refine x_get F X (v := .ref h2) (C := RX5) (T := TX5) (N := 6) (ci := 5) in_X5 4 rfl rfl 1 (by decide) mw_4 rfl dX0_part_89 ?_
                  refine lv_iload_n hx hb dX0_part_92 rfl (lv_at hl 1 rfl) ?_
                  refine x_iald F X (v := (f2 i)) (n := 20) (f := f2) 6 rfl (vp_in_nI (by omega) (by omega)) (x_cl (by omega)) dX0_part_93 ?_
                  refine lv_icmp_ge (tgt := 101) hx hb dX0_part_94 (by decide) (fun c_94 => ?_) (fun c_94 => ?_)
                  · refine lv_iconst (v := 0) hx hb dX0_part_101 (by decide) ?_
                    refine lv_iadd hx hb dX0_part_102 ?_
                    refine x_iast F X (gs' := [aW q a0 a1 a2 a3 (upd w1 i ((w1 i) + (f2 j))) (upd w2 i ((w2 i) + 0)) t3, sW q h0 h1 h2 h3 h4 h5 f1 f2 f3 f4 f5 (nI n)]) (n := 20) (f := w2) (k := i) 2 rfl (vp_in_nI (by omega) (by omega)) (nI_clamp (by omega)) dX0_part_103 rfl (fun H locs X => ?_)
                    refine lv_iinc (v := (nI (j + 1))) (lv' := [(4, .int (nI (j + 1))), (3, .int (nI i)), (0, .ref a0), (1, .ref h0), (2, .int m)]) hx hb dX0_part_104 hl (k := 0) rfl (nI_add j 1) (by decide) rfl (fun ls hl => ?_)
                    refine lv_goto (tgt := 27) hx hb dX0_part_107 (by decide) ?_
                    exact ih_27 (j + 1) _ _ _ _ _ X (lv_sub hl [0, 1, 2, 3, 4] rfl) (by omega) (by omega) (by exact fun k h => by rw [pk_un (by omega)]; exact hw1 k h) (by exact fun k h => by rw [pk_un (by omega)]; exact hw2 k h) (by rw [pk_us, hp1, x_sm_p (if_pos ⟨c_39, c_55⟩)]) (by rw [pk_us, hp2, x_add0, x_sm_z (if_neg (fun h => absurd c_94 (Int32.not_le.mpr h.2)))])
                  · refine lv_iconst (v := 1) hx hb dX0_part_97 (by decide) ?_
                    refine lv_goto (tgt := 102) hx hb dX0_part_98 (by decide) ?_
                    refine lv_iadd hx hb dX0_part_102 ?_
                    refine x_iast F X (gs' := [aW q a0 a1 a2 a3 (upd w1 i ((w1 i) + (f2 j))) (upd w2 i ((w2 i) + 1)) t3, sW q h0 h1 h2 h3 h4 h5 f1 f2 f3 f4 f5 (nI n)]) (n := 20) (f := w2) (k := i) 2 rfl (vp_in_nI (by omega) (by omega)) (nI_clamp (by omega)) dX0_part_103 rfl (fun H locs X => ?_)
                    refine lv_iinc (v := (nI (j + 1))) (lv' := [(4, .int (nI (j + 1))), (3, .int (nI i)), (0, .ref a0), (1, .ref h0), (2, .int m)]) hx hb dX0_part_104 hl (k := 0) rfl (nI_add j 1) (by decide) rfl (fun ls hl => ?_)
                    refine lv_goto (tgt := 27) hx hb dX0_part_107 (by decide) ?_
                    exact ih_27 (j + 1) _ _ _ _ _ X (lv_sub hl [0, 1, 2, 3, 4] rfl) (by omega) (by omega) (by exact fun k h => by rw [pk_un (by omega)]; exact hw1 k h) (by exact fun k h => by rw [pk_un (by omega)]; exact hw2 k h) (by rw [pk_us, hp1, x_sm_p (if_pos ⟨c_39, c_55⟩)]) (by rw [pk_us, hp2, x_sm_p (if_pos ⟨⟨c_39, c_55⟩, Int32.not_le.mp c_94⟩)])
        exact L_27 (n + 1) 0 _ _ _ _ _ X (lv_sub hl [0, 1, 2, 3, 4] rfl) (by omega) (by omega) (by exact fun k h => by rw [pk_un (by omega)]; exact hu1 k h) (by exact fun k h => by rw [pk_un (by omega)]; exact hu2 k h) (by rw [pk_us]; rfl) (by rw [pk_us]; rfl)
  exact L_2 (n + 1) 0 _ _ _ _ _ X (lv_sub hl [0, 1, 2, 3] rfl) (by omega) (by omega) (by exact fun k h => absurd h (Nat.not_lt_zero k)) (by exact fun k h => absurd h (Nat.not_lt_zero k))

set_option maxHeartbeats 1000000 in
set_option maxRecDepth 100000 in
theorem c_X0_shareOf (l : Launch) (D : va_G) (q : xQ) (a0 : Nat) (a1 : Nat) (a2 : Nat) (a3 : Nat) (t1 : Nat → Int32) (t2 : Nat → Int32) (t3 : Nat → Int32) (h0 : Nat) (h1 : Nat) (h2 : Nat) (h3 : Nat) (h4 : Nat) (h5 : Nat) (n : Nat) (f1 : Nat → Int32) (f2 : Nat → Int32) (f3 : Nat → Int32) (f4 : Nat → Int32) (f5 : Nat → Int32) (k : Nat) (x : Int32) (hk : k < 20) : xMi l yX0_shareOf wsX0_shareOf { frames := 1, cells := 0, slots := 0, locals := 21 } D q [.ref a0, .ref h0, .int (nI k), .int x] [aW q a0 a1 a2 a3 t1 t2 t3, sW q h0 h1 h2 h3 h4 h5 f1 f2 f3 f4 f5 (nI n)] (fun r gw => gw = [aW q a0 a1 a2 a3 t1 t2 t3, sW q h0 h1 h2 h3 h4 h5 f1 f2 f3 f4 f5 (nI n)] ∧ r = x_sh t1 t2 f2 k x) := by
  refine xMi_of (cc := cX0_shareOf) (maxL := 5) (rt := .int) (by decide) rfl (Nat.le_of_ble_eq_true rfl) (fun _ _ _ => rfl) ?_
  intro p9 e9 s9 m9 a9 below meth c9 A9 Z9 ls H locs F X hl hret
  have hx := F.1.1
  have hb := F.1.2.1
  have in_X5 : ∀ w ∈ wsX50, w ∈ wsX0_shareOf := by decide +kernel
  have in_X0 : ∀ w ∈ wsX00, w ∈ wsX0_shareOf := by decide +kernel
  have mw_0 : Cond.fieldLink RX0 45 "HatWinds$Streets" "width" "[I" ∈ wsX0_shareOf := by decide +kernel
  have mw_1 : Cond.fieldLink RX0 9 "HatWinds$Air" "together" "[I" ∈ wsX0_shareOf := by decide +kernel
  have mw_2 : Cond.initialized RX7 ∈ wsX0_shareOf := by decide +kernel
  have mw_3 : Cond.static yX7_quotient ∈ wsX0_shareOf := by decide +kernel
  have mw_4 : Cond.fieldLink RX0 15 "HatWinds$Air" "narrower" "[I" ∈ wsX0_shareOf := by decide +kernel
  have mw_5 : Cond.methodLink RX0 60 Lib.Math.min.name ∈ wsX0_shareOf := by decide +kernel
  have mw_6 : Cond.static Lib.Math.min.name ∈ wsX0_shareOf := by decide +kernel
  have mw_7 : Cond.initialized "java/lang/Math" ∈ wsX0_shareOf := by decide +kernel
  have mw_8 : Cond.code Lib.Math.min.name Lib.Math.min.code 2 (some .int) ∈ wsX0_shareOf := by decide +kernel
  have hl : lv_has ls 5 [(0, .ref a0), (1, .ref h0), (2, .int (nI k)), (3, .int x)] := hl
  refine lv_iload_n hx hb dX0_shareOf_0 rfl (lv_at hl 3 rfl) ?_
  refine lv_aload_n hx hb dX0_shareOf_1 rfl (lv_at hl 1 rfl) ?_
  refine x_get F X (v := .ref h2) (C := RX5) (T := TX5) (N := 6) (ci := 5) in_X5 4 rfl rfl 1 (by decide) mw_0 rfl dX0_shareOf_2 ?_
  refine lv_iload_n hx hb dX0_shareOf_5 rfl (lv_at hl 2 rfl) ?_
  refine x_iald F X (v := (f2 k)) (n := 20) (f := f2) 6 rfl (vp_in_nI (by omega) (by omega)) (x_cl (by omega)) dX0_shareOf_6 ?_
  refine lv_imul hx hb dX0_shareOf_7 ?_
  refine lv_aload_n hx hb dX0_shareOf_8 rfl (lv_at hl 0 rfl) ?_
  refine x_get F X (v := .ref a1) (C := RX0) (T := TX0) (N := 3) (ci := 0) in_X0 0 rfl rfl 0 (by decide) mw_1 rfl dX0_shareOf_9 ?_
  refine lv_iload_n hx hb dX0_shareOf_12 rfl (lv_at hl 2 rfl) ?_
  refine x_iald F X (v := (t1 k)) (n := 20) (f := t1) 1 rfl (vp_in_nI (by omega) (by omega)) (x_cl (by omega)) dX0_shareOf_13 ?_
  refine x_cNi F X (gc := []) (gr := [aW q a0 a1 a2 a3 t1 t2 t3, sW q h0 h1 h2 h3 h4 h5 f1 f2 f3 f4 f5 (nI n)]) (xp_idx (n := 2) [0, 1] (by decide +kernel) rfl rfl) (c_X7_quotient l D q (x * (f2 k)) (t1 k) ) ⟨va_cnB (host := "HatWinds") 2 F.1.2.2.2.2 gX0_shareOf_X7_quotient_n56 rfl rfl rfl (F.2.2 _ (List.mem_of_getElem? (i := 3) rfl)) (F.1.2.2.2.2 _ mw_2) (by decide +kernel) ⟨Nat.le_of_ble_eq_true rfl, Nat.le_of_ble_eq_true rfl⟩, F.1.2.2.2.2 _ mw_3, trivial⟩ rfl rfl hl.1 ⟨Nat.le_of_ble_eq_true rfl, Nat.le_of_ble_eq_true rfl⟩ (Nat.le_of_ble_eq_true rfl) dX0_shareOf_14 (fun r_14 g1 H locs hp X => ?_)
  obtain ⟨rfl, rfl⟩ := hp
  have X : xS D A9 s9 [aW q a0 a1 a2 a3 t1 t2 t3, sW q h0 h1 h2 h3 h4 h5 f1 f2 f3 f4 f5 (nI n)] H locs := X
  refine lv_istore (lv' := [(4, .int (x_quo (x * (f2 k)) (t1 k))), (0, .ref a0), (1, .ref h0), (2, .int (nI k)), (3, .int x)]) hx hb dX0_shareOf_17 hl (by decide) rfl (fun ls hl => ?_)
  refine lv_iload_n hx hb dX0_shareOf_19 rfl (lv_at hl 4 rfl) ?_
  refine lv_iload hx hb dX0_shareOf_20 (lv_at hl 0 rfl) ?_
  refine lv_iconst (v := 5) hx hb dX0_shareOf_22 (by decide) ?_
  refine lv_aload_n hx hb dX0_shareOf_23 rfl (lv_at hl 1 rfl) ?_
  refine x_get F X (v := .ref a2) (C := RX0) (T := TX0) (N := 3) (ci := 0) in_X0 0 rfl rfl 1 (by decide) mw_4 rfl dX0_shareOf_24 ?_
  refine lv_iload_n hx hb dX0_shareOf_27 rfl (lv_at hl 3 rfl) ?_
  refine x_iald F X (v := (t2 k)) (n := 20) (f := t2) 2 rfl (vp_in_nI (by omega) (by omega)) (x_cl (by omega)) dX0_shareOf_28 ?_
  refine lv_imul hx hb dX0_shareOf_29 ?_
  refine lv_iadd hx hb dX0_shareOf_30 ?_
  refine x_min F hl.1 mw_5 mw_6 mw_7 mw_8 ⟨Nat.le_of_ble_eq_true rfl, Nat.le_of_ble_eq_true rfl⟩ ⟨Nat.le_of_ble_eq_true rfl, Nat.le_of_ble_eq_true rfl⟩ dX0_shareOf_31 ?_
  exact hret _ _ _ _ _ _ (by exact ⟨rfl, rfl⟩) X dX0_shareOf_34

set_option maxHeartbeats 1000000 in
set_option maxRecDepth 100000 in
theorem c_X0_blow (l : Launch) (D : va_G) (q : xQ) (a0 : Nat) (a1 : Nat) (a2 : Nat) (a3 : Nat) (t1 : Nat → Int32) (t2 : Nat → Int32) (t3 : Nat → Int32) (h0 : Nat) (h1 : Nat) (h2 : Nat) (h3 : Nat) (h4 : Nat) (h5 : Nat) (n : Nat) (f1 : Nat → Int32) (f2 : Nat → Int32) (f3 : Nat → Int32) (f4 : Nat → Int32) (f5 : Nat → Int32) (top : Int32) (pr : Nat → Nat) (hn : n ≤ 20) (h60 : f1 0 = -6) (hpr : ∀ o, 1 ≤ o → o < n → f1 o = nI (pr o) ∧ pr o < o) : xMv l yX0_blow wsX0_blow { frames := 2, cells := 0, slots := 0, locals := 45 } D q [.ref a0, .ref h0, .int top] [aW q a0 a1 a2 a3 t1 t2 t3, sW q h0 h1 h2 h3 h4 h5 f1 f2 f3 f4 f5 (nI n)] (fun gw => ∃ (w3 : Nat → Int32), gw = [aW q a0 a1 a2 a3 t1 t2 w3, sW q h0 h1 h2 h3 h4 h5 f1 f2 f3 f4 f5 (nI n)] ∧ (∀ k, k < n → w3 k = x_fc pr (x_sh t1 t2 f2) top k)) := by
  refine xMv_of (cc := cX0_blow) (maxL := 5) (by decide) rfl (Nat.le_of_ble_eq_true rfl) ?_
  intro p9 e9 s9 m9 a9 below meth c9 A9 Z9 ls H locs F hini X hl hret
  have hx := F.1.1
  have hb := F.1.2.1
  have in_X5 : ∀ w ∈ wsX50, w ∈ wsX0_blow := by decide +kernel
  have in_X0 : ∀ w ∈ wsX00, w ∈ wsX0_blow := by decide +kernel
  have mw_0 : Cond.fieldLink RX0 37 "HatWinds$Streets" "number" "I" ∈ wsX0_blow := by decide +kernel
  have mw_1 : Cond.fieldLink RX0 42 "HatWinds$Streets" "from" "[I" ∈ wsX0_blow := by decide +kernel
  have mw_2 : Cond.fieldLink RX0 18 "HatWinds$Air" "force" "[I" ∈ wsX0_blow := by decide +kernel
  have mw_3 : Cond.initialized RX5 ∈ wsX0_blow := by decide +kernel
  have mw_4 : Cond.initialized RX0 ∈ wsX0_blow := by decide +kernel
  have hl : lv_has ls 5 [(0, .ref a0), (1, .ref h0), (2, .int top)] := hl
  refine lv_iconst (v := 0) hx hb dX0_blow_0 (by decide) ?_
  refine lv_istore_n (lv' := [(3, .int 0), (0, .ref a0), (1, .ref h0), (2, .int top)]) hx hb dX0_blow_1 rfl hl (by decide) rfl (fun ls hl => ?_)
  have L_2 : ∀ (nn : Nat) (i : Nat) (w : Nat → Int32) (H : Heap) (locs : List Loc) (ls : Array Slot), xS D A9 s9 [aW q a0 a1 a2 a3 t1 t2 w, sW q h0 h1 h2 h3 h4 h5 f1 f2 f3 f4 f5 (nI n)] H locs → lv_has ls 5 [(3, .int (nI i)), (0, .ref a0), (1, .ref h0), (2, .int top)] → (n < i + nn) → (i ≤ n) → (∀ k, k < i → w k = x_fc pr (x_sh t1 t2 f2) top k) → W p9 l e9 { frames := 2, cells := 0, slots := 0, locals := 45 } s9 m9 a9 below meth c9 H locs 0 0 Z9 (F0 m9 2 ls []) := by
    intro nn
    induction nn with
    | zero => intro i w H locs ls X hl hfuel hi hw; exact absurd hfuel (by omega)
    | succ nn ih_2 =>
      intro i w H locs ls X hl hfuel hi hw
      refine lv_iload_n hx hb dX0_blow_2 rfl (lv_at hl 0 rfl) ?_
      refine lv_aload_n hx hb dX0_blow_3 rfl (lv_at hl 2 rfl) ?_
      refine x_get F X (v := .int (nI n)) (C := RX5) (T := TX5) (N := 6) (ci := 5) in_X5 4 rfl rfl 5 (by decide) mw_0 rfl dX0_blow_4 ?_
      refine lv_icmp_ge (tgt := 56) hx hb dX0_blow_7 (by decide) (fun c_7 => ?_) (fun c_7 => ?_)
      · have c_7 : n ≤ i := (nI_leI (a := n) (b := i) (by omega) (by omega)).mp c_7
        refine hret _ _ _ _ _ ?_ X dX0_blow_56
        obtain rfl : i = n := by omega
        exact ⟨_, rfl, hw⟩
      · have c_7 : i < n := Nat.not_le.mp (fun h => c_7 ((nI_leI (a := n) (b := i) (by omega) (by omega)).mpr h))
        refine lv_aload_n hx hb dX0_blow_10 rfl (lv_at hl 2 rfl) ?_
        refine x_get F X (v := .ref h1) (C := RX5) (T := TX5) (N := 6) (ci := 5) in_X5 4 rfl rfl 0 (by decide) mw_1 rfl dX0_blow_11 ?_
        refine lv_iload_n hx hb dX0_blow_14 rfl (lv_at hl 0 rfl) ?_
        refine x_iald F X (v := (f1 i)) (n := 20) (f := f1) 5 rfl (vp_in_nI (by omega) (by omega)) (x_cl (by omega)) dX0_blow_15 ?_
        refine lv_istore (lv' := [(4, .int (f1 i)), (3, .int (nI i)), (0, .ref a0), (1, .ref h0), (2, .int top)]) hx hb dX0_blow_16 hl (by decide) rfl (fun ls hl => ?_)
        refine lv_aload_n hx hb dX0_blow_18 rfl (lv_at hl 2 rfl) ?_
        refine x_get F X (v := .ref a3) (C := RX0) (T := TX0) (N := 3) (ci := 0) in_X0 0 rfl rfl 2 (by decide) mw_2 rfl dX0_blow_19 ?_
        refine lv_iload_n hx hb dX0_blow_22 rfl (lv_at hl 1 rfl) ?_
        refine lv_aload_n hx hb dX0_blow_23 rfl (lv_at hl 3 rfl) ?_
        refine lv_iload hx hb dX0_blow_24 (lv_at hl 0 rfl) ?_
        refine x_cVi F X (gc := [sW q h0 h1 h2 h3 h4 h5 f1 f2 f3 f4 f5 (nI n)]) (gr := [aW q a0 a1 a2 a3 t1 t2 w]) (xp_idx (n := 2) [1, 0] (by decide +kernel) rfl rfl) (c_X5_has l D q h0 h1 h2 h3 h4 h5 n f1 f2 f3 f4 f5 (f1 i) (by first | assumption | omega)) (cwV 1 F.1.2.2.2.2 gX0_blow_X5_has rfl rfl rfl (by decide +kernel) ⟨Nat.le_of_ble_eq_true rfl, Nat.le_of_ble_eq_true rfl⟩) rfl rfl (r0 := 0) (ci := 5) (T := TX5) (N := 6) rfl rfl hl.1 ⟨Nat.le_of_ble_eq_true rfl, Nat.le_of_ble_eq_true rfl⟩ (Nat.le_of_ble_eq_true rfl) dX0_blow_26 (fun r_26 g1 H locs hp X => ?_)
        obtain ⟨rfl, hz⟩ := hp
        have X := X.perm (gs' := [aW q a0 a1 a2 a3 t1 t2 w, sW q h0 h1 h2 h3 h4 h5 f1 f2 f3 f4 f5 (nI n)]) (xp_idx (n := 2) [1, 0] (by decide +kernel) rfl rfl)
        rcases hz with ⟨rfl, b_26⟩ | ⟨rfl, b_26⟩
        · refine lv_if_eq (tgt := 48) hx hb dX0_blow_29 (by decide) (fun h => absurd h (by decide)) (fun _ => ?_)
          have hi1 : 1 ≤ i := by
            obtain ⟨z, hz, e⟩ := b_26
            rcases Nat.eq_zero_or_pos i with rfl | h
            · rw [h60] at e; exact absurd e (x_m6 z (by omega))
            · exact h
          have ep : f1 i = nI (pr i) := (hpr i hi1 (by omega)).1
          have hpi : pr i < i := (hpr i hi1 (by omega)).2
          refine lv_aload_n hx hb dX0_blow_32 rfl (lv_at hl 2 rfl) ?_
          refine lv_aload_n hx hb dX0_blow_33 rfl (lv_at hl 3 rfl) ?_
          refine lv_iload_n hx hb dX0_blow_34 rfl (lv_at hl 1 rfl) ?_
          refine lv_aload_n hx hb dX0_blow_35 rfl (lv_at hl 2 rfl) ?_
          refine x_get F X (v := .ref a3) (C := RX0) (T := TX0) (N := 3) (ci := 0) in_X0 0 rfl rfl 2 (by decide) mw_2 rfl dX0_blow_36 ?_
          refine lv_iload hx hb dX0_blow_39 (lv_at hl 0 rfl) ?_
          refine x_iald F X (v := (w (pr i))) (n := 20) (f := w) 3 rfl (by rw [ep]; exact vp_in_nI (by omega) (by omega)) (by rw [ep]; exact x_cl (by omega)) dX0_blow_41 ?_
          refine x_cVi F X (gc := [aW q a0 a1 a2 a3 t1 t2 w, sW q h0 h1 h2 h3 h4 h5 f1 f2 f3 f4 f5 (nI n)]) (gr := []) (xp_idx (n := 2) [0, 1] (by decide +kernel) rfl rfl) (c_X0_shareOf l D q a0 a1 a2 a3 t1 t2 w h0 h1 h2 h3 h4 h5 n f1 f2 f3 f4 f5 i (w (pr i)) (by first | assumption | omega)) (cwV 3 F.1.2.2.2.2 gX0_blow_X0_shareOf rfl rfl rfl (by decide +kernel) ⟨Nat.le_of_ble_eq_true rfl, Nat.le_of_ble_eq_true rfl⟩) rfl rfl (r0 := 0) (ci := 0) (T := TX0) (N := 3) rfl rfl hl.1 ⟨Nat.le_of_ble_eq_true rfl, Nat.le_of_ble_eq_true rfl⟩ (Nat.le_of_ble_eq_true rfl) dX0_blow_42 (fun r_42 g1 H locs hp X => ?_)
          obtain ⟨rfl, rfl⟩ := hp
          have X : xS D A9 s9 [aW q a0 a1 a2 a3 t1 t2 w, sW q h0 h1 h2 h3 h4 h5 f1 f2 f3 f4 f5 (nI n)] H locs := X
          refine lv_goto (tgt := 49) hx hb dX0_blow_45 (by decide) ?_
          refine x_iast F X (gs' := [aW q a0 a1 a2 a3 t1 t2 (upd w i (x_sh t1 t2 f2 i (w (pr i)))), sW q h0 h1 h2 h3 h4 h5 f1 f2 f3 f4 f5 (nI n)]) (n := 20) (f := w) (k := i) 3 rfl (vp_in_nI (by omega) (by omega)) (nI_clamp (by omega)) dX0_blow_49 rfl (fun H locs X => ?_)
          refine lv_iinc (v := (nI (i + 1))) (lv' := [(3, .int (nI (i + 1))), (4, .int (f1 i)), (0, .ref a0), (1, .ref h0), (2, .int top)]) hx hb dX0_blow_50 hl (k := 1) rfl (nI_add i 1) (by decide) rfl (fun ls hl => ?_)
          refine lv_goto (tgt := 2) hx hb dX0_blow_53 (by decide) ?_
          exact ih_2 (i + 1) _ _ _ _ X (lv_sub hl [0, 2, 3, 4] rfl) (by omega) (by omega) (by
              intro k hk
              by_cases e : k = i
              · subst e; rw [pk_us, x_fc_s _ _ _ hi1 hpi, hw _ hpi]
              · rw [pk_un e]; exact hw k (by omega))
        · refine lv_if_eq (tgt := 48) hx hb dX0_blow_29 (by decide) (fun _ => ?_) (fun h => absurd (by decide) h)
          have hi0 : i = 0 := by
            rcases Nat.eq_zero_or_pos i with h | h
            · exact h
            · exact absurd ⟨pr i, by have := (hpr i h (by omega)).2; omega, (hpr i h (by omega)).1⟩ b_26
          refine lv_iload_n hx hb dX0_blow_48 rfl (lv_at hl 4 rfl) ?_
          refine x_iast F X (gs' := [aW q a0 a1 a2 a3 t1 t2 (upd w i top), sW q h0 h1 h2 h3 h4 h5 f1 f2 f3 f4 f5 (nI n)]) (n := 20) (f := w) (k := i) 3 rfl (vp_in_nI (by omega) (by omega)) (nI_clamp (by omega)) dX0_blow_49 rfl (fun H locs X => ?_)
          refine lv_iinc (v := (nI (i + 1))) (lv' := [(3, .int (nI (i + 1))), (4, .int (f1 i)), (0, .ref a0), (1, .ref h0), (2, .int top)]) hx hb dX0_blow_50 hl (k := 1) rfl (nI_add i 1) (by decide) rfl (fun ls hl => ?_)
          refine lv_goto (tgt := 2) hx hb dX0_blow_53 (by decide) ?_
          exact ih_2 (i + 1) _ _ _ _ X (lv_sub hl [0, 2, 3, 4] rfl) (by omega) (by omega) (by
              intro k hk
              by_cases e : k = i
              · subst e; subst hi0; rw [pk_us, x_fc_0]
              · rw [pk_un e]; exact hw k (by omega))
  exact L_2 (n + 1) 0 _ _ _ _ X (lv_sub hl [0, 1, 2, 3] rfl) (by omega) (by omega) (by exact fun k h => absurd h (Nat.not_lt_zero k))

set_option maxHeartbeats 1000000 in
set_option maxRecDepth 100000 in
theorem c_X0_blowIn (l : Launch) (D : va_G) (q : xQ) (a0 : Nat) (a1 : Nat) (a2 : Nat) (a3 : Nat) (t1 : Nat → Int32) (t2 : Nat → Int32) (t3 : Nat → Int32) (t0 : Nat) (s0 : Nat) (u0 : Nat) (r0 : Nat → Int32) (fc : Int32) (h0 : Nat) (h1 : Nat) (h2 : Nat) (h3 : Nat) (h4 : Nat) (h5 : Nat) (n : Nat) (f1 : Nat → Int32) (f2 : Nat → Int32) (f3 : Nat → Int32) (f4 : Nat → Int32) (f5 : Nat → Int32) (pr : Nat → Nat) (hn : n ≤ 20) (h60 : f1 0 = -6) (hpr : ∀ o, 1 ≤ o → o < n → f1 o = nI (pr o) ∧ pr o < o) : xMv l yX0_blowIn wsX0_blowIn { frames := 3, cells := 0, slots := 0, locals := 69 } D q [.ref a0, .ref t0] [aW q a0 a1 a2 a3 t1 t2 t3, twW q t0 s0 h0 u0 r0 fc, sW q h0 h1 h2 h3 h4 h5 f1 f2 f3 f4 f5 (nI n)] (fun gw => ∃ (w1 : Nat → Int32), ∃ (w2 : Nat → Int32), ∃ (w3 : Nat → Int32), gw = [aW q a0 a1 a2 a3 w1 w2 w3, twW q t0 s0 h0 u0 r0 fc, sW q h0 h1 h2 h3 h4 h5 f1 f2 f3 f4 f5 (nI n)] ∧ (∀ k, k < n → w3 k = x_F f1 f2 pr n (-6) fc k)) := by
  refine xMv_of (cc := cX0_blowIn) (maxL := 2) (by decide) rfl (Nat.le_of_ble_eq_true rfl) ?_
  intro p9 e9 s9 m9 a9 below meth c9 A9 Z9 ls H locs F hini X hl hret
  have hx := F.1.1
  have hb := F.1.2.1
  have in_X6 : ∀ w ∈ wsX60, w ∈ wsX0_blowIn := by decide +kernel
  have mw_0 : Cond.fieldLink RX0 21 "HatWinds$Town" "streets" "LHatWinds$Streets;" ∈ wsX0_blowIn := by decide +kernel
  have mw_1 : Cond.initialized RX0 ∈ wsX0_blowIn := by decide +kernel
  have mw_2 : Cond.fieldLink RX0 31 "HatWinds$Town" "force" "I" ∈ wsX0_blowIn := by decide +kernel
  have hl : lv_has ls 2 [(0, .ref a0), (1, .ref t0)] := hl
  refine lv_aload_n hx hb dX0_blowIn_0 rfl (lv_at hl 0 rfl) ?_
  refine lv_aload_n hx hb dX0_blowIn_1 rfl (lv_at hl 1 rfl) ?_
  refine x_get F X (v := .ref h0) (C := RX6) (T := TX6) (N := 4) (ci := 6) in_X6 4 rfl rfl 1 (by decide) mw_0 rfl dX0_blowIn_2 ?_
  refine lv_bipush (v := (-6)) hx hb dX0_blowIn_5 (by decide) ?_
  refine x_cVv F X (gc := [aW q a0 a1 a2 a3 t1 t2 t3, sW q h0 h1 h2 h3 h4 h5 f1 f2 f3 f4 f5 (nI n)]) (gr := [twW q t0 s0 h0 u0 r0 fc]) (xp_idx (n := 3) [0, 2, 1] (by decide +kernel) rfl rfl) (c_X0_part l D q a0 a1 a2 a3 t1 t2 t3 h0 h1 h2 h3 h4 h5 n f1 f2 f3 f4 f5 (-6) (by first | assumption | omega)) (cwV 2 F.1.2.2.2.2 gX0_blowIn_X0_part rfl rfl rfl (by decide +kernel) ⟨Nat.le_of_ble_eq_true rfl, Nat.le_of_ble_eq_true rfl⟩) rfl rfl (r0 := 0) (ci := 0) (T := TX0) (N := 3) rfl rfl hl.1 ⟨Nat.le_of_ble_eq_true rfl, Nat.le_of_ble_eq_true rfl⟩ (Nat.le_of_ble_eq_true rfl) dX0_blowIn_7 (fun g1 H locs hp X => ?_)
  obtain ⟨w1_7, w2_7, rfl, hw1_7, hw2_7⟩ := hp
  have X := X.perm (gs' := [aW q a0 a1 a2 a3 w1_7 w2_7 t3, twW q t0 s0 h0 u0 r0 fc, sW q h0 h1 h2 h3 h4 h5 f1 f2 f3 f4 f5 (nI n)]) (xp_idx (n := 3) [0, 2, 1] (by decide +kernel) rfl rfl)
  refine lv_aload_n hx hb dX0_blowIn_10 rfl (lv_at hl 0 rfl) ?_
  refine lv_aload_n hx hb dX0_blowIn_11 rfl (lv_at hl 1 rfl) ?_
  refine x_get F X (v := .ref h0) (C := RX6) (T := TX6) (N := 4) (ci := 6) in_X6 4 rfl rfl 1 (by decide) mw_0 rfl dX0_blowIn_12 ?_
  refine lv_aload_n hx hb dX0_blowIn_15 rfl (lv_at hl 1 rfl) ?_
  refine x_get F X (v := .int fc) (C := RX6) (T := TX6) (N := 4) (ci := 6) in_X6 4 rfl rfl 3 (by decide) mw_2 rfl dX0_blowIn_16 ?_
  refine x_cVv F X (gc := [aW q a0 a1 a2 a3 w1_7 w2_7 t3, sW q h0 h1 h2 h3 h4 h5 f1 f2 f3 f4 f5 (nI n)]) (gr := [twW q t0 s0 h0 u0 r0 fc]) (xp_idx (n := 3) [0, 2, 1] (by decide +kernel) rfl rfl) (c_X0_blow l D q a0 a1 a2 a3 w1_7 w2_7 t3 h0 h1 h2 h3 h4 h5 n f1 f2 f3 f4 f5 fc pr (by first | assumption | omega) (by first | assumption | omega) (by first | assumption | omega)) (cwV 2 F.1.2.2.2.2 gX0_blowIn_X0_blow rfl rfl rfl (by decide +kernel) ⟨Nat.le_of_ble_eq_true rfl, Nat.le_of_ble_eq_true rfl⟩) rfl rfl (r0 := 0) (ci := 0) (T := TX0) (N := 3) rfl rfl hl.1 ⟨Nat.le_of_ble_eq_true rfl, Nat.le_of_ble_eq_true rfl⟩ (Nat.le_of_ble_eq_true rfl) dX0_blowIn_19 (fun g1 H locs hp X => ?_)
  obtain ⟨w3_19, rfl, hw3_19⟩ := hp
  have X := X.perm (gs' := [aW q a0 a1 a2 a3 w1_7 w2_7 w3_19, twW q t0 s0 h0 u0 r0 fc, sW q h0 h1 h2 h3 h4 h5 f1 f2 f3 f4 f5 (nI n)]) (xp_idx (n := 3) [0, 2, 1] (by decide +kernel) rfl rfl)
  exact hret _ _ _ _ _ (by exact ⟨_, _, _, rfl, fun k hk => (hw3_19 k hk).trans (x_fc_cong n (fun k h1 h2 x => by unfold x_sh; rw [hw1_7 k h2, hw2_7 k h2]) (fun o h1 h2 => (hpr o h1 h2).2) k hk)⟩) X dX0_blowIn_22

set_option maxHeartbeats 1000000 in
set_option maxRecDepth 100000 in
theorem c_X0_gustIn (l : Launch) (D : va_G) (q : xQ) (a0 : Nat) (a1 : Nat) (a2 : Nat) (a3 : Nat) (t1 : Nat → Int32) (t2 : Nat → Int32) (t3 : Nat → Int32) (t0 : Nat) (s0 : Nat) (u0 : Nat) (r0 : Nat → Int32) (fc : Int32) (h0 : Nat) (k : Nat) (hk : k < 20) : xMi l yX0_gustIn wsX0_gustIn { frames := 0, cells := 0, slots := 0, locals := 0 } D q [.ref a0, .ref t0, .int (nI k)] [aW q a0 a1 a2 a3 t1 t2 t3, twW q t0 s0 h0 u0 r0 fc] (fun r gw => gw = [aW q a0 a1 a2 a3 t1 t2 t3, twW q t0 s0 h0 u0 r0 fc] ∧ r = x_gu r0 (t3 k)) := by
  refine xMi_of (cc := cX0_gustIn) (maxL := 3) (rt := .int) (by decide) rfl (Nat.le_of_ble_eq_true rfl) (fun _ _ _ => rfl) ?_
  intro p9 e9 s9 m9 a9 below meth c9 A9 Z9 ls H locs F X hl hret
  have hx := F.1.1
  have hb := F.1.2.1
  have in_X0 : ∀ w ∈ wsX00, w ∈ wsX0_gustIn := by decide +kernel
  have in_X6 : ∀ w ∈ wsX60, w ∈ wsX0_gustIn := by decide +kernel
  have mw_0 : Cond.fieldLink RX0 18 "HatWinds$Air" "force" "[I" ∈ wsX0_gustIn := by decide +kernel
  have mw_1 : Cond.fieldLink RX0 65 "HatWinds$Town" "settings" "[I" ∈ wsX0_gustIn := by decide +kernel
  have hl : lv_has ls 3 [(0, .ref a0), (1, .ref t0), (2, .int (nI k))] := hl
  refine lv_aload_n hx hb dX0_gustIn_0 rfl (lv_at hl 0 rfl) ?_
  refine x_get F X (v := .ref a3) (C := RX0) (T := TX0) (N := 3) (ci := 0) in_X0 0 rfl rfl 2 (by decide) mw_0 rfl dX0_gustIn_1 ?_
  refine lv_iload_n hx hb dX0_gustIn_4 rfl (lv_at hl 2 rfl) ?_
  refine x_iald F X (v := (t3 k)) (n := 20) (f := t3) 3 rfl (vp_in_nI (by omega) (by omega)) (x_cl (by omega)) dX0_gustIn_5 ?_
  refine lv_aload_n hx hb dX0_gustIn_6 rfl (lv_at hl 0 rfl) ?_
  refine x_get F X (v := .ref a3) (C := RX0) (T := TX0) (N := 3) (ci := 0) in_X0 0 rfl rfl 2 (by decide) mw_0 rfl dX0_gustIn_7 ?_
  refine lv_iload_n hx hb dX0_gustIn_10 rfl (lv_at hl 2 rfl) ?_
  refine x_iald F X (v := (t3 k)) (n := 20) (f := t3) 3 rfl (vp_in_nI (by omega) (by omega)) (x_cl (by omega)) dX0_gustIn_11 ?_
  refine lv_aload_n hx hb dX0_gustIn_12 rfl (lv_at hl 1 rfl) ?_
  refine x_get F X (v := .ref s0) (C := RX6) (T := TX6) (N := 4) (ci := 6) in_X6 4 rfl rfl 0 (by decide) mw_1 rfl dX0_gustIn_13 ?_
  refine lv_iconst (v := 2) hx hb dX0_gustIn_16 (by decide) ?_
  refine x_iald F X (v := (r0 2)) (n := 4) (f := r0) 5 rfl (show vp_in (nI 2) _ from vp_in_nI (by omega) (by omega)) rfl dX0_gustIn_17 ?_
  refine lv_imul hx hb dX0_gustIn_18 ?_
  refine lv_bipush (v := 100) hx hb dX0_gustIn_19 (by decide) ?_
  refine lv_idiv hx hb dX0_gustIn_21 (by decide) ?_
  refine lv_iadd hx hb dX0_gustIn_22 ?_
  exact hret _ _ _ _ _ _ (by exact ⟨rfl, rfl⟩) X dX0_gustIn_23

set_option maxHeartbeats 1000000 in
set_option maxRecDepth 100000 in
theorem c_X0_flagSteps (l : Launch) (D : va_G) (q : xQ) (a0 : Nat) (a1 : Nat) (a2 : Nat) (a3 : Nat) (t1 : Nat → Int32) (t2 : Nat → Int32) (t3 : Nat → Int32) (t0 : Nat) (s0 : Nat) (u0 : Nat) (r0 : Nat → Int32) (fc : Int32) (h0 : Nat) (h1 : Nat) (h2 : Nat) (h3 : Nat) (h4 : Nat) (h5 : Nat) (n : Nat) (f1 : Nat → Int32) (f2 : Nat → Int32) (f3 : Nat → Int32) (f4 : Nat → Int32) (f5 : Nat → Int32) (k : Nat) (hk : k < 20) : xMi l yX0_flagSteps wsX0_flagSteps { frames := 1, cells := 0, slots := 0, locals := 21 } D q [.ref a0, .ref t0, .int (nI k)] [aW q a0 a1 a2 a3 t1 t2 t3, twW q t0 s0 h0 u0 r0 fc, sW q h0 h1 h2 h3 h4 h5 f1 f2 f3 f4 f5 (nI n)] (fun r gw => gw = [aW q a0 a1 a2 a3 t1 t2 t3, twW q t0 s0 h0 u0 r0 fc, sW q h0 h1 h2 h3 h4 h5 f1 f2 f3 f4 f5 (nI n)] ∧ r = if f3 k = 0 then -6 else x_mn 12 (x_quo (t3 k) (r0 0 * f3 k))) := by
  refine xMi_of (cc := cX0_flagSteps) (maxL := 4) (rt := .int) (by decide) rfl (Nat.le_of_ble_eq_true rfl) (fun _ _ _ => rfl) ?_
  intro p9 e9 s9 m9 a9 below meth c9 A9 Z9 ls H locs F X hl hret
  have hx := F.1.1
  have hb := F.1.2.1
  have in_X6 : ∀ w ∈ wsX60, w ∈ wsX0_flagSteps := by decide +kernel
  have in_X5 : ∀ w ∈ wsX50, w ∈ wsX0_flagSteps := by decide +kernel
  have in_X0 : ∀ w ∈ wsX00, w ∈ wsX0_flagSteps := by decide +kernel
  have mw_0 : Cond.fieldLink RX0 21 "HatWinds$Town" "streets" "LHatWinds$Streets;" ∈ wsX0_flagSteps := by decide +kernel
  have mw_1 : Cond.fieldLink RX0 68 "HatWinds$Streets" "cloth" "[I" ∈ wsX0_flagSteps := by decide +kernel
  have mw_2 : Cond.fieldLink RX0 18 "HatWinds$Air" "force" "[I" ∈ wsX0_flagSteps := by decide +kernel
  have mw_3 : Cond.fieldLink RX0 65 "HatWinds$Town" "settings" "[I" ∈ wsX0_flagSteps := by decide +kernel
  have mw_4 : Cond.initialized RX7 ∈ wsX0_flagSteps := by decide +kernel
  have mw_5 : Cond.static yX7_quotient ∈ wsX0_flagSteps := by decide +kernel
  have mw_6 : Cond.methodLink RX0 60 Lib.Math.min.name ∈ wsX0_flagSteps := by decide +kernel
  have mw_7 : Cond.static Lib.Math.min.name ∈ wsX0_flagSteps := by decide +kernel
  have mw_8 : Cond.initialized "java/lang/Math" ∈ wsX0_flagSteps := by decide +kernel
  have mw_9 : Cond.code Lib.Math.min.name Lib.Math.min.code 2 (some .int) ∈ wsX0_flagSteps := by decide +kernel
  have hl : lv_has ls 4 [(0, .ref a0), (1, .ref t0), (2, .int (nI k))] := hl
  refine lv_aload_n hx hb dX0_flagSteps_0 rfl (lv_at hl 1 rfl) ?_
  refine x_get F X (v := .ref h0) (C := RX6) (T := TX6) (N := 4) (ci := 6) in_X6 4 rfl rfl 1 (by decide) mw_0 rfl dX0_flagSteps_1 ?_
  refine x_get F X (v := .ref h3) (C := RX5) (T := TX5) (N := 6) (ci := 5) in_X5 6 rfl rfl 2 (by decide) mw_1 rfl dX0_flagSteps_4 ?_
  refine lv_iload_n hx hb dX0_flagSteps_7 rfl (lv_at hl 2 rfl) ?_
  refine x_iald F X (v := (f3 k)) (n := 20) (f := f3) 9 rfl (vp_in_nI (by omega) (by omega)) (x_cl (by omega)) dX0_flagSteps_8 ?_
  refine lv_istore_n (lv' := [(3, .int (f3 k)), (0, .ref a0), (1, .ref t0), (2, .int (nI k))]) hx hb dX0_flagSteps_9 rfl hl (by decide) rfl (fun ls hl => ?_)
  refine lv_iload_n hx hb dX0_flagSteps_10 rfl (lv_at hl 0 rfl) ?_
  refine lv_if_ne (tgt := 17) hx hb dX0_flagSteps_11 (by decide) (fun c_11 => ?_) (fun c_11 => ?_)
  · refine lv_bipush (v := 12) hx hb dX0_flagSteps_17 (by decide) ?_
    refine lv_aload_n hx hb dX0_flagSteps_19 rfl (lv_at hl 1 rfl) ?_
    refine x_get F X (v := .ref a3) (C := RX0) (T := TX0) (N := 3) (ci := 0) in_X0 0 rfl rfl 2 (by decide) mw_2 rfl dX0_flagSteps_20 ?_
    refine lv_iload_n hx hb dX0_flagSteps_23 rfl (lv_at hl 3 rfl) ?_
    refine x_iald F X (v := (t3 k)) (n := 20) (f := t3) 3 rfl (vp_in_nI (by omega) (by omega)) (x_cl (by omega)) dX0_flagSteps_24 ?_
    refine lv_aload_n hx hb dX0_flagSteps_25 rfl (lv_at hl 2 rfl) ?_
    refine x_get F X (v := .ref s0) (C := RX6) (T := TX6) (N := 4) (ci := 6) in_X6 4 rfl rfl 0 (by decide) mw_3 rfl dX0_flagSteps_26 ?_
    refine lv_iconst (v := 0) hx hb dX0_flagSteps_29 (by decide) ?_
    refine x_iald F X (v := (r0 0)) (n := 4) (f := r0) 5 rfl (show vp_in (nI 0) _ from vp_in_nI (by omega) (by omega)) rfl dX0_flagSteps_30 ?_
    refine lv_iload_n hx hb dX0_flagSteps_31 rfl (lv_at hl 0 rfl) ?_
    refine lv_imul hx hb dX0_flagSteps_32 ?_
    refine x_cNi F X (gc := []) (gr := [aW q a0 a1 a2 a3 t1 t2 t3, twW q t0 s0 h0 u0 r0 fc, sW q h0 h1 h2 h3 h4 h5 f1 f2 f3 f4 f5 (nI n)]) (xp_idx (n := 3) [0, 1, 2] (by decide +kernel) rfl rfl) (c_X7_quotient l D q (t3 k) ((r0 0) * (f3 k)) ) ⟨va_cnB (host := "HatWinds") 2 F.1.2.2.2.2 gX0_flagSteps_X7_quotient_n56 rfl rfl rfl (F.2.2 _ (List.mem_of_getElem? (i := 3) rfl)) (F.1.2.2.2.2 _ mw_4) (by decide +kernel) ⟨Nat.le_of_ble_eq_true rfl, Nat.le_of_ble_eq_true rfl⟩, F.1.2.2.2.2 _ mw_5, trivial⟩ rfl rfl hl.1 ⟨Nat.le_of_ble_eq_true rfl, Nat.le_of_ble_eq_true rfl⟩ (Nat.le_of_ble_eq_true rfl) dX0_flagSteps_33 (fun r_33 g1 H locs hp X => ?_)
    obtain ⟨rfl, rfl⟩ := hp
    have X : xS D A9 s9 [aW q a0 a1 a2 a3 t1 t2 t3, twW q t0 s0 h0 u0 r0 fc, sW q h0 h1 h2 h3 h4 h5 f1 f2 f3 f4 f5 (nI n)] H locs := X
    refine x_min F hl.1 mw_6 mw_7 mw_8 mw_9 ⟨Nat.le_of_ble_eq_true rfl, Nat.le_of_ble_eq_true rfl⟩ ⟨Nat.le_of_ble_eq_true rfl, Nat.le_of_ble_eq_true rfl⟩ dX0_flagSteps_36 ?_
    exact hret _ _ _ _ _ _ (by exact ⟨rfl, (if_neg c_11).symm⟩) X dX0_flagSteps_39
  · refine lv_bipush (v := (-6)) hx hb dX0_flagSteps_14 (by decide) ?_
    exact hret _ _ _ _ _ _ (by exact ⟨rfl, (if_pos c_11).symm⟩) X dX0_flagSteps_16

set_option maxHeartbeats 1000000 in
set_option maxRecDepth 100000 in
theorem c_X0_smokeSteps (l : Launch) (D : va_G) (q : xQ) (a0 : Nat) (a1 : Nat) (a2 : Nat) (a3 : Nat) (t1 : Nat → Int32) (t2 : Nat → Int32) (t3 : Nat → Int32) (t0 : Nat) (s0 : Nat) (u0 : Nat) (r0 : Nat → Int32) (fc : Int32) (h0 : Nat) (h1 : Nat) (h2 : Nat) (h3 : Nat) (h4 : Nat) (h5 : Nat) (n : Nat) (f1 : Nat → Int32) (f2 : Nat → Int32) (f3 : Nat → Int32) (f4 : Nat → Int32) (f5 : Nat → Int32) (k : Nat) (hk : k < 20) : xMi l yX0_smokeSteps wsX0_smokeSteps { frames := 1, cells := 0, slots := 0, locals := 21 } D q [.ref a0, .ref t0, .int (nI k)] [aW q a0 a1 a2 a3 t1 t2 t3, twW q t0 s0 h0 u0 r0 fc, sW q h0 h1 h2 h3 h4 h5 f1 f2 f3 f4 f5 (nI n)] (fun r gw => gw = [aW q a0 a1 a2 a3 t1 t2 t3, twW q t0 s0 h0 u0 r0 fc, sW q h0 h1 h2 h3 h4 h5 f1 f2 f3 f4 f5 (nI n)] ∧ r = if f4 k = 0 then -6 else x_mn 9 (x_quo (t3 k) (r0 3))) := by
  refine xMi_of (cc := cX0_smokeSteps) (maxL := 3) (rt := .int) (by decide) rfl (Nat.le_of_ble_eq_true rfl) (fun _ _ _ => rfl) ?_
  intro p9 e9 s9 m9 a9 below meth c9 A9 Z9 ls H locs F X hl hret
  have hx := F.1.1
  have hb := F.1.2.1
  have in_X6 : ∀ w ∈ wsX60, w ∈ wsX0_smokeSteps := by decide +kernel
  have in_X5 : ∀ w ∈ wsX50, w ∈ wsX0_smokeSteps := by decide +kernel
  have in_X0 : ∀ w ∈ wsX00, w ∈ wsX0_smokeSteps := by decide +kernel
  have mw_0 : Cond.fieldLink RX0 21 "HatWinds$Town" "streets" "LHatWinds$Streets;" ∈ wsX0_smokeSteps := by decide +kernel
  have mw_1 : Cond.fieldLink RX0 71 "HatWinds$Streets" "smoke" "[I" ∈ wsX0_smokeSteps := by decide +kernel
  have mw_2 : Cond.fieldLink RX0 18 "HatWinds$Air" "force" "[I" ∈ wsX0_smokeSteps := by decide +kernel
  have mw_3 : Cond.fieldLink RX0 65 "HatWinds$Town" "settings" "[I" ∈ wsX0_smokeSteps := by decide +kernel
  have mw_4 : Cond.initialized RX7 ∈ wsX0_smokeSteps := by decide +kernel
  have mw_5 : Cond.static yX7_quotient ∈ wsX0_smokeSteps := by decide +kernel
  have mw_6 : Cond.methodLink RX0 60 Lib.Math.min.name ∈ wsX0_smokeSteps := by decide +kernel
  have mw_7 : Cond.static Lib.Math.min.name ∈ wsX0_smokeSteps := by decide +kernel
  have mw_8 : Cond.initialized "java/lang/Math" ∈ wsX0_smokeSteps := by decide +kernel
  have mw_9 : Cond.code Lib.Math.min.name Lib.Math.min.code 2 (some .int) ∈ wsX0_smokeSteps := by decide +kernel
  have hl : lv_has ls 3 [(0, .ref a0), (1, .ref t0), (2, .int (nI k))] := hl
  refine lv_aload_n hx hb dX0_smokeSteps_0 rfl (lv_at hl 1 rfl) ?_
  refine x_get F X (v := .ref h0) (C := RX6) (T := TX6) (N := 4) (ci := 6) in_X6 4 rfl rfl 1 (by decide) mw_0 rfl dX0_smokeSteps_1 ?_
  refine x_get F X (v := .ref h4) (C := RX5) (T := TX5) (N := 6) (ci := 5) in_X5 6 rfl rfl 3 (by decide) mw_1 rfl dX0_smokeSteps_4 ?_
  refine lv_iload_n hx hb dX0_smokeSteps_7 rfl (lv_at hl 2 rfl) ?_
  refine x_iald F X (v := (f4 k)) (n := 20) (f := f4) 10 rfl (vp_in_nI (by omega) (by omega)) (x_cl (by omega)) dX0_smokeSteps_8 ?_
  refine lv_if_ne (tgt := 15) hx hb dX0_smokeSteps_9 (by decide) (fun c_9 => ?_) (fun c_9 => ?_)
  · refine lv_bipush (v := 9) hx hb dX0_smokeSteps_15 (by decide) ?_
    refine lv_aload_n hx hb dX0_smokeSteps_17 rfl (lv_at hl 0 rfl) ?_
    refine x_get F X (v := .ref a3) (C := RX0) (T := TX0) (N := 3) (ci := 0) in_X0 0 rfl rfl 2 (by decide) mw_2 rfl dX0_smokeSteps_18 ?_
    refine lv_iload_n hx hb dX0_smokeSteps_21 rfl (lv_at hl 2 rfl) ?_
    refine x_iald F X (v := (t3 k)) (n := 20) (f := t3) 3 rfl (vp_in_nI (by omega) (by omega)) (x_cl (by omega)) dX0_smokeSteps_22 ?_
    refine lv_aload_n hx hb dX0_smokeSteps_23 rfl (lv_at hl 1 rfl) ?_
    refine x_get F X (v := .ref s0) (C := RX6) (T := TX6) (N := 4) (ci := 6) in_X6 4 rfl rfl 0 (by decide) mw_3 rfl dX0_smokeSteps_24 ?_
    refine lv_iconst (v := 3) hx hb dX0_smokeSteps_27 (by decide) ?_
    refine x_iald F X (v := (r0 3)) (n := 4) (f := r0) 5 rfl (show vp_in (nI 3) _ from vp_in_nI (by omega) (by omega)) rfl dX0_smokeSteps_28 ?_
    refine x_cNi F X (gc := []) (gr := [aW q a0 a1 a2 a3 t1 t2 t3, twW q t0 s0 h0 u0 r0 fc, sW q h0 h1 h2 h3 h4 h5 f1 f2 f3 f4 f5 (nI n)]) (xp_idx (n := 3) [0, 1, 2] (by decide +kernel) rfl rfl) (c_X7_quotient l D q (t3 k) (r0 3) ) ⟨va_cnB (host := "HatWinds") 2 F.1.2.2.2.2 gX0_smokeSteps_X7_quotient_n56 rfl rfl rfl (F.2.2 _ (List.mem_of_getElem? (i := 3) rfl)) (F.1.2.2.2.2 _ mw_4) (by decide +kernel) ⟨Nat.le_of_ble_eq_true rfl, Nat.le_of_ble_eq_true rfl⟩, F.1.2.2.2.2 _ mw_5, trivial⟩ rfl rfl hl.1 ⟨Nat.le_of_ble_eq_true rfl, Nat.le_of_ble_eq_true rfl⟩ (Nat.le_of_ble_eq_true rfl) dX0_smokeSteps_29 (fun r_29 g1 H locs hp X => ?_)
    obtain ⟨rfl, rfl⟩ := hp
    have X : xS D A9 s9 [aW q a0 a1 a2 a3 t1 t2 t3, twW q t0 s0 h0 u0 r0 fc, sW q h0 h1 h2 h3 h4 h5 f1 f2 f3 f4 f5 (nI n)] H locs := X
    refine x_min F hl.1 mw_6 mw_7 mw_8 mw_9 ⟨Nat.le_of_ble_eq_true rfl, Nat.le_of_ble_eq_true rfl⟩ ⟨Nat.le_of_ble_eq_true rfl, Nat.le_of_ble_eq_true rfl⟩ dX0_smokeSteps_32 ?_
    exact hret _ _ _ _ _ _ (by exact ⟨rfl, (if_neg c_9).symm⟩) X dX0_smokeSteps_35
  · refine lv_bipush (v := (-6)) hx hb dX0_smokeSteps_12 (by decide) ?_
    exact hret _ _ _ _ _ _ (by exact ⟨rfl, (if_pos c_9).symm⟩) X dX0_smokeSteps_14

set_option maxHeartbeats 1000000 in
set_option maxRecDepth 100000 in
theorem c_X0_hatsLostIn (l : Launch) (D : va_G) (q : xQ) (a0 : Nat) (a1 : Nat) (a2 : Nat) (a3 : Nat) (t1 : Nat → Int32) (t2 : Nat → Int32) (t3 : Nat → Int32) (t0 : Nat) (s0 : Nat) (u0 : Nat) (r0 : Nat → Int32) (fc : Int32) (h0 : Nat) (h1 : Nat) (h2 : Nat) (h3 : Nat) (h4 : Nat) (h5 : Nat) (n : Nat) (f1 : Nat → Int32) (f2 : Nat → Int32) (f3 : Nat → Int32) (f4 : Nat → Int32) (f5 : Nat → Int32) (k : Nat) (hk : k < 20) : xMi l yX0_hatsLostIn wsX0_hatsLostIn { frames := 1, cells := 0, slots := 0, locals := 22 } D q [.ref a0, .ref t0, .int (nI k)] [aW q a0 a1 a2 a3 t1 t2 t3, twW q t0 s0 h0 u0 r0 fc, sW q h0 h1 h2 h3 h4 h5 f1 f2 f3 f4 f5 (nI n)] (fun r gw => gw = [aW q a0 a1 a2 a3 t1 t2 t3, twW q t0 s0 h0 u0 r0 fc, sW q h0 h1 h2 h3 h4 h5 f1 f2 f3 f4 f5 (nI n)] ∧ r = x_hk r0 t3 f5 k) := by
  refine xMi_of (cc := cX0_hatsLostIn) (maxL := 4) (rt := .int) (by decide) rfl (Nat.le_of_ble_eq_true rfl) (fun _ _ _ => rfl) ?_
  intro p9 e9 s9 m9 a9 below meth c9 A9 Z9 ls H locs F X hl hret
  have hx := F.1.1
  have hb := F.1.2.1
  have in_X6 : ∀ w ∈ wsX60, w ∈ wsX0_hatsLostIn := by decide +kernel
  have in_X5 : ∀ w ∈ wsX50, w ∈ wsX0_hatsLostIn := by decide +kernel
  have mw_0 : Cond.initialized RX0 ∈ wsX0_hatsLostIn := by decide +kernel
  have mw_1 : Cond.fieldLink RX0 65 "HatWinds$Town" "settings" "[I" ∈ wsX0_hatsLostIn := by decide +kernel
  have mw_2 : Cond.fieldLink RX0 21 "HatWinds$Town" "streets" "LHatWinds$Streets;" ∈ wsX0_hatsLostIn := by decide +kernel
  have mw_3 : Cond.fieldLink RX0 78 "HatWinds$Streets" "people" "[I" ∈ wsX0_hatsLostIn := by decide +kernel
  have mw_4 : Cond.methodLink RX0 60 Lib.Math.min.name ∈ wsX0_hatsLostIn := by decide +kernel
  have mw_5 : Cond.static Lib.Math.min.name ∈ wsX0_hatsLostIn := by decide +kernel
  have mw_6 : Cond.initialized "java/lang/Math" ∈ wsX0_hatsLostIn := by decide +kernel
  have mw_7 : Cond.code Lib.Math.min.name Lib.Math.min.code 2 (some .int) ∈ wsX0_hatsLostIn := by decide +kernel
  have hl : lv_has ls 4 [(0, .ref a0), (1, .ref t0), (2, .int (nI k))] := hl
  refine lv_aload_n hx hb dX0_hatsLostIn_0 rfl (lv_at hl 0 rfl) ?_
  refine lv_aload_n hx hb dX0_hatsLostIn_1 rfl (lv_at hl 1 rfl) ?_
  refine lv_iload_n hx hb dX0_hatsLostIn_2 rfl (lv_at hl 2 rfl) ?_
  refine x_cVi F X (gc := [aW q a0 a1 a2 a3 t1 t2 t3, twW q t0 s0 h0 u0 r0 fc]) (gr := [sW q h0 h1 h2 h3 h4 h5 f1 f2 f3 f4 f5 (nI n)]) (xp_idx (n := 3) [0, 1, 2] (by decide +kernel) rfl rfl) (c_X0_gustIn l D q a0 a1 a2 a3 t1 t2 t3 t0 s0 u0 r0 fc h0 k (by first | assumption | omega)) (cwV 2 F.1.2.2.2.2 gX0_hatsLostIn_X0_gustIn rfl rfl rfl (by decide +kernel) ⟨Nat.le_of_ble_eq_true rfl, Nat.le_of_ble_eq_true rfl⟩) rfl rfl (r0 := 0) (ci := 0) (T := TX0) (N := 3) rfl rfl hl.1 ⟨Nat.le_of_ble_eq_true rfl, Nat.le_of_ble_eq_true rfl⟩ (Nat.le_of_ble_eq_true rfl) dX0_hatsLostIn_3 (fun r_3 g1 H locs hp X => ?_)
  obtain ⟨rfl, rfl⟩ := hp
  have X : xS D A9 s9 [aW q a0 a1 a2 a3 t1 t2 t3, twW q t0 s0 h0 u0 r0 fc, sW q h0 h1 h2 h3 h4 h5 f1 f2 f3 f4 f5 (nI n)] H locs := X
  refine lv_aload_n hx hb dX0_hatsLostIn_6 rfl (lv_at hl 1 rfl) ?_
  refine x_get F X (v := .ref s0) (C := RX6) (T := TX6) (N := 4) (ci := 6) in_X6 4 rfl rfl 0 (by decide) mw_1 rfl dX0_hatsLostIn_7 ?_
  refine lv_iconst (v := 1) hx hb dX0_hatsLostIn_10 (by decide) ?_
  refine x_iald F X (v := (r0 1)) (n := 4) (f := r0) 5 rfl (show vp_in (nI 1) _ from vp_in_nI (by omega) (by omega)) rfl dX0_hatsLostIn_11 ?_
  refine lv_isub hx hb dX0_hatsLostIn_12 ?_
  refine lv_istore_n (lv' := [(3, .int ((x_gu r0 (t3 k)) - (r0 1))), (0, .ref a0), (1, .ref t0), (2, .int (nI k))]) hx hb dX0_hatsLostIn_13 rfl hl (by decide) rfl (fun ls hl => ?_)
  refine lv_iload_n hx hb dX0_hatsLostIn_14 rfl (lv_at hl 0 rfl) ?_
  refine lv_if_gt (tgt := 20) hx hb dX0_hatsLostIn_15 (by decide) (fun c_15 => ?_) (fun c_15 => ?_)
  · refine lv_aload_n hx hb dX0_hatsLostIn_20 rfl (lv_at hl 2 rfl) ?_
    refine x_get F X (v := .ref h0) (C := RX6) (T := TX6) (N := 4) (ci := 6) in_X6 4 rfl rfl 1 (by decide) mw_2 rfl dX0_hatsLostIn_21 ?_
    refine x_get F X (v := .ref h5) (C := RX5) (T := TX5) (N := 6) (ci := 5) in_X5 6 rfl rfl 4 (by decide) mw_3 rfl dX0_hatsLostIn_24 ?_
    refine lv_iload_n hx hb dX0_hatsLostIn_27 rfl (lv_at hl 3 rfl) ?_
    refine x_iald F X (v := (f5 k)) (n := 20) (f := f5) 11 rfl (vp_in_nI (by omega) (by omega)) (x_cl (by omega)) dX0_hatsLostIn_28 ?_
    refine lv_iload_n hx hb dX0_hatsLostIn_29 rfl (lv_at hl 0 rfl) ?_
    refine lv_iconst (v := 4) hx hb dX0_hatsLostIn_30 (by decide) ?_
    refine lv_idiv hx hb dX0_hatsLostIn_31 (by decide) ?_
    refine lv_iconst (v := 1) hx hb dX0_hatsLostIn_32 (by decide) ?_
    refine lv_iadd hx hb dX0_hatsLostIn_33 ?_
    refine x_min F hl.1 mw_4 mw_5 mw_6 mw_7 ⟨Nat.le_of_ble_eq_true rfl, Nat.le_of_ble_eq_true rfl⟩ ⟨Nat.le_of_ble_eq_true rfl, Nat.le_of_ble_eq_true rfl⟩ dX0_hatsLostIn_34 ?_
    exact hret _ _ _ _ _ _ (by exact ⟨rfl, (if_pos c_15).symm⟩) X dX0_hatsLostIn_37
  · refine lv_iconst (v := 0) hx hb dX0_hatsLostIn_18 (by decide) ?_
    exact hret _ _ _ _ _ _ (by exact ⟨rfl, (if_neg c_15).symm⟩) X dX0_hatsLostIn_19

set_option maxHeartbeats 1000000 in
set_option maxRecDepth 100000 in
theorem c_X0_hatsLost (l : Launch) (D : va_G) (q : xQ) (a0 : Nat) (a1 : Nat) (a2 : Nat) (a3 : Nat) (t1 : Nat → Int32) (t2 : Nat → Int32) (t3 : Nat → Int32) (t0 : Nat) (s0 : Nat) (u0 : Nat) (r0 : Nat → Int32) (fc : Int32) (h0 : Nat) (h1 : Nat) (h2 : Nat) (h3 : Nat) (h4 : Nat) (h5 : Nat) (n : Nat) (f1 : Nat → Int32) (f2 : Nat → Int32) (f3 : Nat → Int32) (f4 : Nat → Int32) (f5 : Nat → Int32) (hn : n ≤ 20) : xMi l yX0_hatsLost wsX0_hatsLost { frames := 2, cells := 0, slots := 0, locals := 45 } D q [.ref a0, .ref t0] [aW q a0 a1 a2 a3 t1 t2 t3, twW q t0 s0 h0 u0 r0 fc, sW q h0 h1 h2 h3 h4 h5 f1 f2 f3 f4 f5 (nI n)] (fun r gw => gw = [aW q a0 a1 a2 a3 t1 t2 t3, twW q t0 s0 h0 u0 r0 fc, sW q h0 h1 h2 h3 h4 h5 f1 f2 f3 f4 f5 (nI n)] ∧ r = x_sm (x_hk r0 t3 f5) n) := by
  refine xMi_of (cc := cX0_hatsLost) (maxL := 4) (rt := .int) (by decide) rfl (Nat.le_of_ble_eq_true rfl) (fun _ _ _ => rfl) ?_
  intro p9 e9 s9 m9 a9 below meth c9 A9 Z9 ls H locs F X hl hret
  have hx := F.1.1
  have hb := F.1.2.1
  have in_X6 : ∀ w ∈ wsX60, w ∈ wsX0_hatsLost := by decide +kernel
  have in_X5 : ∀ w ∈ wsX50, w ∈ wsX0_hatsLost := by decide +kernel
  have mw_0 : Cond.fieldLink RX0 21 "HatWinds$Town" "streets" "LHatWinds$Streets;" ∈ wsX0_hatsLost := by decide +kernel
  have mw_1 : Cond.fieldLink RX0 37 "HatWinds$Streets" "number" "I" ∈ wsX0_hatsLost := by decide +kernel
  have mw_2 : Cond.initialized RX0 ∈ wsX0_hatsLost := by decide +kernel
  have hl : lv_has ls 4 [(0, .ref a0), (1, .ref t0)] := hl
  refine lv_iconst (v := 0) hx hb dX0_hatsLost_0 (by decide) ?_
  refine lv_istore_n (lv' := [(2, .int 0), (0, .ref a0), (1, .ref t0)]) hx hb dX0_hatsLost_1 rfl hl (by decide) rfl (fun ls hl => ?_)
  refine lv_iconst (v := 0) hx hb dX0_hatsLost_2 (by decide) ?_
  refine lv_istore_n (lv' := [(3, .int 0), (2, .int 0), (0, .ref a0), (1, .ref t0)]) hx hb dX0_hatsLost_3 rfl hl (by decide) rfl (fun ls hl => ?_)
  have L_4 : ∀ (nn : Nat) (j : Nat) (t : Int32) (H : Heap) (locs : List Loc) (ls : Array Slot), xS D A9 s9 [aW q a0 a1 a2 a3 t1 t2 t3, twW q t0 s0 h0 u0 r0 fc, sW q h0 h1 h2 h3 h4 h5 f1 f2 f3 f4 f5 (nI n)] H locs → lv_has ls 4 [(3, .int (nI j)), (2, .int t), (0, .ref a0), (1, .ref t0)] → (n < j + nn) → (j ≤ n) → (t = x_sm (x_hk r0 t3 f5) j) → W p9 l e9 { frames := 2, cells := 0, slots := 0, locals := 45 } s9 m9 a9 below meth c9 H locs 0 0 Z9 (F0 m9 4 ls []) := by
    intro nn
    induction nn with
    | zero => intro j t H locs ls X hl hfuel hj ht; exact absurd hfuel (by omega)
    | succ nn ih_4 =>
      intro j t H locs ls X hl hfuel hj ht
      refine lv_iload_n hx hb dX0_hatsLost_4 rfl (lv_at hl 0 rfl) ?_
      refine lv_aload_n hx hb dX0_hatsLost_5 rfl (lv_at hl 3 rfl) ?_
      refine x_get F X (v := .ref h0) (C := RX6) (T := TX6) (N := 4) (ci := 6) in_X6 4 rfl rfl 1 (by decide) mw_0 rfl dX0_hatsLost_6 ?_
      refine x_get F X (v := .int (nI n)) (C := RX5) (T := TX5) (N := 6) (ci := 5) in_X5 6 rfl rfl 5 (by decide) mw_1 rfl dX0_hatsLost_9 ?_
      refine lv_icmp_ge (tgt := 30) hx hb dX0_hatsLost_12 (by decide) (fun c_12 => ?_) (fun c_12 => ?_)
      · have c_12 : n ≤ j := (nI_leI (a := n) (b := j) (by omega) (by omega)).mp c_12
        refine lv_iload_n hx hb dX0_hatsLost_30 rfl (lv_at hl 1 rfl) ?_
        refine hret _ _ _ _ _ _ ?_ X dX0_hatsLost_31
        obtain rfl : j = n := by omega
        exact ⟨rfl, ht⟩
      · have c_12 : j < n := Nat.not_le.mp (fun h => c_12 ((nI_leI (a := n) (b := j) (by omega) (by omega)).mpr h))
        refine lv_iload_n hx hb dX0_hatsLost_15 rfl (lv_at hl 1 rfl) ?_
        refine lv_aload_n hx hb dX0_hatsLost_16 rfl (lv_at hl 2 rfl) ?_
        refine lv_aload_n hx hb dX0_hatsLost_17 rfl (lv_at hl 3 rfl) ?_
        refine lv_iload_n hx hb dX0_hatsLost_18 rfl (lv_at hl 0 rfl) ?_
        refine x_cVi F X (gc := [aW q a0 a1 a2 a3 t1 t2 t3, twW q t0 s0 h0 u0 r0 fc, sW q h0 h1 h2 h3 h4 h5 f1 f2 f3 f4 f5 (nI n)]) (gr := []) (xp_idx (n := 3) [0, 1, 2] (by decide +kernel) rfl rfl) (c_X0_hatsLostIn l D q a0 a1 a2 a3 t1 t2 t3 t0 s0 u0 r0 fc h0 h1 h2 h3 h4 h5 n f1 f2 f3 f4 f5 j (by first | assumption | omega)) (cwV 2 F.1.2.2.2.2 gX0_hatsLost_X0_hatsLostIn rfl rfl rfl (by decide +kernel) ⟨Nat.le_of_ble_eq_true rfl, Nat.le_of_ble_eq_true rfl⟩) rfl rfl (r0 := 0) (ci := 0) (T := TX0) (N := 3) rfl rfl hl.1 ⟨Nat.le_of_ble_eq_true rfl, Nat.le_of_ble_eq_true rfl⟩ (Nat.le_of_ble_eq_true rfl) dX0_hatsLost_19 (fun r_19 g1 H locs hp X => ?_)
        obtain ⟨rfl, rfl⟩ := hp
        have X : xS D A9 s9 [aW q a0 a1 a2 a3 t1 t2 t3, twW q t0 s0 h0 u0 r0 fc, sW q h0 h1 h2 h3 h4 h5 f1 f2 f3 f4 f5 (nI n)] H locs := X
        refine lv_iadd hx hb dX0_hatsLost_22 ?_
        refine lv_istore_n (lv' := [(2, .int (t + (x_hk r0 t3 f5 j))), (3, .int (nI j)), (0, .ref a0), (1, .ref t0)]) hx hb dX0_hatsLost_23 rfl hl (by decide) rfl (fun ls hl => ?_)
        refine lv_iinc (v := (nI (j + 1))) (lv' := [(3, .int (nI (j + 1))), (2, .int (t + (x_hk r0 t3 f5 j))), (0, .ref a0), (1, .ref t0)]) hx hb dX0_hatsLost_24 hl (k := 1) rfl (nI_add j 1) (by decide) rfl (fun ls hl => ?_)
        refine lv_goto (tgt := 4) hx hb dX0_hatsLost_27 (by decide) ?_
        exact ih_4 (j + 1) _ _ _ _ X (lv_sub hl [0, 1, 2, 3] rfl) (by omega) (by omega) (by rw [ht]; rfl)
  exact L_4 (n + 1) 0 _ _ _ _ X (lv_sub hl [0, 1, 2, 3] rfl) (by omega) (by omega) (by rfl)

set_option maxHeartbeats 1000000 in
set_option maxRecDepth 100000 in
theorem c_X0_worstStreet (l : Launch) (D : va_G) (q : xQ) (a0 : Nat) (a1 : Nat) (a2 : Nat) (a3 : Nat) (t1 : Nat → Int32) (t2 : Nat → Int32) (t3 : Nat → Int32) (t0 : Nat) (s0 : Nat) (u0 : Nat) (r0 : Nat → Int32) (fc : Int32) (h0 : Nat) (h1 : Nat) (h2 : Nat) (h3 : Nat) (h4 : Nat) (h5 : Nat) (n : Nat) (f1 : Nat → Int32) (f2 : Nat → Int32) (f3 : Nat → Int32) (f4 : Nat → Int32) (f5 : Nat → Int32) (hn : n ≤ 20) : xMi l yX0_worstStreet wsX0_worstStreet { frames := 2, cells := 0, slots := 0, locals := 45 } D q [.ref a0, .ref t0] [aW q a0 a1 a2 a3 t1 t2 t3, twW q t0 s0 h0 u0 r0 fc, sW q h0 h1 h2 h3 h4 h5 f1 f2 f3 f4 f5 (nI n)] (fun r gw => gw = [aW q a0 a1 a2 a3 t1 t2 t3, twW q t0 s0 h0 u0 r0 fc, sW q h0 h1 h2 h3 h4 h5 f1 f2 f3 f4 f5 (nI n)] ∧ r = (x_wo (x_hk r0 t3 f5) n).1) := by
  refine xMi_of (cc := cX0_worstStreet) (maxL := 6) (rt := .int) (by decide) rfl (Nat.le_of_ble_eq_true rfl) (fun _ _ _ => rfl) ?_
  intro p9 e9 s9 m9 a9 below meth c9 A9 Z9 ls H locs F X hl hret
  have hx := F.1.1
  have hb := F.1.2.1
  have in_X6 : ∀ w ∈ wsX60, w ∈ wsX0_worstStreet := by decide +kernel
  have in_X5 : ∀ w ∈ wsX50, w ∈ wsX0_worstStreet := by decide +kernel
  have mw_0 : Cond.fieldLink RX0 21 "HatWinds$Town" "streets" "LHatWinds$Streets;" ∈ wsX0_worstStreet := by decide +kernel
  have mw_1 : Cond.fieldLink RX0 37 "HatWinds$Streets" "number" "I" ∈ wsX0_worstStreet := by decide +kernel
  have mw_2 : Cond.initialized RX0 ∈ wsX0_worstStreet := by decide +kernel
  have hl : lv_has ls 6 [(0, .ref a0), (1, .ref t0)] := hl
  refine lv_bipush (v := (-6)) hx hb dX0_worstStreet_0 (by decide) ?_
  refine lv_istore_n (lv' := [(2, .int (-6)), (0, .ref a0), (1, .ref t0)]) hx hb dX0_worstStreet_2 rfl hl (by decide) rfl (fun ls hl => ?_)
  refine lv_iconst (v := 0) hx hb dX0_worstStreet_3 (by decide) ?_
  refine lv_istore_n (lv' := [(3, .int 0), (2, .int (-6)), (0, .ref a0), (1, .ref t0)]) hx hb dX0_worstStreet_4 rfl hl (by decide) rfl (fun ls hl => ?_)
  refine lv_iconst (v := 0) hx hb dX0_worstStreet_5 (by decide) ?_
  refine lv_istore (lv' := [(4, .int 0), (3, .int 0), (2, .int (-6)), (0, .ref a0), (1, .ref t0)]) hx hb dX0_worstStreet_6 hl (by decide) rfl (fun ls hl => ?_)
  have L_8 : ∀ (nn : Nat) (j : Nat) (fd mo : Int32) (H : Heap) (locs : List Loc) (ls : Array Slot), xS D A9 s9 [aW q a0 a1 a2 a3 t1 t2 t3, twW q t0 s0 h0 u0 r0 fc, sW q h0 h1 h2 h3 h4 h5 f1 f2 f3 f4 f5 (nI n)] H locs → lv_has ls 6 [(4, .int (nI j)), (3, .int mo), (2, .int fd), (0, .ref a0), (1, .ref t0)] → (n < j + nn) → (j ≤ n) → (x_wo (x_hk r0 t3 f5) j = (fd, mo)) → W p9 l e9 { frames := 2, cells := 0, slots := 0, locals := 45 } s9 m9 a9 below meth c9 H locs 0 0 Z9 (F0 m9 8 ls []) := by
    intro nn
    induction nn with
    | zero => intro j fd mo H locs ls X hl hfuel hj hf; exact absurd hfuel (by omega)
    | succ nn ih_8 =>
      intro j fd mo H locs ls X hl hfuel hj hf
      refine lv_iload hx hb dX0_worstStreet_8 (lv_at hl 0 rfl) ?_
      refine lv_aload_n hx hb dX0_worstStreet_10 rfl (lv_at hl 4 rfl) ?_
      refine x_get F X (v := .ref h0) (C := RX6) (T := TX6) (N := 4) (ci := 6) in_X6 4 rfl rfl 1 (by decide) mw_0 rfl dX0_worstStreet_11 ?_
      refine x_get F X (v := .int (nI n)) (C := RX5) (T := TX5) (N := 6) (ci := 5) in_X5 6 rfl rfl 5 (by decide) mw_1 rfl dX0_worstStreet_14 ?_
      refine lv_icmp_ge (tgt := 47) hx hb dX0_worstStreet_17 (by decide) (fun c_17 => ?_) (fun c_17 => ?_)
      · have c_17 : n ≤ j := (nI_leI (a := n) (b := j) (by omega) (by omega)).mp c_17
        refine lv_iload_n hx hb dX0_worstStreet_47 rfl (lv_at hl 2 rfl) ?_
        refine hret _ _ _ _ _ _ ?_ X dX0_worstStreet_48
        obtain rfl : j = n := by omega
        exact ⟨rfl, by rw [hf]⟩
      · have c_17 : j < n := Nat.not_le.mp (fun h => c_17 ((nI_leI (a := n) (b := j) (by omega) (by omega)).mpr h))
        refine lv_aload_n hx hb dX0_worstStreet_20 rfl (lv_at hl 3 rfl) ?_
        refine lv_aload_n hx hb dX0_worstStreet_21 rfl (lv_at hl 4 rfl) ?_
        refine lv_iload hx hb dX0_worstStreet_22 (lv_at hl 0 rfl) ?_
        refine x_cVi F X (gc := [aW q a0 a1 a2 a3 t1 t2 t3, twW q t0 s0 h0 u0 r0 fc, sW q h0 h1 h2 h3 h4 h5 f1 f2 f3 f4 f5 (nI n)]) (gr := []) (xp_idx (n := 3) [0, 1, 2] (by decide +kernel) rfl rfl) (c_X0_hatsLostIn l D q a0 a1 a2 a3 t1 t2 t3 t0 s0 u0 r0 fc h0 h1 h2 h3 h4 h5 n f1 f2 f3 f4 f5 j (by first | assumption | omega)) (cwV 2 F.1.2.2.2.2 gX0_worstStreet_X0_hatsLostIn rfl rfl rfl (by decide +kernel) ⟨Nat.le_of_ble_eq_true rfl, Nat.le_of_ble_eq_true rfl⟩) rfl rfl (r0 := 0) (ci := 0) (T := TX0) (N := 3) rfl rfl hl.1 ⟨Nat.le_of_ble_eq_true rfl, Nat.le_of_ble_eq_true rfl⟩ (Nat.le_of_ble_eq_true rfl) dX0_worstStreet_24 (fun r_24 g1 H locs hp X => ?_)
        obtain ⟨rfl, rfl⟩ := hp
        have X : xS D A9 s9 [aW q a0 a1 a2 a3 t1 t2 t3, twW q t0 s0 h0 u0 r0 fc, sW q h0 h1 h2 h3 h4 h5 f1 f2 f3 f4 f5 (nI n)] H locs := X
        refine lv_istore (lv' := [(5, .int (x_hk r0 t3 f5 j)), (4, .int (nI j)), (3, .int mo), (2, .int fd), (0, .ref a0), (1, .ref t0)]) hx hb dX0_worstStreet_27 hl (by decide) rfl (fun ls hl => ?_)
        refine lv_iload hx hb dX0_worstStreet_29 (lv_at hl 0 rfl) ?_
        refine lv_iload_n hx hb dX0_worstStreet_31 rfl (lv_at hl 2 rfl) ?_
        refine lv_icmp_le (tgt := 41) hx hb dX0_worstStreet_32 (by decide) (fun c_32 => ?_) (fun c_32 => ?_)
        · refine lv_iinc (v := (nI (j + 1))) (lv' := [(4, .int (nI (j + 1))), (5, .int (x_hk r0 t3 f5 j)), (3, .int mo), (2, .int fd), (0, .ref a0), (1, .ref t0)]) hx hb dX0_worstStreet_41 hl (k := 1) rfl (nI_add j 1) (by decide) rfl (fun ls hl => ?_)
          refine lv_goto (tgt := 8) hx hb dX0_worstStreet_44 (by decide) ?_
          exact ih_8 (j + 1) _ _ _ _ _ X (lv_sub hl [0, 2, 3, 4, 5] rfl) (by omega) (by omega) (by rw [x_wo, hf]; exact if_neg (Int32.not_lt.mpr c_32))
        · refine lv_iload hx hb dX0_worstStreet_35 (lv_at hl 0 rfl) ?_
          refine lv_istore_n (lv' := [(3, .int (x_hk r0 t3 f5 j)), (5, .int (x_hk r0 t3 f5 j)), (4, .int (nI j)), (2, .int fd), (0, .ref a0), (1, .ref t0)]) hx hb dX0_worstStreet_37 rfl hl (by decide) rfl (fun ls hl => ?_)
          refine lv_iload hx hb dX0_worstStreet_38 (lv_at hl 2 rfl) ?_
          refine lv_istore_n (lv' := [(2, .int (nI j)), (3, .int (x_hk r0 t3 f5 j)), (5, .int (x_hk r0 t3 f5 j)), (4, .int (nI j)), (0, .ref a0), (1, .ref t0)]) hx hb dX0_worstStreet_40 rfl hl (by decide) rfl (fun ls hl => ?_)
          refine lv_iinc (v := (nI (j + 1))) (lv' := [(4, .int (nI (j + 1))), (2, .int (nI j)), (3, .int (x_hk r0 t3 f5 j)), (5, .int (x_hk r0 t3 f5 j)), (0, .ref a0), (1, .ref t0)]) hx hb dX0_worstStreet_41 hl (k := 3) rfl (nI_add j 1) (by decide) rfl (fun ls hl => ?_)
          refine lv_goto (tgt := 8) hx hb dX0_worstStreet_44 (by decide) ?_
          exact ih_8 (j + 1) _ _ _ _ _ X (lv_sub hl [0, 2, 1, 4, 5] rfl) (by omega) (by omega) (by rw [x_wo, hf]; exact if_pos (Int32.not_le.mp c_32))
  exact L_8 (n + 1) 0 _ _ _ _ _ X (lv_sub hl [0, 1, 2, 3, 4] rfl) (by omega) (by omega) (by rfl)
