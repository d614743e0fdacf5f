set_option maxHeartbeats 1000000 in
set_option maxRecDepth 100000 in
theorem c_X8_write (l : Launch) (D : va_G) (q : xQ) (b0 : Nat) (b1 : Nat) (b2 : Nat) (b3 : Nat) (b4 : Nat) (b5 : Nat) (b6 : Nat) (b7 : Nat) (b8 : Nat) (s : Nat → Int32) (p : Nat → Int32) (sl : Nat → Int32) (sv : Nat → Int32) (pd : Nat → Int32) (fo : Nat → Int32) (to : Nat → Int32) (ou : Nat → Int32) (kn : Int32) (ln : Nat) (mn : Int32) (la : Int32) (op : Int32) (wr : Int32) (n : Nat) (pr : Nat → Nat) (hok : x_ok s n pr) : xMi l yX8_write wsX8_write { frames := 4, cells := 0, slots := 0, locals := 89 } D q [.ref b0] [mW q b0 b1 b2 b3 b4 b5 b6 b7 b8 s p sl sv pd fo to ou kn (nI ln) mn la op wr] (fun r gw => ∃ (ou2 : Nat → Int32), ∃ (wr2 : Nat), ∃ (pd2 : Nat → Int32), ∃ (ln2 : Nat), gw = [mW q b0 b1 b2 b3 b4 b5 b6 b7 b8 s p sl sv pd2 fo to ou2 kn (nI ln2) mn la op (nI wr2)] ∧ (((x_tx s pr n).length ≤ 80 ∧ r = nI (x_tx s pr n).length ∧ ln2 = (x_tx s pr n).length ∧ ∀ j, j < ln2 → pd2 j = nI ((x_tx s pr n).getD j 0)) ∨ (80 < (x_tx s pr n).length ∧ r = -4 ∧ pd2 = pd ∧ ln2 = ln))) := by
  refine xMi_of (cc := cX8_write) (maxL := 3) (rt := .int) (by decide) rfl (Nat.le_of_ble_eq_true rfl) (fun _ _ _ => rfl) ?_
  intro p9 e9 s9 m9 a9 below meth c9 A9 Z9 ls H locs F X hl hret
  have hx := F.1.1
  have hb := F.1.2.1
  have in_X8 : ∀ w ∈ wsX80, w ∈ wsX8_write := by decide +kernel
  have mw_0 : Cond.fieldLink RX8 141 "HatWindsModel" "written" "I" ∈ wsX8_write := by decide +kernel
  have mw_1 : Cond.fieldLink RX8 106 "HatWindsModel" "length" "I" ∈ wsX8_write := by decide +kernel
  have mw_2 : Cond.fieldLink RX8 23 "HatWindsModel" "pad" "[I" ∈ wsX8_write := by decide +kernel
  have mw_3 : Cond.fieldLink RX8 32 "HatWindsModel" "out" "[I" ∈ wsX8_write := by decide +kernel
  have mw_4 : Cond.initialized RX8 ∈ wsX8_write := by decide +kernel
  have hl : lv_has ls 3 [(0, .ref b0)] := hl
  have hok0 := hok
  obtain ⟨hn, hn1, hs5, hs33, hpr, hwd, hcl, hsm, hpe, hst, hle, hhr, hcn⟩ := hok0
  have hp2 : ∀ o, 1 ≤ o → o < n → pr o < o := fun o h1 h2 => (hpr o h1 h2).2
  have hU := x_tt_len hp2 (fun o _ => x_ws_len (x_tW s) (x_tC s) (x_tM s) (x_tP s) o) hn1 hn
  have eU : x_wT s 0 ++ x_tt (x_wT s) pr n 0 0 = x_tx s pr n := rfl
  rw [eU] at hU
  refine lv_aload_n hx hb dX8_write_0 rfl (lv_at hl 0 rfl) ?_
  refine lv_iconst (v := 0) hx hb dX8_write_1 (by decide) ?_
  refine x_put F X (gs' := [mW q b0 b1 b2 b3 b4 b5 b6 b7 b8 s p sl sv pd fo to ou kn (nI ln) mn la op 0]) (v := .int 0) (C := RX8) (T := TX8) (N := 14) (ci := 8) in_X8 tyX8 tyX8_ok nmX8 0 rfl rfl 13 (by decide) mw_0 rfl rfl rfl (Nat.le_of_ble_eq_true rfl) dX8_write_2 rfl (fun H locs X => ?_)
  refine lv_iconst (v := 0) hx hb dX8_write_5 (by decide) ?_
  refine lv_istore_n (lv' := [(1, .int 0), (0, .ref b0)]) hx hb dX8_write_6 rfl hl (by decide) rfl (fun ls hl => ?_)
  have L_7 : ∀ (nn : Nat) (kk : Int32) (wr1 : Nat) (ou1 : Nat → Int32) (S1 : List Nat) (H : Heap) (locs : List Loc) (ls : Array Slot), xS D A9 s9 [mW q b0 b1 b2 b3 b4 b5 b6 b7 b8 s p sl sv pd fo to ou1 kn (nI ln) mn la op (nI wr1)] H locs → lv_has ls 3 [(1, .int kk), (0, .ref b0)] → ((x_tx s pr n).length < S1.length + nn) → (xOu S1 ou1 wr1) → (S1.length ≤ (x_tx s pr n).length) → ((kk = -1 ∧ S1 = x_tx s pr n) ∨ ∃ k, k < n ∧ kk = nI k ∧ S1 ++ (x_wT s k ++ (x_tt (x_wT s) pr n k k ++ x_up (x_wT s) pr n k)) = x_tx s pr n) → W p9 l e9 { frames := 4, cells := 0, slots := 0, locals := 89 } s9 m9 a9 below meth c9 H locs 0 0 Z9 (F0 m9 7 ls []) := by
    intro nn
    induction nn with
    | zero => intro kk wr1 ou1 S1 H locs ls X hl hfuel hou1 hSU hst; exact absurd hfuel (by omega)
    | succ nn ih_7 =>
      intro kk wr1 ou1 S1 H locs ls X hl hfuel hou1 hSU hst
      refine lv_iload_n hx hb dX8_write_7 rfl (lv_at hl 0 rfl) ?_
      refine lv_if_lt (tgt := 54) hx hb dX8_write_8 (by decide) (fun c_8 => ?_) (fun c_8 => ?_)
      · obtain ⟨ekk, eS⟩ := hst.resolve_right (fun h => by obtain ⟨k, hk, ek, -⟩ := h; rw [ek] at c_8; exact absurd c_8 (Int32.not_lt.mpr (nI_le (a := 0) (Nat.zero_le _) (by omega))))
        rw [eS] at hou1
        have hw1 := hou1.1
        refine lv_aload_n hx hb dX8_write_54 rfl (lv_at hl 1 rfl) ?_
        refine x_get F X (v := .int (nI wr1)) (C := RX8) (T := TX8) (N := 14) (ci := 8) in_X8 0 rfl rfl 13 (by decide) mw_0 rfl dX8_write_55 ?_
        refine lv_bipush (v := 80) hx hb dX8_write_58 (by decide) ?_
        refine lv_icmp_le (tgt := 66) hx hb dX8_write_60 (by decide) (fun c_60 => ?_) (fun c_60 => ?_)
        · have c_60 : wr1 ≤ 80 := (nI_leI (a := wr1) (b := 80) (by omega) (by omega)).mp c_60
          refine lv_iconst (v := 0) hx hb dX8_write_66 (by decide) ?_
          refine lv_istore_n (lv' := [(2, .int 0), (1, .int kk), (0, .ref b0)]) hx hb dX8_write_67 rfl hl (by decide) rfl (fun ls hl => ?_)
          have L_68 : ∀ (nn : Nat) (i : Nat) (w : Nat → Int32) (H : Heap) (locs : List Loc) (ls : Array Slot), xS D A9 s9 [mW q b0 b1 b2 b3 b4 b5 b6 b7 b8 s p sl sv w fo to ou1 kn (nI ln) mn la op (nI wr1)] H locs → lv_has ls 3 [(2, .int (nI i)), (1, .int kk), (0, .ref b0)] → (wr1 < i + nn) → (i ≤ wr1) → (w = x_pt pd ou1 0 i) → W p9 l e9 { frames := 4, cells := 0, slots := 0, locals := 89 } s9 m9 a9 below meth c9 H locs 0 0 Z9 (F0 m9 68 ls []) := by
            intro nn
            induction nn with
            | zero => intro i w H locs ls X hl hfuel hi hw; exact absurd hfuel (by omega)
            | succ nn ih_68 =>
              intro i w H locs ls X hl hfuel hi hw
              refine lv_iload_n hx hb dX8_write_68 rfl (lv_at hl 0 rfl) ?_
              refine lv_aload_n hx hb dX8_write_69 rfl (lv_at hl 2 rfl) ?_
              refine x_get F X (v := .int (nI wr1)) (C := RX8) (T := TX8) (N := 14) (ci := 8) in_X8 0 rfl rfl 13 (by decide) mw_0 rfl dX8_write_70 ?_
              refine lv_icmp_ge (tgt := 94) hx hb dX8_write_73 (by decide) (fun c_73 => ?_) (fun c_73 => ?_)
              · have c_73 : wr1 ≤ i := (nI_leI (a := wr1) (b := i) (by omega) (by omega)).mp c_73
                refine lv_aload_n hx hb dX8_write_94 rfl (lv_at hl 2 rfl) ?_
                refine lv_aload_n hx hb dX8_write_95 rfl (lv_at hl 2 rfl) ?_
                refine x_get F X (v := .int (nI wr1)) (C := RX8) (T := TX8) (N := 14) (ci := 8) in_X8 0 rfl rfl 13 (by decide) mw_0 rfl dX8_write_96 ?_
                refine x_put F X (gs' := [mW q b0 b1 b2 b3 b4 b5 b6 b7 b8 s p sl sv w fo to ou1 kn (nI wr1) mn la op (nI wr1)]) (v := .int (nI wr1)) (C := RX8) (T := TX8) (N := 14) (ci := 8) in_X8 tyX8 tyX8_ok nmX8 0 rfl rfl 6 (by decide) mw_1 rfl rfl rfl (Nat.le_of_ble_eq_true rfl) dX8_write_99 rfl (fun H locs X => ?_)
                refine lv_aload_n hx hb dX8_write_102 rfl (lv_at hl 2 rfl) ?_
                refine x_get F X (v := .int (nI wr1)) (C := RX8) (T := TX8) (N := 14) (ci := 8) in_X8 0 rfl rfl 6 (by decide) mw_1 rfl dX8_write_103 ?_
                refine hret _ _ _ _ _ _ ?_ X dX8_write_106
                obtain rfl : i = wr1 := by omega
                refine ⟨_, _, _, _, rfl, Or.inl ⟨by omega, by rw [← hw1], hw1, fun j hj => ?_⟩⟩
                rw [hw, x_pt_in (by omega) (by omega), Nat.sub_zero]
                exact hou1.2 j hj
              · have c_73 : i < wr1 := Nat.not_le.mp (fun h => c_73 ((nI_leI (a := wr1) (b := i) (by omega) (by omega)).mpr h))
                refine lv_aload_n hx hb dX8_write_76 rfl (lv_at hl 2 rfl) ?_
                refine x_get F X (v := .ref b5) (C := RX8) (T := TX8) (N := 14) (ci := 8) in_X8 0 rfl rfl 5 (by decide) mw_2 rfl dX8_write_77 ?_
                refine lv_iload_n hx hb dX8_write_80 rfl (lv_at hl 0 rfl) ?_
                refine lv_aload_n hx hb dX8_write_81 rfl (lv_at hl 2 rfl) ?_
                refine x_get F X (v := .ref b8) (C := RX8) (T := TX8) (N := 14) (ci := 8) in_X8 0 rfl rfl 12 (by decide) mw_3 rfl dX8_write_82 ?_
                refine lv_iload_n hx hb dX8_write_85 rfl (lv_at hl 0 rfl) ?_
                refine x_iald F X (v := (ou1 i)) (n := 300) (f := ou1) 8 rfl (vp_in_nI (by omega) (by omega)) (x_cl (by omega)) dX8_write_86 ?_
                refine x_iast F X (gs' := [mW q b0 b1 b2 b3 b4 b5 b6 b7 b8 s p sl sv (upd w i (ou1 i)) fo to ou1 kn (nI ln) mn la op (nI wr1)]) (n := 80) (f := w) (k := i) 5 rfl (vp_in_nI (by omega) (by omega)) (nI_clamp (by omega)) dX8_write_87 rfl (fun H locs X => ?_)
                refine lv_iinc (v := (nI (i + 1))) (lv' := [(2, .int (nI (i + 1))), (1, .int kk), (0, .ref b0)]) hx hb dX8_write_88 hl (k := 0) rfl (nI_add i 1) (by decide) rfl (fun ls hl => ?_)
                refine lv_goto (tgt := 68) hx hb dX8_write_91 (by decide) ?_
                exact ih_68 (i + 1) _ _ _ _ X (lv_sub hl [0, 1, 2] rfl) (by omega) (by omega) (by rw [hw, ← x_pt_s, Nat.zero_add])
          exact L_68 (wr1 + 1) 0 pd _ _ _ X (lv_sub hl [0, 1, 2] rfl) (by omega) (by omega) (by exact (x_pt_0 _ _ _).symm)
        · have c_60 : 80 < wr1 := Nat.not_le.mp (fun h => c_60 ((nI_leI (a := wr1) (b := 80) (by omega) (by omega)).mpr h))
          refine lv_bipush (v := (-4)) hx hb dX8_write_63 (by decide) ?_
          exact hret _ _ _ _ _ _ (by exact ⟨_, _, _, _, rfl, Or.inr ⟨by omega, rfl, rfl, rfl⟩⟩) X dX8_write_65
      · obtain ⟨k, hk, ek, hrem⟩ := hst.resolve_left (fun h => c_8 (by rw [h.1]; decide))
        rw [show kk = nI k from ek] at hl
        have hlen := congrArg List.length hrem
        rw [List.length_append, List.length_append, List.length_append] at hlen
        have hw1 := hou1.1
        have hwp := x_ws_pos (x_tW s) (x_tC s) (x_tM s) (x_tP s) k
        have hwl := x_ws_len (x_tW s) (x_tC s) (x_tM s) (x_tP s) k
        have ewk : (x_wT s k).length = (x_ws (x_tW s) (x_tC s) (x_tM s) (x_tP s) k).length := rfl
        refine lv_aload_n hx hb dX8_write_11 rfl (lv_at hl 1 rfl) ?_
        refine lv_iload_n hx hb dX8_write_12 rfl (lv_at hl 0 rfl) ?_
        refine x_cVv F X (gc := [mW q b0 b1 b2 b3 b4 b5 b6 b7 b8 s p sl sv pd fo to ou1 kn (nI ln) mn la op (nI wr1)]) (gr := []) (xp_idx (n := 1) [0] (by decide +kernel) rfl rfl) (c_X8_writesStreet l D q b0 b1 b2 b3 b4 b5 b6 b7 b8 s p sl sv pd fo to ou1 kn (nI ln) mn la op wr1 n pr k S1 (by first | assumption | omega) (by first | assumption | omega) (by first | assumption | omega) (by first | assumption | omega)) (cwV 1 F.1.2.2.2.2 gX8_write_X8_writesStreet rfl rfl rfl (by decide +kernel) ⟨Nat.le_of_ble_eq_true rfl, Nat.le_of_ble_eq_true rfl⟩) rfl rfl (r0 := 0) (ci := 8) (T := TX8) (N := 14) rfl rfl hl.1 ⟨Nat.le_of_ble_eq_true rfl, Nat.le_of_ble_eq_true rfl⟩ (Nat.le_of_ble_eq_true rfl) dX8_write_13 (fun g1 H locs hp X => ?_)
        obtain ⟨ou3, wr3, rfl, hou3⟩ := hp
        have X : xS D A9 s9 [mW q b0 b1 b2 b3 b4 b5 b6 b7 b8 s p sl sv pd fo to ou3 kn (nI ln) mn la op (nI wr3)] H locs := X
        refine lv_aload_n hx hb dX8_write_16 rfl (lv_at hl 1 rfl) ?_
        refine lv_iload_n hx hb dX8_write_17 rfl (lv_at hl 0 rfl) ?_
        refine lv_iload_n hx hb dX8_write_18 rfl (lv_at hl 0 rfl) ?_
        refine x_cVi F X (gc := [mW q b0 b1 b2 b3 b4 b5 b6 b7 b8 s p sl sv pd fo to ou3 kn (nI ln) mn la op (nI wr3)]) (gr := []) (xp_idx (n := 1) [0] (by decide +kernel) rfl rfl) (c_X8_nextBranch l D q b0 b1 b2 b3 b4 b5 b6 b7 b8 s p sl sv pd fo to ou3 kn (nI ln) mn la op (nI wr3) n pr k k (by first | assumption | omega) (by first | assumption | omega) (by first | assumption | omega)) (cwV 2 F.1.2.2.2.2 gX8_write_X8_nextBranch rfl rfl rfl (by decide +kernel) ⟨Nat.le_of_ble_eq_true rfl, Nat.le_of_ble_eq_true rfl⟩) rfl rfl (r0 := 0) (ci := 8) (T := TX8) (N := 14) rfl rfl hl.1 ⟨Nat.le_of_ble_eq_true rfl, Nat.le_of_ble_eq_true rfl⟩ (Nat.le_of_ble_eq_true rfl) dX8_write_19 (fun r_19 g1 H locs hp X => ?_)
        obtain ⟨rfl, hnb_19⟩ := hp
        have X : xS D A9 s9 [mW q b0 b1 b2 b3 b4 b5 b6 b7 b8 s p sl sv pd fo to ou3 kn (nI ln) mn la op (nI wr3)] H locs := X
        refine lv_istore_n (lv' := [(2, .int r_19), (1, .int (nI k)), (0, .ref b0)]) hx hb dX8_write_22 rfl hl (by decide) rfl (fun ls hl => ?_)
        refine lv_iload_n hx hb dX8_write_23 rfl (lv_at hl 0 rfl) ?_
        refine lv_bipush (v := (-6)) hx hb dX8_write_24 (by decide) ?_
        refine lv_icmp_eq (tgt := 35) hx hb dX8_write_26 (by decide) (fun c_26 => ?_) (fun c_26 => ?_)
        · refine lv_iload_n hx hb dX8_write_35 rfl (lv_at hl 0 rfl) ?_
          refine lv_bipush (v := (-6)) hx hb dX8_write_36 (by decide) ?_
          refine lv_icmp_eq (tgt := 45) hx hb dX8_write_38 (by decide) (fun c_38 => ?_) (fun c_38 => ?_)
          rotate_left
          · exfalso
            exact c_38 c_26
          obtain ⟨hno, -⟩ := hnb_19.resolve_left (fun h => by obtain ⟨b, -, hb3, -, -, eb⟩ := h; rw [eb] at c_26; exact x_m6 b (by omega) c_26.symm)
          have hr := hrem
          rw [x_tt_n (x_wT s) pr hk hno, if_pos rfl, List.nil_append, ← List.append_assoc] at hr
          refine lv_aload_n hx hb dX8_write_45 rfl (lv_at hl 2 rfl) ?_
          refine lv_iload_n hx hb dX8_write_46 rfl (lv_at hl 1 rfl) ?_
          refine x_cVi F X (gc := [mW q b0 b1 b2 b3 b4 b5 b6 b7 b8 s p sl sv pd fo to ou3 kn (nI ln) mn la op (nI wr3)]) (gr := []) (xp_idx (n := 1) [0] (by decide +kernel) rfl rfl) (c_X8_goesUp l D q b0 b1 b2 b3 b4 b5 b6 b7 b8 s p sl sv pd fo to ou3 kn (nI ln) mn la op wr3 n pr k (S1 ++ x_wT s k) (x_tx s pr n) (x_wT s) (by first | assumption | omega) (by first | assumption | omega) (by first | assumption | omega) (by exact hr) (by first | assumption | omega)) (cwV 1 F.1.2.2.2.2 gX8_write_X8_goesUp rfl rfl rfl (by decide +kernel) ⟨Nat.le_of_ble_eq_true rfl, Nat.le_of_ble_eq_true rfl⟩) rfl rfl (r0 := 0) (ci := 8) (T := TX8) (N := 14) rfl rfl hl.1 ⟨Nat.le_of_ble_eq_true rfl, Nat.le_of_ble_eq_true rfl⟩ (Nat.le_of_ble_eq_true rfl) dX8_write_47 (fun r_47 g1 H locs hp X => ?_)
          obtain ⟨ou2_47, wr2_47, S2, rfl, hou2_47⟩ := hp
          have X : xS D A9 s9 [mW q b0 b1 b2 b3 b4 b5 b6 b7 b8 s p sl sv pd fo to ou2_47 kn (nI ln) mn la op (nI wr2_47)] H locs := X
          refine lv_istore_n (lv' := [(1, .int r_47), (2, .int r_19), (0, .ref b0)]) hx hb dX8_write_50 rfl hl (by decide) rfl (fun ls hl => ?_)
          refine lv_goto (tgt := 7) hx hb dX8_write_51 (by decide) ?_
          exact ih_7 _ _ _ S2 _ _ _ X (lv_sub hl [0, 2] rfl) (by
              rcases hou2_47.2 with ⟨b, hb3, eb, e, hle3⟩ | ⟨e1, e2⟩
              · rw [List.length_append] at hle3
                omega
              · rw [e2]; omega) (by exact hou2_47.1) (by
              rcases hou2_47.2 with ⟨b, hb3, eb, e, hle3⟩ | ⟨e1, e2⟩
              · have := congrArg List.length e
                rw [List.length_append] at this
                omega
              · rw [e2]; exact Nat.le_refl _) (by
              rcases hou2_47.2 with ⟨b, hb3, eb, e, hle3⟩ | ⟨e1, e2⟩
              · exact Or.inr ⟨b, hb3, eb, e⟩
              · exact Or.inl ⟨e1, e2⟩)
        · obtain ⟨b, ⟨hb1, hb2⟩, hb3, hb4, hb5, eb⟩ := hnb_19.resolve_right (fun h => c_26 h.2)
          have hr := hrem
          rw [x_tt_s (x_wT s) pr hk (by rw [hb4]; exact hb3), hb4, if_pos rfl] at hr
          have hlen2 := congrArg List.length hr
          rw [List.length_append, List.length_append, List.length_append, List.length_cons] at hlen2
          have hw3 := hou3.1
          rw [List.length_append] at hw3
          refine lv_aload_n hx hb dX8_write_29 rfl (lv_at hl 2 rfl) ?_
          refine lv_bipush (v := 40) hx hb dX8_write_30 (by decide) ?_
          refine x_cVv F X (gc := [mW q b0 b1 b2 b3 b4 b5 b6 b7 b8 s p sl sv pd fo to ou3 kn (nI ln) mn la op (nI wr3)]) (gr := []) (xp_idx (n := 1) [0] (by decide +kernel) rfl rfl) (c_X8_writes l D q b0 b1 b2 b3 b4 b5 b6 b7 b8 s p sl sv pd fo to ou3 kn (nI ln) mn la op wr3 40 (S1 ++ x_wT s k) (by first | assumption | omega) (by first | assumption | omega)) (cwV 1 F.1.2.2.2.2 gX8_write_X8_writes rfl rfl rfl (by decide +kernel) ⟨Nat.le_of_ble_eq_true rfl, Nat.le_of_ble_eq_true rfl⟩) rfl rfl (r0 := 0) (ci := 8) (T := TX8) (N := 14) rfl rfl hl.1 ⟨Nat.le_of_ble_eq_true rfl, Nat.le_of_ble_eq_true rfl⟩ (Nat.le_of_ble_eq_true rfl) dX8_write_32 (fun g1 H locs hp X => ?_)
          obtain ⟨ou2_32, rfl, hou2_32⟩ := hp
          have X : xS D A9 s9 [mW q b0 b1 b2 b3 b4 b5 b6 b7 b8 s p sl sv pd fo to ou2_32 kn (nI ln) mn la op (nI (wr3 + 1))] H locs := X
          refine lv_iload_n hx hb dX8_write_35 rfl (lv_at hl 0 rfl) ?_
          refine lv_bipush (v := (-6)) hx hb dX8_write_36 (by decide) ?_
          refine lv_icmp_eq (tgt := 45) hx hb dX8_write_38 (by decide) (fun c_38 => ?_) (fun c_38 => ?_)
          · exfalso
            exact c_26 c_38
          refine lv_iload_n hx hb dX8_write_41 rfl (lv_at hl 0 rfl) ?_
          refine lv_goto (tgt := 50) hx hb dX8_write_42 (by decide) ?_
          refine lv_istore_n (lv' := [(1, .int r_19), (2, .int r_19), (0, .ref b0)]) hx hb dX8_write_50 rfl hl (by decide) rfl (fun ls hl => ?_)
          refine lv_goto (tgt := 7) hx hb dX8_write_51 (by decide) ?_
          exact ih_7 _ _ _ ((S1 ++ x_wT s k) ++ [40]) _ _ _ X (lv_sub hl [0, 2] rfl) (by rw [List.length_append, List.length_append, List.length_singleton]; omega) (by assumption) (by rw [List.length_append, List.length_append, List.length_singleton]; omega) (by
              refine Or.inr ⟨b, hb3, eb, ?_⟩
              rw [← hr, x_up_s (x_wT s) hp2 hb2 hb3, hb5]
              simp only [List.append_assoc, List.cons_append, List.singleton_append, List.nil_append])
  exact L_7 ((x_tx s pr n).length + 1) 0 0 _ ([]) _ _ _ X (lv_sub hl [0, 1] rfl) (by rw [List.length_nil]; omega) (by exact ⟨rfl, fun j hj => absurd hj (Nat.not_lt_zero j)⟩) (by exact Nat.zero_le _) (by exact Or.inr ⟨0, by omega, rfl, by rw [List.nil_append, x_up_0, List.append_nil]; rfl⟩)

