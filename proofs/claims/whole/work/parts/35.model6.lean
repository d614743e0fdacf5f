set_option maxHeartbeats 1000000 in
set_option maxRecDepth 100000 in
theorem c_X8_pass (l : Launch) (D : va_G) (q : xQ) (b0 : Nat) (b1 : Nat) (b2 : Nat) (b3 : Nat) (b4 : Nat) (b5 : Nat) (b6 : Nat) (b7 : Nat) (b8 : Nat) (s : Nat → Int32) (p : Nat → Int32) (sl : Nat → Int32) (sv : Nat → Int32) (pd : Nat → Int32) (fo : Nat → Int32) (to : Nat → Int32) (ou : Nat → Int32) (kn : Nat) (ln : Int32) (mn : Int32) (la : Int32) (op : Int32) (wr : Int32) (n : Nat) (pr : Nat → Nat) (h : Int32) (hok : x_ok s n pr) (hk6 : kn ≤ 6) : xMi l yX8_pass wsX8_pass { frames := 6, cells := 0, slots := 0, locals := 139 } D q [.ref b0, .int h] [mW q b0 b1 b2 b3 b4 b5 b6 b7 b8 s p sl sv pd fo to ou (nI kn) ln mn la op wr] (fun r gw => ∃ (s2 : Nat → Int32), ∃ (p2 : Nat → Int32), ∃ (kn2 : Nat), ∃ (fo2 : Nat → Int32), gw = [mW q b0 b1 b2 b3 b4 b5 b6 b7 b8 s2 p2 sl sv pd fo2 to ou (nI kn2) ln mn la op wr] ∧ (xCh ((1 ≤ h ∧ h ≤ 24) ∧ ¬ 999 < s 6 + h) r (x_rep (x_hb s pr n (s 4)) h.toNatClampNeg) (if 1 ≤ h ∧ h ≤ 24 then -5 else -2) s (x_hrs s (x_hb s pr n (s 4)) (x_wh s pr n) h.toNatClampNeg) s2 kn p p2 kn2)) := by
  refine xMi_of (cc := cX8_pass) (maxL := 4) (rt := .int) (by decide) rfl (Nat.le_of_ble_eq_true rfl) (fun _ _ _ => rfl) ?_
  intro p9 e9 s9 m9 a9 below meth c9 A9 Z9 ls H locs F X hl hret
  have hx := F.1.1
  have hb := F.1.2.1
  have in_X8 : ∀ w ∈ wsX80, w ∈ wsX8_pass := by decide +kernel
  have mw_0 : Cond.initialized RX8 ∈ wsX8_pass := by decide +kernel
  have mw_1 : Cond.fieldLink RX8 7 "HatWindsModel" "s" "[I" ∈ wsX8_pass := by decide +kernel
  have hl : lv_has ls 4 [(0, .ref b0), (1, .int h)] := hl
  have hok0 := hok
  obtain ⟨hn, hn1, hs5, hs33, hpr, hwd, hcl, hsm, hpe, hst, hle, hhr, hcn⟩ := hok0
  have hpr2 : ∀ o, 1 ≤ o → o < n → pr o < o := fun o h1 h2 => (hpr o h1 h2).2
  obtain ⟨v, hv1, hv2, hv3⟩ := hhr
  refine lv_iload_n hx hb dX8_pass_0 rfl (lv_at hl 1 rfl) ?_
  refine lv_iconst (v := 1) hx hb dX8_pass_1 (by decide) ?_
  refine lv_bipush (v := 24) hx hb dX8_pass_2 (by decide) ?_
  refine x_cSi F X (gc := []) (gr := [mW q b0 b1 b2 b3 b4 b5 b6 b7 b8 s p sl sv pd fo to ou (nI kn) ln mn la op wr]) (xp_idx (n := 1) [0] (by decide +kernel) rfl rfl) (c_X8_in l D q h 1 24 ) (va_cwS 3 F.1.2.2.2.2 gX8_pass_X8_in rfl rfl rfl (by decide +kernel) ⟨Nat.le_of_ble_eq_true rfl, Nat.le_of_ble_eq_true rfl⟩) rfl rfl hl.1 ⟨Nat.le_of_ble_eq_true rfl, Nat.le_of_ble_eq_true rfl⟩ (Nat.le_of_ble_eq_true rfl) dX8_pass_4 (fun r_4 g1 H locs hp X => ?_)
  obtain ⟨rfl, hz⟩ := hp
  have X : xS D A9 s9 [mW q b0 b1 b2 b3 b4 b5 b6 b7 b8 s p sl sv pd fo to ou (nI kn) ln mn la op wr] H locs := X
  rcases hz with ⟨rfl, b_4⟩ | ⟨rfl, b_4⟩
  · refine lv_if_ne (tgt := 13) hx hb dX8_pass_7 (by decide) (fun _ => ?_) (fun h => absurd h (by decide))
    have b_4c := b_4
    obtain ⟨k, hk1, hk2, ek⟩ := (x_rng (a := 1) (b := 24) (by omega) (by omega)).mp b_4c
    refine lv_aload_n hx hb dX8_pass_13 rfl (lv_at hl 0 rfl) ?_
    refine x_get F X (v := .ref b1) (C := RX8) (T := TX8) (N := 14) (ci := 8) in_X8 0 rfl rfl 0 (by decide) mw_1 rfl dX8_pass_14 ?_
    refine lv_bipush (v := 6) hx hb dX8_pass_17 (by decide) ?_
    refine x_iald F X (v := (s 6)) (n := 133) (f := s) 1 rfl (show vp_in (nI 6) _ from vp_in_nI (by omega) (by omega)) rfl dX8_pass_19 ?_
    refine x_i (y := (nI v)) (hv2) ?_
    refine lv_iload_n hx hb dX8_pass_20 rfl (lv_at hl 1 rfl) ?_
    refine x_i (y := (nI k)) (ek) ?_
    refine lv_iadd hx hb dX8_pass_21 ?_
    refine x_i (y := (nI (v + k))) (nI_add v k) ?_
    refine lv_sipush (v := 999) hx hb dX8_pass_22 (by decide) ?_
    refine lv_icmp_le (tgt := 31) hx hb dX8_pass_25 (by decide) (fun c_25 => ?_) (fun c_25 => ?_)
    · have c_25 : v + k ≤ 999 := (nI_leI (a := v + k) (b := 999) (by omega) (by omega)).mp c_25
      refine lv_aload_n hx hb dX8_pass_31 rfl (lv_at hl 0 rfl) ?_
      refine x_cVv F X (gc := [mW q b0 b1 b2 b3 b4 b5 b6 b7 b8 s p sl sv pd fo to ou (nI kn) ln mn la op wr]) (gr := []) (xp_idx (n := 1) [0] (by decide +kernel) rfl rfl) (c_X8_remembers l D q b0 b1 b2 b3 b4 b5 b6 b7 b8 s p sl sv pd fo to ou kn ln mn la op wr (by first | assumption | omega)) (cwV 0 F.1.2.2.2.2 gX8_pass_X8_remembers rfl rfl rfl (by decide +kernel) ⟨Nat.le_of_ble_eq_true rfl, Nat.le_of_ble_eq_true rfl⟩) rfl rfl (r0 := 0) (ci := 8) (T := TX8) (N := 14) rfl rfl hl.1 ⟨Nat.le_of_ble_eq_true rfl, Nat.le_of_ble_eq_true rfl⟩ (Nat.le_of_ble_eq_true rfl) dX8_pass_32 (fun g1 H locs hp X => ?_)
      obtain ⟨p3, kn3, rfl, hk3, hp3⟩ := hp
      have X : xS D A9 s9 [mW q b0 b1 b2 b3 b4 b5 b6 b7 b8 s p3 sl sv pd fo to ou (nI kn3) ln mn la op wr] H locs := X
      refine lv_iconst (v := 0) hx hb dX8_pass_35 (by decide) ?_
      refine lv_istore_n (lv' := [(2, .int 0), (0, .ref b0), (1, .int h)]) hx hb dX8_pass_36 rfl hl (by decide) rfl (fun ls hl => ?_)
      refine lv_iconst (v := 0) hx hb dX8_pass_37 (by decide) ?_
      refine lv_istore_n (lv' := [(3, .int 0), (2, .int 0), (0, .ref b0), (1, .int h)]) hx hb dX8_pass_38 rfl hl (by decide) rfl (fun ls hl => ?_)
      have L_39 : ∀ (nn : Nat) (i : Nat) (t : Int32) (sc w : Nat → Int32) (H : Heap) (locs : List Loc) (ls : Array Slot), xS D A9 s9 [mW q b0 b1 b2 b3 b4 b5 b6 b7 b8 sc p3 sl sv pd w to ou (nI kn3) ln mn la op wr] H locs → lv_has ls 4 [(3, .int (nI i)), (2, .int t), (0, .ref b0), (1, .int h)] → (k < i + nn) → (i ≤ k) → (t = x_rep (x_hb s pr n (s 4)) i) → (sc = x_hrs s (x_hb s pr n (s 4)) (x_wh s pr n) i) → W p9 l e9 { frames := 6, cells := 0, slots := 0, locals := 139 } s9 m9 a9 below meth c9 H locs 0 0 Z9 (F0 m9 39 ls []) := by
        intro nn
        induction nn with
        | zero => intro i t sc w H locs ls X hl hfuel hi ht hsc; exact absurd hfuel (by omega)
        | succ nn ih_39 =>
          intro i t sc w H locs ls X hl hfuel hi ht hsc
          refine lv_iload_n hx hb dX8_pass_39 rfl (lv_at hl 0 rfl) ?_
          refine lv_iload_n hx hb dX8_pass_40 rfl (lv_at hl 3 rfl) ?_
          refine x_i (y := (nI k)) (ek) ?_
          refine lv_icmp_ge (tgt := 57) hx hb dX8_pass_41 (by decide) (fun c_41 => ?_) (fun c_41 => ?_)
          · have c_41 : k ≤ i := (nI_leI (a := k) (b := i) (by omega) (by omega)).mp c_41
            refine lv_iload_n hx hb dX8_pass_57 rfl (lv_at hl 1 rfl) ?_
            refine hret _ _ _ _ _ _ ?_ X dX8_pass_58
            obtain rfl : i = k := by omega
            refine ⟨_, _, _, _, rfl, Or.inl ⟨⟨b_4, ?_⟩, ?_, ?_, hk3, hp3⟩⟩
            · rw [hv2, ek, nI_add]; exact nI_nlt (a := 999) (by omega) (by omega)
            · rw [ek, nI_clamp (by omega)]; exact ht
            · rw [ek, nI_clamp (by omega)]; exact hsc
          · have c_41 : i < k := Nat.not_le.mp (fun h => c_41 ((nI_leI (a := k) (b := i) (by omega) (by omega)).mpr h))
            refine lv_iload_n hx hb dX8_pass_44 rfl (lv_at hl 1 rfl) ?_
            refine lv_aload_n hx hb dX8_pass_45 rfl (lv_at hl 2 rfl) ?_
            refine x_cVi F X (gc := [mW q b0 b1 b2 b3 b4 b5 b6 b7 b8 sc p3 sl sv pd w to ou (nI kn3) ln mn la op wr]) (gr := []) (xp_idx (n := 1) [0] (by decide +kernel) rfl rfl) (c_X8_anHour l D q b0 b1 b2 b3 b4 b5 b6 b7 b8 sc p3 sl sv pd w to ou kn3 ln mn la op wr n pr (by rw [hsc]; exact x_hrs_ok hok hv2 i (by omega))) (cwV 0 F.1.2.2.2.2 gX8_pass_X8_anHour rfl rfl rfl (by decide +kernel) ⟨Nat.le_of_ble_eq_true rfl, Nat.le_of_ble_eq_true rfl⟩) rfl rfl (r0 := 0) (ci := 8) (T := TX8) (N := 14) rfl rfl hl.1 ⟨Nat.le_of_ble_eq_true rfl, Nat.le_of_ble_eq_true rfl⟩ (Nat.le_of_ble_eq_true rfl) dX8_pass_46 (fun r_46 g1 H locs hp X => ?_)
            obtain ⟨fo2_46, rfl, rfl⟩ := hp
            have X : xS D A9 s9 [mW q b0 b1 b2 b3 b4 b5 b6 b7 b8 (x_hour sc (x_hb sc pr n (sc 4)) (x_wh sc pr n)) p3 sl sv pd fo2_46 to ou (nI kn3) ln mn la op wr] H locs := X
            refine x_i (y := (x_hb s pr n (s 4))) (by rw [hsc]; exact x_hrs_hb hn hpr2 i) ?_
            refine lv_iadd hx hb dX8_pass_49 ?_
            refine lv_istore_n (lv' := [(2, .int (t + (x_hb s pr n (s 4)))), (3, .int (nI i)), (0, .ref b0), (1, .int h)]) hx hb dX8_pass_50 rfl hl (by decide) rfl (fun ls hl => ?_)
            refine lv_iinc (v := (nI (i + 1))) (lv' := [(3, .int (nI (i + 1))), (2, .int (t + (x_hb s pr n (s 4)))), (0, .ref b0), (1, .int h)]) hx hb dX8_pass_51 hl (k := 1) rfl (nI_add i 1) (by decide) rfl (fun ls hl => ?_)
            refine lv_goto (tgt := 39) hx hb dX8_pass_54 (by decide) ?_
            exact ih_39 (i + 1) _ _ _ _ _ _ X (lv_sub hl [0, 1, 2, 3] rfl) (by omega) (by omega) (by rw [ht]; rfl) (by rw [hsc, x_hrs_hb hn hpr2 i, x_hrs_wh hn hpr2 i]; rfl)
      exact L_39 (k + 1) 0 _ _ _ _ _ _ X (lv_sub hl [0, 1, 2, 3] rfl) (by omega) (by omega) (by rfl) (by rfl)
    · have c_25 : 999 < v + k := Nat.not_le.mp (fun h => c_25 ((nI_leI (a := v + k) (b := 999) (by omega) (by omega)).mpr h))
      refine lv_bipush (v := (-5)) hx hb dX8_pass_28 (by decide) ?_
      refine hret _ _ _ _ _ _ ?_ X dX8_pass_30
      refine ⟨_, _, _, _, rfl, Or.inr ⟨fun h => h.2 ?_, (if_pos b_4).symm, rfl, rfl, rfl⟩⟩
      rw [hv2, ek, nI_add]
      exact nI_lt (a := 999) c_25 (by omega)
  · refine lv_if_ne (tgt := 13) hx hb dX8_pass_7 (by decide) (fun h => absurd (by decide) h) (fun _ => ?_)
    refine lv_bipush (v := (-2)) hx hb dX8_pass_10 (by decide) ?_
    exact hret _ _ _ _ _ _ (by exact ⟨_, _, _, _, rfl, Or.inr ⟨fun h => b_4 h.1, (if_neg b_4).symm, rfl, rfl, rfl⟩⟩) X dX8_pass_12

set_option maxHeartbeats 1000000 in
set_option maxRecDepth 100000 in
theorem c_X8_undo (l : Launch) (D : va_G) (q : xQ) (b0 : Nat) (b1 : Nat) (b2 : Nat) (b3 : Nat) (b4 : Nat) (b5 : Nat) (b6 : Nat) (b7 : Nat) (b8 : Nat) (s : Nat → Int32) (p : Nat → Int32) (sl : Nat → Int32) (sv : Nat → Int32) (pd : Nat → Int32) (fo : Nat → Int32) (to : Nat → Int32) (ou : Nat → Int32) (kn : Nat) (ln : Int32) (mn : Int32) (la : Int32) (op : Int32) (wr : Int32) (hk6 : kn ≤ 6) : xMi l yX8_undo wsX8_undo { frames := 0, cells := 0, slots := 0, locals := 0 } D q [.ref b0] [mW q b0 b1 b2 b3 b4 b5 b6 b7 b8 s p sl sv pd fo to ou (nI kn) ln mn la op wr] (fun r gw => ∃ (s2 : Nat → Int32), ∃ (kn2 : Nat), gw = [mW q b0 b1 b2 b3 b4 b5 b6 b7 b8 s2 p sl sv pd fo to ou (nI kn2) ln mn la op wr] ∧ ((kn = 0 ∧ r = -5 ∧ s2 = s ∧ kn2 = 0) ∨ (1 ≤ kn ∧ r = nI (kn - 1) ∧ kn2 = kn - 1 ∧ s2 = x_pt s (fun j => p (133 * (kn - 1) + j)) 0 133))) := by
  refine xMi_of (cc := cX8_undo) (maxL := 2) (rt := .int) (by decide) rfl (Nat.le_of_ble_eq_true rfl) (fun _ _ _ => rfl) ?_
  intro p9 e9 s9 m9 a9 below meth c9 A9 Z9 ls H locs F X hl hret
  have hx := F.1.1
  have hb := F.1.2.1
  have in_X8 : ∀ w ∈ wsX80, w ∈ wsX8_undo := by decide +kernel
  have mw_0 : Cond.fieldLink RX8 43 "HatWindsModel" "known" "I" ∈ wsX8_undo := by decide +kernel
  have mw_1 : Cond.fieldLink RX8 7 "HatWindsModel" "s" "[I" ∈ wsX8_undo := by decide +kernel
  have mw_2 : Cond.fieldLink RX8 13 "HatWindsModel" "past" "[I" ∈ wsX8_undo := by decide +kernel
  have hl : lv_has ls 2 [(0, .ref b0)] := hl
  refine lv_aload_n hx hb dX8_undo_0 rfl (lv_at hl 0 rfl) ?_
  refine x_get F X (v := .int (nI kn)) (C := RX8) (T := TX8) (N := 14) (ci := 8) in_X8 0 rfl rfl 2 (by decide) mw_0 rfl dX8_undo_1 ?_
  refine lv_if_ne (tgt := 10) hx hb dX8_undo_4 (by decide) (fun c_4 => ?_) (fun c_4 => ?_)
  · have c_4 : ¬ (kn = 0) := fun h => c_4 ((nI_eq (a := kn) (b := 0) (by omega) (by omega)).mpr h)
    refine lv_aload_n hx hb dX8_undo_10 rfl (lv_at hl 0 rfl) ?_
    refine lv_dup hx hb dX8_undo_11 rfl ?_
    refine x_get F X (v := .int (nI kn)) (C := RX8) (T := TX8) (N := 14) (ci := 8) in_X8 0 rfl rfl 2 (by decide) mw_0 rfl dX8_undo_12 ?_
    refine lv_iconst (v := 1) hx hb dX8_undo_15 (by decide) ?_
    refine lv_isub hx hb dX8_undo_16 ?_
    refine x_i (y := (nI (kn - 1))) (pk_sub (a := kn) (b := 1) (by omega)) ?_
    refine x_put F X (gs' := [mW q b0 b1 b2 b3 b4 b5 b6 b7 b8 s p sl sv pd fo to ou (nI (kn - 1)) ln mn la op wr]) (v := .int (nI (kn - 1))) (C := RX8) (T := TX8) (N := 14) (ci := 8) in_X8 tyX8 tyX8_ok nmX8 0 rfl rfl 2 (by decide) mw_0 rfl rfl rfl (Nat.le_of_ble_eq_true rfl) dX8_undo_17 rfl (fun H locs X => ?_)
    refine lv_iconst (v := 0) hx hb dX8_undo_20 (by decide) ?_
    refine lv_istore_n (lv' := [(1, .int 0), (0, .ref b0)]) hx hb dX8_undo_21 rfl hl (by decide) rfl (fun ls hl => ?_)
    have L_22 : ∀ (nn : Nat) (i : Nat) (w : Nat → Int32) (H : Heap) (locs : List Loc) (ls : Array Slot), xS D A9 s9 [mW q b0 b1 b2 b3 b4 b5 b6 b7 b8 w p sl sv pd fo to ou (nI (kn - 1)) ln mn la op wr] H locs → lv_has ls 2 [(1, .int (nI i)), (0, .ref b0)] → (133 < i + nn) → (i ≤ 133) → (w = x_pt s (fun j => p (133 * (kn - 1) + j)) 0 i) → W p9 l e9 { frames := 0, cells := 0, slots := 0, locals := 0 } s9 m9 a9 below meth c9 H locs 0 0 Z9 (F0 m9 22 ls []) := by
      intro nn
      induction nn with
      | zero => intro i w H locs ls X hl hfuel hi hw; exact absurd hfuel (by omega)
      | succ nn ih_22 =>
        intro i w H locs ls X hl hfuel hi hw
        refine lv_iload_n hx hb dX8_undo_22 rfl (lv_at hl 0 rfl) ?_
        refine lv_sipush (v := 133) hx hb dX8_undo_23 (by decide) ?_
        refine lv_icmp_ge (tgt := 56) hx hb dX8_undo_26 (by decide) (fun c_26 => ?_) (fun c_26 => ?_)
        · have c_26 : 133 ≤ i := (nI_leI (a := 133) (b := i) (by omega) (by omega)).mp c_26
          refine lv_aload_n hx hb dX8_undo_56 rfl (lv_at hl 1 rfl) ?_
          refine x_get F X (v := .int (nI (kn - 1))) (C := RX8) (T := TX8) (N := 14) (ci := 8) in_X8 0 rfl rfl 2 (by decide) mw_0 rfl dX8_undo_57 ?_
          refine hret _ _ _ _ _ _ ?_ X dX8_undo_60
          obtain rfl : i = 133 := by omega
          exact ⟨_, _, rfl, Or.inr ⟨by omega, rfl, rfl, hw⟩⟩
        · have c_26 : i < 133 := Nat.not_le.mp (fun h => c_26 ((nI_leI (a := 133) (b := i) (by omega) (by omega)).mpr h))
          refine lv_aload_n hx hb dX8_undo_29 rfl (lv_at hl 1 rfl) ?_
          refine x_get F X (v := .ref b1) (C := RX8) (T := TX8) (N := 14) (ci := 8) in_X8 0 rfl rfl 0 (by decide) mw_1 rfl dX8_undo_30 ?_
          refine lv_iload_n hx hb dX8_undo_33 rfl (lv_at hl 0 rfl) ?_
          refine lv_aload_n hx hb dX8_undo_34 rfl (lv_at hl 1 rfl) ?_
          refine x_get F X (v := .ref b2) (C := RX8) (T := TX8) (N := 14) (ci := 8) in_X8 0 rfl rfl 1 (by decide) mw_2 rfl dX8_undo_35 ?_
          refine lv_sipush (v := 133) hx hb dX8_undo_38 (by decide) ?_
          refine lv_aload_n hx hb dX8_undo_41 rfl (lv_at hl 1 rfl) ?_
          refine x_get F X (v := .int (nI (kn - 1))) (C := RX8) (T := TX8) (N := 14) (ci := 8) in_X8 0 rfl rfl 2 (by decide) mw_0 rfl dX8_undo_42 ?_
          refine lv_imul hx hb dX8_undo_45 ?_
          refine x_i (y := (nI (133 * (kn - 1)))) (pk_mul 133 (kn - 1)) ?_
          refine lv_iload_n hx hb dX8_undo_46 rfl (lv_at hl 0 rfl) ?_
          refine lv_iadd hx hb dX8_undo_47 ?_
          refine x_i (y := (nI (133 * (kn - 1) + i))) (nI_add (133 * (kn - 1)) i) ?_
          refine x_iald F X (v := (p (133 * (kn - 1) + i))) (n := 798) (f := p) 2 rfl (vp_in_nI (by omega) (by omega)) (x_cl (by omega)) dX8_undo_48 ?_
          refine x_iast F X (gs' := [mW q b0 b1 b2 b3 b4 b5 b6 b7 b8 (upd w i (p (133 * (kn - 1) + i))) p sl sv pd fo to ou (nI (kn - 1)) ln mn la op wr]) (n := 133) (f := w) (k := i) 1 rfl (vp_in_nI (by omega) (by omega)) (nI_clamp (by omega)) dX8_undo_49 rfl (fun H locs X => ?_)
          refine lv_iinc (v := (nI (i + 1))) (lv' := [(1, .int (nI (i + 1))), (0, .ref b0)]) hx hb dX8_undo_50 hl (k := 0) rfl (nI_add i 1) (by decide) rfl (fun ls hl => ?_)
          refine lv_goto (tgt := 22) hx hb dX8_undo_53 (by decide) ?_
          exact ih_22 (i + 1) _ _ _ _ X (lv_sub hl [0, 1] rfl) (by omega) (by omega) (by rw [hw, ← x_pt_s, Nat.zero_add])
    exact L_22 (134) 0 s _ _ _ X (lv_sub hl [0, 1] rfl) (by omega) (by omega) (by exact (x_pt_0 _ _ _).symm)
  · have c_4 : kn = 0 := (nI_eq (a := kn) (b := 0) (by omega) (by omega)).mp c_4
    refine lv_bipush (v := (-5)) hx hb dX8_undo_7 (by decide) ?_
    refine hret _ _ _ _ _ _ ?_ X dX8_undo_9
    obtain rfl := c_4
    exact ⟨_, 0, rfl, Or.inl ⟨rfl, rfl, rfl, rfl⟩⟩

set_option maxHeartbeats 1000000 in
set_option maxRecDepth 100000 in
theorem c_X8_save (l : Launch) (D : va_G) (q : xQ) (b0 : Nat) (b1 : Nat) (b2 : Nat) (b3 : Nat) (b4 : Nat) (b5 : Nat) (b6 : Nat) (b7 : Nat) (b8 : Nat) (s : Nat → Int32) (p : Nat → Int32) (sl : Nat → Int32) (sv : Nat → Int32) (pd : Nat → Int32) (fo : Nat → Int32) (to : Nat → Int32) (ou : Nat → Int32) (kn : Int32) (ln : Int32) (mn : Int32) (la : Int32) (op : Int32) (wr : Int32) (n : Nat) (st : Int32) (hs5 : s 5 = nI n) : xMi l yX8_save wsX8_save { frames := 1, cells := 0, slots := 0, locals := 22 } D q [.ref b0, .int st] [mW q b0 b1 b2 b3 b4 b5 b6 b7 b8 s p sl sv pd fo to ou kn ln mn la op wr] (fun r gw => ∃ (sl2 : Nat → Int32), ∃ (sv2 : Nat → Int32), gw = [mW q b0 b1 b2 b3 b4 b5 b6 b7 b8 s p sl2 sv2 pd fo to ou kn ln mn la op wr] ∧ ((∃ i, i < 2 ∧ st = nI i ∧ r = s 5 ∧ sl2 = x_pt sl s (133 * i) 133 ∧ sv2 = upd sv i 1) ∨ (¬ xIx st 2 ∧ r = -2 ∧ sl2 = sl ∧ sv2 = sv))) := by
  refine xMi_of (cc := cX8_save) (maxL := 3) (rt := .int) (by decide) rfl (Nat.le_of_ble_eq_true rfl) (fun _ _ _ => rfl) ?_
  intro p9 e9 s9 m9 a9 below meth c9 A9 Z9 ls H locs F X hl hret
  have hx := F.1.1
  have hb := F.1.2.1
  have in_X8 : ∀ w ∈ wsX80, w ∈ wsX8_save := by decide +kernel
  have mw_0 : Cond.initialized RX8 ∈ wsX8_save := by decide +kernel
  have mw_1 : Cond.fieldLink RX8 19 "HatWindsModel" "isSaved" "[Z" ∈ wsX8_save := by decide +kernel
  have mw_2 : Cond.fieldLink RX8 7 "HatWindsModel" "s" "[I" ∈ wsX8_save := by decide +kernel
  have mw_3 : Cond.fieldLink RX8 16 "HatWindsModel" "slots" "[I" ∈ wsX8_save := by decide +kernel
  have hl : lv_has ls 3 [(0, .ref b0), (1, .int st)] := hl
  refine lv_iload_n hx hb dX8_save_0 rfl (lv_at hl 1 rfl) ?_
  refine lv_iconst (v := 0) hx hb dX8_save_1 (by decide) ?_
  refine lv_iconst (v := 1) hx hb dX8_save_2 (by decide) ?_
  refine x_cSi F X (gc := []) (gr := [mW q b0 b1 b2 b3 b4 b5 b6 b7 b8 s p sl sv pd fo to ou kn ln mn la op wr]) (xp_idx (n := 1) [0] (by decide +kernel) rfl rfl) (c_X8_in l D q st 0 1 ) (va_cwS 3 F.1.2.2.2.2 gX8_save_X8_in rfl rfl rfl (by decide +kernel) ⟨Nat.le_of_ble_eq_true rfl, Nat.le_of_ble_eq_true rfl⟩) rfl rfl hl.1 ⟨Nat.le_of_ble_eq_true rfl, Nat.le_of_ble_eq_true rfl⟩ (Nat.le_of_ble_eq_true rfl) dX8_save_3 (fun r_3 g1 H locs hp X => ?_)
  obtain ⟨rfl, hz⟩ := hp
  have X : xS D A9 s9 [mW q b0 b1 b2 b3 b4 b5 b6 b7 b8 s p sl sv pd fo to ou kn ln mn la op wr] H locs := X
  rcases hz with ⟨rfl, b_3⟩ | ⟨rfl, b_3⟩
  · refine lv_if_ne (tgt := 12) hx hb dX8_save_6 (by decide) (fun _ => ?_) (fun h => absurd h (by decide))
    obtain ⟨z, -, hz1, ez⟩ := (x_rng (a := 0) (b := 1) (by omega) (by omega)).mp b_3
    refine lv_iconst (v := 0) hx hb dX8_save_12 (by decide) ?_
    refine lv_istore_n (lv' := [(2, .int 0), (0, .ref b0), (1, .int st)]) hx hb dX8_save_13 rfl hl (by decide) rfl (fun ls hl => ?_)
    have L_14 : ∀ (nn : Nat) (i : Nat) (w : Nat → Int32) (H : Heap) (locs : List Loc) (ls : Array Slot), xS D A9 s9 [mW q b0 b1 b2 b3 b4 b5 b6 b7 b8 s p w sv pd fo to ou kn ln mn la op wr] H locs → lv_has ls 3 [(2, .int (nI i)), (0, .ref b0), (1, .int st)] → (133 < i + nn) → (i ≤ 133) → (w = x_pt sl s (133 * z) i) → W p9 l e9 { frames := 1, cells := 0, slots := 0, locals := 22 } s9 m9 a9 below meth c9 H locs 0 0 Z9 (F0 m9 14 ls []) := by
      intro nn
      induction nn with
      | zero => intro i w H locs ls X hl hfuel hi hw; exact absurd hfuel (by omega)
      | succ nn ih_14 =>
        intro i w H locs ls X hl hfuel hi hw
        refine lv_iload_n hx hb dX8_save_14 rfl (lv_at hl 0 rfl) ?_
        refine lv_sipush (v := 133) hx hb dX8_save_15 (by decide) ?_
        refine lv_icmp_ge (tgt := 45) hx hb dX8_save_18 (by decide) (fun c_18 => ?_) (fun c_18 => ?_)
        · have c_18 : 133 ≤ i := (nI_leI (a := 133) (b := i) (by omega) (by omega)).mp c_18
          refine lv_aload_n hx hb dX8_save_45 rfl (lv_at hl 1 rfl) ?_
          refine x_get F X (v := .ref b4) (C := RX8) (T := TX8) (N := 14) (ci := 8) in_X8 0 rfl rfl 4 (by decide) mw_1 rfl dX8_save_46 ?_
          refine lv_iload_n hx hb dX8_save_49 rfl (lv_at hl 2 rfl) ?_
          refine x_i (y := (nI z)) (ez) ?_
          refine lv_iconst (v := 1) hx hb dX8_save_50 (by decide) ?_
          refine x_zast F X (gs' := [mW q b0 b1 b2 b3 b4 b5 b6 b7 b8 s p w (upd sv z 1) pd fo to ou kn ln mn la op wr]) (n := 2) (f := sv) (k := z) 4 rfl (vp_in_nI (by omega) (by omega)) (nI_clamp (by omega)) (by rfl) dX8_save_51 rfl (fun H locs X => ?_)
          refine lv_aload_n hx hb dX8_save_52 rfl (lv_at hl 1 rfl) ?_
          refine x_get F X (v := .ref b1) (C := RX8) (T := TX8) (N := 14) (ci := 8) in_X8 0 rfl rfl 0 (by decide) mw_2 rfl dX8_save_53 ?_
          refine lv_iconst (v := 5) hx hb dX8_save_56 (by decide) ?_
          refine x_iald F X (v := (s 5)) (n := 133) (f := s) 1 rfl (show vp_in (nI 5) _ from vp_in_nI (by omega) (by omega)) rfl dX8_save_57 ?_
          refine hret _ _ _ _ _ _ ?_ X dX8_save_58
          obtain rfl : i = 133 := by omega
          exact ⟨_, _, rfl, Or.inl ⟨z, by omega, ez, rfl, hw, rfl⟩⟩
        · have c_18 : i < 133 := Nat.not_le.mp (fun h => c_18 ((nI_leI (a := 133) (b := i) (by omega) (by omega)).mpr h))
          refine lv_aload_n hx hb dX8_save_21 rfl (lv_at hl 1 rfl) ?_
          refine x_get F X (v := .ref b3) (C := RX8) (T := TX8) (N := 14) (ci := 8) in_X8 0 rfl rfl 3 (by decide) mw_3 rfl dX8_save_22 ?_
          refine lv_sipush (v := 133) hx hb dX8_save_25 (by decide) ?_
          refine lv_iload_n hx hb dX8_save_28 rfl (lv_at hl 2 rfl) ?_
          refine x_i (y := (nI z)) (ez) ?_
          refine lv_imul hx hb dX8_save_29 ?_
          refine x_i (y := (nI (133 * z))) (pk_mul 133 z) ?_
          refine lv_iload_n hx hb dX8_save_30 rfl (lv_at hl 0 rfl) ?_
          refine lv_iadd hx hb dX8_save_31 ?_
          refine x_i (y := (nI (133 * z + i))) (nI_add (133 * z) i) ?_
          refine lv_aload_n hx hb dX8_save_32 rfl (lv_at hl 1 rfl) ?_
          refine x_get F X (v := .ref b1) (C := RX8) (T := TX8) (N := 14) (ci := 8) in_X8 0 rfl rfl 0 (by decide) mw_2 rfl dX8_save_33 ?_
          refine lv_iload_n hx hb dX8_save_36 rfl (lv_at hl 0 rfl) ?_
          refine x_iald F X (v := (s i)) (n := 133) (f := s) 1 rfl (vp_in_nI (by omega) (by omega)) (x_cl (by omega)) dX8_save_37 ?_
          refine x_iast F X (gs' := [mW q b0 b1 b2 b3 b4 b5 b6 b7 b8 s p (upd w (133 * z + i) (s i)) sv pd fo to ou kn ln mn la op wr]) (n := 266) (f := w) (k := (133 * z + i)) 3 rfl (vp_in_nI (by omega) (by omega)) (nI_clamp (by omega)) dX8_save_38 rfl (fun H locs X => ?_)
          refine lv_iinc (v := (nI (i + 1))) (lv' := [(2, .int (nI (i + 1))), (0, .ref b0), (1, .int st)]) hx hb dX8_save_39 hl (k := 0) rfl (nI_add i 1) (by decide) rfl (fun ls hl => ?_)
          refine lv_goto (tgt := 14) hx hb dX8_save_42 (by decide) ?_
          exact ih_14 (i + 1) _ _ _ _ X (lv_sub hl [0, 1, 2] rfl) (by omega) (by omega) (by rw [hw, ← x_pt_s])
    exact L_14 (134) 0 sl _ _ _ X (lv_sub hl [0, 1, 2] rfl) (by omega) (by omega) (by exact (x_pt_0 _ _ _).symm)
  · refine lv_if_ne (tgt := 12) hx hb dX8_save_6 (by decide) (fun h => absurd (by decide) h) (fun _ => ?_)
    refine lv_bipush (v := (-2)) hx hb dX8_save_9 (by decide) ?_
    exact hret _ _ _ _ _ _ (by exact ⟨_, _, rfl, Or.inr ⟨fun h => b_3 ((x_ix2 (n := 2) (by omega) (by omega)).mpr h), rfl, rfl, rfl⟩⟩) X dX8_save_11

set_option maxHeartbeats 1000000 in
set_option maxRecDepth 100000 in
theorem c_X8_restore (l : Launch) (D : va_G) (q : xQ) (b0 : Nat) (b1 : Nat) (b2 : Nat) (b3 : Nat) (b4 : Nat) (b5 : Nat) (b6 : Nat) (b7 : Nat) (b8 : Nat) (s : Nat → Int32) (p : Nat → Int32) (sl : Nat → Int32) (sv : Nat → Int32) (pd : Nat → Int32) (fo : Nat → Int32) (to : Nat → Int32) (ou : Nat → Int32) (kn : Nat) (ln : Int32) (mn : Int32) (la : Int32) (op : Int32) (wr : Int32) (st : Int32) (hk6 : kn ≤ 6) : xMi l yX8_restore wsX8_restore { frames := 1, cells := 0, slots := 0, locals := 22 } D q [.ref b0, .int st] [mW q b0 b1 b2 b3 b4 b5 b6 b7 b8 s p sl sv pd fo to ou (nI kn) ln mn la op wr] (fun r gw => ∃ (s2 : Nat → Int32), ∃ (p2 : Nat → Int32), ∃ (kn2 : Nat), gw = [mW q b0 b1 b2 b3 b4 b5 b6 b7 b8 s2 p2 sl sv pd fo to ou (nI kn2) ln mn la op wr] ∧ ((∃ i, i < 2 ∧ st = nI i ∧ ¬ sv i = 0 ∧ r = sl (133 * i + 5) ∧ s2 = x_pt s (fun j => sl (133 * i + j)) 0 133 ∧ x_push kn p s p2 kn2) ∨ (((¬ xIx st 2 ∧ r = -2) ∨ ∃ i, i < 2 ∧ st = nI i ∧ sv i = 0 ∧ r = -5) ∧ s2 = s ∧ p2 = p ∧ kn2 = kn))) := by
  refine xMi_of (cc := cX8_restore) (maxL := 3) (rt := .int) (by decide) rfl (Nat.le_of_ble_eq_true rfl) (fun _ _ _ => rfl) ?_
  intro p9 e9 s9 m9 a9 below meth c9 A9 Z9 ls H locs F X hl hret
  have hx := F.1.1
  have hb := F.1.2.1
  have in_X8 : ∀ w ∈ wsX80, w ∈ wsX8_restore := by decide +kernel
  have mw_0 : Cond.initialized RX8 ∈ wsX8_restore := by decide +kernel
  have mw_1 : Cond.fieldLink RX8 19 "HatWindsModel" "isSaved" "[Z" ∈ wsX8_restore := by decide +kernel
  have mw_2 : Cond.fieldLink RX8 7 "HatWindsModel" "s" "[I" ∈ wsX8_restore := by decide +kernel
  have mw_3 : Cond.fieldLink RX8 16 "HatWindsModel" "slots" "[I" ∈ wsX8_restore := by decide +kernel
  have hl : lv_has ls 3 [(0, .ref b0), (1, .int st)] := hl
  refine lv_iload_n hx hb dX8_restore_0 rfl (lv_at hl 1 rfl) ?_
  refine lv_iconst (v := 0) hx hb dX8_restore_1 (by decide) ?_
  refine lv_iconst (v := 1) hx hb dX8_restore_2 (by decide) ?_
  refine x_cSi F X (gc := []) (gr := [mW q b0 b1 b2 b3 b4 b5 b6 b7 b8 s p sl sv pd fo to ou (nI kn) ln mn la op wr]) (xp_idx (n := 1) [0] (by decide +kernel) rfl rfl) (c_X8_in l D q st 0 1 ) (va_cwS 3 F.1.2.2.2.2 gX8_restore_X8_in rfl rfl rfl (by decide +kernel) ⟨Nat.le_of_ble_eq_true rfl, Nat.le_of_ble_eq_true rfl⟩) rfl rfl hl.1 ⟨Nat.le_of_ble_eq_true rfl, Nat.le_of_ble_eq_true rfl⟩ (Nat.le_of_ble_eq_true rfl) dX8_restore_3 (fun r_3 g1 H locs hp X => ?_)
  obtain ⟨rfl, hz⟩ := hp
  have X : xS D A9 s9 [mW q b0 b1 b2 b3 b4 b5 b6 b7 b8 s p sl sv pd fo to ou (nI kn) ln mn la op wr] H locs := X
  rcases hz with ⟨rfl, b_3⟩ | ⟨rfl, b_3⟩
  · refine lv_if_ne (tgt := 12) hx hb dX8_restore_6 (by decide) (fun _ => ?_) (fun h => absurd h (by decide))
    obtain ⟨z, -, hz1, ez⟩ := (x_rng (a := 0) (b := 1) (by omega) (by omega)).mp b_3
    refine lv_aload_n hx hb dX8_restore_12 rfl (lv_at hl 0 rfl) ?_
    refine x_get F X (v := .ref b4) (C := RX8) (T := TX8) (N := 14) (ci := 8) in_X8 0 rfl rfl 4 (by decide) mw_1 rfl dX8_restore_13 ?_
    refine lv_iload_n hx hb dX8_restore_16 rfl (lv_at hl 1 rfl) ?_
    refine x_i (y := (nI z)) (ez) ?_
    refine x_zald F X (v := (sv z)) (n := 2) (f := sv) 4 rfl (vp_in_nI (by omega) (by omega)) (x_cl (by omega)) dX8_restore_17 ?_
    refine lv_if_ne (tgt := 24) hx hb dX8_restore_18 (by decide) (fun c_18 => ?_) (fun c_18 => ?_)
    · refine lv_aload_n hx hb dX8_restore_24 rfl (lv_at hl 0 rfl) ?_
      refine x_cVv F X (gc := [mW q b0 b1 b2 b3 b4 b5 b6 b7 b8 s p sl sv pd fo to ou (nI kn) ln mn la op wr]) (gr := []) (xp_idx (n := 1) [0] (by decide +kernel) rfl rfl) (c_X8_remembers l D q b0 b1 b2 b3 b4 b5 b6 b7 b8 s p sl sv pd fo to ou kn ln mn la op wr (by first | assumption | omega)) (cwV 0 F.1.2.2.2.2 gX8_restore_X8_remembers rfl rfl rfl (by decide +kernel) ⟨Nat.le_of_ble_eq_true rfl, Nat.le_of_ble_eq_true rfl⟩) rfl rfl (r0 := 0) (ci := 8) (T := TX8) (N := 14) rfl rfl hl.1 ⟨Nat.le_of_ble_eq_true rfl, Nat.le_of_ble_eq_true rfl⟩ (Nat.le_of_ble_eq_true rfl) dX8_restore_25 (fun g1 H locs hp X => ?_)
      obtain ⟨p3, kn3, rfl, hk3, hp3⟩ := hp
      have X : xS D A9 s9 [mW q b0 b1 b2 b3 b4 b5 b6 b7 b8 s p3 sl sv pd fo to ou (nI kn3) ln mn la op wr] H locs := X
      refine lv_iconst (v := 0) hx hb dX8_restore_28 (by decide) ?_
      refine lv_istore_n (lv' := [(2, .int 0), (0, .ref b0), (1, .int st)]) hx hb dX8_restore_29 rfl hl (by decide) rfl (fun ls hl => ?_)
      have L_30 : ∀ (nn : Nat) (i : Nat) (w : Nat → Int32) (H : Heap) (locs : List Loc) (ls : Array Slot), xS D A9 s9 [mW q b0 b1 b2 b3 b4 b5 b6 b7 b8 w p3 sl sv pd fo to ou (nI kn3) ln mn la op wr] H locs → lv_has ls 3 [(2, .int (nI i)), (0, .ref b0), (1, .int st)] → (133 < i + nn) → (i ≤ 133) → (w = x_pt s (fun j => sl (133 * z + j)) 0 i) → W p9 l e9 { frames := 1, cells := 0, slots := 0, locals := 22 } s9 m9 a9 below meth c9 H locs 0 0 Z9 (F0 m9 30 ls []) := by
        intro nn
        induction nn with
        | zero => intro i w H locs ls X hl hfuel hi hw; exact absurd hfuel (by omega)
        | succ nn ih_30 =>
          intro i w H locs ls X hl hfuel hi hw
          refine lv_iload_n hx hb dX8_restore_30 rfl (lv_at hl 0 rfl) ?_
          refine lv_sipush (v := 133) hx hb dX8_restore_31 (by decide) ?_
          refine lv_icmp_ge (tgt := 61) hx hb dX8_restore_34 (by decide) (fun c_34 => ?_) (fun c_34 => ?_)
          · have c_34 : 133 ≤ i := (nI_leI (a := 133) (b := i) (by omega) (by omega)).mp c_34
            refine lv_aload_n hx hb dX8_restore_61 rfl (lv_at hl 1 rfl) ?_
            refine x_get F X (v := .ref b1) (C := RX8) (T := TX8) (N := 14) (ci := 8) in_X8 0 rfl rfl 0 (by decide) mw_2 rfl dX8_restore_62 ?_
            refine lv_iconst (v := 5) hx hb dX8_restore_65 (by decide) ?_
            refine x_iald F X (v := (w 5)) (n := 133) (f := w) 1 rfl (show vp_in (nI 5) _ from vp_in_nI (by omega) (by omega)) rfl dX8_restore_66 ?_
            refine hret _ _ _ _ _ _ ?_ X dX8_restore_67
            obtain rfl : i = 133 := by omega
            exact ⟨_, _, _, rfl, Or.inl ⟨z, by omega, ez, c_18, by rw [hw, x_pt_in (by omega) (by omega)], hw, hk3, hp3⟩⟩
          · have c_34 : i < 133 := Nat.not_le.mp (fun h => c_34 ((nI_leI (a := 133) (b := i) (by omega) (by omega)).mpr h))
            refine lv_aload_n hx hb dX8_restore_37 rfl (lv_at hl 1 rfl) ?_
            refine x_get F X (v := .ref b1) (C := RX8) (T := TX8) (N := 14) (ci := 8) in_X8 0 rfl rfl 0 (by decide) mw_2 rfl dX8_restore_38 ?_
            refine lv_iload_n hx hb dX8_restore_41 rfl (lv_at hl 0 rfl) ?_
            refine lv_aload_n hx hb dX8_restore_42 rfl (lv_at hl 1 rfl) ?_
            refine x_get F X (v := .ref b3) (C := RX8) (T := TX8) (N := 14) (ci := 8) in_X8 0 rfl rfl 3 (by decide) mw_3 rfl dX8_restore_43 ?_
            refine lv_sipush (v := 133) hx hb dX8_restore_46 (by decide) ?_
            refine lv_iload_n hx hb dX8_restore_49 rfl (lv_at hl 2 rfl) ?_
            refine x_i (y := (nI z)) (ez) ?_
            refine lv_imul hx hb dX8_restore_50 ?_
            refine x_i (y := (nI (133 * z))) (pk_mul 133 z) ?_
            refine lv_iload_n hx hb dX8_restore_51 rfl (lv_at hl 0 rfl) ?_
            refine lv_iadd hx hb dX8_restore_52 ?_
            refine x_i (y := (nI (133 * z + i))) (nI_add (133 * z) i) ?_
            refine x_iald F X (v := (sl (133 * z + i))) (n := 266) (f := sl) 3 rfl (vp_in_nI (by omega) (by omega)) (x_cl (by omega)) dX8_restore_53 ?_
            refine x_iast F X (gs' := [mW q b0 b1 b2 b3 b4 b5 b6 b7 b8 (upd w i (sl (133 * z + i))) p3 sl sv pd fo to ou (nI kn3) ln mn la op wr]) (n := 133) (f := w) (k := i) 1 rfl (vp_in_nI (by omega) (by omega)) (nI_clamp (by omega)) dX8_restore_54 rfl (fun H locs X => ?_)
            refine lv_iinc (v := (nI (i + 1))) (lv' := [(2, .int (nI (i + 1))), (0, .ref b0), (1, .int st)]) hx hb dX8_restore_55 hl (k := 0) rfl (nI_add i 1) (by decide) rfl (fun ls hl => ?_)
            refine lv_goto (tgt := 30) hx hb dX8_restore_58 (by decide) ?_
            exact ih_30 (i + 1) _ _ _ _ X (lv_sub hl [0, 1, 2] rfl) (by omega) (by omega) (by rw [hw, ← x_pt_s, Nat.zero_add])
      exact L_30 (134) 0 s _ _ _ X (lv_sub hl [0, 1, 2] rfl) (by omega) (by omega) (by exact (x_pt_0 _ _ _).symm)
    · refine lv_bipush (v := (-5)) hx hb dX8_restore_21 (by decide) ?_
      exact hret _ _ _ _ _ _ (by exact ⟨_, _, _, rfl, Or.inr ⟨Or.inr ⟨z, by omega, ez, c_18, rfl⟩, rfl, rfl, rfl⟩⟩) X dX8_restore_23
  · refine lv_if_ne (tgt := 12) hx hb dX8_restore_6 (by decide) (fun h => absurd (by decide) h) (fun _ => ?_)
    refine lv_bipush (v := (-2)) hx hb dX8_restore_9 (by decide) ?_
    exact hret _ _ _ _ _ _ (by exact ⟨_, _, _, rfl, Or.inr ⟨Or.inl ⟨fun h => b_3 ((x_ix2 (n := 2) (by omega) (by omega)).mpr h), rfl⟩, rfl, rfl, rfl⟩⟩) X dX8_restore_11

set_option maxHeartbeats 1000000 in
set_option maxRecDepth 100000 in
theorem c_X8_begins (l : Launch) (D : va_G) (q : xQ) (b0 : Nat) (b1 : Nat) (b2 : Nat) (b3 : Nat) (b4 : Nat) (b5 : Nat) (b6 : Nat) (b7 : Nat) (b8 : Nat) (s : Nat → Int32) (p : Nat → Int32) (sl : Nat → Int32) (sv : Nat → Int32) (pd : Nat → Int32) (fo : Nat → Int32) (to : Nat → Int32) (ou : Nat → Int32) (kn : Int32) (ln : Int32) (mn : Nat) (la : Nat) (op : Int32) (wr : Int32) (wi : Int32) (hpk : x_pk mn la op to) : xMi l yX8_begins wsX8_begins { frames := 1, cells := 0, slots := 0, locals := 22 } D q [.ref b0, .int wi] [mW q b0 b1 b2 b3 b4 b5 b6 b7 b8 s p sl sv pd fo to ou kn ln (nI mn) (nI la) op wr] (fun r gw => ∃ (mn2 : Nat), ∃ (la2 : Nat), ∃ (op2 : Int32), ∃ (to2 : Nat → Int32), gw = [mW q b0 b1 b2 b3 b4 b5 b6 b7 b8 s p sl sv pd fo to2 ou kn ln (nI mn2) (nI la2) op2 wr] ∧ ((r = 1 ∧ (((1 ≤ wi ∧ wi ≤ 9) ∧ mn < 20 ∧ (op < 0 ∨ x_cn to op mn ≠ 4)) ∧ mn2 = mn + 1 ∧ la2 = 1 ∧ op2 = op ∧ to2 = x_new to mn op wi)) ∨ (r = 0 ∧ (¬ ((1 ≤ wi ∧ wi ≤ 9) ∧ mn < 20 ∧ (op < 0 ∨ x_cn to op mn ≠ 4)))))) := by
  refine xMi_of (cc := cX8_begins) (maxL := 4) (rt := .boolean) (by decide) rfl (Nat.le_of_ble_eq_true rfl) (fun v w h => by obtain ⟨_, _, _, _, _, (⟨rfl, _⟩ | ⟨rfl, _⟩)⟩ := h <;> rfl) ?_
  intro p9 e9 s9 m9 a9 below meth c9 A9 Z9 ls H locs F X hl hret
  have hx := F.1.1
  have hb := F.1.2.1
  have in_X8 : ∀ w ∈ wsX80, w ∈ wsX8_begins := by decide +kernel
  have mw_0 : Cond.fieldLink RX8 117 "HatWindsModel" "many" "I" ∈ wsX8_begins := by decide +kernel
  have mw_1 : Cond.initialized RX8 ∈ wsX8_begins := by decide +kernel
  have mw_2 : Cond.fieldLink RX8 120 "HatWindsModel" "open" "I" ∈ wsX8_begins := by decide +kernel
  have mw_3 : Cond.fieldLink RX8 29 "HatWindsModel" "told" "[I" ∈ wsX8_begins := by decide +kernel
  have mw_4 : Cond.fieldLink RX8 123 "HatWindsModel" "last" "I" ∈ wsX8_begins := by decide +kernel
  have hl : lv_has ls 4 [(0, .ref b0), (1, .int wi)] := hl
  have hm20 := hpk.1
  refine lv_iconst (v := 0) hx hb dX8_begins_0 (by decide) ?_
  refine lv_istore_n (lv' := [(2, .int 0), (0, .ref b0), (1, .int wi)]) hx hb dX8_begins_1 rfl hl (by decide) rfl (fun ls hl => ?_)
  refine lv_iconst (v := 0) hx hb dX8_begins_2 (by decide) ?_
  refine lv_istore_n (lv' := [(3, .int 0), (2, .int 0), (0, .ref b0), (1, .int wi)]) hx hb dX8_begins_3 rfl hl (by decide) rfl (fun ls hl => ?_)
  have L_4 : ∀ (nn : Nat) (j t : Nat) (H : Heap) (locs : List Loc) (ls : Array Slot), xS D A9 s9 [mW q b0 b1 b2 b3 b4 b5 b6 b7 b8 s p sl sv pd fo to ou kn ln (nI mn) (nI la) op wr] H locs → lv_has ls 4 [(3, .int (nI j)), (2, .int (nI t)), (0, .ref b0), (1, .int wi)] → (mn < j + nn) → (j ≤ mn) → (t = x_cn to op j) → (t ≤ j) → W p9 l e9 { frames := 1, cells := 0, slots := 0, locals := 22 } s9 m9 a9 below meth c9 H locs 0 0 Z9 (F0 m9 4 ls []) := by
    intro nn
    induction nn with
    | zero => intro j t H locs ls X hl hfuel hj ht htj; exact absurd hfuel (by omega)
    | succ nn ih_4 =>
      intro j t H locs ls X hl hfuel hj ht htj
      refine lv_iload_n hx hb dX8_begins_4 rfl (lv_at hl 0 rfl) ?_
      refine lv_aload_n hx hb dX8_begins_5 rfl (lv_at hl 2 rfl) ?_
      refine x_get F X (v := .int (nI mn)) (C := RX8) (T := TX8) (N := 14) (ci := 8) in_X8 0 rfl rfl 9 (by decide) mw_0 rfl dX8_begins_6 ?_
      refine lv_icmp_ge (tgt := 43) hx hb dX8_begins_9 (by decide) (fun c_9 => ?_) (fun c_9 => ?_)
      · have c_9 : mn ≤ j := (nI_leI (a := mn) (b := j) (by omega) (by omega)).mp c_9
        have ejm : j = mn := by omega
        rw [ejm] at ht
        have hcl := x_cn_le to op mn
        refine lv_iload_n hx hb dX8_begins_43 rfl (lv_at hl 3 rfl) ?_
        refine lv_iconst (v := 1) hx hb dX8_begins_44 (by decide) ?_
        refine lv_bipush (v := 9) hx hb dX8_begins_45 (by decide) ?_
        refine x_cSi F X (gc := []) (gr := [mW q b0 b1 b2 b3 b4 b5 b6 b7 b8 s p sl sv pd fo to ou kn ln (nI mn) (nI la) op wr]) (xp_idx (n := 1) [0] (by decide +kernel) rfl rfl) (c_X8_in l D q wi 1 9 ) (va_cwS 3 F.1.2.2.2.2 gX8_begins_X8_in rfl rfl rfl (by decide +kernel) ⟨Nat.le_of_ble_eq_true rfl, Nat.le_of_ble_eq_true rfl⟩) rfl rfl hl.1 ⟨Nat.le_of_ble_eq_true rfl, Nat.le_of_ble_eq_true rfl⟩ (Nat.le_of_ble_eq_true rfl) dX8_begins_47 (fun r_47 g1 H locs hp X => ?_)
        obtain ⟨rfl, hz⟩ := hp
        have X : xS D A9 s9 [mW q b0 b1 b2 b3 b4 b5 b6 b7 b8 s p sl sv pd fo to ou kn ln (nI mn) (nI la) op wr] H locs := X
        rcases hz with ⟨rfl, b_47⟩ | ⟨rfl, b_47⟩
        · refine lv_if_eq (tgt := 74) hx hb dX8_begins_50 (by decide) (fun h => absurd h (by decide)) (fun _ => ?_)
          refine lv_aload_n hx hb dX8_begins_53 rfl (lv_at hl 2 rfl) ?_
          refine x_get F X (v := .int (nI mn)) (C := RX8) (T := TX8) (N := 14) (ci := 8) in_X8 0 rfl rfl 9 (by decide) mw_0 rfl dX8_begins_54 ?_
          refine lv_bipush (v := 20) hx hb dX8_begins_57 (by decide) ?_
          refine lv_icmp_eq (tgt := 74) hx hb dX8_begins_59 (by decide) (fun c_59 => ?_) (fun c_59 => ?_)
          · have c_59 : mn = 20 := (nI_eq (a := mn) (b := 20) (by omega) (by omega)).mp c_59
            refine lv_iconst (v := 0) hx hb dX8_begins_74 (by decide) ?_
            exact hret _ _ _ _ _ _ (by exact ⟨_, _, _, _, rfl, Or.inr ⟨rfl, fun h => by have := h.2.1; omega⟩⟩) X dX8_begins_75
          · have c_59 : ¬ (mn = 20) := fun h => c_59 ((nI_eq (a := mn) (b := 20) (by omega) (by omega)).mpr h)
            refine lv_aload_n hx hb dX8_begins_62 rfl (lv_at hl 2 rfl) ?_
            refine x_get F X (v := .int op) (C := RX8) (T := TX8) (N := 14) (ci := 8) in_X8 0 rfl rfl 11 (by decide) mw_2 rfl dX8_begins_63 ?_
            refine lv_if_lt (tgt := 76) hx hb dX8_begins_66 (by decide) (fun c_66 => ?_) (fun c_66 => ?_)
            · refine lv_aload_n hx hb dX8_begins_76 rfl (lv_at hl 2 rfl) ?_
              refine x_get F X (v := .ref b7) (C := RX8) (T := TX8) (N := 14) (ci := 8) in_X8 0 rfl rfl 8 (by decide) mw_3 rfl dX8_begins_77 ?_
              refine lv_iconst (v := 5) hx hb dX8_begins_80 (by decide) ?_
              refine lv_aload_n hx hb dX8_begins_81 rfl (lv_at hl 2 rfl) ?_
              refine x_get F X (v := .int (nI mn)) (C := RX8) (T := TX8) (N := 14) (ci := 8) in_X8 0 rfl rfl 9 (by decide) mw_0 rfl dX8_begins_82 ?_
              refine lv_imul hx hb dX8_begins_85 ?_
              refine x_i (y := (nI (5 * mn))) (pk_mul 5 mn) ?_
              refine lv_iconst (v := 0) hx hb dX8_begins_86 (by decide) ?_
              refine lv_iadd hx hb dX8_begins_87 ?_
              refine x_i (y := (nI (5 * mn + 0))) (nI_add (5 * mn) 0) ?_
              refine lv_aload_n hx hb dX8_begins_88 rfl (lv_at hl 2 rfl) ?_
              refine x_get F X (v := .int op) (C := RX8) (T := TX8) (N := 14) (ci := 8) in_X8 0 rfl rfl 11 (by decide) mw_2 rfl dX8_begins_89 ?_
              refine x_iast F X (gs' := [mW q b0 b1 b2 b3 b4 b5 b6 b7 b8 s p sl sv pd fo (upd to (5 * mn + 0) op) ou kn ln (nI mn) (nI la) op wr]) (n := 100) (f := to) (k := (5 * mn + 0)) 7 rfl (vp_in_nI (by omega) (by omega)) (nI_clamp (by omega)) dX8_begins_92 rfl (fun H locs X => ?_)
              refine lv_aload_n hx hb dX8_begins_93 rfl (lv_at hl 2 rfl) ?_
              refine x_get F X (v := .ref b7) (C := RX8) (T := TX8) (N := 14) (ci := 8) in_X8 0 rfl rfl 8 (by decide) mw_3 rfl dX8_begins_94 ?_
              refine lv_iconst (v := 5) hx hb dX8_begins_97 (by decide) ?_
              refine lv_aload_n hx hb dX8_begins_98 rfl (lv_at hl 2 rfl) ?_
              refine x_get F X (v := .int (nI mn)) (C := RX8) (T := TX8) (N := 14) (ci := 8) in_X8 0 rfl rfl 9 (by decide) mw_0 rfl dX8_begins_99 ?_
              refine lv_imul hx hb dX8_begins_102 ?_
              refine x_i (y := (nI (5 * mn))) (pk_mul 5 mn) ?_
              refine lv_iconst (v := 1) hx hb dX8_begins_103 (by decide) ?_
              refine lv_iadd hx hb dX8_begins_104 ?_
              refine x_i (y := (nI (5 * mn + 1))) (nI_add (5 * mn) 1) ?_
              refine lv_iload_n hx hb dX8_begins_105 rfl (lv_at hl 3 rfl) ?_
              refine x_iast F X (gs' := [mW q b0 b1 b2 b3 b4 b5 b6 b7 b8 s p sl sv pd fo (upd (upd to (5 * mn + 0) op) (5 * mn + 1) wi) ou kn ln (nI mn) (nI la) op wr]) (n := 100) (f := (upd to (5 * mn + 0) op)) (k := (5 * mn + 1)) 7 rfl (vp_in_nI (by omega) (by omega)) (nI_clamp (by omega)) dX8_begins_106 rfl (fun H locs X => ?_)
              refine lv_aload_n hx hb dX8_begins_107 rfl (lv_at hl 2 rfl) ?_
              refine x_get F X (v := .ref b7) (C := RX8) (T := TX8) (N := 14) (ci := 8) in_X8 0 rfl rfl 8 (by decide) mw_3 rfl dX8_begins_108 ?_
              refine lv_iconst (v := 5) hx hb dX8_begins_111 (by decide) ?_
              refine lv_aload_n hx hb dX8_begins_112 rfl (lv_at hl 2 rfl) ?_
              refine x_get F X (v := .int (nI mn)) (C := RX8) (T := TX8) (N := 14) (ci := 8) in_X8 0 rfl rfl 9 (by decide) mw_0 rfl dX8_begins_113 ?_
              refine lv_imul hx hb dX8_begins_116 ?_
              refine x_i (y := (nI (5 * mn))) (pk_mul 5 mn) ?_
              refine lv_iconst (v := 2) hx hb dX8_begins_117 (by decide) ?_
              refine lv_iadd hx hb dX8_begins_118 ?_
              refine x_i (y := (nI (5 * mn + 2))) (nI_add (5 * mn) 2) ?_
              refine lv_iconst (v := 0) hx hb dX8_begins_119 (by decide) ?_
              refine x_iast F X (gs' := [mW q b0 b1 b2 b3 b4 b5 b6 b7 b8 s p sl sv pd fo (upd (upd (upd to (5 * mn + 0) op) (5 * mn + 1) wi) (5 * mn + 2) 0) ou kn ln (nI mn) (nI la) op wr]) (n := 100) (f := (upd (upd to (5 * mn + 0) op) (5 * mn + 1) wi)) (k := (5 * mn + 2)) 7 rfl (vp_in_nI (by omega) (by omega)) (nI_clamp (by omega)) dX8_begins_120 rfl (fun H locs X => ?_)
              refine lv_aload_n hx hb dX8_begins_121 rfl (lv_at hl 2 rfl) ?_
              refine x_get F X (v := .ref b7) (C := RX8) (T := TX8) (N := 14) (ci := 8) in_X8 0 rfl rfl 8 (by decide) mw_3 rfl dX8_begins_122 ?_
              refine lv_iconst (v := 5) hx hb dX8_begins_125 (by decide) ?_
              refine lv_aload_n hx hb dX8_begins_126 rfl (lv_at hl 2 rfl) ?_
              refine x_get F X (v := .int (nI mn)) (C := RX8) (T := TX8) (N := 14) (ci := 8) in_X8 0 rfl rfl 9 (by decide) mw_0 rfl dX8_begins_127 ?_
              refine lv_imul hx hb dX8_begins_130 ?_
              refine x_i (y := (nI (5 * mn))) (pk_mul 5 mn) ?_
              refine lv_iconst (v := 3) hx hb dX8_begins_131 (by decide) ?_
              refine lv_iadd hx hb dX8_begins_132 ?_
              refine x_i (y := (nI (5 * mn + 3))) (nI_add (5 * mn) 3) ?_
              refine lv_iconst (v := 0) hx hb dX8_begins_133 (by decide) ?_
              refine x_iast F X (gs' := [mW q b0 b1 b2 b3 b4 b5 b6 b7 b8 s p sl sv pd fo (upd (upd (upd (upd to (5 * mn + 0) op) (5 * mn + 1) wi) (5 * mn + 2) 0) (5 * mn + 3) 0) ou kn ln (nI mn) (nI la) op wr]) (n := 100) (f := (upd (upd (upd to (5 * mn + 0) op) (5 * mn + 1) wi) (5 * mn + 2) 0)) (k := (5 * mn + 3)) 7 rfl (vp_in_nI (by omega) (by omega)) (nI_clamp (by omega)) dX8_begins_134 rfl (fun H locs X => ?_)
              refine lv_aload_n hx hb dX8_begins_135 rfl (lv_at hl 2 rfl) ?_
              refine x_get F X (v := .ref b7) (C := RX8) (T := TX8) (N := 14) (ci := 8) in_X8 0 rfl rfl 8 (by decide) mw_3 rfl dX8_begins_136 ?_
              refine lv_iconst (v := 5) hx hb dX8_begins_139 (by decide) ?_
              refine lv_aload_n hx hb dX8_begins_140 rfl (lv_at hl 2 rfl) ?_
              refine x_get F X (v := .int (nI mn)) (C := RX8) (T := TX8) (N := 14) (ci := 8) in_X8 0 rfl rfl 9 (by decide) mw_0 rfl dX8_begins_141 ?_
              refine lv_imul hx hb dX8_begins_144 ?_
              refine x_i (y := (nI (5 * mn))) (pk_mul 5 mn) ?_
              refine lv_iconst (v := 4) hx hb dX8_begins_145 (by decide) ?_
              refine lv_iadd hx hb dX8_begins_146 ?_
              refine x_i (y := (nI (5 * mn + 4))) (nI_add (5 * mn) 4) ?_
              refine lv_iconst (v := 0) hx hb dX8_begins_147 (by decide) ?_
              refine x_iast F X (gs' := [mW q b0 b1 b2 b3 b4 b5 b6 b7 b8 s p sl sv pd fo (upd (upd (upd (upd (upd to (5 * mn + 0) op) (5 * mn + 1) wi) (5 * mn + 2) 0) (5 * mn + 3) 0) (5 * mn + 4) 0) ou kn ln (nI mn) (nI la) op wr]) (n := 100) (f := (upd (upd (upd (upd to (5 * mn + 0) op) (5 * mn + 1) wi) (5 * mn + 2) 0) (5 * mn + 3) 0)) (k := (5 * mn + 4)) 7 rfl (vp_in_nI (by omega) (by omega)) (nI_clamp (by omega)) dX8_begins_148 rfl (fun H locs X => ?_)
              refine lv_aload_n hx hb dX8_begins_149 rfl (lv_at hl 2 rfl) ?_
              refine lv_dup hx hb dX8_begins_150 rfl ?_
              refine x_get F X (v := .int (nI mn)) (C := RX8) (T := TX8) (N := 14) (ci := 8) in_X8 0 rfl rfl 9 (by decide) mw_0 rfl dX8_begins_151 ?_
              refine lv_iconst (v := 1) hx hb dX8_begins_154 (by decide) ?_
              refine lv_iadd hx hb dX8_begins_155 ?_
              refine x_i (y := (nI (mn + 1))) (nI_add mn 1) ?_
              refine x_put F X (gs' := [mW q b0 b1 b2 b3 b4 b5 b6 b7 b8 s p sl sv pd fo (upd (upd (upd (upd (upd to (5 * mn + 0) op) (5 * mn + 1) wi) (5 * mn + 2) 0) (5 * mn + 3) 0) (5 * mn + 4) 0) ou kn ln (nI (mn + 1)) (nI la) op wr]) (v := .int (nI (mn + 1))) (C := RX8) (T := TX8) (N := 14) (ci := 8) in_X8 tyX8 tyX8_ok nmX8 0 rfl rfl 9 (by decide) mw_0 rfl rfl rfl (Nat.le_of_ble_eq_true rfl) dX8_begins_156 rfl (fun H locs X => ?_)
              refine lv_aload_n hx hb dX8_begins_159 rfl (lv_at hl 2 rfl) ?_
              refine lv_iconst (v := 1) hx hb dX8_begins_160 (by decide) ?_
              refine x_put F X (gs' := [mW q b0 b1 b2 b3 b4 b5 b6 b7 b8 s p sl sv pd fo (upd (upd (upd (upd (upd to (5 * mn + 0) op) (5 * mn + 1) wi) (5 * mn + 2) 0) (5 * mn + 3) 0) (5 * mn + 4) 0) ou kn ln (nI (mn + 1)) 1 op wr]) (v := .int 1) (C := RX8) (T := TX8) (N := 14) (ci := 8) in_X8 tyX8 tyX8_ok nmX8 0 rfl rfl 10 (by decide) mw_4 rfl rfl rfl (Nat.le_of_ble_eq_true rfl) dX8_begins_161 rfl (fun H locs X => ?_)
              refine lv_iconst (v := 1) hx hb dX8_begins_164 (by decide) ?_
              exact hret _ _ _ _ _ _ (by exact ⟨mn + 1, 1, op, x_new to mn op wi, rfl, Or.inl ⟨rfl, ⟨b_47, by omega, Or.inl c_66⟩, rfl, rfl, rfl, rfl⟩⟩) X dX8_begins_165
            · refine lv_iload_n hx hb dX8_begins_69 rfl (lv_at hl 1 rfl) ?_
              refine lv_iconst (v := 4) hx hb dX8_begins_70 (by decide) ?_
              refine lv_icmp_ne (tgt := 76) hx hb dX8_begins_71 (by decide) (fun c_71 => ?_) (fun c_71 => ?_)
              · have c_71 : ¬ (t = 4) := fun h => c_71 ((nI_eq (a := t) (b := 4) (by omega) (by omega)).mpr h)
                refine lv_aload_n hx hb dX8_begins_76 rfl (lv_at hl 2 rfl) ?_
                refine x_get F X (v := .ref b7) (C := RX8) (T := TX8) (N := 14) (ci := 8) in_X8 0 rfl rfl 8 (by decide) mw_3 rfl dX8_begins_77 ?_
                refine lv_iconst (v := 5) hx hb dX8_begins_80 (by decide) ?_
                refine lv_aload_n hx hb dX8_begins_81 rfl (lv_at hl 2 rfl) ?_
                refine x_get F X (v := .int (nI mn)) (C := RX8) (T := TX8) (N := 14) (ci := 8) in_X8 0 rfl rfl 9 (by decide) mw_0 rfl dX8_begins_82 ?_
                refine lv_imul hx hb dX8_begins_85 ?_
                refine x_i (y := (nI (5 * mn))) (pk_mul 5 mn) ?_
                refine lv_iconst (v := 0) hx hb dX8_begins_86 (by decide) ?_
                refine lv_iadd hx hb dX8_begins_87 ?_
                refine x_i (y := (nI (5 * mn + 0))) (nI_add (5 * mn) 0) ?_
                refine lv_aload_n hx hb dX8_begins_88 rfl (lv_at hl 2 rfl) ?_
                refine x_get F X (v := .int op) (C := RX8) (T := TX8) (N := 14) (ci := 8) in_X8 0 rfl rfl 11 (by decide) mw_2 rfl dX8_begins_89 ?_
                refine x_iast F X (gs' := [mW q b0 b1 b2 b3 b4 b5 b6 b7 b8 s p sl sv pd fo (upd to (5 * mn + 0) op) ou kn ln (nI mn) (nI la) op wr]) (n := 100) (f := to) (k := (5 * mn + 0)) 7 rfl (vp_in_nI (by omega) (by omega)) (nI_clamp (by omega)) dX8_begins_92 rfl (fun H locs X => ?_)
                refine lv_aload_n hx hb dX8_begins_93 rfl (lv_at hl 2 rfl) ?_
                refine x_get F X (v := .ref b7) (C := RX8) (T := TX8) (N := 14) (ci := 8) in_X8 0 rfl rfl 8 (by decide) mw_3 rfl dX8_begins_94 ?_
                refine lv_iconst (v := 5) hx hb dX8_begins_97 (by decide) ?_
                refine lv_aload_n hx hb dX8_begins_98 rfl (lv_at hl 2 rfl) ?_
                refine x_get F X (v := .int (nI mn)) (C := RX8) (T := TX8) (N := 14) (ci := 8) in_X8 0 rfl rfl 9 (by decide) mw_0 rfl dX8_begins_99 ?_
                refine lv_imul hx hb dX8_begins_102 ?_
                refine x_i (y := (nI (5 * mn))) (pk_mul 5 mn) ?_
                refine lv_iconst (v := 1) hx hb dX8_begins_103 (by decide) ?_
                refine lv_iadd hx hb dX8_begins_104 ?_
                refine x_i (y := (nI (5 * mn + 1))) (nI_add (5 * mn) 1) ?_
                refine lv_iload_n hx hb dX8_begins_105 rfl (lv_at hl 3 rfl) ?_
                refine x_iast F X (gs' := [mW q b0 b1 b2 b3 b4 b5 b6 b7 b8 s p sl sv pd fo (upd (upd to (5 * mn + 0) op) (5 * mn + 1) wi) ou kn ln (nI mn) (nI la) op wr]) (n := 100) (f := (upd to (5 * mn + 0) op)) (k := (5 * mn + 1)) 7 rfl (vp_in_nI (by omega) (by omega)) (nI_clamp (by omega)) dX8_begins_106 rfl (fun H locs X => ?_)
                refine lv_aload_n hx hb dX8_begins_107 rfl (lv_at hl 2 rfl) ?_
                refine x_get F X (v := .ref b7) (C := RX8) (T := TX8) (N := 14) (ci := 8) in_X8 0 rfl rfl 8 (by decide) mw_3 rfl dX8_begins_108 ?_
                refine lv_iconst (v := 5) hx hb dX8_begins_111 (by decide) ?_
                refine lv_aload_n hx hb dX8_begins_112 rfl (lv_at hl 2 rfl) ?_
                refine x_get F X (v := .int (nI mn)) (C := RX8) (T := TX8) (N := 14) (ci := 8) in_X8 0 rfl rfl 9 (by decide) mw_0 rfl dX8_begins_113 ?_
                refine lv_imul hx hb dX8_begins_116 ?_
                refine x_i (y := (nI (5 * mn))) (pk_mul 5 mn) ?_
                refine lv_iconst (v := 2) hx hb dX8_begins_117 (by decide) ?_
                refine lv_iadd hx hb dX8_begins_118 ?_
                refine x_i (y := (nI (5 * mn + 2))) (nI_add (5 * mn) 2) ?_
                refine lv_iconst (v := 0) hx hb dX8_begins_119 (by decide) ?_
                refine x_iast F X (gs' := [mW q b0 b1 b2 b3 b4 b5 b6 b7 b8 s p sl sv pd fo (upd (upd (upd to (5 * mn + 0) op) (5 * mn + 1) wi) (5 * mn + 2) 0) ou kn ln (nI mn) (nI la) op wr]) (n := 100) (f := (upd (upd to (5 * mn + 0) op) (5 * mn + 1) wi)) (k := (5 * mn + 2)) 7 rfl (vp_in_nI (by omega) (by omega)) (nI_clamp (by omega)) dX8_begins_120 rfl (fun H locs X => ?_)
                refine lv_aload_n hx hb dX8_begins_121 rfl (lv_at hl 2 rfl) ?_
                refine x_get F X (v := .ref b7) (C := RX8) (T := TX8) (N := 14) (ci := 8) in_X8 0 rfl rfl 8 (by decide) mw_3 rfl dX8_begins_122 ?_
                refine lv_iconst (v := 5) hx hb dX8_begins_125 (by decide) ?_
                refine lv_aload_n hx hb dX8_begins_126 rfl (lv_at hl 2 rfl) ?_
                refine x_get F X (v := .int (nI mn)) (C := RX8) (T := TX8) (N := 14) (ci := 8) in_X8 0 rfl rfl 9 (by decide) mw_0 rfl dX8_begins_127 ?_
                refine lv_imul hx hb dX8_begins_130 ?_
                refine x_i (y := (nI (5 * mn))) (pk_mul 5 mn) ?_
                refine lv_iconst (v := 3) hx hb dX8_begins_131 (by decide) ?_
                refine lv_iadd hx hb dX8_begins_132 ?_
                refine x_i (y := (nI (5 * mn + 3))) (nI_add (5 * mn) 3) ?_
                refine lv_iconst (v := 0) hx hb dX8_begins_133 (by decide) ?_
                refine x_iast F X (gs' := [mW q b0 b1 b2 b3 b4 b5 b6 b7 b8 s p sl sv pd fo (upd (upd (upd (upd to (5 * mn + 0) op) (5 * mn + 1) wi) (5 * mn + 2) 0) (5 * mn + 3) 0) ou kn ln (nI mn) (nI la) op wr]) (n := 100) (f := (upd (upd (upd to (5 * mn + 0) op) (5 * mn + 1) wi) (5 * mn + 2) 0)) (k := (5 * mn + 3)) 7 rfl (vp_in_nI (by omega) (by omega)) (nI_clamp (by omega)) dX8_begins_134 rfl (fun H locs X => ?_)
                refine lv_aload_n hx hb dX8_begins_135 rfl (lv_at hl 2 rfl) ?_
                refine x_get F X (v := .ref b7) (C := RX8) (T := TX8) (N := 14) (ci := 8) in_X8 0 rfl rfl 8 (by decide) mw_3 rfl dX8_begins_136 ?_
                refine lv_iconst (v := 5) hx hb dX8_begins_139 (by decide) ?_
                refine lv_aload_n hx hb dX8_begins_140 rfl (lv_at hl 2 rfl) ?_
                refine x_get F X (v := .int (nI mn)) (C := RX8) (T := TX8) (N := 14) (ci := 8) in_X8 0 rfl rfl 9 (by decide) mw_0 rfl dX8_begins_141 ?_
                refine lv_imul hx hb dX8_begins_144 ?_
                refine x_i (y := (nI (5 * mn))) (pk_mul 5 mn) ?_
                refine lv_iconst (v := 4) hx hb dX8_begins_145 (by decide) ?_
                refine lv_iadd hx hb dX8_begins_146 ?_
                refine x_i (y := (nI (5 * mn + 4))) (nI_add (5 * mn) 4) ?_
                refine lv_iconst (v := 0) hx hb dX8_begins_147 (by decide) ?_
                refine x_iast F X (gs' := [mW q b0 b1 b2 b3 b4 b5 b6 b7 b8 s p sl sv pd fo (upd (upd (upd (upd (upd to (5 * mn + 0) op) (5 * mn + 1) wi) (5 * mn + 2) 0) (5 * mn + 3) 0) (5 * mn + 4) 0) ou kn ln (nI mn) (nI la) op wr]) (n := 100) (f := (upd (upd (upd (upd to (5 * mn + 0) op) (5 * mn + 1) wi) (5 * mn + 2) 0) (5 * mn + 3) 0)) (k := (5 * mn + 4)) 7 rfl (vp_in_nI (by omega) (by omega)) (nI_clamp (by omega)) dX8_begins_148 rfl (fun H locs X => ?_)
                refine lv_aload_n hx hb dX8_begins_149 rfl (lv_at hl 2 rfl) ?_
                refine lv_dup hx hb dX8_begins_150 rfl ?_
                refine x_get F X (v := .int (nI mn)) (C := RX8) (T := TX8) (N := 14) (ci := 8) in_X8 0 rfl rfl 9 (by decide) mw_0 rfl dX8_begins_151 ?_
                refine lv_iconst (v := 1) hx hb dX8_begins_154 (by decide) ?_
                refine lv_iadd hx hb dX8_begins_155 ?_
                refine x_i (y := (nI (mn + 1))) (nI_add mn 1) ?_
                refine x_put F X (gs' := [mW q b0 b1 b2 b3 b4 b5 b6 b7 b8 s p sl sv pd fo (upd (upd (upd (upd (upd to (5 * mn + 0) op) (5 * mn + 1) wi) (5 * mn + 2) 0) (5 * mn + 3) 0) (5 * mn + 4) 0) ou kn ln (nI (mn + 1)) (nI la) op wr]) (v := .int (nI (mn + 1))) (C := RX8) (T := TX8) (N := 14) (ci := 8) in_X8 tyX8 tyX8_ok nmX8 0 rfl rfl 9 (by decide) mw_0 rfl rfl rfl (Nat.le_of_ble_eq_true rfl) dX8_begins_156 rfl (fun H locs X => ?_)
                refine lv_aload_n hx hb dX8_begins_159 rfl (lv_at hl 2 rfl) ?_
                refine lv_iconst (v := 1) hx hb dX8_begins_160 (by decide) ?_
                refine x_put F X (gs' := [mW q b0 b1 b2 b3 b4 b5 b6 b7 b8 s p sl sv pd fo (upd (upd (upd (upd (upd to (5 * mn + 0) op) (5 * mn + 1) wi) (5 * mn + 2) 0) (5 * mn + 3) 0) (5 * mn + 4) 0) ou kn ln (nI (mn + 1)) 1 op wr]) (v := .int 1) (C := RX8) (T := TX8) (N := 14) (ci := 8) in_X8 tyX8 tyX8_ok nmX8 0 rfl rfl 10 (by decide) mw_4 rfl rfl rfl (Nat.le_of_ble_eq_true rfl) dX8_begins_161 rfl (fun H locs X => ?_)
                refine lv_iconst (v := 1) hx hb dX8_begins_164 (by decide) ?_
                exact hret _ _ _ _ _ _ (by exact ⟨mn + 1, 1, op, x_new to mn op wi, rfl, Or.inl ⟨rfl, ⟨b_47, by omega, Or.inr (by omega)⟩, rfl, rfl, rfl, rfl⟩⟩) X dX8_begins_165
              · have c_71 : t = 4 := (nI_eq (a := t) (b := 4) (by omega) (by omega)).mp c_71
                refine lv_iconst (v := 0) hx hb dX8_begins_74 (by decide) ?_
                exact hret _ _ _ _ _ _ (by exact ⟨_, _, _, _, rfl, Or.inr ⟨rfl, fun h => h.2.2.elim (fun q => absurd q (Int32.not_lt.mpr (Int32.not_lt.mp c_66))) (fun q => q (by omega))⟩⟩) X dX8_begins_75
        · refine lv_if_eq (tgt := 74) hx hb dX8_begins_50 (by decide) (fun _ => ?_) (fun h => absurd (by decide) h)
          refine lv_iconst (v := 0) hx hb dX8_begins_74 (by decide) ?_
          exact hret _ _ _ _ _ _ (by exact ⟨_, _, _, _, rfl, Or.inr ⟨rfl, fun h => b_47 h.1⟩⟩) X dX8_begins_75
      · have c_9 : j < mn := Nat.not_le.mp (fun h => c_9 ((nI_leI (a := mn) (b := j) (by omega) (by omega)).mpr h))
        refine lv_iload_n hx hb dX8_begins_12 rfl (lv_at hl 1 rfl) ?_
        refine lv_aload_n hx hb dX8_begins_13 rfl (lv_at hl 2 rfl) ?_
        refine x_get F X (v := .ref b7) (C := RX8) (T := TX8) (N := 14) (ci := 8) in_X8 0 rfl rfl 8 (by decide) mw_3 rfl dX8_begins_14 ?_
        refine lv_iconst (v := 5) hx hb dX8_begins_17 (by decide) ?_
        refine lv_iload_n hx hb dX8_begins_18 rfl (lv_at hl 0 rfl) ?_
        refine lv_imul hx hb dX8_begins_19 ?_
        refine x_i (y := (nI (5 * j))) (pk_mul 5 j) ?_
        refine lv_iconst (v := 0) hx hb dX8_begins_20 (by decide) ?_
        refine lv_iadd hx hb dX8_begins_21 ?_
        refine x_i (y := (nI (5 * j + 0))) (nI_add (5 * j) 0) ?_
        refine x_iald F X (v := (to (5 * j + 0))) (n := 100) (f := to) 7 rfl (vp_in_nI (by omega) (by omega)) (x_cl (by omega)) dX8_begins_22 ?_
        refine lv_aload_n hx hb dX8_begins_23 rfl (lv_at hl 2 rfl) ?_
        refine x_get F X (v := .int op) (C := RX8) (T := TX8) (N := 14) (ci := 8) in_X8 0 rfl rfl 11 (by decide) mw_2 rfl dX8_begins_24 ?_
        refine lv_icmp_ne (tgt := 34) hx hb dX8_begins_27 (by decide) (fun c_27 => ?_) (fun c_27 => ?_)
        · refine lv_iconst (v := 0) hx hb dX8_begins_34 (by decide) ?_
          refine lv_iadd hx hb dX8_begins_35 ?_
          refine x_i (y := (nI (t + 0))) (nI_add t 0) ?_
          refine lv_istore_n (lv' := [(2, .int (nI (t + 0))), (3, .int (nI j)), (0, .ref b0), (1, .int wi)]) hx hb dX8_begins_36 rfl hl (by decide) rfl (fun ls hl => ?_)
          refine lv_iinc (v := (nI (j + 1))) (lv' := [(3, .int (nI (j + 1))), (2, .int (nI (t + 0))), (0, .ref b0), (1, .int wi)]) hx hb dX8_begins_37 hl (k := 1) rfl (nI_add j 1) (by decide) rfl (fun ls hl => ?_)
          refine lv_goto (tgt := 4) hx hb dX8_begins_40 (by decide) ?_
          exact ih_4 (j + 1) (t + 0) _ _ _ X (lv_sub hl [0, 1, 2, 3] rfl) (by omega) (by omega) (by rw [x_cn, ← ht, if_neg (show ¬ to (5 * j) = op from c_27)]) (by omega)
        · refine lv_iconst (v := 1) hx hb dX8_begins_30 (by decide) ?_
          refine lv_goto (tgt := 35) hx hb dX8_begins_31 (by decide) ?_
          refine lv_iadd hx hb dX8_begins_35 ?_
          refine x_i (y := (nI (t + 1))) (nI_add t 1) ?_
          refine lv_istore_n (lv' := [(2, .int (nI (t + 1))), (3, .int (nI j)), (0, .ref b0), (1, .int wi)]) hx hb dX8_begins_36 rfl hl (by decide) rfl (fun ls hl => ?_)
          refine lv_iinc (v := (nI (j + 1))) (lv' := [(3, .int (nI (j + 1))), (2, .int (nI (t + 1))), (0, .ref b0), (1, .int wi)]) hx hb dX8_begins_37 hl (k := 1) rfl (nI_add j 1) (by decide) rfl (fun ls hl => ?_)
          refine lv_goto (tgt := 4) hx hb dX8_begins_40 (by decide) ?_
          exact ih_4 (j + 1) (t + 1) _ _ _ X (lv_sub hl [0, 1, 2, 3] rfl) (by omega) (by omega) (by rw [x_cn, ← ht, if_pos (show to (5 * j) = op from c_27)]) (by omega)
  exact L_4 (mn + 1) 0 0 _ _ _ X (lv_sub hl [0, 1, 2, 3] rfl) (by omega) (by omega) (by rfl) (by omega)

set_option maxHeartbeats 1000000 in
set_option maxRecDepth 100000 in
theorem c_X8_counts (l : Launch) (D : va_G) (q : xQ) (b0 : Nat) (b1 : Nat) (b2 : Nat) (b3 : Nat) (b4 : Nat) (b5 : Nat) (b6 : Nat) (b7 : Nat) (b8 : Nat) (s : Nat → Int32) (p : Nat → Int32) (sl : Nat → Int32) (sv : Nat → Int32) (pd : Nat → Int32) (fo : Nat → Int32) (to : Nat → Int32) (ou : Nat → Int32) (kn : Int32) (ln : Int32) (mn : Nat) (la : Nat) (op : Int32) (wr : Int32) (dg : Int32) (hpk : x_pk mn la op to) (hz0 : la ≠ 0) : xMi l yX8_counts wsX8_counts { frames := 0, cells := 0, slots := 0, locals := 0 } D q [.ref b0, .int dg] [mW q b0 b1 b2 b3 b4 b5 b6 b7 b8 s p sl sv pd fo to ou kn ln (nI mn) (nI la) op wr] (fun r gw => ∃ (mn2 : Nat), ∃ (la2 : Nat), ∃ (op2 : Int32), ∃ (to2 : Nat → Int32), gw = [mW q b0 b1 b2 b3 b4 b5 b6 b7 b8 s p sl sv pd fo to2 ou kn ln (nI mn2) (nI la2) op2 wr] ∧ ((r = 1 ∧ (((la = 4 ∨ la = 5) ∧ 0 ≤ dg) ∧ mn2 = mn ∧ la2 = (if la = 5 ∨ dg = 0 then 6 else 5) ∧ op2 = op ∧ to2 = upd to (5 * mn - 5 + 4) (10 * to (5 * mn - 5 + 4) + dg))) ∨ (r = 0 ∧ (¬ ((la = 4 ∨ la = 5) ∧ 0 ≤ dg))))) := by
  refine xMi_of (cc := cX8_counts) (maxL := 2) (rt := .boolean) (by decide) rfl (Nat.le_of_ble_eq_true rfl) (fun v w h => by obtain ⟨_, _, _, _, _, (⟨rfl, _⟩ | ⟨rfl, _⟩)⟩ := h <;> rfl) ?_
  intro p9 e9 s9 m9 a9 below meth c9 A9 Z9 ls H locs F X hl hret
  have hx := F.1.1
  have hb := F.1.2.1
  have in_X8 : ∀ w ∈ wsX80, w ∈ wsX8_counts := by decide +kernel
  have mw_0 : Cond.fieldLink RX8 123 "HatWindsModel" "last" "I" ∈ wsX8_counts := by decide +kernel
  have mw_1 : Cond.fieldLink RX8 29 "HatWindsModel" "told" "[I" ∈ wsX8_counts := by decide +kernel
  have mw_2 : Cond.fieldLink RX8 117 "HatWindsModel" "many" "I" ∈ wsX8_counts := by decide +kernel
  have hl : lv_has ls 2 [(0, .ref b0), (1, .int dg)] := hl
  have hm20 := hpk.1
  have hmn := x_pk_mn hpk hz0
  have hla7 := hpk.2.1
  refine lv_aload_n hx hb dX8_counts_0 rfl (lv_at hl 0 rfl) ?_
  refine x_get F X (v := .int (nI la)) (C := RX8) (T := TX8) (N := 14) (ci := 8) in_X8 0 rfl rfl 10 (by decide) mw_0 rfl dX8_counts_1 ?_
  refine lv_iconst (v := 4) hx hb dX8_counts_4 (by decide) ?_
  refine lv_icmp_eq (tgt := 16) hx hb dX8_counts_5 (by decide) (fun c_5 => ?_) (fun c_5 => ?_)
  · have c_5 : la = 4 := (nI_eq (a := la) (b := 4) (by omega) (by omega)).mp c_5
    refine lv_iload_n hx hb dX8_counts_16 rfl (lv_at hl 1 rfl) ?_
    refine lv_if_ge (tgt := 22) hx hb dX8_counts_17 (by decide) (fun c_17 => ?_) (fun c_17 => ?_)
    · refine lv_aload_n hx hb dX8_counts_22 rfl (lv_at hl 0 rfl) ?_
      refine x_get F X (v := .ref b7) (C := RX8) (T := TX8) (N := 14) (ci := 8) in_X8 0 rfl rfl 8 (by decide) mw_1 rfl dX8_counts_23 ?_
      refine lv_iconst (v := 5) hx hb dX8_counts_26 (by decide) ?_
      refine lv_aload_n hx hb dX8_counts_27 rfl (lv_at hl 0 rfl) ?_
      refine x_get F X (v := .int (nI mn)) (C := RX8) (T := TX8) (N := 14) (ci := 8) in_X8 0 rfl rfl 9 (by decide) mw_2 rfl dX8_counts_28 ?_
      refine lv_imul hx hb dX8_counts_31 ?_
      refine x_i (y := (nI (5 * mn))) (pk_mul 5 mn) ?_
      refine lv_iconst (v := 5) hx hb dX8_counts_32 (by decide) ?_
      refine lv_isub hx hb dX8_counts_33 ?_
      refine x_i (y := (nI ((5 * mn) - 5))) (pk_sub (a := (5 * mn)) (b := 5) (by omega)) ?_
      refine lv_iconst (v := 4) hx hb dX8_counts_34 (by decide) ?_
      refine lv_iadd hx hb dX8_counts_35 ?_
      refine x_i (y := (nI ((5 * mn) - 5 + 4))) (nI_add ((5 * mn) - 5) 4) ?_
      refine lv_bipush (v := 10) hx hb dX8_counts_36 (by decide) ?_
      refine lv_aload_n hx hb dX8_counts_38 rfl (lv_at hl 0 rfl) ?_
      refine x_get F X (v := .ref b7) (C := RX8) (T := TX8) (N := 14) (ci := 8) in_X8 0 rfl rfl 8 (by decide) mw_1 rfl dX8_counts_39 ?_
      refine lv_iconst (v := 5) hx hb dX8_counts_42 (by decide) ?_
      refine lv_aload_n hx hb dX8_counts_43 rfl (lv_at hl 0 rfl) ?_
      refine x_get F X (v := .int (nI mn)) (C := RX8) (T := TX8) (N := 14) (ci := 8) in_X8 0 rfl rfl 9 (by decide) mw_2 rfl dX8_counts_44 ?_
      refine lv_imul hx hb dX8_counts_47 ?_
      refine x_i (y := (nI (5 * mn))) (pk_mul 5 mn) ?_
      refine lv_iconst (v := 5) hx hb dX8_counts_48 (by decide) ?_
      refine lv_isub hx hb dX8_counts_49 ?_
      refine x_i (y := (nI ((5 * mn) - 5))) (pk_sub (a := (5 * mn)) (b := 5) (by omega)) ?_
      refine lv_iconst (v := 4) hx hb dX8_counts_50 (by decide) ?_
      refine lv_iadd hx hb dX8_counts_51 ?_
      refine x_i (y := (nI ((5 * mn) - 5 + 4))) (nI_add ((5 * mn) - 5) 4) ?_
      refine x_iald F X (v := (to ((5 * mn) - 5 + 4))) (n := 100) (f := to) 7 rfl (vp_in_nI (by omega) (by omega)) (x_cl (by omega)) dX8_counts_52 ?_
      refine lv_imul hx hb dX8_counts_53 ?_
      refine lv_iload_n hx hb dX8_counts_54 rfl (lv_at hl 1 rfl) ?_
      refine lv_iadd hx hb dX8_counts_55 ?_
      refine x_iast F X (gs' := [mW q b0 b1 b2 b3 b4 b5 b6 b7 b8 s p sl sv pd fo (upd to ((5 * mn) - 5 + 4) ((10 * (to ((5 * mn) - 5 + 4))) + dg)) ou kn ln (nI mn) (nI la) op wr]) (n := 100) (f := to) (k := ((5 * mn) - 5 + 4)) 7 rfl (vp_in_nI (by omega) (by omega)) (nI_clamp (by omega)) dX8_counts_56 rfl (fun H locs X => ?_)
      refine lv_aload_n hx hb dX8_counts_57 rfl (lv_at hl 0 rfl) ?_
      refine lv_aload_n hx hb dX8_counts_58 rfl (lv_at hl 0 rfl) ?_
      refine x_get F X (v := .int (nI la)) (C := RX8) (T := TX8) (N := 14) (ci := 8) in_X8 0 rfl rfl 10 (by decide) mw_0 rfl dX8_counts_59 ?_
      refine lv_iconst (v := 5) hx hb dX8_counts_62 (by decide) ?_
      refine lv_icmp_eq (tgt := 70) hx hb dX8_counts_63 (by decide) (fun c_63 => ?_) (fun c_63 => ?_)
      · exfalso
        have c_63 : la = 5 := (nI_eq (a := la) (b := 5) (by omega) (by omega)).mp c_63
        omega
      have c_63 : ¬ (la = 5) := fun h => c_63 ((nI_eq (a := la) (b := 5) (by omega) (by omega)).mpr h)
      refine lv_iload_n hx hb dX8_counts_66 rfl (lv_at hl 1 rfl) ?_
      refine lv_if_ne (tgt := 75) hx hb dX8_counts_67 (by decide) (fun c_67 => ?_) (fun c_67 => ?_)
      · refine lv_iconst (v := 5) hx hb dX8_counts_75 (by decide) ?_
        refine x_put F X (gs' := [mW q b0 b1 b2 b3 b4 b5 b6 b7 b8 s p sl sv pd fo (upd to ((5 * mn) - 5 + 4) ((10 * (to ((5 * mn) - 5 + 4))) + dg)) ou kn ln (nI mn) 5 op wr]) (v := .int 5) (C := RX8) (T := TX8) (N := 14) (ci := 8) in_X8 tyX8 tyX8_ok nmX8 0 rfl rfl 10 (by decide) mw_0 rfl rfl rfl (Nat.le_of_ble_eq_true rfl) dX8_counts_76 rfl (fun H locs X => ?_)
        refine lv_iconst (v := 1) hx hb dX8_counts_79 (by decide) ?_
        exact hret _ _ _ _ _ _ (by exact ⟨mn, _, op, _, rfl, Or.inl ⟨rfl, ⟨Or.inl c_5, c_17⟩, rfl, (if_neg (by rintro (q | q) <;> first | omega | exact c_67 q)).symm, rfl, rfl⟩⟩) X dX8_counts_80
      · refine lv_bipush (v := 6) hx hb dX8_counts_70 (by decide) ?_
        refine lv_goto (tgt := 76) hx hb dX8_counts_72 (by decide) ?_
        refine x_put F X (gs' := [mW q b0 b1 b2 b3 b4 b5 b6 b7 b8 s p sl sv pd fo (upd to ((5 * mn) - 5 + 4) ((10 * (to ((5 * mn) - 5 + 4))) + dg)) ou kn ln (nI mn) 6 op wr]) (v := .int 6) (C := RX8) (T := TX8) (N := 14) (ci := 8) in_X8 tyX8 tyX8_ok nmX8 0 rfl rfl 10 (by decide) mw_0 rfl rfl rfl (Nat.le_of_ble_eq_true rfl) dX8_counts_76 rfl (fun H locs X => ?_)
        refine lv_iconst (v := 1) hx hb dX8_counts_79 (by decide) ?_
        exact hret _ _ _ _ _ _ (by exact ⟨mn, _, op, _, rfl, Or.inl ⟨rfl, ⟨Or.inl c_5, c_17⟩, rfl, (if_pos (Or.inr c_67)).symm, rfl, rfl⟩⟩) X dX8_counts_80
    · refine lv_iconst (v := 0) hx hb dX8_counts_20 (by decide) ?_
      exact hret _ _ _ _ _ _ (by exact ⟨_, _, _, _, rfl, Or.inr ⟨rfl, fun h => c_17 h.2⟩⟩) X dX8_counts_21
  · have c_5 : ¬ (la = 4) := fun h => c_5 ((nI_eq (a := la) (b := 4) (by omega) (by omega)).mpr h)
    refine lv_aload_n hx hb dX8_counts_8 rfl (lv_at hl 0 rfl) ?_
    refine x_get F X (v := .int (nI la)) (C := RX8) (T := TX8) (N := 14) (ci := 8) in_X8 0 rfl rfl 10 (by decide) mw_0 rfl dX8_counts_9 ?_
    refine lv_iconst (v := 5) hx hb dX8_counts_12 (by decide) ?_
    refine lv_icmp_ne (tgt := 20) hx hb dX8_counts_13 (by decide) (fun c_13 => ?_) (fun c_13 => ?_)
    · have c_13 : ¬ (la = 5) := fun h => c_13 ((nI_eq (a := la) (b := 5) (by omega) (by omega)).mpr h)
      refine lv_iconst (v := 0) hx hb dX8_counts_20 (by decide) ?_
      exact hret _ _ _ _ _ _ (by exact ⟨_, _, _, _, rfl, Or.inr ⟨rfl, fun h => by have := h.1; omega⟩⟩) X dX8_counts_21
    · have c_13 : la = 5 := (nI_eq (a := la) (b := 5) (by omega) (by omega)).mp c_13
      refine lv_iload_n hx hb dX8_counts_16 rfl (lv_at hl 1 rfl) ?_
      refine lv_if_ge (tgt := 22) hx hb dX8_counts_17 (by decide) (fun c_17 => ?_) (fun c_17 => ?_)
      · refine lv_aload_n hx hb dX8_counts_22 rfl (lv_at hl 0 rfl) ?_
        refine x_get F X (v := .ref b7) (C := RX8) (T := TX8) (N := 14) (ci := 8) in_X8 0 rfl rfl 8 (by decide) mw_1 rfl dX8_counts_23 ?_
        refine lv_iconst (v := 5) hx hb dX8_counts_26 (by decide) ?_
        refine lv_aload_n hx hb dX8_counts_27 rfl (lv_at hl 0 rfl) ?_
        refine x_get F X (v := .int (nI mn)) (C := RX8) (T := TX8) (N := 14) (ci := 8) in_X8 0 rfl rfl 9 (by decide) mw_2 rfl dX8_counts_28 ?_
        refine lv_imul hx hb dX8_counts_31 ?_
        refine x_i (y := (nI (5 * mn))) (pk_mul 5 mn) ?_
        refine lv_iconst (v := 5) hx hb dX8_counts_32 (by decide) ?_
        refine lv_isub hx hb dX8_counts_33 ?_
        refine x_i (y := (nI ((5 * mn) - 5))) (pk_sub (a := (5 * mn)) (b := 5) (by omega)) ?_
        refine lv_iconst (v := 4) hx hb dX8_counts_34 (by decide) ?_
        refine lv_iadd hx hb dX8_counts_35 ?_
        refine x_i (y := (nI ((5 * mn) - 5 + 4))) (nI_add ((5 * mn) - 5) 4) ?_
        refine lv_bipush (v := 10) hx hb dX8_counts_36 (by decide) ?_
        refine lv_aload_n hx hb dX8_counts_38 rfl (lv_at hl 0 rfl) ?_
        refine x_get F X (v := .ref b7) (C := RX8) (T := TX8) (N := 14) (ci := 8) in_X8 0 rfl rfl 8 (by decide) mw_1 rfl dX8_counts_39 ?_
        refine lv_iconst (v := 5) hx hb dX8_counts_42 (by decide) ?_
        refine lv_aload_n hx hb dX8_counts_43 rfl (lv_at hl 0 rfl) ?_
        refine x_get F X (v := .int (nI mn)) (C := RX8) (T := TX8) (N := 14) (ci := 8) in_X8 0 rfl rfl 9 (by decide) mw_2 rfl dX8_counts_44 ?_
        refine lv_imul hx hb dX8_counts_47 ?_
        refine x_i (y := (nI (5 * mn))) (pk_mul 5 mn) ?_
        refine lv_iconst (v := 5) hx hb dX8_counts_48 (by decide) ?_
        refine lv_isub hx hb dX8_counts_49 ?_
        refine x_i (y := (nI ((5 * mn) - 5))) (pk_sub (a := (5 * mn)) (b := 5) (by omega)) ?_
        refine lv_iconst (v := 4) hx hb dX8_counts_50 (by decide) ?_
        refine lv_iadd hx hb dX8_counts_51 ?_
        refine x_i (y := (nI ((5 * mn) - 5 + 4))) (nI_add ((5 * mn) - 5) 4) ?_
        refine x_iald F X (v := (to ((5 * mn) - 5 + 4))) (n := 100) (f := to) 7 rfl (vp_in_nI (by omega) (by omega)) (x_cl (by omega)) dX8_counts_52 ?_
        refine lv_imul hx hb dX8_counts_53 ?_
        refine lv_iload_n hx hb dX8_counts_54 rfl (lv_at hl 1 rfl) ?_
        refine lv_iadd hx hb dX8_counts_55 ?_
        refine x_iast F X (gs' := [mW q b0 b1 b2 b3 b4 b5 b6 b7 b8 s p sl sv pd fo (upd to ((5 * mn) - 5 + 4) ((10 * (to ((5 * mn) - 5 + 4))) + dg)) ou kn ln (nI mn) (nI la) op wr]) (n := 100) (f := to) (k := ((5 * mn) - 5 + 4)) 7 rfl (vp_in_nI (by omega) (by omega)) (nI_clamp (by omega)) dX8_counts_56 rfl (fun H locs X => ?_)
        refine lv_aload_n hx hb dX8_counts_57 rfl (lv_at hl 0 rfl) ?_
        refine lv_aload_n hx hb dX8_counts_58 rfl (lv_at hl 0 rfl) ?_
        refine x_get F X (v := .int (nI la)) (C := RX8) (T := TX8) (N := 14) (ci := 8) in_X8 0 rfl rfl 10 (by decide) mw_0 rfl dX8_counts_59 ?_
        refine lv_iconst (v := 5) hx hb dX8_counts_62 (by decide) ?_
        refine lv_icmp_eq (tgt := 70) hx hb dX8_counts_63 (by decide) (fun c_63 => ?_) (fun c_63 => ?_)
        rotate_left
        · exfalso
          have c_63 : ¬ (la = 5) := fun h => c_63 ((nI_eq (a := la) (b := 5) (by omega) (by omega)).mpr h)
          omega
        have c_63 : la = 5 := (nI_eq (a := la) (b := 5) (by omega) (by omega)).mp c_63
        refine lv_bipush (v := 6) hx hb dX8_counts_70 (by decide) ?_
        refine lv_goto (tgt := 76) hx hb dX8_counts_72 (by decide) ?_
        refine x_put F X (gs' := [mW q b0 b1 b2 b3 b4 b5 b6 b7 b8 s p sl sv pd fo (upd to ((5 * mn) - 5 + 4) ((10 * (to ((5 * mn) - 5 + 4))) + dg)) ou kn ln (nI mn) 6 op wr]) (v := .int 6) (C := RX8) (T := TX8) (N := 14) (ci := 8) in_X8 tyX8 tyX8_ok nmX8 0 rfl rfl 10 (by decide) mw_0 rfl rfl rfl (Nat.le_of_ble_eq_true rfl) dX8_counts_76 rfl (fun H locs X => ?_)
        refine lv_iconst (v := 1) hx hb dX8_counts_79 (by decide) ?_
        exact hret _ _ _ _ _ _ (by exact ⟨mn, _, op, _, rfl, Or.inl ⟨rfl, ⟨Or.inr c_13, c_17⟩, rfl, (if_pos (Or.inl c_63)).symm, rfl, rfl⟩⟩) X dX8_counts_80
      · refine lv_iconst (v := 0) hx hb dX8_counts_20 (by decide) ?_
        exact hret _ _ _ _ _ _ (by exact ⟨_, _, _, _, rfl, Or.inr ⟨rfl, fun h => c_17 h.2⟩⟩) X dX8_counts_21

