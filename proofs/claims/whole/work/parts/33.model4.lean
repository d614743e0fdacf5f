set_option maxHeartbeats 1000000 in
set_option maxRecDepth 100000 in
theorem c_X8_ifWind (l : Launch) (D : va_G) (q : xQ) (b0 : Nat) (b1 : Nat) (b2 : Nat) (b3 : Nat) (b4 : Nat) (b5 : Nat) (b6 : Nat) (b7 : Nat) (b8 : Nat) (s : Nat → Int32) (p : Nat → Int32) (sl : Nat → Int32) (sv : Nat → Int32) (pd : Nat → Int32) (fo : Nat → Int32) (to : Nat → Int32) (ou : Nat → Int32) (kn : Int32) (ln : Int32) (mn : Int32) (la : Int32) (op : Int32) (wr : Int32) (n : Nat) (pr : Nat → Nat) (f : Int32) (hok : x_ok s n pr) : xMi l yX8_ifWind wsX8_ifWind { frames := 5, cells := 0, slots := 0, locals := 115 } D q [.ref b0, .int f] [mW q b0 b1 b2 b3 b4 b5 b6 b7 b8 s p sl sv pd fo to ou kn ln mn la op wr] (fun r gw => ∃ (fo2 : Nat → Int32), gw = [mW q b0 b1 b2 b3 b4 b5 b6 b7 b8 s p sl sv pd fo2 to ou kn ln mn la op wr] ∧ r = x_ifw s pr n f) := by
  refine xMi_of (cc := cX8_ifWind) (maxL := 2) (rt := .int) (by decide) rfl (Nat.le_of_ble_eq_true rfl) (fun _ _ _ => rfl) ?_
  intro p9 e9 s9 m9 a9 below meth c9 A9 Z9 ls H locs F X hl hret
  have hx := F.1.1
  have hb := F.1.2.1
  have mw_0 : Cond.initialized RX8 ∈ wsX8_ifWind := by decide +kernel
  have hl : lv_has ls 2 [(0, .ref b0), (1, .int f)] := hl
  refine lv_iload_n hx hb dX8_ifWind_0 rfl (lv_at hl 1 rfl) ?_
  refine lv_iconst (v := 0) hx hb dX8_ifWind_1 (by decide) ?_
  refine lv_sipush (v := 200) hx hb dX8_ifWind_2 (by decide) ?_
  refine x_cSi F X (gc := []) (gr := [mW q b0 b1 b2 b3 b4 b5 b6 b7 b8 s p sl sv pd fo to ou kn ln mn la op wr]) (xp_idx (n := 1) [0] (by decide +kernel) rfl rfl) (c_X8_in l D q f 0 200 ) (va_cwS 3 F.1.2.2.2.2 gX8_ifWind_X8_in rfl rfl rfl (by decide +kernel) ⟨Nat.le_of_ble_eq_true rfl, Nat.le_of_ble_eq_true rfl⟩) rfl rfl hl.1 ⟨Nat.le_of_ble_eq_true rfl, Nat.le_of_ble_eq_true rfl⟩ (Nat.le_of_ble_eq_true rfl) dX8_ifWind_5 (fun r_5 g1 H locs hp X => ?_)
  obtain ⟨rfl, hz⟩ := hp
  have X : xS D A9 s9 [mW q b0 b1 b2 b3 b4 b5 b6 b7 b8 s p sl sv pd fo to ou kn ln mn la op wr] H locs := X
  rcases hz with ⟨rfl, b_5⟩ | ⟨rfl, b_5⟩
  · refine lv_if_eq (tgt := 19) hx hb dX8_ifWind_8 (by decide) (fun h => absurd h (by decide)) (fun _ => ?_)
    refine lv_aload_n hx hb dX8_ifWind_11 rfl (lv_at hl 0 rfl) ?_
    refine lv_iload_n hx hb dX8_ifWind_12 rfl (lv_at hl 1 rfl) ?_
    refine x_cVi F X (gc := [mW q b0 b1 b2 b3 b4 b5 b6 b7 b8 s p sl sv pd fo to ou kn ln mn la op wr]) (gr := []) (xp_idx (n := 1) [0] (by decide +kernel) rfl rfl) (c_X8_hatsBy l D q b0 b1 b2 b3 b4 b5 b6 b7 b8 s p sl sv pd fo to ou kn ln mn la op wr n pr f (by first | assumption | omega)) (cwV 1 F.1.2.2.2.2 gX8_ifWind_X8_hatsBy rfl rfl rfl (by decide +kernel) ⟨Nat.le_of_ble_eq_true rfl, Nat.le_of_ble_eq_true rfl⟩) rfl rfl (r0 := 0) (ci := 8) (T := TX8) (N := 14) rfl rfl hl.1 ⟨Nat.le_of_ble_eq_true rfl, Nat.le_of_ble_eq_true rfl⟩ (Nat.le_of_ble_eq_true rfl) dX8_ifWind_13 (fun r_13 g1 H locs hp X => ?_)
    obtain ⟨fo2_13, rfl, rfl, hfo2_13⟩ := hp
    have X : xS D A9 s9 [mW q b0 b1 b2 b3 b4 b5 b6 b7 b8 s p sl sv pd fo2_13 to ou kn ln mn la op wr] H locs := X
    refine lv_goto (tgt := 21) hx hb dX8_ifWind_16 (by decide) ?_
    exact hret _ _ _ _ _ _ (by exact ⟨_, rfl, (if_pos b_5).symm⟩) X dX8_ifWind_21
  · refine lv_if_eq (tgt := 19) hx hb dX8_ifWind_8 (by decide) (fun _ => ?_) (fun h => absurd (by decide) h)
    refine lv_bipush (v := (-2)) hx hb dX8_ifWind_19 (by decide) ?_
    exact hret _ _ _ _ _ _ (by exact ⟨_, rfl, (if_neg b_5).symm⟩) X dX8_ifWind_21

set_option maxHeartbeats 1000000 in
set_option maxRecDepth 100000 in
theorem c_X8_windFor (l : Launch) (D : va_G) (q : xQ) (b0 : Nat) (b1 : Nat) (b2 : Nat) (b3 : Nat) (b4 : Nat) (b5 : Nat) (b6 : Nat) (b7 : Nat) (b8 : Nat) (s : Nat → Int32) (p : Nat → Int32) (sl : Nat → Int32) (sv : Nat → Int32) (pd : Nat → Int32) (fo : Nat → Int32) (to : Nat → Int32) (ou : Nat → Int32) (kn : Int32) (ln : Int32) (mn : Int32) (la : Int32) (op : Int32) (wr : Int32) (n : Nat) (pr : Nat → Nat) (h : Int32) (hok : x_ok s n pr) : xMi l yX8_windFor wsX8_windFor { frames := 5, cells := 0, slots := 0, locals := 115 } D q [.ref b0, .int h] [mW q b0 b1 b2 b3 b4 b5 b6 b7 b8 s p sl sv pd fo to ou kn ln mn la op wr] (fun r gw => ∃ (fo2 : Nat → Int32), gw = [mW q b0 b1 b2 b3 b4 b5 b6 b7 b8 s p sl sv pd fo2 to ou kn ln mn la op wr] ∧ r = x_wf s pr n h) := by
  refine xMi_of (cc := cX8_windFor) (maxL := 3) (rt := .int) (by decide) rfl (Nat.le_of_ble_eq_true rfl) (fun _ _ _ => rfl) ?_
  intro p9 e9 s9 m9 a9 below meth c9 A9 Z9 ls H locs F X hl hret
  have hx := F.1.1
  have hb := F.1.2.1
  have mw_0 : Cond.initialized RX8 ∈ wsX8_windFor := by decide +kernel
  have hl : lv_has ls 3 [(0, .ref b0), (1, .int h)] := hl
  refine lv_iload_n hx hb dX8_windFor_0 rfl (lv_at hl 1 rfl) ?_
  refine lv_iconst (v := 1) hx hb dX8_windFor_1 (by decide) ?_
  refine lv_sipush (v := 999) hx hb dX8_windFor_2 (by decide) ?_
  refine x_cSi F X (gc := []) (gr := [mW q b0 b1 b2 b3 b4 b5 b6 b7 b8 s p sl sv pd fo to ou kn ln mn la op wr]) (xp_idx (n := 1) [0] (by decide +kernel) rfl rfl) (c_X8_in l D q h 1 999 ) (va_cwS 3 F.1.2.2.2.2 gX8_windFor_X8_in rfl rfl rfl (by decide +kernel) ⟨Nat.le_of_ble_eq_true rfl, Nat.le_of_ble_eq_true rfl⟩) rfl rfl hl.1 ⟨Nat.le_of_ble_eq_true rfl, Nat.le_of_ble_eq_true rfl⟩ (Nat.le_of_ble_eq_true rfl) dX8_windFor_5 (fun r_5 g1 H locs hp X => ?_)
  obtain ⟨rfl, hz⟩ := hp
  have X : xS D A9 s9 [mW q b0 b1 b2 b3 b4 b5 b6 b7 b8 s p sl sv pd fo to ou kn ln mn la op wr] H locs := X
  rcases hz with ⟨rfl, b_5⟩ | ⟨rfl, b_5⟩
  · refine lv_if_ne (tgt := 14) hx hb dX8_windFor_8 (by decide) (fun _ => ?_) (fun h => absurd h (by decide))
    refine lv_iconst (v := 0) hx hb dX8_windFor_14 (by decide) ?_
    refine lv_istore_n (lv' := [(2, .int 0), (0, .ref b0), (1, .int h)]) hx hb dX8_windFor_15 rfl hl (by decide) rfl (fun ls hl => ?_)
    have L_16 : ∀ (nn : Nat) (i : Nat) (w : Nat → Int32) (H : Heap) (locs : List Loc) (ls : Array Slot), xS D A9 s9 [mW q b0 b1 b2 b3 b4 b5 b6 b7 b8 s p sl sv pd w to ou kn ln mn la op wr] H locs → lv_has ls 3 [(2, .int (nI i)), (0, .ref b0), (1, .int h)] → (201 < i + nn) → (i ≤ 201) → (x_fnd (x_hb s pr n) h 0 201 = x_fnd (x_hb s pr n) h i (201 - i)) → W p9 l e9 { frames := 5, cells := 0, slots := 0, locals := 115 } s9 m9 a9 below meth c9 H locs 0 0 Z9 (F0 m9 16 ls []) := by
      intro nn
      induction nn with
      | zero => intro i w H locs ls X hl hfuel hi hw; exact absurd hfuel (by omega)
      | succ nn ih_16 =>
        intro i w H locs ls X hl hfuel hi hw
        refine lv_iload_n hx hb dX8_windFor_16 rfl (lv_at hl 0 rfl) ?_
        refine lv_sipush (v := 200) hx hb dX8_windFor_17 (by decide) ?_
        refine lv_icmp_gt (tgt := 40) hx hb dX8_windFor_20 (by decide) (fun c_20 => ?_) (fun c_20 => ?_)
        · have c_20 : 200 < i := (nI_ltI (a := 200) (b := i) (by omega) (by omega)).mp c_20
          refine lv_bipush (v := (-6)) hx hb dX8_windFor_40 (by decide) ?_
          exact hret _ _ _ _ _ _ (by exact ⟨_, rfl, by unfold x_wf; rw [if_pos b_5, hw, show 201 - i = 0 by omega]; rfl⟩) X dX8_windFor_42
        · have c_20 : i ≤ 200 := Nat.not_lt.mp (fun h => c_20 ((nI_ltI (a := 200) (b := i) (by omega) (by omega)).mpr h))
          refine lv_aload_n hx hb dX8_windFor_23 rfl (lv_at hl 1 rfl) ?_
          refine lv_iload_n hx hb dX8_windFor_24 rfl (lv_at hl 0 rfl) ?_
          refine x_cVi F X (gc := [mW q b0 b1 b2 b3 b4 b5 b6 b7 b8 s p sl sv pd w to ou kn ln mn la op wr]) (gr := []) (xp_idx (n := 1) [0] (by decide +kernel) rfl rfl) (c_X8_hatsBy l D q b0 b1 b2 b3 b4 b5 b6 b7 b8 s p sl sv pd w to ou kn ln mn la op wr n pr (nI i) (by first | assumption | omega)) (cwV 1 F.1.2.2.2.2 gX8_windFor_X8_hatsBy rfl rfl rfl (by decide +kernel) ⟨Nat.le_of_ble_eq_true rfl, Nat.le_of_ble_eq_true rfl⟩) rfl rfl (r0 := 0) (ci := 8) (T := TX8) (N := 14) rfl rfl hl.1 ⟨Nat.le_of_ble_eq_true rfl, Nat.le_of_ble_eq_true rfl⟩ (Nat.le_of_ble_eq_true rfl) dX8_windFor_25 (fun r_25 g1 H locs hp X => ?_)
          obtain ⟨fo2_25, rfl, rfl, hfo2_25⟩ := hp
          have X : xS D A9 s9 [mW q b0 b1 b2 b3 b4 b5 b6 b7 b8 s p sl sv pd fo2_25 to ou kn ln mn la op wr] H locs := X
          refine lv_iload_n hx hb dX8_windFor_28 rfl (lv_at hl 2 rfl) ?_
          refine lv_icmp_lt (tgt := 34) hx hb dX8_windFor_29 (by decide) (fun c_29 => ?_) (fun c_29 => ?_)
          · refine lv_iinc (v := (nI (i + 1))) (lv' := [(2, .int (nI (i + 1))), (0, .ref b0), (1, .int h)]) hx hb dX8_windFor_34 hl (k := 0) rfl (nI_add i 1) (by decide) rfl (fun ls hl => ?_)
            refine lv_goto (tgt := 16) hx hb dX8_windFor_37 (by decide) ?_
            exact ih_16 (i + 1) _ _ _ _ X (lv_sub hl [0, 1, 2] rfl) (by omega) (by omega) (by rw [hw, show 201 - i = 201 - (i + 1) + 1 by omega, x_fnd_no (Int32.not_le.mpr c_29)])
          · refine lv_iload_n hx hb dX8_windFor_32 rfl (lv_at hl 0 rfl) ?_
            exact hret _ _ _ _ _ _ (by exact ⟨_, rfl, by unfold x_wf; rw [if_pos b_5, hw, show 201 - i = 201 - (i + 1) + 1 by omega, x_fnd_yes (Int32.not_lt.mp c_29)]⟩) X dX8_windFor_33
    exact L_16 (202) 0 _ _ _ _ X (lv_sub hl [0, 1, 2] rfl) (by omega) (by omega) (by rfl)
  · refine lv_if_ne (tgt := 14) hx hb dX8_windFor_8 (by decide) (fun h => absurd (by decide) h) (fun _ => ?_)
    refine lv_bipush (v := (-2)) hx hb dX8_windFor_11 (by decide) ?_
    exact hret _ _ _ _ _ _ (by exact ⟨_, rfl, (if_neg b_5).symm⟩) X dX8_windFor_13

set_option maxHeartbeats 1000000 in
set_option maxRecDepth 100000 in
theorem c_X8_windOfFlag (l : Launch) (D : va_G) (q : xQ) (b0 : Nat) (b1 : Nat) (b2 : Nat) (b3 : Nat) (b4 : Nat) (b5 : Nat) (b6 : Nat) (b7 : Nat) (b8 : Nat) (s : Nat → Int32) (p : Nat → Int32) (sl : Nat → Int32) (sv : Nat → Int32) (pd : Nat → Int32) (fo : Nat → Int32) (to : Nat → Int32) (ou : Nat → Int32) (kn : Int32) (ln : Int32) (mn : Int32) (la : Int32) (op : Int32) (wr : Int32) (n : Nat) (pr : Nat → Nat) (st : Int32) (h : Int32) (hok : x_ok s n pr) : xMi l yX8_windOfFlag wsX8_windOfFlag { frames := 4, cells := 0, slots := 0, locals := 92 } D q [.ref b0, .int st, .int h] [mW q b0 b1 b2 b3 b4 b5 b6 b7 b8 s p sl sv pd fo to ou kn ln mn la op wr] (fun r gw => ∃ (fo2 : Nat → Int32), gw = [mW q b0 b1 b2 b3 b4 b5 b6 b7 b8 s p sl sv pd fo2 to ou kn ln mn la op wr] ∧ r = x_st n st (x_wofk s pr n h)) := by
  refine xMi_of (cc := cX8_windOfFlag) (maxL := 4) (rt := .int) (by decide) rfl (Nat.le_of_ble_eq_true rfl) (fun _ _ _ => rfl) ?_
  intro p9 e9 s9 m9 a9 below meth c9 A9 Z9 ls H locs F X hl hret
  have hx := F.1.1
  have hb := F.1.2.1
  have mw_0 : Cond.initialized RX8 ∈ wsX8_windOfFlag := by decide +kernel
  have hl : lv_has ls 4 [(0, .ref b0), (1, .int st), (2, .int h)] := hl
  have hok0 := hok
  obtain ⟨hn, hn1, hs5, hs33, hpr, hwd, hcl, hsm, hpe, hst, hle, hhr, hcn⟩ := hok0
  refine lv_aload_n hx hb dX8_windOfFlag_0 rfl (lv_at hl 0 rfl) ?_
  refine lv_iload_n hx hb dX8_windOfFlag_1 rfl (lv_at hl 1 rfl) ?_
  refine x_cVi F X (gc := [mW q b0 b1 b2 b3 b4 b5 b6 b7 b8 s p sl sv pd fo to ou kn ln mn la op wr]) (gr := []) (xp_idx (n := 1) [0] (by decide +kernel) rfl rfl) (c_X8_isStreet l D q b0 b1 b2 b3 b4 b5 b6 b7 b8 s p sl sv pd fo to ou kn ln mn la op wr n st (by first | assumption | omega) (by first | assumption | omega) (by first | assumption | omega)) (cwV 1 F.1.2.2.2.2 gX8_windOfFlag_X8_isStreet rfl rfl rfl (by decide +kernel) ⟨Nat.le_of_ble_eq_true rfl, Nat.le_of_ble_eq_true rfl⟩) rfl rfl (r0 := 0) (ci := 8) (T := TX8) (N := 14) rfl rfl hl.1 ⟨Nat.le_of_ble_eq_true rfl, Nat.le_of_ble_eq_true rfl⟩ (Nat.le_of_ble_eq_true rfl) dX8_windOfFlag_2 (fun r_2 g1 H locs hp X => ?_)
  obtain ⟨rfl, hz⟩ := hp
  have X : xS D A9 s9 [mW q b0 b1 b2 b3 b4 b5 b6 b7 b8 s p sl sv pd fo to ou kn ln mn la op wr] H locs := X
  rcases hz with ⟨rfl, b_2⟩ | ⟨rfl, b_2⟩
  · refine lv_if_ne (tgt := 10) hx hb dX8_windOfFlag_5 (by decide) (fun _ => ?_) (fun h => absurd h (by decide))
    obtain ⟨k, hk, ek⟩ := b_2
    refine lv_iload_n hx hb dX8_windOfFlag_10 rfl (lv_at hl 2 rfl) ?_
    refine lv_iconst (v := 1) hx hb dX8_windOfFlag_11 (by decide) ?_
    refine lv_bipush (v := 12) hx hb dX8_windOfFlag_12 (by decide) ?_
    refine x_cSi F X (gc := []) (gr := [mW q b0 b1 b2 b3 b4 b5 b6 b7 b8 s p sl sv pd fo to ou kn ln mn la op wr]) (xp_idx (n := 1) [0] (by decide +kernel) rfl rfl) (c_X8_in l D q h 1 12 ) (va_cwS 3 F.1.2.2.2.2 gX8_windOfFlag_X8_in rfl rfl rfl (by decide +kernel) ⟨Nat.le_of_ble_eq_true rfl, Nat.le_of_ble_eq_true rfl⟩) rfl rfl hl.1 ⟨Nat.le_of_ble_eq_true rfl, Nat.le_of_ble_eq_true rfl⟩ (Nat.le_of_ble_eq_true rfl) dX8_windOfFlag_14 (fun r_14 g1 H locs hp X => ?_)
    obtain ⟨rfl, hz⟩ := hp
    have X : xS D A9 s9 [mW q b0 b1 b2 b3 b4 b5 b6 b7 b8 s p sl sv pd fo to ou kn ln mn la op wr] H locs := X
    rcases hz with ⟨rfl, b_14⟩ | ⟨rfl, b_14⟩
    · refine lv_if_ne (tgt := 23) hx hb dX8_windOfFlag_17 (by decide) (fun _ => ?_) (fun h => absurd h (by decide))
      refine lv_aload_n hx hb dX8_windOfFlag_23 rfl (lv_at hl 0 rfl) ?_
      refine lv_iload_n hx hb dX8_windOfFlag_24 rfl (lv_at hl 1 rfl) ?_
      refine x_i (y := (nI k)) (ek) ?_
      refine lv_iconst (v := 2) hx hb dX8_windOfFlag_25 (by decide) ?_
      refine x_cVi F X (gc := [mW q b0 b1 b2 b3 b4 b5 b6 b7 b8 s p sl sv pd fo to ou kn ln mn la op wr]) (gr := []) (xp_idx (n := 1) [0] (by decide +kernel) rfl rfl) (c_X8_its l D q b0 b1 b2 b3 b4 b5 b6 b7 b8 s p sl sv pd fo to ou kn ln mn la op wr k 2 (by first | assumption | omega) (by first | assumption | omega)) (cwV 2 F.1.2.2.2.2 gX8_windOfFlag_X8_its rfl rfl rfl (by decide +kernel) ⟨Nat.le_of_ble_eq_true rfl, Nat.le_of_ble_eq_true rfl⟩) rfl rfl (r0 := 0) (ci := 8) (T := TX8) (N := 14) rfl rfl hl.1 ⟨Nat.le_of_ble_eq_true rfl, Nat.le_of_ble_eq_true rfl⟩ (Nat.le_of_ble_eq_true rfl) dX8_windOfFlag_26 (fun r_26 g1 H locs hp X => ?_)
      obtain ⟨rfl, rfl⟩ := hp
      have X : xS D A9 s9 [mW q b0 b1 b2 b3 b4 b5 b6 b7 b8 s p sl sv pd fo to ou kn ln mn la op wr] H locs := X
      refine lv_if_ne (tgt := 35) hx hb dX8_windOfFlag_29 (by decide) (fun c_29 => ?_) (fun c_29 => ?_)
      · refine lv_iconst (v := 0) hx hb dX8_windOfFlag_35 (by decide) ?_
        refine lv_istore_n (lv' := [(3, .int 0), (0, .ref b0), (1, .int st), (2, .int h)]) hx hb dX8_windOfFlag_36 rfl hl (by decide) rfl (fun ls hl => ?_)
        have L_37 : ∀ (nn : Nat) (i : Nat) (w : Nat → Int32) (H : Heap) (locs : List Loc) (ls : Array Slot), xS D A9 s9 [mW q b0 b1 b2 b3 b4 b5 b6 b7 b8 s p sl sv pd w to ou kn ln mn la op wr] H locs → lv_has ls 4 [(3, .int (nI i)), (0, .ref b0), (1, .int st), (2, .int h)] → (201 < i + nn) → (i ≤ 201) → (x_fnd (fun f => x_fst s (x_FT s pr n (-6) f) k) h 0 201 = x_fnd (fun f => x_fst s (x_FT s pr n (-6) f) k) h i (201 - i)) → W p9 l e9 { frames := 4, cells := 0, slots := 0, locals := 92 } s9 m9 a9 below meth c9 H locs 0 0 Z9 (F0 m9 37 ls []) := by
          intro nn
          induction nn with
          | zero => intro i w H locs ls X hl hfuel hi hw; exact absurd hfuel (by omega)
          | succ nn ih_37 =>
            intro i w H locs ls X hl hfuel hi hw
            refine lv_iload_n hx hb dX8_windOfFlag_37 rfl (lv_at hl 0 rfl) ?_
            refine lv_sipush (v := 200) hx hb dX8_windOfFlag_38 (by decide) ?_
            refine lv_icmp_gt (tgt := 66) hx hb dX8_windOfFlag_41 (by decide) (fun c_41 => ?_) (fun c_41 => ?_)
            · have c_41 : 200 < i := (nI_ltI (a := 200) (b := i) (by omega) (by omega)).mp c_41
              refine lv_bipush (v := (-6)) hx hb dX8_windOfFlag_66 (by decide) ?_
              exact hret _ _ _ _ _ _ (by exact ⟨_, rfl, by rw [ek, x_st_in (by omega) hk]; unfold x_wofk; rw [if_pos b_14, if_neg (show ¬ x_tC s k = 0 from c_29), hw, show 201 - i = 0 by omega]; rfl⟩) X dX8_windOfFlag_68
            · have c_41 : i ≤ 200 := Nat.not_lt.mp (fun h => c_41 ((nI_ltI (a := 200) (b := i) (by omega) (by omega)).mpr h))
              refine lv_aload_n hx hb dX8_windOfFlag_44 rfl (lv_at hl 1 rfl) ?_
              refine lv_iload_n hx hb dX8_windOfFlag_45 rfl (lv_at hl 0 rfl) ?_
              refine x_cVv F X (gc := [mW q b0 b1 b2 b3 b4 b5 b6 b7 b8 s p sl sv pd w to ou kn ln mn la op wr]) (gr := []) (xp_idx (n := 1) [0] (by decide +kernel) rfl rfl) (c_X8_blows l D q b0 b1 b2 b3 b4 b5 b6 b7 b8 s p sl sv pd w to ou kn ln mn la op wr n pr (nI i) (by first | assumption | omega)) (cwV 1 F.1.2.2.2.2 gX8_windOfFlag_X8_blows rfl rfl rfl (by decide +kernel) ⟨Nat.le_of_ble_eq_true rfl, Nat.le_of_ble_eq_true rfl⟩) rfl rfl (r0 := 0) (ci := 8) (T := TX8) (N := 14) rfl rfl hl.1 ⟨Nat.le_of_ble_eq_true rfl, Nat.le_of_ble_eq_true rfl⟩ (Nat.le_of_ble_eq_true rfl) dX8_windOfFlag_46 (fun g1 H locs hp X => ?_)
              obtain ⟨fo2_46, rfl, hfo2_46⟩ := hp
              have X : xS D A9 s9 [mW q b0 b1 b2 b3 b4 b5 b6 b7 b8 s p sl sv pd fo2_46 to ou kn ln mn la op wr] H locs := X
              refine lv_aload_n hx hb dX8_windOfFlag_49 rfl (lv_at hl 1 rfl) ?_
              refine lv_iload_n hx hb dX8_windOfFlag_50 rfl (lv_at hl 2 rfl) ?_
              refine x_i (y := (nI k)) (ek) ?_
              refine x_cVi F X (gc := [mW q b0 b1 b2 b3 b4 b5 b6 b7 b8 s p sl sv pd fo2_46 to ou kn ln mn la op wr]) (gr := []) (xp_idx (n := 1) [0] (by decide +kernel) rfl rfl) (c_X8_stepsOf l D q b0 b1 b2 b3 b4 b5 b6 b7 b8 s p sl sv pd fo2_46 to ou kn ln mn la op wr k (by first | assumption | omega) (by exact x_stp_pos hst (hcl k hk) c_29)) (cwV 1 F.1.2.2.2.2 gX8_windOfFlag_X8_stepsOf rfl rfl rfl (by decide +kernel) ⟨Nat.le_of_ble_eq_true rfl, Nat.le_of_ble_eq_true rfl⟩) rfl rfl (r0 := 0) (ci := 8) (T := TX8) (N := 14) rfl rfl hl.1 ⟨Nat.le_of_ble_eq_true rfl, Nat.le_of_ble_eq_true rfl⟩ (Nat.le_of_ble_eq_true rfl) dX8_windOfFlag_51 (fun r_51 g1 H locs hp X => ?_)
              obtain ⟨rfl, rfl⟩ := hp
              have X : xS D A9 s9 [mW q b0 b1 b2 b3 b4 b5 b6 b7 b8 s p sl sv pd fo2_46 to ou kn ln mn la op wr] H locs := X
              refine lv_iload_n hx hb dX8_windOfFlag_54 rfl (lv_at hl 3 rfl) ?_
              refine lv_icmp_lt (tgt := 60) hx hb dX8_windOfFlag_55 (by decide) (fun c_55 => ?_) (fun c_55 => ?_)
              · refine lv_iinc (v := (nI (i + 1))) (lv' := [(3, .int (nI (i + 1))), (0, .ref b0), (1, .int st), (2, .int h)]) hx hb dX8_windOfFlag_60 hl (k := 0) rfl (nI_add i 1) (by decide) rfl (fun ls hl => ?_)
                refine lv_goto (tgt := 37) hx hb dX8_windOfFlag_63 (by decide) ?_
                exact ih_37 (i + 1) _ _ _ _ X (lv_sub hl [0, 1, 2, 3] rfl) (by omega) (by omega) (by rw [hw, show 201 - i = 201 - (i + 1) + 1 by omega, x_fnd_no (by (try dsimp only); unfold x_fst; rw [← hfo2_46 k hk]; exact Int32.not_le.mpr c_55)])
              · refine lv_iload_n hx hb dX8_windOfFlag_58 rfl (lv_at hl 0 rfl) ?_
                exact hret _ _ _ _ _ _ (by exact ⟨_, rfl, by rw [ek, x_st_in (by omega) hk]; unfold x_wofk; rw [if_pos b_14, if_neg (show ¬ x_tC s k = 0 from c_29), hw, show 201 - i = 201 - (i + 1) + 1 by omega, x_fnd_yes (by (try dsimp only); unfold x_fst; rw [← hfo2_46 k hk]; exact Int32.not_lt.mp c_55)]⟩) X dX8_windOfFlag_59
        exact L_37 (202) 0 _ _ _ _ X (lv_sub hl [0, 1, 2, 3] rfl) (by omega) (by omega) (by rfl)
      · refine lv_bipush (v := (-5)) hx hb dX8_windOfFlag_32 (by decide) ?_
        exact hret _ _ _ _ _ _ (by exact ⟨_, rfl, by rw [ek, x_st_in (by omega) hk]; unfold x_wofk; rw [if_pos b_14, if_pos (show x_tC s k = 0 from c_29)]⟩) X dX8_windOfFlag_34
    · refine lv_if_ne (tgt := 23) hx hb dX8_windOfFlag_17 (by decide) (fun h => absurd (by decide) h) (fun _ => ?_)
      refine lv_bipush (v := (-2)) hx hb dX8_windOfFlag_20 (by decide) ?_
      exact hret _ _ _ _ _ _ (by exact ⟨_, rfl, by rw [ek, x_st_in (by omega) hk]; unfold x_wofk; rw [if_neg b_14]⟩) X dX8_windOfFlag_22
  · refine lv_if_ne (tgt := 10) hx hb dX8_windOfFlag_5 (by decide) (fun h => absurd (by decide) h) (fun _ => ?_)
    refine lv_iconst (v := (-1)) hx hb dX8_windOfFlag_8 (by decide) ?_
    exact hret _ _ _ _ _ _ (by exact ⟨_, rfl, (x_st_out (by omega) b_2 _).symm⟩) X dX8_windOfFlag_9

set_option maxHeartbeats 1000000 in
set_option maxRecDepth 100000 in
theorem c_X8_without (l : Launch) (D : va_G) (q : xQ) (b0 : Nat) (b1 : Nat) (b2 : Nat) (b3 : Nat) (b4 : Nat) (b5 : Nat) (b6 : Nat) (b7 : Nat) (b8 : Nat) (s : Nat → Int32) (p : Nat → Int32) (sl : Nat → Int32) (sv : Nat → Int32) (pd : Nat → Int32) (fo : Nat → Int32) (to : Nat → Int32) (ou : Nat → Int32) (kn : Int32) (ln : Int32) (mn : Int32) (la : Int32) (op : Int32) (wr : Int32) (n : Nat) (pr : Nat → Nat) (st : Int32) (ot : Int32) (hok : x_ok s n pr) : xMi l yX8_without wsX8_without { frames := 4, cells := 0, slots := 0, locals := 92 } D q [.ref b0, .int st, .int ot] [mW q b0 b1 b2 b3 b4 b5 b6 b7 b8 s p sl sv pd fo to ou kn ln mn la op wr] (fun r gw => ∃ (fo2 : Nat → Int32), gw = [mW q b0 b1 b2 b3 b4 b5 b6 b7 b8 s p sl sv pd fo2 to ou kn ln mn la op wr] ∧ r = x_wo2 s pr n st ot) := by
  refine xMi_of (cc := cX8_without) (maxL := 3) (rt := .int) (by decide) rfl (Nat.le_of_ble_eq_true rfl) (fun _ _ _ => rfl) ?_
  intro p9 e9 s9 m9 a9 below meth c9 A9 Z9 ls H locs F X hl hret
  have hx := F.1.1
  have hb := F.1.2.1
  have in_X8 : ∀ w ∈ wsX80, w ∈ wsX8_without := by decide +kernel
  have mw_0 : Cond.initialized RX8 ∈ wsX8_without := by decide +kernel
  have mw_1 : Cond.fieldLink RX8 7 "HatWindsModel" "s" "[I" ∈ wsX8_without := by decide +kernel
  have mw_2 : Cond.fieldLink RX8 26 "HatWindsModel" "forces" "[I" ∈ wsX8_without := by decide +kernel
  have hl : lv_has ls 3 [(0, .ref b0), (1, .int st), (2, .int ot)] := hl
  have hok0 := hok
  obtain ⟨hn, hn1, hs5, hs33, hpr, hwd, hcl, hsm, hpe, hst, hle, hhr, hcn⟩ := hok0
  refine lv_aload_n hx hb dX8_without_0 rfl (lv_at hl 0 rfl) ?_
  refine lv_iload_n hx hb dX8_without_1 rfl (lv_at hl 1 rfl) ?_
  refine x_cVi F X (gc := [mW q b0 b1 b2 b3 b4 b5 b6 b7 b8 s p sl sv pd fo to ou kn ln mn la op wr]) (gr := []) (xp_idx (n := 1) [0] (by decide +kernel) rfl rfl) (c_X8_isStreet l D q b0 b1 b2 b3 b4 b5 b6 b7 b8 s p sl sv pd fo to ou kn ln mn la op wr n st (by first | assumption | omega) (by first | assumption | omega) (by first | assumption | omega)) (cwV 1 F.1.2.2.2.2 gX8_without_X8_isStreet rfl rfl rfl (by decide +kernel) ⟨Nat.le_of_ble_eq_true rfl, Nat.le_of_ble_eq_true rfl⟩) rfl rfl (r0 := 0) (ci := 8) (T := TX8) (N := 14) rfl rfl hl.1 ⟨Nat.le_of_ble_eq_true rfl, Nat.le_of_ble_eq_true rfl⟩ (Nat.le_of_ble_eq_true rfl) dX8_without_2 (fun r_2 g1 H locs hp X => ?_)
  obtain ⟨rfl, hz⟩ := hp
  have X : xS D A9 s9 [mW q b0 b1 b2 b3 b4 b5 b6 b7 b8 s p sl sv pd fo to ou kn ln mn la op wr] H locs := X
  rcases hz with ⟨rfl, b_2⟩ | ⟨rfl, b_2⟩
  · refine lv_if_eq (tgt := 16) hx hb dX8_without_5 (by decide) (fun h => absurd h (by decide)) (fun _ => ?_)
    obtain ⟨k, hk, ek⟩ := b_2
    refine lv_aload_n hx hb dX8_without_8 rfl (lv_at hl 0 rfl) ?_
    refine lv_iload_n hx hb dX8_without_9 rfl (lv_at hl 2 rfl) ?_
    refine x_cVi F X (gc := [mW q b0 b1 b2 b3 b4 b5 b6 b7 b8 s p sl sv pd fo to ou kn ln mn la op wr]) (gr := []) (xp_idx (n := 1) [0] (by decide +kernel) rfl rfl) (c_X8_isStreet l D q b0 b1 b2 b3 b4 b5 b6 b7 b8 s p sl sv pd fo to ou kn ln mn la op wr n ot (by first | assumption | omega) (by first | assumption | omega) (by first | assumption | omega)) (cwV 1 F.1.2.2.2.2 gX8_without_X8_isStreet rfl rfl rfl (by decide +kernel) ⟨Nat.le_of_ble_eq_true rfl, Nat.le_of_ble_eq_true rfl⟩) rfl rfl (r0 := 0) (ci := 8) (T := TX8) (N := 14) rfl rfl hl.1 ⟨Nat.le_of_ble_eq_true rfl, Nat.le_of_ble_eq_true rfl⟩ (Nat.le_of_ble_eq_true rfl) dX8_without_10 (fun r_10 g1 H locs hp X => ?_)
    obtain ⟨rfl, hz⟩ := hp
    have X : xS D A9 s9 [mW q b0 b1 b2 b3 b4 b5 b6 b7 b8 s p sl sv pd fo to ou kn ln mn la op wr] H locs := X
    rcases hz with ⟨rfl, b_10⟩ | ⟨rfl, b_10⟩
    · refine lv_if_ne (tgt := 18) hx hb dX8_without_13 (by decide) (fun _ => ?_) (fun h => absurd h (by decide))
      obtain ⟨o, ho, eo⟩ := b_10
      refine lv_iload_n hx hb dX8_without_18 rfl (lv_at hl 1 rfl) ?_
      refine x_i (y := (nI k)) (ek) ?_
      refine lv_iload_n hx hb dX8_without_19 rfl (lv_at hl 2 rfl) ?_
      refine x_i (y := (nI o)) (eo) ?_
      refine lv_icmp_eq (tgt := 46) hx hb dX8_without_20 (by decide) (fun c_20 => ?_) (fun c_20 => ?_)
      · have c_20 : k = o := (nI_eq (a := k) (b := o) (by omega) (by omega)).mp c_20
        refine lv_bipush (v := (-5)) hx hb dX8_without_46 (by decide) ?_
        exact hret _ _ _ _ _ _ (by exact ⟨_, rfl, by unfold x_wo2; rw [ek, x_st_in (by omega) hk, eo, x_st_in (by omega) ho]; unfold x_wok; rw [if_pos (Or.inl c_20)]⟩) X dX8_without_48
      · have c_20 : ¬ (k = o) := fun h => c_20 ((nI_eq (a := k) (b := o) (by omega) (by omega)).mpr h)
        refine lv_iload_n hx hb dX8_without_23 rfl (lv_at hl 1 rfl) ?_
        refine x_i (y := (nI k)) (ek) ?_
        refine lv_if_eq (tgt := 46) hx hb dX8_without_24 (by decide) (fun c_24 => ?_) (fun c_24 => ?_)
        · have c_24 : k = 0 := (nI_eq (a := k) (b := 0) (by omega) (by omega)).mp c_24
          refine lv_bipush (v := (-5)) hx hb dX8_without_46 (by decide) ?_
          exact hret _ _ _ _ _ _ (by exact ⟨_, rfl, by unfold x_wo2; rw [ek, x_st_in (by omega) hk, eo, x_st_in (by omega) ho]; unfold x_wok; rw [if_pos (Or.inr (Or.inl c_24))]⟩) X dX8_without_48
        · have c_24 : ¬ (k = 0) := fun h => c_24 ((nI_eq (a := k) (b := 0) (by omega) (by omega)).mpr h)
          refine lv_iload_n hx hb dX8_without_27 rfl (lv_at hl 2 rfl) ?_
          refine x_i (y := (nI o)) (eo) ?_
          refine lv_if_eq (tgt := 46) hx hb dX8_without_28 (by decide) (fun c_28 => ?_) (fun c_28 => ?_)
          · have c_28 : o = 0 := (nI_eq (a := o) (b := 0) (by omega) (by omega)).mp c_28
            refine lv_bipush (v := (-5)) hx hb dX8_without_46 (by decide) ?_
            exact hret _ _ _ _ _ _ (by exact ⟨_, rfl, by unfold x_wo2; rw [ek, x_st_in (by omega) hk, eo, x_st_in (by omega) ho]; unfold x_wok; rw [if_pos (Or.inr (Or.inr (Or.inl c_28)))]⟩) X dX8_without_48
          · have c_28 : ¬ (o = 0) := fun h => c_28 ((nI_eq (a := o) (b := 0) (by omega) (by omega)).mpr h)
            refine lv_aload_n hx hb dX8_without_31 rfl (lv_at hl 0 rfl) ?_
            refine lv_iload_n hx hb dX8_without_32 rfl (lv_at hl 1 rfl) ?_
            refine x_i (y := (nI k)) (ek) ?_
            refine lv_iconst (v := 0) hx hb dX8_without_33 (by decide) ?_
            refine x_cVi F X (gc := [mW q b0 b1 b2 b3 b4 b5 b6 b7 b8 s p sl sv pd fo to ou kn ln mn la op wr]) (gr := []) (xp_idx (n := 1) [0] (by decide +kernel) rfl rfl) (c_X8_its l D q b0 b1 b2 b3 b4 b5 b6 b7 b8 s p sl sv pd fo to ou kn ln mn la op wr k 0 (by first | assumption | omega) (by first | assumption | omega)) (cwV 2 F.1.2.2.2.2 gX8_without_X8_its rfl rfl rfl (by decide +kernel) ⟨Nat.le_of_ble_eq_true rfl, Nat.le_of_ble_eq_true rfl⟩) rfl rfl (r0 := 0) (ci := 8) (T := TX8) (N := 14) rfl rfl hl.1 ⟨Nat.le_of_ble_eq_true rfl, Nat.le_of_ble_eq_true rfl⟩ (Nat.le_of_ble_eq_true rfl) dX8_without_34 (fun r_34 g1 H locs hp X => ?_)
            obtain ⟨rfl, rfl⟩ := hp
            have X : xS D A9 s9 [mW q b0 b1 b2 b3 b4 b5 b6 b7 b8 s p sl sv pd fo to ou kn ln mn la op wr] H locs := X
            refine lv_aload_n hx hb dX8_without_37 rfl (lv_at hl 0 rfl) ?_
            refine lv_iload_n hx hb dX8_without_38 rfl (lv_at hl 2 rfl) ?_
            refine x_i (y := (nI o)) (eo) ?_
            refine lv_iconst (v := 0) hx hb dX8_without_39 (by decide) ?_
            refine x_cVi F X (gc := [mW q b0 b1 b2 b3 b4 b5 b6 b7 b8 s p sl sv pd fo to ou kn ln mn la op wr]) (gr := []) (xp_idx (n := 1) [0] (by decide +kernel) rfl rfl) (c_X8_its l D q b0 b1 b2 b3 b4 b5 b6 b7 b8 s p sl sv pd fo to ou kn ln mn la op wr o 0 (by first | assumption | omega) (by first | assumption | omega)) (cwV 2 F.1.2.2.2.2 gX8_without_X8_its rfl rfl rfl (by decide +kernel) ⟨Nat.le_of_ble_eq_true rfl, Nat.le_of_ble_eq_true rfl⟩) rfl rfl (r0 := 0) (ci := 8) (T := TX8) (N := 14) rfl rfl hl.1 ⟨Nat.le_of_ble_eq_true rfl, Nat.le_of_ble_eq_true rfl⟩ (Nat.le_of_ble_eq_true rfl) dX8_without_40 (fun r_40 g1 H locs hp X => ?_)
            obtain ⟨rfl, rfl⟩ := hp
            have X : xS D A9 s9 [mW q b0 b1 b2 b3 b4 b5 b6 b7 b8 s p sl sv pd fo to ou kn ln mn la op wr] H locs := X
            refine lv_icmp_eq (tgt := 49) hx hb dX8_without_43 (by decide) (fun c_43 => ?_) (fun c_43 => ?_)
            · refine lv_aload_n hx hb dX8_without_49 rfl (lv_at hl 0 rfl) ?_
              refine lv_aload_n hx hb dX8_without_50 rfl (lv_at hl 0 rfl) ?_
              refine x_get F X (v := .ref b1) (C := RX8) (T := TX8) (N := 14) (ci := 8) in_X8 0 rfl rfl 0 (by decide) mw_1 rfl dX8_without_51 ?_
              refine lv_iconst (v := 4) hx hb dX8_without_54 (by decide) ?_
              refine x_iald F X (v := (s 4)) (n := 133) (f := s) 1 rfl (show vp_in (nI 4) _ from vp_in_nI (by omega) (by omega)) rfl dX8_without_55 ?_
              refine x_cVv F X (gc := [mW q b0 b1 b2 b3 b4 b5 b6 b7 b8 s p sl sv pd fo to ou kn ln mn la op wr]) (gr := []) (xp_idx (n := 1) [0] (by decide +kernel) rfl rfl) (c_X8_blows l D q b0 b1 b2 b3 b4 b5 b6 b7 b8 s p sl sv pd fo to ou kn ln mn la op wr n pr (s 4) (by first | assumption | omega)) (cwV 1 F.1.2.2.2.2 gX8_without_X8_blows rfl rfl rfl (by decide +kernel) ⟨Nat.le_of_ble_eq_true rfl, Nat.le_of_ble_eq_true rfl⟩) rfl rfl (r0 := 0) (ci := 8) (T := TX8) (N := 14) rfl rfl hl.1 ⟨Nat.le_of_ble_eq_true rfl, Nat.le_of_ble_eq_true rfl⟩ (Nat.le_of_ble_eq_true rfl) dX8_without_56 (fun g1 H locs hp X => ?_)
              obtain ⟨fo2, rfl, hfo2⟩ := hp
              have X : xS D A9 s9 [mW q b0 b1 b2 b3 b4 b5 b6 b7 b8 s p sl sv pd fo2 to ou kn ln mn la op wr] H locs := X
              refine lv_aload_n hx hb dX8_without_59 rfl (lv_at hl 0 rfl) ?_
              refine lv_iload_n hx hb dX8_without_60 rfl (lv_at hl 1 rfl) ?_
              refine x_i (y := (nI k)) (ek) ?_
              refine lv_iload_n hx hb dX8_without_61 rfl (lv_at hl 2 rfl) ?_
              refine x_i (y := (nI o)) (eo) ?_
              refine x_cVi F X (gc := [mW q b0 b1 b2 b3 b4 b5 b6 b7 b8 s p sl sv pd fo2 to ou kn ln mn la op wr]) (gr := []) (xp_idx (n := 1) [0] (by decide +kernel) rfl rfl) (c_X8_parted l D q b0 b1 b2 b3 b4 b5 b6 b7 b8 s p sl sv pd fo2 to ou kn ln mn la op wr n pr k (nI o) (by first | assumption | omega) (by first | assumption | omega) (by first | assumption | omega) (by exact fun e => c_20 ((nI_eq (by omega) (by omega)).mp e))) (cwV 2 F.1.2.2.2.2 gX8_without_X8_parted rfl rfl rfl (by decide +kernel) ⟨Nat.le_of_ble_eq_true rfl, Nat.le_of_ble_eq_true rfl⟩) rfl rfl (r0 := 0) (ci := 8) (T := TX8) (N := 14) rfl rfl hl.1 ⟨Nat.le_of_ble_eq_true rfl, Nat.le_of_ble_eq_true rfl⟩ (Nat.le_of_ble_eq_true rfl) dX8_without_62 (fun r_62 g1 H locs hp X => ?_)
              obtain ⟨rfl, rfl⟩ := hp
              have X : xS D A9 s9 [mW q b0 b1 b2 b3 b4 b5 b6 b7 b8 s p sl sv pd fo2 to ou kn ln mn la op wr] H locs := X
              refine lv_aload_n hx hb dX8_without_65 rfl (lv_at hl 0 rfl) ?_
              refine x_get F X (v := .ref b6) (C := RX8) (T := TX8) (N := 14) (ci := 8) in_X8 0 rfl rfl 7 (by decide) mw_2 rfl dX8_without_66 ?_
              refine lv_iload_n hx hb dX8_without_69 rfl (lv_at hl 1 rfl) ?_
              refine x_i (y := (nI k)) (ek) ?_
              refine x_iald F X (v := (fo2 k)) (n := 20) (f := fo2) 6 rfl (vp_in_nI (by omega) (by omega)) (x_cl (by omega)) dX8_without_70 ?_
              refine lv_isub hx hb dX8_without_71 ?_
              refine lv_sipush (v := 500) hx hb dX8_without_72 (by decide) ?_
              refine lv_iadd hx hb dX8_without_75 ?_
              refine hret _ _ _ _ _ _ ?_ X dX8_without_76
              have epo : pr k = pr o := (nI_eq (by have := (hpr k (by omega) hk).2; omega) (by have := (hpr o (by omega) ho).2; omega)).mp (((hpr k (by omega) hk).1.symm.trans c_43).trans (hpr o (by omega) ho).1)
              refine ⟨_, rfl, ?_⟩
              unfold x_wo2
              rw [ek, x_st_in (by omega) hk, eo, x_st_in (by omega) ho]
              unfold x_wok
              rw [if_neg (by rintro (h | h | h | h) <;> first | omega | exact h c_43), hfo2 (pr k) (by have := (hpr k (by omega) hk).2; omega), hfo2 k hk, x_FT_s s pr n (nI o) (s 4) (show 1 ≤ k by omega) (hpr k (by omega) hk).2, x_FT_wo hn hpr (show 1 ≤ o by omega) ho (pr k) (by omega)]
            · refine lv_bipush (v := (-5)) hx hb dX8_without_46 (by decide) ?_
              exact hret _ _ _ _ _ _ (by exact ⟨_, rfl, by unfold x_wo2; rw [ek, x_st_in (by omega) hk, eo, x_st_in (by omega) ho]; unfold x_wok; rw [if_pos (Or.inr (Or.inr (Or.inr (show x_tF s k ≠ x_tF s o from c_43))))]⟩) X dX8_without_48
    · refine lv_if_ne (tgt := 18) hx hb dX8_without_13 (by decide) (fun h => absurd (by decide) h) (fun _ => ?_)
      refine lv_iconst (v := (-1)) hx hb dX8_without_16 (by decide) ?_
      exact hret _ _ _ _ _ _ (by exact ⟨_, rfl, by unfold x_wo2; rw [ek, x_st_in (by omega) hk]; exact (x_st_out (by omega) b_10 _).symm⟩) X dX8_without_17
  · refine lv_if_eq (tgt := 16) hx hb dX8_without_5 (by decide) (fun _ => ?_) (fun h => absurd (by decide) h)
    refine lv_iconst (v := (-1)) hx hb dX8_without_16 (by decide) ?_
    exact hret _ _ _ _ _ _ (by exact ⟨_, rfl, (x_st_out (by omega) b_2 _).symm⟩) X dX8_without_17

set_option maxHeartbeats 1000000 in
set_option maxRecDepth 100000 in
theorem c_X8_windiest (l : Launch) (D : va_G) (q : xQ) (b0 : Nat) (b1 : Nat) (b2 : Nat) (b3 : Nat) (b4 : Nat) (b5 : Nat) (b6 : Nat) (b7 : Nat) (b8 : Nat) (s : Nat → Int32) (p : Nat → Int32) (sl : Nat → Int32) (sv : Nat → Int32) (pd : Nat → Int32) (fo : Nat → Int32) (to : Nat → Int32) (ou : Nat → Int32) (kn : Int32) (ln : Int32) (mn : Int32) (la : Int32) (op : Int32) (wr : Int32) (n : Nat) (pr : Nat → Nat) (hok : x_ok s n pr) : xMi l yX8_windiest wsX8_windiest { frames := 4, cells := 0, slots := 0, locals := 92 } D q [.ref b0] [mW q b0 b1 b2 b3 b4 b5 b6 b7 b8 s p sl sv pd fo to ou kn ln mn la op wr] (fun r gw => ∃ (fo2 : Nat → Int32), gw = [mW q b0 b1 b2 b3 b4 b5 b6 b7 b8 s p sl sv pd fo2 to ou kn ln mn la op wr] ∧ r = x_wd (x_bs s n) (x_FT s pr n (-6) (s 4)) n) := by
  refine xMi_of (cc := cX8_windiest) (maxL := 4) (rt := .int) (by decide) rfl (Nat.le_of_ble_eq_true rfl) (fun _ _ _ => rfl) ?_
  intro p9 e9 s9 m9 a9 below meth c9 A9 Z9 ls H locs F X hl hret
  have hx := F.1.1
  have hb := F.1.2.1
  have in_X8 : ∀ w ∈ wsX80, w ∈ wsX8_windiest := by decide +kernel
  have mw_0 : Cond.fieldLink RX8 7 "HatWindsModel" "s" "[I" ∈ wsX8_windiest := by decide +kernel
  have mw_1 : Cond.initialized RX8 ∈ wsX8_windiest := by decide +kernel
  have mw_2 : Cond.fieldLink RX8 26 "HatWindsModel" "forces" "[I" ∈ wsX8_windiest := by decide +kernel
  have hl : lv_has ls 4 [(0, .ref b0)] := hl
  have hok0 := hok
  obtain ⟨hn, hn1, hs5, hs33, hpr, hwd, hcl, hsm, hpe, hst, hle, hhr, hcn⟩ := hok0
  refine lv_aload_n hx hb dX8_windiest_0 rfl (lv_at hl 0 rfl) ?_
  refine lv_aload_n hx hb dX8_windiest_1 rfl (lv_at hl 0 rfl) ?_
  refine x_get F X (v := .ref b1) (C := RX8) (T := TX8) (N := 14) (ci := 8) in_X8 0 rfl rfl 0 (by decide) mw_0 rfl dX8_windiest_2 ?_
  refine lv_iconst (v := 4) hx hb dX8_windiest_5 (by decide) ?_
  refine x_iald F X (v := (s 4)) (n := 133) (f := s) 1 rfl (show vp_in (nI 4) _ from vp_in_nI (by omega) (by omega)) rfl dX8_windiest_6 ?_
  refine x_cVv F X (gc := [mW q b0 b1 b2 b3 b4 b5 b6 b7 b8 s p sl sv pd fo to ou kn ln mn la op wr]) (gr := []) (xp_idx (n := 1) [0] (by decide +kernel) rfl rfl) (c_X8_blows l D q b0 b1 b2 b3 b4 b5 b6 b7 b8 s p sl sv pd fo to ou kn ln mn la op wr n pr (s 4) (by first | assumption | omega)) (cwV 1 F.1.2.2.2.2 gX8_windiest_X8_blows rfl rfl rfl (by decide +kernel) ⟨Nat.le_of_ble_eq_true rfl, Nat.le_of_ble_eq_true rfl⟩) rfl rfl (r0 := 0) (ci := 8) (T := TX8) (N := 14) rfl rfl hl.1 ⟨Nat.le_of_ble_eq_true rfl, Nat.le_of_ble_eq_true rfl⟩ (Nat.le_of_ble_eq_true rfl) dX8_windiest_7 (fun g1 H locs hp X => ?_)
  obtain ⟨fo2, rfl, hfo2⟩ := hp
  have X : xS D A9 s9 [mW q b0 b1 b2 b3 b4 b5 b6 b7 b8 s p sl sv pd fo2 to ou kn ln mn la op wr] H locs := X
  refine lv_bipush (v := (-6)) hx hb dX8_windiest_10 (by decide) ?_
  refine lv_istore_n (lv' := [(1, .int (-6)), (0, .ref b0)]) hx hb dX8_windiest_12 rfl hl (by decide) rfl (fun ls hl => ?_)
  refine lv_iconst (v := 0) hx hb dX8_windiest_13 (by decide) ?_
  refine lv_istore_n (lv' := [(2, .int 0), (1, .int (-6)), (0, .ref b0)]) hx hb dX8_windiest_14 rfl hl (by decide) rfl (fun ls hl => ?_)
  have L_15 : ∀ (nn : Nat) (j : Nat) (bd : Int32) (H : Heap) (locs : List Loc) (ls : Array Slot), xS D A9 s9 [mW q b0 b1 b2 b3 b4 b5 b6 b7 b8 s p sl sv pd fo2 to ou kn ln mn la op wr] H locs → lv_has ls 4 [(2, .int (nI j)), (1, .int bd), (0, .ref b0)] → (n < j + nn) → (j ≤ n) → (bd = x_wd (x_bs s n) fo2 j) → W p9 l e9 { frames := 4, cells := 0, slots := 0, locals := 92 } s9 m9 a9 below meth c9 H locs 0 0 Z9 (F0 m9 15 ls []) := by
    intro nn
    induction nn with
    | zero => intro j bd H locs ls X hl hfuel hj hbd; exact absurd hfuel (by omega)
    | succ nn ih_15 =>
      intro j bd H locs ls X hl hfuel hj hbd
      refine lv_iload_n hx hb dX8_windiest_15 rfl (lv_at hl 0 rfl) ?_
      refine lv_aload_n hx hb dX8_windiest_16 rfl (lv_at hl 2 rfl) ?_
      refine x_get F X (v := .ref b1) (C := RX8) (T := TX8) (N := 14) (ci := 8) in_X8 0 rfl rfl 0 (by decide) mw_0 rfl dX8_windiest_17 ?_
      refine lv_iconst (v := 5) hx hb dX8_windiest_20 (by decide) ?_
      refine x_iald F X (v := (s 5)) (n := 133) (f := s) 1 rfl (show vp_in (nI 5) _ from vp_in_nI (by omega) (by omega)) rfl dX8_windiest_21 ?_
      refine x_i (y := (nI n)) (hs5) ?_
      refine lv_icmp_ge (tgt := 76) hx hb dX8_windiest_22 (by decide) (fun c_22 => ?_) (fun c_22 => ?_)
      · have c_22 : n ≤ j := (nI_leI (a := n) (b := j) (by omega) (by omega)).mp c_22
        refine lv_iload_n hx hb dX8_windiest_76 rfl (lv_at hl 1 rfl) ?_
        refine hret _ _ _ _ _ _ ?_ X dX8_windiest_77
        obtain rfl : j = n := by omega
        exact ⟨_, rfl, hbd.trans (x_wd_cong (by omega) hfo2 j (Nat.le_refl j))⟩
      · have c_22 : j < n := Nat.not_le.mp (fun h => c_22 ((nI_leI (a := n) (b := j) (by omega) (by omega)).mpr h))
        refine lv_aload_n hx hb dX8_windiest_25 rfl (lv_at hl 2 rfl) ?_
        refine lv_iload_n hx hb dX8_windiest_26 rfl (lv_at hl 0 rfl) ?_
        refine x_cVi F X (gc := [mW q b0 b1 b2 b3 b4 b5 b6 b7 b8 s p sl sv pd fo2 to ou kn ln mn la op wr]) (gr := []) (xp_idx (n := 1) [0] (by decide +kernel) rfl rfl) (c_X8_branchSet l D q b0 b1 b2 b3 b4 b5 b6 b7 b8 s p sl sv pd fo2 to ou kn ln mn la op wr n pr j (by first | assumption | omega) (by first | assumption | omega)) (cwV 1 F.1.2.2.2.2 gX8_windiest_X8_branchSet rfl rfl rfl (by decide +kernel) ⟨Nat.le_of_ble_eq_true rfl, Nat.le_of_ble_eq_true rfl⟩) rfl rfl (r0 := 0) (ci := 8) (T := TX8) (N := 14) rfl rfl hl.1 ⟨Nat.le_of_ble_eq_true rfl, Nat.le_of_ble_eq_true rfl⟩ (Nat.le_of_ble_eq_true rfl) dX8_windiest_27 (fun r_27 g1 H locs hp X => ?_)
        obtain ⟨rfl, rfl⟩ := hp
        have X : xS D A9 s9 [mW q b0 b1 b2 b3 b4 b5 b6 b7 b8 s p sl sv pd fo2 to ou kn ln mn la op wr] H locs := X
        refine lv_if_ne (tgt := 37) hx hb dX8_windiest_30 (by decide) (fun c_30 => ?_) (fun c_30 => ?_)
        · refine lv_iconst (v := 0) hx hb dX8_windiest_37 (by decide) ?_
          refine lv_istore_n (lv' := [(3, .int 0), (2, .int (nI j)), (1, .int bd), (0, .ref b0)]) hx hb dX8_windiest_38 rfl hl (by decide) rfl (fun ls hl => ?_)
          refine lv_iload_n hx hb dX8_windiest_39 rfl (lv_at hl 0 rfl) ?_
          refine lv_if_eq (tgt := 68) hx hb dX8_windiest_40 (by decide) (fun _ => ?_) (fun h => absurd (by decide) h)
          refine lv_iload_n hx hb dX8_windiest_68 rfl (lv_at hl 2 rfl) ?_
          refine lv_istore_n (lv' := [(1, .int bd), (3, .int 0), (2, .int (nI j)), (0, .ref b0)]) hx hb dX8_windiest_69 rfl hl (by decide) rfl (fun ls hl => ?_)
          refine lv_iinc (v := (nI (j + 1))) (lv' := [(2, .int (nI (j + 1))), (1, .int bd), (3, .int 0), (0, .ref b0)]) hx hb dX8_windiest_70 hl (k := 2) rfl (nI_add j 1) (by decide) rfl (fun ls hl => ?_)
          refine lv_goto (tgt := 15) hx hb dX8_windiest_73 (by decide) ?_
          exact ih_15 (j + 1) _ _ _ _ X (lv_sub hl [0, 1, 3] rfl) (by omega) (by omega) (by rw [x_wd, ← hbd]; exact (if_neg (fun h => c_30 h.1)).symm)
        · refine lv_iconst (v := 1) hx hb dX8_windiest_33 (by decide) ?_
          refine lv_goto (tgt := 38) hx hb dX8_windiest_34 (by decide) ?_
          refine lv_istore_n (lv' := [(3, .int 1), (2, .int (nI j)), (1, .int bd), (0, .ref b0)]) hx hb dX8_windiest_38 rfl hl (by decide) rfl (fun ls hl => ?_)
          refine lv_iload_n hx hb dX8_windiest_39 rfl (lv_at hl 0 rfl) ?_
          refine lv_if_eq (tgt := 68) hx hb dX8_windiest_40 (by decide) (fun h => absurd h (by decide)) (fun _ => ?_)
          refine lv_iload_n hx hb dX8_windiest_43 rfl (lv_at hl 2 rfl) ?_
          refine lv_bipush (v := (-6)) hx hb dX8_windiest_44 (by decide) ?_
          refine lv_icmp_eq (tgt := 64) hx hb dX8_windiest_46 (by decide) (fun c_46 => ?_) (fun c_46 => ?_)
          · refine lv_iload_n hx hb dX8_windiest_64 rfl (lv_at hl 1 rfl) ?_
            refine lv_goto (tgt := 69) hx hb dX8_windiest_65 (by decide) ?_
            refine lv_istore_n (lv' := [(1, .int (nI j)), (3, .int 1), (2, .int (nI j)), (0, .ref b0)]) hx hb dX8_windiest_69 rfl hl (by decide) rfl (fun ls hl => ?_)
            refine lv_iinc (v := (nI (j + 1))) (lv' := [(2, .int (nI (j + 1))), (1, .int (nI j)), (3, .int 1), (0, .ref b0)]) hx hb dX8_windiest_70 hl (k := 2) rfl (nI_add j 1) (by decide) rfl (fun ls hl => ?_)
            refine lv_goto (tgt := 15) hx hb dX8_windiest_73 (by decide) ?_
            exact ih_15 (j + 1) _ _ _ _ X (lv_sub hl [0, 1, 3] rfl) (by omega) (by omega) (by rw [x_wd, ← hbd]; exact (if_pos ⟨c_30, Or.inl c_46⟩).symm)
          · have hb2 := x_wd_in (x_bs s n) fo2 j
            rw [← hbd] at hb2
            obtain ⟨z, hz, ez⟩ := hb2.resolve_left c_46
            refine lv_aload_n hx hb dX8_windiest_49 rfl (lv_at hl 3 rfl) ?_
            refine x_get F X (v := .ref b6) (C := RX8) (T := TX8) (N := 14) (ci := 8) in_X8 0 rfl rfl 7 (by decide) mw_2 rfl dX8_windiest_50 ?_
            refine lv_iload_n hx hb dX8_windiest_53 rfl (lv_at hl 1 rfl) ?_
            refine x_iald F X (v := (fo2 j)) (n := 20) (f := fo2) 6 rfl (vp_in_nI (by omega) (by omega)) (x_cl (by omega)) dX8_windiest_54 ?_
            refine lv_aload_n hx hb dX8_windiest_55 rfl (lv_at hl 3 rfl) ?_
            refine x_get F X (v := .ref b6) (C := RX8) (T := TX8) (N := 14) (ci := 8) in_X8 0 rfl rfl 7 (by decide) mw_2 rfl dX8_windiest_56 ?_
            refine lv_iload_n hx hb dX8_windiest_59 rfl (lv_at hl 2 rfl) ?_
            refine x_iald F X (v := (fo2 bd.toNatClampNeg)) (n := 20) (f := fo2) 6 rfl (by rw [ez]; exact vp_in_nI (by omega) (by omega)) (by rfl) dX8_windiest_60 ?_
            refine lv_icmp_le (tgt := 68) hx hb dX8_windiest_61 (by decide) (fun c_61 => ?_) (fun c_61 => ?_)
            · refine lv_iload_n hx hb dX8_windiest_68 rfl (lv_at hl 2 rfl) ?_
              refine lv_istore_n (lv' := [(1, .int bd), (3, .int 1), (2, .int (nI j)), (0, .ref b0)]) hx hb dX8_windiest_69 rfl hl (by decide) rfl (fun ls hl => ?_)
              refine lv_iinc (v := (nI (j + 1))) (lv' := [(2, .int (nI (j + 1))), (1, .int bd), (3, .int 1), (0, .ref b0)]) hx hb dX8_windiest_70 hl (k := 2) rfl (nI_add j 1) (by decide) rfl (fun ls hl => ?_)
              refine lv_goto (tgt := 15) hx hb dX8_windiest_73 (by decide) ?_
              exact ih_15 (j + 1) _ _ _ _ X (lv_sub hl [0, 1, 3] rfl) (by omega) (by omega) (by rw [x_wd, ← hbd]; exact (if_neg (fun h => h.2.elim c_46 (fun q => absurd c_61 (Int32.not_le.mpr q)))).symm)
            · refine lv_iload_n hx hb dX8_windiest_64 rfl (lv_at hl 1 rfl) ?_
              refine lv_goto (tgt := 69) hx hb dX8_windiest_65 (by decide) ?_
              refine lv_istore_n (lv' := [(1, .int (nI j)), (3, .int 1), (2, .int (nI j)), (0, .ref b0)]) hx hb dX8_windiest_69 rfl hl (by decide) rfl (fun ls hl => ?_)
              refine lv_iinc (v := (nI (j + 1))) (lv' := [(2, .int (nI (j + 1))), (1, .int (nI j)), (3, .int 1), (0, .ref b0)]) hx hb dX8_windiest_70 hl (k := 2) rfl (nI_add j 1) (by decide) rfl (fun ls hl => ?_)
              refine lv_goto (tgt := 15) hx hb dX8_windiest_73 (by decide) ?_
              exact ih_15 (j + 1) _ _ _ _ X (lv_sub hl [0, 1, 3] rfl) (by omega) (by omega) (by rw [x_wd, ← hbd]; exact (if_pos ⟨c_30, Or.inr (Int32.not_le.mp c_61)⟩).symm)
  exact L_15 (n + 1) 0 _ _ _ _ X (lv_sub hl [0, 1, 2] rfl) (by omega) (by omega) (by rfl)

set_option maxHeartbeats 1000000 in
set_option maxRecDepth 100000 in
theorem c_X8_wipe (l : Launch) (D : va_G) (q : xQ) (b0 : Nat) (b1 : Nat) (b2 : Nat) (b3 : Nat) (b4 : Nat) (b5 : Nat) (b6 : Nat) (b7 : Nat) (b8 : Nat) (s : Nat → Int32) (p : Nat → Int32) (sl : Nat → Int32) (sv : Nat → Int32) (pd : Nat → Int32) (fo : Nat → Int32) (to : Nat → Int32) (ou : Nat → Int32) (kn : Int32) (ln : Nat) (mn : Int32) (la : Int32) (op : Int32) (wr : Int32) : xMi l yX8_wipe wsX8_wipe { frames := 0, cells := 0, slots := 0, locals := 0 } D q [.ref b0] [mW q b0 b1 b2 b3 b4 b5 b6 b7 b8 s p sl sv pd fo to ou kn (nI ln) mn la op wr] (fun r gw => gw = [mW q b0 b1 b2 b3 b4 b5 b6 b7 b8 s p sl sv pd fo to ou kn 0 mn la op wr] ∧ r = nI ln) := by
  refine xMi_of (cc := cX8_wipe) (maxL := 2) (rt := .int) (by decide) rfl (Nat.le_of_ble_eq_true rfl) (fun _ _ _ => rfl) ?_
  intro p9 e9 s9 m9 a9 below meth c9 A9 Z9 ls H locs F X hl hret
  have hx := F.1.1
  have hb := F.1.2.1
  have in_X8 : ∀ w ∈ wsX80, w ∈ wsX8_wipe := by decide +kernel
  have mw_0 : Cond.fieldLink RX8 106 "HatWindsModel" "length" "I" ∈ wsX8_wipe := by decide +kernel
  have hl : lv_has ls 2 [(0, .ref b0)] := hl
  refine lv_aload_n hx hb dX8_wipe_0 rfl (lv_at hl 0 rfl) ?_
  refine x_get F X (v := .int (nI ln)) (C := RX8) (T := TX8) (N := 14) (ci := 8) in_X8 0 rfl rfl 6 (by decide) mw_0 rfl dX8_wipe_1 ?_
  refine lv_istore_n (lv' := [(1, .int (nI ln)), (0, .ref b0)]) hx hb dX8_wipe_4 rfl hl (by decide) rfl (fun ls hl => ?_)
  refine lv_aload_n hx hb dX8_wipe_5 rfl (lv_at hl 1 rfl) ?_
  refine lv_iconst (v := 0) hx hb dX8_wipe_6 (by decide) ?_
  refine x_put F X (gs' := [mW q b0 b1 b2 b3 b4 b5 b6 b7 b8 s p sl sv pd fo to ou kn 0 mn la op wr]) (v := .int 0) (C := RX8) (T := TX8) (N := 14) (ci := 8) in_X8 tyX8 tyX8_ok nmX8 0 rfl rfl 6 (by decide) mw_0 rfl rfl rfl (Nat.le_of_ble_eq_true rfl) dX8_wipe_7 rfl (fun H locs X => ?_)
  refine lv_iload_n hx hb dX8_wipe_10 rfl (lv_at hl 0 rfl) ?_
  exact hret _ _ _ _ _ _ (by exact ⟨rfl, rfl⟩) X dX8_wipe_11

set_option maxHeartbeats 1000000 in
set_option maxRecDepth 100000 in
theorem c_X8_canSet (l : Launch) (D : va_G) (q : xQ) (a : Int32) (v : Int32) : xMi l yX8_canSet wsX8_canSet { frames := 1, cells := 0, slots := 0, locals := 22 } D q [.int a, .int v] [] (fun r gw => gw = [] ∧ ((r = 1 ∧ (x_cs a v)) ∨ (r = 0 ∧ ¬ (x_cs a v)))) := by
  refine xMi_of (cc := cX8_canSet) (maxL := 2) (rt := .boolean) (by decide) rfl (Nat.le_of_ble_eq_true rfl) (fun v w h => by obtain ⟨_, (⟨rfl, _⟩ | ⟨rfl, _⟩)⟩ := h <;> rfl) ?_
  intro p9 e9 s9 m9 a9 below meth c9 A9 Z9 ls H locs F X hl hret
  have hx := F.1.1
  have hb := F.1.2.1
  have mw_0 : Cond.initialized RX8 ∈ wsX8_canSet := by decide +kernel
  have hl : lv_has ls 2 [(0, .int a), (1, .int v)] := hl
  refine lv_iload_n hx hb dX8_canSet_0 rfl (lv_at hl 0 rfl) ?_
  rcases x_sw a 0 2 (by decide) with c_1 | c_1
  · refine lv_tableOut (tgt := 52) hx hb dX8_canSet_1 c_1 (by decide) ?_
    refine lv_iload_n hx hb dX8_canSet_52 rfl (lv_at hl 0 rfl) ?_
    refine lv_iconst (v := 3) hx hb dX8_canSet_53 (by decide) ?_
    refine lv_icmp_ne (tgt := 71) hx hb dX8_canSet_54 (by decide) (fun c_54 => ?_) (fun c_54 => ?_)
    · refine lv_iconst (v := 0) hx hb dX8_canSet_71 (by decide) ?_
      refine hret _ _ _ _ _ _ ?_ X dX8_canSet_72
      refine ⟨rfl, Or.inr ⟨rfl, ?_⟩⟩
      rintro (⟨e, h⟩ | ⟨e, h⟩ | ⟨e, h⟩ | ⟨e, h⟩)
      · rw [e] at c_1; exact absurd c_1 (by decide)
      · rw [e] at c_1; exact absurd c_1 (by decide)
      · rw [e] at c_1; exact absurd c_1 (by decide)
      · exact c_54 e
    · refine lv_iload_n hx hb dX8_canSet_57 rfl (lv_at hl 1 rfl) ?_
      refine lv_iconst (v := 1) hx hb dX8_canSet_58 (by decide) ?_
      refine lv_bipush (v := 30) hx hb dX8_canSet_59 (by decide) ?_
      refine x_cSi F X (gc := []) (gr := []) (xp_idx (n := 0) [] (by decide +kernel) rfl rfl) (c_X8_in l D q v 1 30 ) (va_cwS 3 F.1.2.2.2.2 gX8_canSet_X8_in rfl rfl rfl (by decide +kernel) ⟨Nat.le_of_ble_eq_true rfl, Nat.le_of_ble_eq_true rfl⟩) rfl rfl hl.1 ⟨Nat.le_of_ble_eq_true rfl, Nat.le_of_ble_eq_true rfl⟩ (Nat.le_of_ble_eq_true rfl) dX8_canSet_61 (fun r_61 g1 H locs hp X => ?_)
      obtain ⟨rfl, hz⟩ := hp
      have X : xS D A9 s9 [] H locs := X
      rcases hz with ⟨rfl, b_61⟩ | ⟨rfl, b_61⟩
      · refine lv_if_eq (tgt := 71) hx hb dX8_canSet_64 (by decide) (fun h => absurd h (by decide)) (fun _ => ?_)
        refine lv_iconst (v := 1) hx hb dX8_canSet_67 (by decide) ?_
        refine lv_goto (tgt := 72) hx hb dX8_canSet_68 (by decide) ?_
        exact hret _ _ _ _ _ _ (by exact ⟨rfl, Or.inl ⟨rfl, Or.inr (Or.inr (Or.inr ⟨c_54, b_61⟩))⟩⟩) X dX8_canSet_72
      · refine lv_if_eq (tgt := 71) hx hb dX8_canSet_64 (by decide) (fun _ => ?_) (fun h => absurd (by decide) h)
        refine lv_iconst (v := 0) hx hb dX8_canSet_71 (by decide) ?_
        refine hret _ _ _ _ _ _ ?_ X dX8_canSet_72
        refine ⟨rfl, Or.inr ⟨rfl, ?_⟩⟩
        rintro (⟨e, h⟩ | ⟨e, h⟩ | ⟨e, h⟩ | ⟨e, h⟩)
        · rw [e] at c_1; exact absurd c_1 (by decide)
        · rw [e] at c_1; exact absurd c_1 (by decide)
        · rw [e] at c_1; exact absurd c_1 (by decide)
        · exact b_61 h
  · obtain ⟨j_1, hj1, hj2, e_1⟩ := c_1
    subst e_1
    rcases (show j_1 = 0 ∨ j_1 = 1 ∨ j_1 = 2 by omega) with rfl | rfl | rfl
    · refine lv_tableIn (off := 27) (tgt := 28) hx hb dX8_canSet_1 (by decide) (by decide) (by decide) (by decide) ?_
      refine lv_iload_n hx hb dX8_canSet_28 rfl (lv_at hl 1 rfl) ?_
      refine lv_iconst (v := 1) hx hb dX8_canSet_29 (by decide) ?_
      refine lv_bipush (v := 20) hx hb dX8_canSet_30 (by decide) ?_
      refine x_cSi F X (gc := []) (gr := []) (xp_idx (n := 0) [] (by decide +kernel) rfl rfl) (c_X8_in l D q v 1 20 ) (va_cwS 3 F.1.2.2.2.2 gX8_canSet_X8_in rfl rfl rfl (by decide +kernel) ⟨Nat.le_of_ble_eq_true rfl, Nat.le_of_ble_eq_true rfl⟩) rfl rfl hl.1 ⟨Nat.le_of_ble_eq_true rfl, Nat.le_of_ble_eq_true rfl⟩ (Nat.le_of_ble_eq_true rfl) dX8_canSet_32 (fun r_32 g1 H locs hp X => ?_)
      obtain ⟨rfl, hz⟩ := hp
      have X : xS D A9 s9 [] H locs := X
      rcases hz with ⟨rfl, b_32⟩ | ⟨rfl, b_32⟩
      · exact hret _ _ _ _ _ _ (by exact ⟨rfl, Or.inl ⟨rfl, Or.inl ⟨rfl, b_32⟩⟩⟩) X dX8_canSet_35
      · refine hret _ _ _ _ _ _ ?_ X dX8_canSet_35
        refine ⟨rfl, Or.inr ⟨rfl, ?_⟩⟩
        rintro (⟨e, h⟩ | ⟨e, h⟩ | ⟨e, h⟩ | ⟨e, h⟩)
        · exact b_32 h
        · exact absurd e (by decide)
        · exact absurd e (by decide)
        · exact absurd e (by decide)
    · refine lv_tableIn (off := 35) (tgt := 36) hx hb dX8_canSet_1 (by decide) (by decide) (by decide) (by decide) ?_
      refine lv_iload_n hx hb dX8_canSet_36 rfl (lv_at hl 1 rfl) ?_
      refine lv_iconst (v := 1) hx hb dX8_canSet_37 (by decide) ?_
      refine lv_bipush (v := 60) hx hb dX8_canSet_38 (by decide) ?_
      refine x_cSi F X (gc := []) (gr := []) (xp_idx (n := 0) [] (by decide +kernel) rfl rfl) (c_X8_in l D q v 1 60 ) (va_cwS 3 F.1.2.2.2.2 gX8_canSet_X8_in rfl rfl rfl (by decide +kernel) ⟨Nat.le_of_ble_eq_true rfl, Nat.le_of_ble_eq_true rfl⟩) rfl rfl hl.1 ⟨Nat.le_of_ble_eq_true rfl, Nat.le_of_ble_eq_true rfl⟩ (Nat.le_of_ble_eq_true rfl) dX8_canSet_40 (fun r_40 g1 H locs hp X => ?_)
      obtain ⟨rfl, hz⟩ := hp
      have X : xS D A9 s9 [] H locs := X
      rcases hz with ⟨rfl, b_40⟩ | ⟨rfl, b_40⟩
      · exact hret _ _ _ _ _ _ (by exact ⟨rfl, Or.inl ⟨rfl, Or.inr (Or.inl ⟨rfl, b_40⟩)⟩⟩) X dX8_canSet_43
      · refine hret _ _ _ _ _ _ ?_ X dX8_canSet_43
        refine ⟨rfl, Or.inr ⟨rfl, ?_⟩⟩
        rintro (⟨e, h⟩ | ⟨e, h⟩ | ⟨e, h⟩ | ⟨e, h⟩)
        · exact absurd e (by decide)
        · exact b_40 h
        · exact absurd e (by decide)
        · exact absurd e (by decide)
    · refine lv_tableIn (off := 43) (tgt := 44) hx hb dX8_canSet_1 (by decide) (by decide) (by decide) (by decide) ?_
      refine lv_iload_n hx hb dX8_canSet_44 rfl (lv_at hl 1 rfl) ?_
      refine lv_iconst (v := 0) hx hb dX8_canSet_45 (by decide) ?_
      refine lv_bipush (v := 100) hx hb dX8_canSet_46 (by decide) ?_
      refine x_cSi F X (gc := []) (gr := []) (xp_idx (n := 0) [] (by decide +kernel) rfl rfl) (c_X8_in l D q v 0 100 ) (va_cwS 3 F.1.2.2.2.2 gX8_canSet_X8_in rfl rfl rfl (by decide +kernel) ⟨Nat.le_of_ble_eq_true rfl, Nat.le_of_ble_eq_true rfl⟩) rfl rfl hl.1 ⟨Nat.le_of_ble_eq_true rfl, Nat.le_of_ble_eq_true rfl⟩ (Nat.le_of_ble_eq_true rfl) dX8_canSet_48 (fun r_48 g1 H locs hp X => ?_)
      obtain ⟨rfl, hz⟩ := hp
      have X : xS D A9 s9 [] H locs := X
      rcases hz with ⟨rfl, b_48⟩ | ⟨rfl, b_48⟩
      · exact hret _ _ _ _ _ _ (by exact ⟨rfl, Or.inl ⟨rfl, Or.inr (Or.inr (Or.inl ⟨rfl, b_48⟩))⟩⟩) X dX8_canSet_51
      · refine hret _ _ _ _ _ _ ?_ X dX8_canSet_51
        refine ⟨rfl, Or.inr ⟨rfl, ?_⟩⟩
        rintro (⟨e, h⟩ | ⟨e, h⟩ | ⟨e, h⟩ | ⟨e, h⟩)
        · exact absurd e (by decide)
        · exact absurd e (by decide)
        · exact b_48 h
        · exact absurd e (by decide)

set_option maxHeartbeats 1000000 in
set_option maxRecDepth 100000 in
theorem c_X8_canChange (l : Launch) (D : va_G) (q : xQ) (a : Int32) (v : Int32) : xMi l yX8_canChange wsX8_canChange { frames := 1, cells := 0, slots := 0, locals := 22 } D q [.int a, .int v] [] (fun r gw => gw = [] ∧ ((r = 1 ∧ (x_cc a v)) ∨ (r = 0 ∧ ¬ (x_cc a v)))) := by
  refine xMi_of (cc := cX8_canChange) (maxL := 2) (rt := .boolean) (by decide) rfl (Nat.le_of_ble_eq_true rfl) (fun v w h => by obtain ⟨_, (⟨rfl, _⟩ | ⟨rfl, _⟩)⟩ := h <;> rfl) ?_
  intro p9 e9 s9 m9 a9 below meth c9 A9 Z9 ls H locs F X hl hret
  have hx := F.1.1
  have hb := F.1.2.1
  have mw_0 : Cond.initialized RX8 ∈ wsX8_canChange := by decide +kernel
  have hl : lv_has ls 2 [(0, .int a), (1, .int v)] := hl
  refine lv_iload_n hx hb dX8_canChange_0 rfl (lv_at hl 0 rfl) ?_
  rcases x_sw a 0 2 (by decide) with c_1 | c_1
  · refine lv_tableOut (tgt := 50) hx hb dX8_canChange_1 c_1 (by decide) ?_
    refine lv_iload_n hx hb dX8_canChange_50 rfl (lv_at hl 0 rfl) ?_
    refine lv_iconst (v := 3) hx hb dX8_canChange_51 (by decide) ?_
    refine lv_icmp_ne (tgt := 69) hx hb dX8_canChange_52 (by decide) (fun c_52 => ?_) (fun c_52 => ?_)
    · refine lv_iconst (v := 0) hx hb dX8_canChange_69 (by decide) ?_
      refine hret _ _ _ _ _ _ ?_ X dX8_canChange_70
      refine ⟨rfl, Or.inr ⟨rfl, ?_⟩⟩
      rintro (⟨e, h⟩ | ⟨e, h⟩ | ⟨e, h⟩ | ⟨e, h⟩)
      · rw [e] at c_1; exact absurd c_1 (by decide)
      · rw [e] at c_1; exact absurd c_1 (by decide)
      · rw [e] at c_1; exact absurd c_1 (by decide)
      · exact c_52 e
    · refine lv_iload_n hx hb dX8_canChange_55 rfl (lv_at hl 1 rfl) ?_
      refine lv_iconst (v := 1) hx hb dX8_canChange_56 (by decide) ?_
      refine lv_bipush (v := 9) hx hb dX8_canChange_57 (by decide) ?_
      refine x_cSi F X (gc := []) (gr := []) (xp_idx (n := 0) [] (by decide +kernel) rfl rfl) (c_X8_in l D q v 1 9 ) (va_cwS 3 F.1.2.2.2.2 gX8_canChange_X8_in rfl rfl rfl (by decide +kernel) ⟨Nat.le_of_ble_eq_true rfl, Nat.le_of_ble_eq_true rfl⟩) rfl rfl hl.1 ⟨Nat.le_of_ble_eq_true rfl, Nat.le_of_ble_eq_true rfl⟩ (Nat.le_of_ble_eq_true rfl) dX8_canChange_59 (fun r_59 g1 H locs hp X => ?_)
      obtain ⟨rfl, hz⟩ := hp
      have X : xS D A9 s9 [] H locs := X
      rcases hz with ⟨rfl, b_59⟩ | ⟨rfl, b_59⟩
      · refine lv_if_eq (tgt := 69) hx hb dX8_canChange_62 (by decide) (fun h => absurd h (by decide)) (fun _ => ?_)
        refine lv_iconst (v := 1) hx hb dX8_canChange_65 (by decide) ?_
        refine lv_goto (tgt := 70) hx hb dX8_canChange_66 (by decide) ?_
        exact hret _ _ _ _ _ _ (by exact ⟨rfl, Or.inl ⟨rfl, Or.inr (Or.inr (Or.inr ⟨c_52, b_59⟩))⟩⟩) X dX8_canChange_70
      · refine lv_if_eq (tgt := 69) hx hb dX8_canChange_62 (by decide) (fun _ => ?_) (fun h => absurd (by decide) h)
        refine lv_iconst (v := 0) hx hb dX8_canChange_69 (by decide) ?_
        refine hret _ _ _ _ _ _ ?_ X dX8_canChange_70
        refine ⟨rfl, Or.inr ⟨rfl, ?_⟩⟩
        rintro (⟨e, h⟩ | ⟨e, h⟩ | ⟨e, h⟩ | ⟨e, h⟩)
        · rw [e] at c_1; exact absurd c_1 (by decide)
        · rw [e] at c_1; exact absurd c_1 (by decide)
        · rw [e] at c_1; exact absurd c_1 (by decide)
        · exact b_59 h
  · obtain ⟨j_1, hj1, hj2, e_1⟩ := c_1
    subst e_1
    rcases (show j_1 = 0 ∨ j_1 = 1 ∨ j_1 = 2 by omega) with rfl | rfl | rfl
    · refine lv_tableIn (off := 27) (tgt := 28) hx hb dX8_canChange_1 (by decide) (by decide) (by decide) (by decide) ?_
      refine lv_iload_n hx hb dX8_canChange_28 rfl (lv_at hl 1 rfl) ?_
      refine lv_iconst (v := 0) hx hb dX8_canChange_29 (by decide) ?_
      refine lv_iconst (v := 5) hx hb dX8_canChange_30 (by decide) ?_
      refine x_cSi F X (gc := []) (gr := []) (xp_idx (n := 0) [] (by decide +kernel) rfl rfl) (c_X8_in l D q v 0 5 ) (va_cwS 3 F.1.2.2.2.2 gX8_canChange_X8_in rfl rfl rfl (by decide +kernel) ⟨Nat.le_of_ble_eq_true rfl, Nat.le_of_ble_eq_true rfl⟩) rfl rfl hl.1 ⟨Nat.le_of_ble_eq_true rfl, Nat.le_of_ble_eq_true rfl⟩ (Nat.le_of_ble_eq_true rfl) dX8_canChange_31 (fun r_31 g1 H locs hp X => ?_)
      obtain ⟨rfl, hz⟩ := hp
      have X : xS D A9 s9 [] H locs := X
      rcases hz with ⟨rfl, b_31⟩ | ⟨rfl, b_31⟩
      · exact hret _ _ _ _ _ _ (by exact ⟨rfl, Or.inl ⟨rfl, Or.inl ⟨rfl, b_31⟩⟩⟩) X dX8_canChange_34
      · refine hret _ _ _ _ _ _ ?_ X dX8_canChange_34
        refine ⟨rfl, Or.inr ⟨rfl, ?_⟩⟩
        rintro (⟨e, h⟩ | ⟨e, h⟩ | ⟨e, h⟩ | ⟨e, h⟩)
        · exact b_31 h
        · exact absurd e (by decide)
        · exact absurd e (by decide)
        · exact absurd e (by decide)
    · refine lv_tableIn (off := 34) (tgt := 35) hx hb dX8_canChange_1 (by decide) (by decide) (by decide) (by decide) ?_
      refine lv_iload_n hx hb dX8_canChange_35 rfl (lv_at hl 1 rfl) ?_
      refine lv_iconst (v := 0) hx hb dX8_canChange_36 (by decide) ?_
      refine lv_iconst (v := 1) hx hb dX8_canChange_37 (by decide) ?_
      refine x_cSi F X (gc := []) (gr := []) (xp_idx (n := 0) [] (by decide +kernel) rfl rfl) (c_X8_in l D q v 0 1 ) (va_cwS 3 F.1.2.2.2.2 gX8_canChange_X8_in rfl rfl rfl (by decide +kernel) ⟨Nat.le_of_ble_eq_true rfl, Nat.le_of_ble_eq_true rfl⟩) rfl rfl hl.1 ⟨Nat.le_of_ble_eq_true rfl, Nat.le_of_ble_eq_true rfl⟩ (Nat.le_of_ble_eq_true rfl) dX8_canChange_38 (fun r_38 g1 H locs hp X => ?_)
      obtain ⟨rfl, hz⟩ := hp
      have X : xS D A9 s9 [] H locs := X
      rcases hz with ⟨rfl, b_38⟩ | ⟨rfl, b_38⟩
      · exact hret _ _ _ _ _ _ (by exact ⟨rfl, Or.inl ⟨rfl, Or.inr (Or.inl ⟨rfl, b_38⟩)⟩⟩) X dX8_canChange_41
      · refine hret _ _ _ _ _ _ ?_ X dX8_canChange_41
        refine ⟨rfl, Or.inr ⟨rfl, ?_⟩⟩
        rintro (⟨e, h⟩ | ⟨e, h⟩ | ⟨e, h⟩ | ⟨e, h⟩)
        · exact absurd e (by decide)
        · exact b_38 h
        · exact absurd e (by decide)
        · exact absurd e (by decide)
    · refine lv_tableIn (off := 41) (tgt := 42) hx hb dX8_canChange_1 (by decide) (by decide) (by decide) (by decide) ?_
      refine lv_iload_n hx hb dX8_canChange_42 rfl (lv_at hl 1 rfl) ?_
      refine lv_iconst (v := 0) hx hb dX8_canChange_43 (by decide) ?_
      refine lv_bipush (v := 99) hx hb dX8_canChange_44 (by decide) ?_
      refine x_cSi F X (gc := []) (gr := []) (xp_idx (n := 0) [] (by decide +kernel) rfl rfl) (c_X8_in l D q v 0 99 ) (va_cwS 3 F.1.2.2.2.2 gX8_canChange_X8_in rfl rfl rfl (by decide +kernel) ⟨Nat.le_of_ble_eq_true rfl, Nat.le_of_ble_eq_true rfl⟩) rfl rfl hl.1 ⟨Nat.le_of_ble_eq_true rfl, Nat.le_of_ble_eq_true rfl⟩ (Nat.le_of_ble_eq_true rfl) dX8_canChange_46 (fun r_46 g1 H locs hp X => ?_)
      obtain ⟨rfl, hz⟩ := hp
      have X : xS D A9 s9 [] H locs := X
      rcases hz with ⟨rfl, b_46⟩ | ⟨rfl, b_46⟩
      · exact hret _ _ _ _ _ _ (by exact ⟨rfl, Or.inl ⟨rfl, Or.inr (Or.inr (Or.inl ⟨rfl, b_46⟩))⟩⟩) X dX8_canChange_49
      · refine hret _ _ _ _ _ _ ?_ X dX8_canChange_49
        refine ⟨rfl, Or.inr ⟨rfl, ?_⟩⟩
        rintro (⟨e, h⟩ | ⟨e, h⟩ | ⟨e, h⟩ | ⟨e, h⟩)
        · exact absurd e (by decide)
        · exact absurd e (by decide)
        · exact b_46 h
        · exact absurd e (by decide)

set_option maxHeartbeats 1000000 in
set_option maxRecDepth 100000 in
theorem c_X8_kept (l : Launch) (D : va_G) (q : xQ) (w : Nat) (hw : w ≤ 3) : xMi l yX8_kept wsX8_kept { frames := 0, cells := 0, slots := 0, locals := 0 } D q [.int (nI w)] [] (fun r gw => gw = [] ∧ r = nI (x_kp w)) := by
  refine xMi_of (cc := cX8_kept) (maxL := 1) (rt := .int) (by decide) rfl (Nat.le_of_ble_eq_true rfl) (fun _ _ _ => rfl) ?_
  intro p9 e9 s9 m9 a9 below meth c9 A9 Z9 ls H locs F X hl hret
  have hx := F.1.1
  have hb := F.1.2.1
  have hl : lv_has ls 1 [(0, .int (nI w))] := hl
  refine lv_iload_n hx hb dX8_kept_0 rfl (lv_at hl 0 rfl) ?_
  refine lv_if_ne (tgt := 8) hx hb dX8_kept_1 (by decide) (fun c_1 => ?_) (fun c_1 => ?_)
  · have c_1 : ¬ (w = 0) := fun h => c_1 ((nI_eq (a := w) (b := 0) (by omega) (by omega)).mpr h)
    refine lv_iload_n hx hb dX8_kept_8 rfl (lv_at hl 0 rfl) ?_
    refine lv_iconst (v := 1) hx hb dX8_kept_9 (by decide) ?_
    refine lv_icmp_ne (tgt := 17) hx hb dX8_kept_10 (by decide) (fun c_10 => ?_) (fun c_10 => ?_)
    · have c_10 : ¬ (w = 1) := fun h => c_10 ((nI_eq (a := w) (b := 1) (by omega) (by omega)).mpr h)
      refine lv_iload_n hx hb dX8_kept_17 rfl (lv_at hl 0 rfl) ?_
      refine lv_iconst (v := 2) hx hb dX8_kept_18 (by decide) ?_
      refine lv_icmp_ne (tgt := 26) hx hb dX8_kept_19 (by decide) (fun c_19 => ?_) (fun c_19 => ?_)
      · have c_19 : ¬ (w = 2) := fun h => c_19 ((nI_eq (a := w) (b := 2) (by omega) (by omega)).mpr h)
        refine lv_iconst (v := 1) hx hb dX8_kept_26 (by decide) ?_
        exact hret _ _ _ _ _ _ (by exact ⟨rfl, by unfold x_kp; rw [if_neg c_1, if_neg c_10, if_neg c_19]; rfl⟩) X dX8_kept_27
      · have c_19 : w = 2 := (nI_eq (a := w) (b := 2) (by omega) (by omega)).mp c_19
        refine lv_iconst (v := 4) hx hb dX8_kept_22 (by decide) ?_
        refine lv_goto (tgt := 27) hx hb dX8_kept_23 (by decide) ?_
        exact hret _ _ _ _ _ _ (by exact ⟨rfl, by unfold x_kp; rw [if_neg c_1, if_neg c_10, if_pos c_19]; rfl⟩) X dX8_kept_27
    · have c_10 : w = 1 := (nI_eq (a := w) (b := 1) (by omega) (by omega)).mp c_10
      refine lv_iconst (v := 3) hx hb dX8_kept_13 (by decide) ?_
      refine lv_goto (tgt := 27) hx hb dX8_kept_14 (by decide) ?_
      exact hret _ _ _ _ _ _ (by exact ⟨rfl, by unfold x_kp; rw [if_neg c_1, if_pos c_10]; rfl⟩) X dX8_kept_27
  · have c_1 : w = 0 := (nI_eq (a := w) (b := 0) (by omega) (by omega)).mp c_1
    refine lv_iconst (v := 2) hx hb dX8_kept_4 (by decide) ?_
    refine lv_goto (tgt := 27) hx hb dX8_kept_5 (by decide) ?_
    exact hret _ _ _ _ _ _ (by exact ⟨rfl, by unfold x_kp; rw [if_pos c_1]; rfl⟩) X dX8_kept_27

