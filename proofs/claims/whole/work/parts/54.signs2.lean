set_option maxHeartbeats 1000000 in
set_option maxRecDepth 100000 in
theorem c_X7_signsIn (l : Launch) (D : va_G) (q : xQ) (ch : Int64) : xMi l yX7_signsIn wsX7_signsIn { frames := 1, cells := 0, slots := 0, locals := 22 } D q [.long ch] [] (fun r gw => gw = [] ∧ ((∃ n, 1 ≤ n ∧ x_pv ch n ∧ r = nI n) ∨ ((∀ n, 1 ≤ n → ¬ x_pv ch n) ∧ r = 0))) := by
  refine xMi_of (cc := cX7_signsIn) (maxL := 6) (rt := .int) (by decide) rfl (Nat.le_of_ble_eq_true rfl) (fun _ _ _ => rfl) ?_
  intro p9 e9 s9 m9 a9 below meth c9 A9 Z9 ls H locs F X hl hret
  have hx := F.1.1
  have hb := F.1.2.1
  have mw_0 : Cond.constantLong RX7 249 (255) ∈ wsX7_signsIn := by decide +kernel
  have mw_1 : Cond.initialized RX7 ∈ wsX7_signsIn := by decide +kernel
  have hl : lv_has ls 6 [(0, .long ch)] := hl
  refine lv_lload_n hx hb dX7_signsIn_0 rfl (lv_at hl 0 rfl) ?_
  refine x_l (y := (lN (ch.toBitVec.toNat / 2 ^ (8 * 0)))) (by rw [Nat.mul_zero, Nat.pow_zero, Nat.div_one]; exact x_lof ch) ?_
  refine lv_lstore_n (lv' := [(2, .long (lN (ch.toBitVec.toNat / 2 ^ (8 * 0)))), (0, .long ch)]) hx hb dX7_signsIn_1 rfl hl (by decide) rfl (fun ls hl => ?_)
  refine lv_iconst (v := 0) hx hb dX7_signsIn_2 (by decide) ?_
  refine lv_istore (lv' := [(4, .int 0), (2, .long (lN (ch.toBitVec.toNat / 2 ^ (8 * 0)))), (0, .long ch)]) hx hb dX7_signsIn_3 hl (by decide) rfl (fun ls hl => ?_)
  refine lv_iconst (v := 0) hx hb dX7_signsIn_5 (by decide) ?_
  refine lv_istore (lv' := [(5, .int 0), (4, .int 0), (2, .long (lN (ch.toBitVec.toNat / 2 ^ (8 * 0)))), (0, .long ch)]) hx hb dX7_signsIn_6 hl (by decide) rfl (fun ls hl => ?_)
  have L_8 : ∀ (nn : Nat) (i : Nat) (H : Heap) (locs : List Loc) (ls : Array Slot), xS D A9 s9 [] H locs → lv_has ls 6 [(5, .int (nI i)), (4, .int (nI i)), (2, .long (lN (ch.toBitVec.toNat / 2 ^ (8 * i)))), (0, .long ch)] → (8 < i + nn) → (i ≤ 8) → (∀ j, j < i → 33 ≤ x_by ch j ∧ x_by ch j ≤ 126) → W p9 l e9 { frames := 1, cells := 0, slots := 0, locals := 22 } s9 m9 a9 below meth c9 H locs 0 0 Z9 (F0 m9 8 ls []) := by
    intro nn
    induction nn with
    | zero => intro i H locs ls X hl hfuel hi hall; exact absurd hfuel (by omega)
    | succ nn ih_8 =>
      intro i H locs ls X hl hfuel hi hall
      refine lv_iload hx hb dX7_signsIn_8 (lv_at hl 0 rfl) ?_
      refine lv_bipush (v := 8) hx hb dX7_signsIn_10 (by decide) ?_
      refine lv_icmp_ge (tgt := 57) hx hb dX7_signsIn_12 (by decide) (fun c_12 => ?_) (fun c_12 => ?_)
      · have c_12 : 8 ≤ i := (nI_leI (a := 8) (b := i) (by omega) (by omega)).mp c_12
        refine lv_lload_n hx hb dX7_signsIn_57 rfl (lv_at hl 2 rfl) ?_
        refine lv_lconst (v := 0) hx hb dX7_signsIn_58 (by decide) ?_
        refine W.lcmp hx hb dX7_signsIn_59 ?_
        refine lv_if_ne (tgt := 68) hx hb dX7_signsIn_60 (by decide) (fun c_60 => ?_) (fun c_60 => ?_)
        · refine lv_iconst (v := 0) hx hb dX7_signsIn_68 (by decide) ?_
          refine hret _ _ _ _ _ _ ?_ X dX7_signsIn_69
          obtain rfl : i = 8 := by omega
          exact absurd (Nat.div_eq_of_lt ch.toBitVec.isLt) (fun e => c_60 (by rw [e]; decide))
        · refine lv_iload hx hb dX7_signsIn_63 (lv_at hl 1 rfl) ?_
          refine lv_goto (tgt := 69) hx hb dX7_signsIn_65 (by decide) ?_
          refine hret _ _ _ _ _ _ ?_ X dX7_signsIn_69
          obtain rfl : i = 8 := by omega
          exact ⟨rfl, Or.inl ⟨8, by omega, x_pv_yes (Nat.le_refl 8) hall (Nat.div_eq_of_lt ch.toBitVec.isLt), rfl⟩⟩
      · have c_12 : i < 8 := Nat.not_le.mp (fun h => c_12 ((nI_leI (a := 8) (b := i) (by omega) (by omega)).mpr h))
        refine lv_lload_n hx hb dX7_signsIn_15 rfl (lv_at hl 2 rfl) ?_
        refine lv_ldc2 (v := 255) hx hb F.1.2.2.2.1 (F.1.2.2.2.2 _ mw_0) dX7_signsIn_16 ?_
        refine lv_land hx hb dX7_signsIn_19 ?_
        refine x_l (y := (lN (x_by ch i))) (x_land) ?_
        refine lv_lconst (v := 0) hx hb dX7_signsIn_20 (by decide) ?_
        refine W.lcmp hx hb dX7_signsIn_21 ?_
        refine lv_if_eq (tgt := 57) hx hb dX7_signsIn_22 (by decide) (fun c_22 => ?_) (fun c_22 => ?_)
        · refine lv_lload_n hx hb dX7_signsIn_57 rfl (lv_at hl 2 rfl) ?_
          refine lv_lconst (v := 0) hx hb dX7_signsIn_58 (by decide) ?_
          refine W.lcmp hx hb dX7_signsIn_59 ?_
          refine lv_if_ne (tgt := 68) hx hb dX7_signsIn_60 (by decide) (fun c_60 => ?_) (fun c_60 => ?_)
          · refine lv_iconst (v := 0) hx hb dX7_signsIn_68 (by decide) ?_
            refine hret _ _ _ _ _ _ ?_ X dX7_signsIn_69
            have hz : x_by ch i = 0 := (x_lN0 (by have := x_by_lt ch i; omega)).mp (x_cmp0.mp c_22)
            have hM : ch.toBitVec.toNat / 2 ^ (8 * i) < 2 ^ 64 := Nat.lt_of_le_of_lt (Nat.div_le_self _ _) ch.toBitVec.isLt
            exact ⟨rfl, Or.inr ⟨fun n _ => x_pv_no (by omega) hall (Or.inl ⟨hz, fun e => c_60 (by rw [e]; decide)⟩), rfl⟩⟩
          · refine lv_iload hx hb dX7_signsIn_63 (lv_at hl 1 rfl) ?_
            refine lv_goto (tgt := 69) hx hb dX7_signsIn_65 (by decide) ?_
            refine hret _ _ _ _ _ _ ?_ X dX7_signsIn_69
            have hz : x_by ch i = 0 := (x_lN0 (by have := x_by_lt ch i; omega)).mp (x_cmp0.mp c_22)
            have hM : ch.toBitVec.toNat / 2 ^ (8 * i) < 2 ^ 64 := Nat.lt_of_le_of_lt (Nat.div_le_self _ _) ch.toBitVec.isLt
            have hy := x_pv_yes hi hall ((x_lN0 hM).mp (x_cmp0.mp c_60))
            rcases Nat.eq_zero_or_pos i with e | e
            · subst e
              exact ⟨rfl, Or.inr ⟨fun n h1 h => by have := h.2.1 0 h1; omega, rfl⟩⟩
            · exact ⟨rfl, Or.inl ⟨i, e, hy, rfl⟩⟩
        · refine lv_lload_n hx hb dX7_signsIn_25 rfl (lv_at hl 2 rfl) ?_
          refine lv_ldc2 (v := 255) hx hb F.1.2.2.2.1 (F.1.2.2.2.2 _ mw_0) dX7_signsIn_26 ?_
          refine lv_land hx hb dX7_signsIn_29 ?_
          refine x_l (y := (lN (x_by ch i))) (x_land) ?_
          have hby := x_by_lt ch i
          refine lv_l2i (v := (Int64.toInt32 (lN (x_by ch i)))) hx hb dX7_signsIn_30 rfl ?_
          refine x_i (y := (nI (x_by ch i))) (lN_i _) ?_
          refine lv_bipush (v := 33) hx hb dX7_signsIn_31 (by decide) ?_
          refine lv_bipush (v := 126) hx hb dX7_signsIn_33 (by decide) ?_
          refine x_cSi F X (gc := []) (gr := []) (xp_idx (n := 0) [] (by decide +kernel) rfl rfl) (c_X7_isWithinN l D q (x_by ch i) 33 126 (by first | assumption | omega) (by first | assumption | omega) (by first | assumption | omega)) (va_cwS 3 F.1.2.2.2.2 gX7_signsIn_X7_isWithin rfl rfl rfl (by decide +kernel) ⟨Nat.le_of_ble_eq_true rfl, Nat.le_of_ble_eq_true rfl⟩) rfl rfl hl.1 ⟨Nat.le_of_ble_eq_true rfl, Nat.le_of_ble_eq_true rfl⟩ (Nat.le_of_ble_eq_true rfl) dX7_signsIn_35 (fun r_35 g1 H locs hp X => ?_)
          obtain ⟨rfl, hz⟩ := hp
          have X : xS D A9 s9 [] H locs := X
          rcases hz with ⟨rfl, b_35⟩ | ⟨rfl, b_35⟩
          · refine lv_if_ne (tgt := 43) hx hb dX7_signsIn_38 (by decide) (fun _ => ?_) (fun h => absurd h (by decide))
            refine lv_lload_n hx hb dX7_signsIn_43 rfl (lv_at hl 2 rfl) ?_
            refine lv_bipush (v := 8) hx hb dX7_signsIn_44 (by decide) ?_
            refine lv_lushr (v := ((lN (ch.toBitVec.toNat / 2 ^ (8 * i))).toUInt64 >>> (Int64.toUInt64 (Int32.toInt64 8) &&& Int64.toUInt64 63)).toInt64) hx hb dX7_signsIn_46 rfl ?_
            refine x_l (y := (lN (ch.toBitVec.toNat / 2 ^ (8 * (i + 1))))) (x_lsh8) ?_
            refine lv_lstore_n (lv' := [(2, .long (lN (ch.toBitVec.toNat / 2 ^ (8 * (i + 1))))), (5, .int (nI i)), (4, .int (nI i)), (0, .long ch)]) hx hb dX7_signsIn_47 rfl hl (by decide) rfl (fun ls hl => ?_)
            refine lv_iinc (v := (nI (i + 1))) (lv' := [(4, .int (nI (i + 1))), (2, .long (lN (ch.toBitVec.toNat / 2 ^ (8 * (i + 1))))), (5, .int (nI i)), (0, .long ch)]) hx hb dX7_signsIn_48 hl (k := 2) rfl (nI_add i 1) (by decide) rfl (fun ls hl => ?_)
            refine lv_iinc (v := (nI (i + 1))) (lv' := [(5, .int (nI (i + 1))), (4, .int (nI (i + 1))), (2, .long (lN (ch.toBitVec.toNat / 2 ^ (8 * (i + 1))))), (0, .long ch)]) hx hb dX7_signsIn_51 hl (k := 2) rfl (nI_add i 1) (by decide) rfl (fun ls hl => ?_)
            refine lv_goto (tgt := 8) hx hb dX7_signsIn_54 (by decide) ?_
            exact ih_8 (i + 1) _ _ _ X (lv_sub hl [0, 1, 2, 3] rfl) (by omega) (by omega) (by
                intro j hj
                by_cases e : j = i
                · rw [e]; exact b_35
                · exact hall j (by omega))
          · refine lv_if_ne (tgt := 43) hx hb dX7_signsIn_38 (by decide) (fun h => absurd (by decide) h) (fun _ => ?_)
            refine lv_iconst (v := 0) hx hb dX7_signsIn_41 (by decide) ?_
            exact hret _ _ _ _ _ _ (by exact ⟨rfl, Or.inr ⟨fun n _ => x_pv_no (by omega) hall (Or.inr ⟨fun e => c_22 (by rw [e]; decide), b_35⟩), rfl⟩⟩) X dX7_signsIn_42
  exact L_8 (9) 0 _ _ _ X (lv_sub hl [0, 1, 2, 3] rfl) (by omega) (by omega) (by intro j hj; omega)

set_option maxHeartbeats 1000000 in
set_option maxRecDepth 100000 in
theorem c_X7_put (l : Launch) (D : va_G) (q : xQ) (x0 : Nat) (xt : Nat) (xa : Nat) (xh : Nat) (xs : Nat) (xf : Nat) (xp : Nat) (xd : Nat) (xr : Nat) (p1 : Nat) (z : Nat) (cs : Nat → Int32) (ov : Int32) (ch : Int64) (Ss : List Nat) (hS : xPad Ss cs z ov) (hS80 : Ss.length ≤ 80) : xMi l yX7_put wsX7_put { frames := 2, cells := 0, slots := 0, locals := 47 } D q [.ref x0, .long ch] [xoW q x0 xt xa xh xs xf xp xd xr, pW q xp p1 cs (nI z) ov] (fun r gw => ∃ (cs2 : Nat → Int32), ∃ (z2 : Nat), ∃ (ov2 : Int32), gw = [xoW q x0 xt xa xh xs xf xp xd xr, pW q xp p1 cs2 (nI z2) ov2] ∧ ((∃ n, 1 ≤ n ∧ x_pv ch n ∧ Ss.length + n ≤ 80 ∧ r = nI (Ss.length + n) ∧ xPad (Ss ++ x_sg ch n n) cs2 z2 ov2) ∨ (((∃ n, 1 ≤ n ∧ x_pv ch n ∧ 80 < Ss.length + n ∧ r = -4) ∨ ((∀ n, 1 ≤ n → ¬ x_pv ch n) ∧ r = -2)) ∧ cs2 = cs ∧ z2 = z ∧ ov2 = ov))) := by
  refine xMi_of (cc := cX7_put) (maxL := 5) (rt := .int) (by decide) rfl (Nat.le_of_ble_eq_true rfl) (fun _ _ _ => rfl) ?_
  intro p9 e9 s9 m9 a9 below meth c9 A9 Z9 ls H locs F X hl hret
  have hx := F.1.1
  have hb := F.1.2.1
  have in_X7 : ∀ w ∈ wsX70, w ∈ wsX7_put := by decide +kernel
  have in_X3 : ∀ w ∈ wsX30, w ∈ wsX7_put := by decide +kernel
  have mw_0 : Cond.initialized RX7 ∈ wsX7_put := by decide +kernel
  have mw_1 : Cond.fieldLink RX7 41 "HatWinds" "pad" "LHatWinds$Pad;" ∈ wsX7_put := by decide +kernel
  have mw_2 : Cond.fieldLink RX7 162 "HatWinds$Pad" "length" "I" ∈ wsX7_put := by decide +kernel
  have mw_3 : Cond.constantLong RX7 249 (255) ∈ wsX7_put := by decide +kernel
  have mw_4 : Cond.initialized RX3 ∈ wsX7_put := by decide +kernel
  have hl : lv_has ls 5 [(0, .ref x0), (1, .long ch)] := hl
  refine lv_lload_n hx hb dX7_put_0 rfl (lv_at hl 1 rfl) ?_
  refine x_cSi F X (gc := []) (gr := [xoW q x0 xt xa xh xs xf xp xd xr, pW q xp p1 cs (nI z) ov]) (xp_idx (n := 2) [0, 1] (by decide +kernel) rfl rfl) (c_X7_signsIn l D q ch ) (va_cwS 1 F.1.2.2.2.2 gX7_put_X7_signsIn rfl rfl rfl (by decide +kernel) ⟨Nat.le_of_ble_eq_true rfl, Nat.le_of_ble_eq_true rfl⟩) rfl rfl hl.1 ⟨Nat.le_of_ble_eq_true rfl, Nat.le_of_ble_eq_true rfl⟩ (Nat.le_of_ble_eq_true rfl) dX7_put_1 (fun r_1 g1 H locs hp X => ?_)
  obtain ⟨rfl, hsg_1⟩ := hp
  have X : xS D A9 s9 [xoW q x0 xt xa xh xs xf xp xd xr, pW q xp p1 cs (nI z) ov] H locs := X
  refine lv_istore_n (lv' := [(3, .int r_1), (0, .ref x0), (1, .long ch)]) hx hb dX7_put_4 rfl hl (by decide) rfl (fun ls hl => ?_)
  refine lv_iload_n hx hb dX7_put_5 rfl (lv_at hl 0 rfl) ?_
  refine lv_if_ne (tgt := 12) hx hb dX7_put_6 (by decide) (fun c_6 => ?_) (fun c_6 => ?_)
  · obtain ⟨n, hn1, hv, en⟩ := hsg_1.resolve_right (fun h => c_6 h.2)
    have hn8 := hv.1
    have hz := hS.1
    rw [show r_1 = nI n from en] at hl
    refine lv_aload_n hx hb dX7_put_12 rfl (lv_at hl 1 rfl) ?_
    refine x_get F X (v := .ref xp) (C := RX7) (T := TX7) (N := 8) (ci := 7) in_X7 0 rfl rfl 5 (by decide) mw_1 rfl dX7_put_13 ?_
    refine x_get F X (v := .int (nI z)) (C := RX3) (T := TX3) (N := 3) (ci := 3) in_X3 1 rfl rfl 1 (by decide) mw_2 rfl dX7_put_16 ?_
    refine lv_iload_n hx hb dX7_put_19 rfl (lv_at hl 0 rfl) ?_
    refine lv_iadd hx hb dX7_put_20 ?_
    refine x_i (y := (nI (z + n))) (nI_add z n) ?_
    refine lv_bipush (v := 80) hx hb dX7_put_21 (by decide) ?_
    refine lv_icmp_le (tgt := 29) hx hb dX7_put_23 (by decide) (fun c_23 => ?_) (fun c_23 => ?_)
    · have c_23 : z + n ≤ 80 := (nI_leI (a := z + n) (b := 80) (by omega) (by omega)).mp c_23
      refine lv_iload_n hx hb dX7_put_29 rfl (lv_at hl 0 rfl) ?_
      refine lv_iconst (v := 1) hx hb dX7_put_30 (by decide) ?_
      refine lv_isub hx hb dX7_put_31 ?_
      refine lv_istore (lv' := [(4, .int ((nI n) - 1)), (3, .int (nI n)), (0, .ref x0), (1, .long ch)]) hx hb dX7_put_32 hl (by decide) rfl (fun ls hl => ?_)
      have L_34 : ∀ (nn : Nat) (i z1 : Nat) (cs1 : Nat → Int32) (ov1 : Int32) (H : Heap) (locs : List Loc) (ls : Array Slot), xS D A9 s9 [xoW q x0 xt xa xh xs xf xp xd xr, pW q xp p1 cs1 (nI z1) ov1] H locs → lv_has ls 5 [(4, .int (nI (n - i) - 1)), (3, .int (nI n)), (0, .ref x0), (1, .long ch)] → (n < i + nn) → (i ≤ n) → (xPad (Ss ++ x_sg ch n i) cs1 z1 ov1) → W p9 l e9 { frames := 2, cells := 0, slots := 0, locals := 47 } s9 m9 a9 below meth c9 H locs 0 0 Z9 (F0 m9 34 ls []) := by
        intro nn
        induction nn with
        | zero => intro i z1 cs1 ov1 H locs ls X hl hfuel hi hS1; exact absurd hfuel (by omega)
        | succ nn ih_34 =>
          intro i z1 cs1 ov1 H locs ls X hl hfuel hi hS1
          refine lv_iload hx hb dX7_put_34 (lv_at hl 0 rfl) ?_
          refine lv_if_lt (tgt := 64) hx hb dX7_put_36 (by decide) (fun c_36 => ?_) (fun c_36 => ?_)
          · refine lv_aload_n hx hb dX7_put_64 rfl (lv_at hl 2 rfl) ?_
            refine x_get F X (v := .ref xp) (C := RX7) (T := TX7) (N := 8) (ci := 7) in_X7 0 rfl rfl 5 (by decide) mw_1 rfl dX7_put_65 ?_
            refine x_get F X (v := .int (nI z1)) (C := RX3) (T := TX3) (N := 3) (ci := 3) in_X3 1 rfl rfl 1 (by decide) mw_2 rfl dX7_put_68 ?_
            refine hret _ _ _ _ _ _ ?_ X dX7_put_71
            have hti := (x_dm (by omega)).mp c_36
            obtain rfl : i = n := by omega
            have hz1 := hS1.1
            rw [List.length_append, x_sg_len] at hz1
            exact ⟨_, _, _, rfl, Or.inl ⟨i, hn1, hv, by omega, congrArg nI (by omega), hS1⟩⟩
          · have hti : i < n := Nat.lt_of_not_le (fun h => c_36 ((x_dm (by omega)).mpr (by omega)))
            rw [x_pred (n := n - i) (by omega)] at hl
            refine lv_aload_n hx hb dX7_put_39 rfl (lv_at hl 2 rfl) ?_
            refine x_get F X (v := .ref xp) (C := RX7) (T := TX7) (N := 8) (ci := 7) in_X7 0 rfl rfl 5 (by decide) mw_1 rfl dX7_put_40 ?_
            refine lv_lload_n hx hb dX7_put_43 rfl (lv_at hl 3 rfl) ?_
            refine lv_bipush (v := 8) hx hb dX7_put_44 (by decide) ?_
            refine lv_iload hx hb dX7_put_46 (lv_at hl 0 rfl) ?_
            refine lv_imul hx hb dX7_put_48 ?_
            refine x_i (y := (nI (8 * (n - i - 1)))) (pk_mul 8 (n - i - 1)) ?_
            refine lv_lushr (v := (ch.toUInt64 >>> (Int64.toUInt64 (Int32.toInt64 (nI (8 * (n - i - 1)))) &&& Int64.toUInt64 63)).toInt64) hx hb dX7_put_49 rfl ?_
            refine lv_ldc2 (v := 255) hx hb F.1.2.2.2.1 (F.1.2.2.2.2 _ mw_3) dX7_put_50 ?_
            refine lv_land hx hb dX7_put_53 ?_
            refine x_l (y := (lN (x_by ch (n - 1 - i)))) (by rw [x_ush (by omega)]; exact congrArg lN (congrArg (x_by ch) (by omega))) ?_
            refine lv_l2i (v := (Int64.toInt32 (lN (x_by ch (n - 1 - i))))) hx hb dX7_put_54 rfl ?_
            refine x_i (y := (nI (x_by ch (n - 1 - i)))) (lN_i _) ?_
            have hby := x_by_lt ch (n - 1 - i)
            refine x_cVv F X (gc := [pW q xp p1 cs1 (nI z1) ov1]) (gr := [xoW q x0 xt xa xh xs xf xp xd xr]) (xp_idx (n := 2) [1, 0] (by decide +kernel) rfl rfl) (c_X3_add l D q xp p1 cs1 z1 ov1 (x_by ch (n - 1 - i)) (Ss ++ x_sg ch n i) (by omega) (by assumption)) (cwV 1 F.1.2.2.2.2 gX7_put_X3_add rfl rfl rfl (by decide +kernel) ⟨Nat.le_of_ble_eq_true rfl, Nat.le_of_ble_eq_true rfl⟩) rfl rfl (r0 := 0) (ci := 3) (T := TX3) (N := 3) rfl rfl hl.1 ⟨Nat.le_of_ble_eq_true rfl, Nat.le_of_ble_eq_true rfl⟩ (Nat.le_of_ble_eq_true rfl) dX7_put_55 (fun g1 H locs hp X => ?_)
            obtain ⟨cs9, k9, ov9, rfl, hS9⟩ := hp
            have X := X.perm (gs' := [xoW q x0 xt xa xh xs xf xp xd xr, pW q xp p1 cs9 (nI k9) ov9]) (xp_idx (n := 2) [1, 0] (by decide +kernel) rfl rfl)
            refine lv_iinc (v := ((nI (n - i - 1)) + Int32.ofInt (-1))) (lv' := [(4, .int ((nI (n - i - 1)) + Int32.ofInt (-1))), (3, .int (nI n)), (0, .ref x0), (1, .long ch)]) hx hb dX7_put_58 hl (k := 0) rfl rfl (by decide) rfl (fun ls hl => ?_)
            rw [x_dm2, show nI (n - i - 1) = nI (n - (i + 1)) from rfl] at hl
            refine lv_goto (tgt := 34) hx hb dX7_put_61 (by decide) ?_
            exact ih_34 (i + 1) _ _ _ _ _ _ X (lv_sub hl [0, 1, 2, 3] rfl) (by omega) (by omega) (by rw [show x_sg ch n (i + 1) = x_sg ch n i ++ [x_by ch (n - 1 - i)] from rfl, ← List.append_assoc]; exact hS9)
      exact L_34 (n + 1) 0 _ _ _ _ _ _ X (lv_sub hl [0, 1, 2, 3] rfl) (by omega) (by omega) (by rw [show x_sg ch n 0 = [] from rfl, List.append_nil]; exact hS)
    · have c_23 : 80 < z + n := Nat.not_le.mp (fun h => c_23 ((nI_leI (a := z + n) (b := 80) (by omega) (by omega)).mpr h))
      refine lv_bipush (v := (-4)) hx hb dX7_put_26 (by decide) ?_
      exact hret _ _ _ _ _ _ (by exact ⟨_, _, _, rfl, Or.inr ⟨Or.inl ⟨n, hn1, hv, by omega, rfl⟩, rfl, rfl, rfl⟩⟩) X dX7_put_28
  · refine lv_bipush (v := (-2)) hx hb dX7_put_9 (by decide) ?_
    exact hret _ _ _ _ _ _ (by exact ⟨_, _, _, rfl, Or.inr ⟨Or.inr ⟨(hsg_1.resolve_left (fun h => by obtain ⟨n, h1, hv, e⟩ := h; have := hv.1; rw [e] at c_6; have := (nI_eq (a := n) (b := 0) (by omega) (by omega)).mp c_6; omega)).1, rfl⟩, rfl, rfl, rfl⟩⟩) X dX7_put_11

