set_option maxHeartbeats 1000000 in
set_option maxRecDepth 100000 in
theorem c_X8_record (l : Launch) (D : va_G) (q : xQ) (b0 : Nat) (b1 : Nat) (b2 : Nat) (b3 : Nat) (b4 : Nat) (b5 : Nat) (b6 : Nat) (b7 : Nat) (b8 : Nat) (s : Nat → Int32) (p : Nat → Int32) (sl : Nat → Int32) (sv : Nat → Int32) (pd : Nat → Int32) (fo : Nat → Int32) (to : Nat → Int32) (ou : Nat → Int32) (kn : Int32) (ln : Int32) (mn : Int32) (la : Int32) (op : Int32) (wr : Int32) (m : Nat) (rk : Int32) (wh : Int32) (hm : s 8 = nI m) (hm8 : m ≤ 8) : xMi l yX8_record wsX8_record { frames := 1, cells := 0, slots := 0, locals := 22 } D q [.ref b0, .int rk, .int wh] [mW q b0 b1 b2 b3 b4 b5 b6 b7 b8 s p sl sv pd fo to ou kn ln mn la op wr] (fun r gw => gw = [mW q b0 b1 b2 b3 b4 b5 b6 b7 b8 s p sl sv pd fo to ou kn ln mn la op wr] ∧ r = x_st m rk (x_reck s wh)) := by
  refine xMi_of (cc := cX8_record) (maxL := 3) (rt := .int) (by decide) rfl (Nat.le_of_ble_eq_true rfl) (fun _ _ _ => rfl) ?_
  intro p9 e9 s9 m9 a9 below meth c9 A9 Z9 ls H locs F X hl hret
  have hx := F.1.1
  have hb := F.1.2.1
  have in_X8 : ∀ w ∈ wsX80, w ∈ wsX8_record := by decide +kernel
  have mw_0 : Cond.fieldLink RX8 7 "HatWindsModel" "s" "[I" ∈ wsX8_record := by decide +kernel
  have mw_1 : Cond.initialized RX8 ∈ wsX8_record := by decide +kernel
  have hl : lv_has ls 3 [(0, .ref b0), (1, .int rk), (2, .int wh)] := hl
  refine lv_iload_n hx hb dX8_record_0 rfl (lv_at hl 1 rfl) ?_
  refine lv_iconst (v := 0) hx hb dX8_record_1 (by decide) ?_
  refine lv_aload_n hx hb dX8_record_2 rfl (lv_at hl 0 rfl) ?_
  refine x_get F X (v := .ref b1) (C := RX8) (T := TX8) (N := 14) (ci := 8) in_X8 0 rfl rfl 0 (by decide) mw_0 rfl dX8_record_3 ?_
  refine lv_bipush (v := 8) hx hb dX8_record_6 (by decide) ?_
  refine x_iald F X (v := (s 8)) (n := 133) (f := s) 1 rfl (show vp_in (nI 8) _ from vp_in_nI (by omega) (by omega)) rfl dX8_record_8 ?_
  refine x_i (y := (nI m)) (hm) ?_
  refine lv_iconst (v := 1) hx hb dX8_record_9 (by decide) ?_
  refine lv_isub hx hb dX8_record_10 ?_
  refine x_cSi F X (gc := []) (gr := [mW q b0 b1 b2 b3 b4 b5 b6 b7 b8 s p sl sv pd fo to ou kn ln mn la op wr]) (xp_idx (n := 1) [0] (by decide +kernel) rfl rfl) (c_X8_in l D q rk 0 ((nI m) - 1) ) (va_cwS 3 F.1.2.2.2.2 gX8_record_X8_in rfl rfl rfl (by decide +kernel) ⟨Nat.le_of_ble_eq_true rfl, Nat.le_of_ble_eq_true rfl⟩) rfl rfl hl.1 ⟨Nat.le_of_ble_eq_true rfl, Nat.le_of_ble_eq_true rfl⟩ (Nat.le_of_ble_eq_true rfl) dX8_record_11 (fun r_11 g1 H locs hp X => ?_)
  obtain ⟨rfl, hz⟩ := hp
  have X : xS D A9 s9 [mW q b0 b1 b2 b3 b4 b5 b6 b7 b8 s p sl sv pd fo to ou kn ln mn la op wr] H locs := X
  rcases hz with ⟨rfl, b_11⟩ | ⟨rfl, b_11⟩
  · refine lv_if_ne (tgt := 19) hx hb dX8_record_14 (by decide) (fun _ => ?_) (fun h => absurd h (by decide))
    obtain ⟨k, hk, ek⟩ := (x_ix3 (by omega)).mp b_11
    refine lv_iload_n hx hb dX8_record_19 rfl (lv_at hl 2 rfl) ?_
    refine lv_iconst (v := 0) hx hb dX8_record_20 (by decide) ?_
    refine lv_iconst (v := 2) hx hb dX8_record_21 (by decide) ?_
    refine x_cSi F X (gc := []) (gr := [mW q b0 b1 b2 b3 b4 b5 b6 b7 b8 s p sl sv pd fo to ou kn ln mn la op wr]) (xp_idx (n := 1) [0] (by decide +kernel) rfl rfl) (c_X8_in l D q wh 0 2 ) (va_cwS 3 F.1.2.2.2.2 gX8_record_X8_in rfl rfl rfl (by decide +kernel) ⟨Nat.le_of_ble_eq_true rfl, Nat.le_of_ble_eq_true rfl⟩) rfl rfl hl.1 ⟨Nat.le_of_ble_eq_true rfl, Nat.le_of_ble_eq_true rfl⟩ (Nat.le_of_ble_eq_true rfl) dX8_record_22 (fun r_22 g1 H locs hp X => ?_)
    obtain ⟨rfl, hz⟩ := hp
    have X : xS D A9 s9 [mW q b0 b1 b2 b3 b4 b5 b6 b7 b8 s p sl sv pd fo to ou kn ln mn la op wr] H locs := X
    rcases hz with ⟨rfl, b_22⟩ | ⟨rfl, b_22⟩
    · refine lv_if_eq (tgt := 44) hx hb dX8_record_25 (by decide) (fun h => absurd h (by decide)) (fun _ => ?_)
      obtain ⟨w, w1, w2, ew⟩ := (x_rng (a := 0) (b := 2) (by omega) (by omega)).mp b_22
      refine lv_aload_n hx hb dX8_record_28 rfl (lv_at hl 0 rfl) ?_
      refine x_get F X (v := .ref b1) (C := RX8) (T := TX8) (N := 14) (ci := 8) in_X8 0 rfl rfl 0 (by decide) mw_0 rfl dX8_record_29 ?_
      refine lv_bipush (v := 9) hx hb dX8_record_32 (by decide) ?_
      refine lv_iconst (v := 3) hx hb dX8_record_34 (by decide) ?_
      refine lv_iload_n hx hb dX8_record_35 rfl (lv_at hl 1 rfl) ?_
      refine x_i (y := (nI k)) (ek) ?_
      refine lv_imul hx hb dX8_record_36 ?_
      refine x_i (y := (nI (3 * k))) (pk_mul 3 k) ?_
      refine lv_iadd hx hb dX8_record_37 ?_
      refine x_i (y := (nI (9 + (3 * k)))) (nI_add 9 (3 * k)) ?_
      refine lv_iload_n hx hb dX8_record_38 rfl (lv_at hl 2 rfl) ?_
      refine x_i (y := (nI w)) (ew) ?_
      refine lv_iadd hx hb dX8_record_39 ?_
      refine x_i (y := (nI (9 + (3 * k) + w))) (nI_add (9 + (3 * k)) w) ?_
      refine x_iald F X (v := (s (9 + (3 * k) + w))) (n := 133) (f := s) 1 rfl (vp_in_nI (by omega) (by omega)) (x_cl (by omega)) dX8_record_40 ?_
      refine lv_goto (tgt := 46) hx hb dX8_record_41 (by decide) ?_
      exact hret _ _ _ _ _ _ (by exact ⟨rfl, by rw [ek, ew, x_st_in (by omega) hk, x_reck_i w2]⟩) X dX8_record_46
    · refine lv_if_eq (tgt := 44) hx hb dX8_record_25 (by decide) (fun _ => ?_) (fun h => absurd (by decide) h)
      refine lv_bipush (v := (-2)) hx hb dX8_record_44 (by decide) ?_
      exact hret _ _ _ _ _ _ (by exact ⟨rfl, by rw [ek, x_st_in (by omega) hk, x_reck_d (x_rng_d (b := 2) (fun h => b_22 h))]⟩) X dX8_record_46
  · refine lv_if_ne (tgt := 19) hx hb dX8_record_14 (by decide) (fun h => absurd (by decide) h) (fun _ => ?_)
    refine lv_iconst (v := (-1)) hx hb dX8_record_17 (by decide) ?_
    exact hret _ _ _ _ _ _ (by exact ⟨rfl, (x_st_out (by omega) (fun h => b_11 ((x_ix3 (by omega)).mpr h)) _).symm⟩) X dX8_record_18

set_option maxHeartbeats 1000000 in
set_option maxRecDepth 100000 in
theorem c_X8_sign (l : Launch) (D : va_G) (q : xQ) (b0 : Nat) (b1 : Nat) (b2 : Nat) (b3 : Nat) (b4 : Nat) (b5 : Nat) (b6 : Nat) (b7 : Nat) (b8 : Nat) (s : Nat → Int32) (p : Nat → Int32) (sl : Nat → Int32) (sv : Nat → Int32) (pd : Nat → Int32) (fo : Nat → Int32) (to : Nat → Int32) (ou : Nat → Int32) (kn : Int32) (ln : Nat) (mn : Int32) (la : Int32) (op : Int32) (wr : Int32) (pl : Int32) (hln : ln ≤ 80) : xMi l yX8_sign wsX8_sign { frames := 1, cells := 0, slots := 0, locals := 22 } D q [.ref b0, .int pl] [mW q b0 b1 b2 b3 b4 b5 b6 b7 b8 s p sl sv pd fo to ou kn (nI ln) mn la op wr] (fun r gw => gw = [mW q b0 b1 b2 b3 b4 b5 b6 b7 b8 s p sl sv pd fo to ou kn (nI ln) mn la op wr] ∧ r = x_st ln pl pd) := by
  refine xMi_of (cc := cX8_sign) (maxL := 2) (rt := .int) (by decide) rfl (Nat.le_of_ble_eq_true rfl) (fun _ _ _ => rfl) ?_
  intro p9 e9 s9 m9 a9 below meth c9 A9 Z9 ls H locs F X hl hret
  have hx := F.1.1
  have hb := F.1.2.1
  have in_X8 : ∀ w ∈ wsX80, w ∈ wsX8_sign := by decide +kernel
  have mw_0 : Cond.fieldLink RX8 106 "HatWindsModel" "length" "I" ∈ wsX8_sign := by decide +kernel
  have mw_1 : Cond.initialized RX8 ∈ wsX8_sign := by decide +kernel
  have mw_2 : Cond.fieldLink RX8 23 "HatWindsModel" "pad" "[I" ∈ wsX8_sign := by decide +kernel
  have hl : lv_has ls 2 [(0, .ref b0), (1, .int pl)] := hl
  refine lv_iload_n hx hb dX8_sign_0 rfl (lv_at hl 1 rfl) ?_
  refine lv_iconst (v := 0) hx hb dX8_sign_1 (by decide) ?_
  refine lv_aload_n hx hb dX8_sign_2 rfl (lv_at hl 0 rfl) ?_
  refine x_get F X (v := .int (nI ln)) (C := RX8) (T := TX8) (N := 14) (ci := 8) in_X8 0 rfl rfl 6 (by decide) mw_0 rfl dX8_sign_3 ?_
  refine lv_iconst (v := 1) hx hb dX8_sign_6 (by decide) ?_
  refine lv_isub hx hb dX8_sign_7 ?_
  refine x_cSi F X (gc := []) (gr := [mW q b0 b1 b2 b3 b4 b5 b6 b7 b8 s p sl sv pd fo to ou kn (nI ln) mn la op wr]) (xp_idx (n := 1) [0] (by decide +kernel) rfl rfl) (c_X8_in l D q pl 0 ((nI ln) - 1) ) (va_cwS 3 F.1.2.2.2.2 gX8_sign_X8_in rfl rfl rfl (by decide +kernel) ⟨Nat.le_of_ble_eq_true rfl, Nat.le_of_ble_eq_true rfl⟩) rfl rfl hl.1 ⟨Nat.le_of_ble_eq_true rfl, Nat.le_of_ble_eq_true rfl⟩ (Nat.le_of_ble_eq_true rfl) dX8_sign_8 (fun r_8 g1 H locs hp X => ?_)
  obtain ⟨rfl, hz⟩ := hp
  have X : xS D A9 s9 [mW q b0 b1 b2 b3 b4 b5 b6 b7 b8 s p sl sv pd fo to ou kn (nI ln) mn la op wr] H locs := X
  rcases hz with ⟨rfl, b_8⟩ | ⟨rfl, b_8⟩
  · refine lv_if_eq (tgt := 23) hx hb dX8_sign_11 (by decide) (fun h => absurd h (by decide)) (fun _ => ?_)
    obtain ⟨k, hk, ek⟩ := (x_ix3 (by omega)).mp b_8
    refine lv_aload_n hx hb dX8_sign_14 rfl (lv_at hl 0 rfl) ?_
    refine x_get F X (v := .ref b5) (C := RX8) (T := TX8) (N := 14) (ci := 8) in_X8 0 rfl rfl 5 (by decide) mw_2 rfl dX8_sign_15 ?_
    refine lv_iload_n hx hb dX8_sign_18 rfl (lv_at hl 1 rfl) ?_
    refine x_i (y := (nI k)) (ek) ?_
    refine x_iald F X (v := (pd k)) (n := 80) (f := pd) 5 rfl (vp_in_nI (by omega) (by omega)) (x_cl (by omega)) dX8_sign_19 ?_
    refine lv_goto (tgt := 24) hx hb dX8_sign_20 (by decide) ?_
    exact hret _ _ _ _ _ _ (by exact ⟨rfl, by rw [ek, x_st_in (by omega) hk]⟩) X dX8_sign_24
  · refine lv_if_eq (tgt := 23) hx hb dX8_sign_11 (by decide) (fun _ => ?_) (fun h => absurd (by decide) h)
    refine lv_iconst (v := (-1)) hx hb dX8_sign_23 (by decide) ?_
    exact hret _ _ _ _ _ _ (by exact ⟨rfl, (x_st_out (by omega) (fun h => b_8 ((x_ix3 (by omega)).mpr h)) _).symm⟩) X dX8_sign_24

set_option maxHeartbeats 1000000 in
set_option maxRecDepth 100000 in
theorem c_X8_people (l : Launch) (D : va_G) (q : xQ) (b0 : Nat) (b1 : Nat) (b2 : Nat) (b3 : Nat) (b4 : Nat) (b5 : Nat) (b6 : Nat) (b7 : Nat) (b8 : Nat) (s : Nat → Int32) (p : Nat → Int32) (sl : Nat → Int32) (sv : Nat → Int32) (pd : Nat → Int32) (fo : Nat → Int32) (to : Nat → Int32) (ou : Nat → Int32) (kn : Int32) (ln : Int32) (mn : Int32) (la : Int32) (op : Int32) (wr : Int32) (n : Nat) (pr : Nat → Nat) (hok : x_ok s n pr) : xMi l yX8_people wsX8_people { frames := 2, cells := 0, slots := 0, locals := 43 } D q [.ref b0] [mW q b0 b1 b2 b3 b4 b5 b6 b7 b8 s p sl sv pd fo to ou kn ln mn la op wr] (fun r gw => gw = [mW q b0 b1 b2 b3 b4 b5 b6 b7 b8 s p sl sv pd fo to ou kn ln mn la op wr] ∧ r = x_sm (x_tP s) n) := by
  refine xMi_of (cc := cX8_people) (maxL := 3) (rt := .int) (by decide) rfl (Nat.le_of_ble_eq_true rfl) (fun _ _ _ => rfl) ?_
  intro p9 e9 s9 m9 a9 below meth c9 A9 Z9 ls H locs F X hl hret
  have hx := F.1.1
  have hb := F.1.2.1
  have in_X8 : ∀ w ∈ wsX80, w ∈ wsX8_people := by decide +kernel
  have mw_0 : Cond.fieldLink RX8 7 "HatWindsModel" "s" "[I" ∈ wsX8_people := by decide +kernel
  have mw_1 : Cond.initialized RX8 ∈ wsX8_people := by decide +kernel
  have hl : lv_has ls 3 [(0, .ref b0)] := hl
  have hok0 := hok
  obtain ⟨hn, hn1, hs5, hs33, hpr, hwd, hcl, hsm, hpe, hst, hle, hhr, hcn⟩ := hok0
  refine lv_iconst (v := 0) hx hb dX8_people_0 (by decide) ?_
  refine lv_istore_n (lv' := [(1, .int 0), (0, .ref b0)]) hx hb dX8_people_1 rfl hl (by decide) rfl (fun ls hl => ?_)
  refine lv_iconst (v := 0) hx hb dX8_people_2 (by decide) ?_
  refine lv_istore_n (lv' := [(2, .int 0), (1, .int 0), (0, .ref b0)]) hx hb dX8_people_3 rfl hl (by decide) rfl (fun ls hl => ?_)
  have L_4 : ∀ (nn : Nat) (j : Nat) (t : Int32) (H : Heap) (locs : List Loc) (ls : Array Slot), xS D A9 s9 [mW q b0 b1 b2 b3 b4 b5 b6 b7 b8 s p sl sv pd fo to ou kn ln mn la op wr] H locs → lv_has ls 3 [(2, .int (nI j)), (1, .int t), (0, .ref b0)] → (n < j + nn) → (j ≤ n) → (t = x_sm (x_tP s) j) → W p9 l e9 { frames := 2, cells := 0, slots := 0, locals := 43 } s9 m9 a9 below meth c9 H locs 0 0 Z9 (F0 m9 4 ls []) := by
    intro nn
    induction nn with
    | zero => intro j t H locs ls X hl hfuel hj ht; exact absurd hfuel (by omega)
    | succ nn ih_4 =>
      intro j t H locs ls X hl hfuel hj ht
      refine lv_iload_n hx hb dX8_people_4 rfl (lv_at hl 0 rfl) ?_
      refine lv_aload_n hx hb dX8_people_5 rfl (lv_at hl 2 rfl) ?_
      refine x_get F X (v := .ref b1) (C := RX8) (T := TX8) (N := 14) (ci := 8) in_X8 0 rfl rfl 0 (by decide) mw_0 rfl dX8_people_6 ?_
      refine lv_iconst (v := 5) hx hb dX8_people_9 (by decide) ?_
      refine x_iald F X (v := (s 5)) (n := 133) (f := s) 1 rfl (show vp_in (nI 5) _ from vp_in_nI (by omega) (by omega)) rfl dX8_people_10 ?_
      refine x_i (y := (nI n)) (hs5) ?_
      refine lv_icmp_ge (tgt := 29) hx hb dX8_people_11 (by decide) (fun c_11 => ?_) (fun c_11 => ?_)
      · have c_11 : n ≤ j := (nI_leI (a := n) (b := j) (by omega) (by omega)).mp c_11
        refine lv_iload_n hx hb dX8_people_29 rfl (lv_at hl 1 rfl) ?_
        refine hret _ _ _ _ _ _ ?_ X dX8_people_30
        obtain rfl : j = n := by omega
        exact ⟨rfl, ht⟩
      · have c_11 : j < n := Nat.not_le.mp (fun h => c_11 ((nI_leI (a := n) (b := j) (by omega) (by omega)).mpr h))
        refine lv_iload_n hx hb dX8_people_14 rfl (lv_at hl 1 rfl) ?_
        refine lv_aload_n hx hb dX8_people_15 rfl (lv_at hl 2 rfl) ?_
        refine lv_iload_n hx hb dX8_people_16 rfl (lv_at hl 0 rfl) ?_
        refine lv_iconst (v := 4) hx hb dX8_people_17 (by decide) ?_
        refine x_cVi F X (gc := [mW q b0 b1 b2 b3 b4 b5 b6 b7 b8 s p sl sv pd fo to ou kn ln mn la op wr]) (gr := []) (xp_idx (n := 1) [0] (by decide +kernel) rfl rfl) (c_X8_its l D q b0 b1 b2 b3 b4 b5 b6 b7 b8 s p sl sv pd fo to ou kn ln mn la op wr j 4 (by first | assumption | omega) (by first | assumption | omega)) (cwV 2 F.1.2.2.2.2 gX8_people_X8_its rfl rfl rfl (by decide +kernel) ⟨Nat.le_of_ble_eq_true rfl, Nat.le_of_ble_eq_true rfl⟩) rfl rfl (r0 := 0) (ci := 8) (T := TX8) (N := 14) rfl rfl hl.1 ⟨Nat.le_of_ble_eq_true rfl, Nat.le_of_ble_eq_true rfl⟩ (Nat.le_of_ble_eq_true rfl) dX8_people_18 (fun r_18 g1 H locs hp X => ?_)
        obtain ⟨rfl, rfl⟩ := hp
        have X : xS D A9 s9 [mW q b0 b1 b2 b3 b4 b5 b6 b7 b8 s p sl sv pd fo to ou kn ln mn la op wr] H locs := X
        refine lv_iadd hx hb dX8_people_21 ?_
        refine lv_istore_n (lv' := [(1, .int (t + (s (33 + 5 * j + 4)))), (2, .int (nI j)), (0, .ref b0)]) hx hb dX8_people_22 rfl hl (by decide) rfl (fun ls hl => ?_)
        refine lv_iinc (v := (nI (j + 1))) (lv' := [(2, .int (nI (j + 1))), (1, .int (t + (s (33 + 5 * j + 4)))), (0, .ref b0)]) hx hb dX8_people_23 hl (k := 1) rfl (nI_add j 1) (by decide) rfl (fun ls hl => ?_)
        refine lv_goto (tgt := 4) hx hb dX8_people_26 (by decide) ?_
        exact ih_4 (j + 1) _ _ _ _ X (lv_sub hl [0, 1, 2] rfl) (by omega) (by omega) (by rw [ht]; rfl)
  exact L_4 (n + 1) 0 _ _ _ _ X (lv_sub hl [0, 1, 2] rfl) (by omega) (by omega) (by rfl)

set_option maxHeartbeats 1000000 in
set_option maxRecDepth 100000 in
theorem c_X8_calm_6 (l : Launch) (D : va_G) (q : xQ) (b0 : Nat) (b1 : Nat) (b2 : Nat) (b3 : Nat) (b4 : Nat) (b5 : Nat) (b6 : Nat) (b7 : Nat) (b8 : Nat) (s : Nat → Int32) (p : Nat → Int32) (sl : Nat → Int32) (sv : Nat → Int32) (pd : Nat → Int32) (fo : Nat → Int32) (to : Nat → Int32) (ou : Nat → Int32) (kn : Int32) (ln : Int32) (mn : Int32) (la : Int32) (op : Int32) (wr : Int32) (n : Nat) (pr : Nat → Nat) (hok : x_ok s n pr) : xMi l yX8_calm wsX8_calm { frames := 4, cells := 0, slots := 0, locals := 92 } D q [.ref b0, .int 6] [mW q b0 b1 b2 b3 b4 b5 b6 b7 b8 s p sl sv pd fo to ou kn ln mn la op wr] (fun r gw => ∃ (fo2 : Nat → Int32), gw = [mW q b0 b1 b2 b3 b4 b5 b6 b7 b8 s p sl sv pd fo2 to ou kn ln mn la op wr] ∧ r = x_orf (x_shk s (x_FT s pr n (-6) (s 4))) n) := by
  refine xMi_of (cc := cX8_calm) (maxL := 5) (rt := .int) (by decide) rfl (Nat.le_of_ble_eq_true rfl) (fun _ _ _ => rfl) ?_
  intro p9 e9 s9 m9 a9 below meth c9 A9 Z9 ls H locs F X hl hret
  have hx := F.1.1
  have hb := F.1.2.1
  have in_X8 : ∀ w ∈ wsX80, w ∈ wsX8_calm := by decide +kernel
  have mw_0 : Cond.fieldLink RX8 7 "HatWindsModel" "s" "[I" ∈ wsX8_calm := by decide +kernel
  have mw_1 : Cond.initialized RX8 ∈ wsX8_calm := by decide +kernel
  have mw_2 : Cond.fieldLink RX8 26 "HatWindsModel" "forces" "[I" ∈ wsX8_calm := by decide +kernel
  have hl : lv_has ls 5 [(0, .ref b0), (1, .int 6)] := hl
  have hok0 := hok
  obtain ⟨hn, hn1, hs5, hs33, hpr, hwd, hcl, hsm, hpe, hst, hle, hhr, hcn⟩ := hok0
  refine lv_aload_n hx hb dX8_calm_0 rfl (lv_at hl 0 rfl) ?_
  refine lv_aload_n hx hb dX8_calm_1 rfl (lv_at hl 0 rfl) ?_
  refine x_get F X (v := .ref b1) (C := RX8) (T := TX8) (N := 14) (ci := 8) in_X8 0 rfl rfl 0 (by decide) mw_0 rfl dX8_calm_2 ?_
  refine lv_iconst (v := 4) hx hb dX8_calm_5 (by decide) ?_
  refine x_iald F X (v := (s 4)) (n := 133) (f := s) 1 rfl (show vp_in (nI 4) _ from vp_in_nI (by omega) (by omega)) rfl dX8_calm_6 ?_
  refine x_cVv F X (gc := [mW q b0 b1 b2 b3 b4 b5 b6 b7 b8 s p sl sv pd fo to ou kn ln mn la op wr]) (gr := []) (xp_idx (n := 1) [0] (by decide +kernel) rfl rfl) (c_X8_blows l D q b0 b1 b2 b3 b4 b5 b6 b7 b8 s p sl sv pd fo to ou kn ln mn la op wr n pr (s 4) (by first | assumption | omega)) (cwV 1 F.1.2.2.2.2 gX8_calm_X8_blows rfl rfl rfl (by decide +kernel) ⟨Nat.le_of_ble_eq_true rfl, Nat.le_of_ble_eq_true rfl⟩) rfl rfl (r0 := 0) (ci := 8) (T := TX8) (N := 14) rfl rfl hl.1 ⟨Nat.le_of_ble_eq_true rfl, Nat.le_of_ble_eq_true rfl⟩ (Nat.le_of_ble_eq_true rfl) dX8_calm_7 (fun g1 H locs hp X => ?_)
  obtain ⟨fo2, rfl, hfo2⟩ := hp
  have X : xS D A9 s9 [mW q b0 b1 b2 b3 b4 b5 b6 b7 b8 s p sl sv pd fo2 to ou kn ln mn la op wr] H locs := X
  refine lv_iconst (v := 0) hx hb dX8_calm_10 (by decide) ?_
  refine lv_istore_n (lv' := [(2, .int 0), (0, .ref b0), (1, .int 6)]) hx hb dX8_calm_11 rfl hl (by decide) rfl (fun ls hl => ?_)
  refine lv_iconst (v := 0) hx hb dX8_calm_12 (by decide) ?_
  refine lv_istore_n (lv' := [(3, .int 0), (2, .int 0), (0, .ref b0), (1, .int 6)]) hx hb dX8_calm_13 rfl hl (by decide) rfl (fun ls hl => ?_)
  refine lv_iconst (v := 0) hx hb dX8_calm_14 (by decide) ?_
  refine lv_istore (lv' := [(4, .int 0), (3, .int 0), (2, .int 0), (0, .ref b0), (1, .int 6)]) hx hb dX8_calm_15 hl (by decide) rfl (fun ls hl => ?_)
  have L_17 : ∀ (nn : Nat) (j t : Nat) (sv1 : Int32) (H : Heap) (locs : List Loc) (ls : Array Slot), xS D A9 s9 [mW q b0 b1 b2 b3 b4 b5 b6 b7 b8 s p sl sv pd fo2 to ou kn ln mn la op wr] H locs → lv_has ls 5 [(4, .int (nI j)), (3, .int (nI t)), (2, .int sv1), (0, .ref b0), (1, .int 6)] → (n < j + nn) → (j ≤ n) → (sv1 = x_orf (x_shk s fo2) j) → (t = x_lst fo2 j) → (t < n) → W p9 l e9 { frames := 4, cells := 0, slots := 0, locals := 92 } s9 m9 a9 below meth c9 H locs 0 0 Z9 (F0 m9 17 ls []) := by
    intro nn
    induction nn with
    | zero => intro j t sv1 H locs ls X hl hfuel hj hs ht ht2; exact absurd hfuel (by omega)
    | succ nn ih_17 =>
      intro j t sv1 H locs ls X hl hfuel hj hs ht ht2
      refine lv_iload hx hb dX8_calm_17 (lv_at hl 0 rfl) ?_
      refine lv_aload_n hx hb dX8_calm_19 rfl (lv_at hl 3 rfl) ?_
      refine x_get F X (v := .ref b1) (C := RX8) (T := TX8) (N := 14) (ci := 8) in_X8 0 rfl rfl 0 (by decide) mw_0 rfl dX8_calm_20 ?_
      refine lv_iconst (v := 5) hx hb dX8_calm_23 (by decide) ?_
      refine x_iald F X (v := (s 5)) (n := 133) (f := s) 1 rfl (show vp_in (nI 5) _ from vp_in_nI (by omega) (by omega)) rfl dX8_calm_24 ?_
      refine x_i (y := (nI n)) (hs5) ?_
      refine lv_icmp_ge (tgt := 77) hx hb dX8_calm_25 (by decide) (fun c_25 => ?_) (fun c_25 => ?_)
      · have c_25 : n ≤ j := (nI_leI (a := n) (b := j) (by omega) (by omega)).mp c_25
        refine lv_iload_n hx hb dX8_calm_77 rfl (lv_at hl 4 rfl) ?_
        refine lv_bipush (v := 6) hx hb dX8_calm_78 (by decide) ?_
        refine lv_icmp_ne (tgt := 87) hx hb dX8_calm_80 (by decide) (fun h => absurd (by decide) h) (fun _ => ?_)
        refine lv_iload_n hx hb dX8_calm_83 rfl (lv_at hl 2 rfl) ?_
        refine lv_goto (tgt := 88) hx hb dX8_calm_84 (by decide) ?_
        refine hret _ _ _ _ _ _ ?_ X dX8_calm_88
        obtain rfl : j = n := by omega
        exact ⟨_, rfl, hs.trans (x_orf_cong (fun k hk => by unfold x_shk x_hc; rw [hfo2 k hk]))⟩
      · have c_25 : j < n := Nat.not_le.mp (fun h => c_25 ((nI_leI (a := n) (b := j) (by omega) (by omega)).mpr h))
        refine lv_iload_n hx hb dX8_calm_28 rfl (lv_at hl 2 rfl) ?_
        refine lv_aload_n hx hb dX8_calm_29 rfl (lv_at hl 3 rfl) ?_
        refine lv_iload hx hb dX8_calm_30 (lv_at hl 0 rfl) ?_
        refine x_cVi F X (gc := [mW q b0 b1 b2 b3 b4 b5 b6 b7 b8 s p sl sv pd fo2 to ou kn ln mn la op wr]) (gr := []) (xp_idx (n := 1) [0] (by decide +kernel) rfl rfl) (c_X8_hatsOf l D q b0 b1 b2 b3 b4 b5 b6 b7 b8 s p sl sv pd fo2 to ou kn ln mn la op wr j (by first | assumption | omega)) (cwV 1 F.1.2.2.2.2 gX8_calm_X8_hatsOf rfl rfl rfl (by decide +kernel) ⟨Nat.le_of_ble_eq_true rfl, Nat.le_of_ble_eq_true rfl⟩) rfl rfl (r0 := 0) (ci := 8) (T := TX8) (N := 14) rfl rfl hl.1 ⟨Nat.le_of_ble_eq_true rfl, Nat.le_of_ble_eq_true rfl⟩ (Nat.le_of_ble_eq_true rfl) dX8_calm_32 (fun r_32 g1 H locs hp X => ?_)
        obtain ⟨rfl, rfl⟩ := hp
        have X : xS D A9 s9 [mW q b0 b1 b2 b3 b4 b5 b6 b7 b8 s p sl sv pd fo2 to ou kn ln mn la op wr] H locs := X
        refine lv_if_ne (tgt := 45) hx hb dX8_calm_35 (by decide) (fun c_35 => ?_) (fun c_35 => ?_)
        · refine lv_iconst (v := 0) hx hb dX8_calm_45 (by decide) ?_
          refine lv_ior hx hb dX8_calm_46 ?_
          refine lv_istore_n (lv' := [(2, .int (sv1 ||| 0)), (4, .int (nI j)), (3, .int (nI t)), (0, .ref b0), (1, .int 6)]) hx hb dX8_calm_47 rfl hl (by decide) rfl (fun ls hl => ?_)
          refine lv_aload_n hx hb dX8_calm_48 rfl (lv_at hl 3 rfl) ?_
          refine x_get F X (v := .ref b6) (C := RX8) (T := TX8) (N := 14) (ci := 8) in_X8 0 rfl rfl 7 (by decide) mw_2 rfl dX8_calm_49 ?_
          refine lv_iload hx hb dX8_calm_52 (lv_at hl 1 rfl) ?_
          refine x_iald F X (v := (fo2 j)) (n := 20) (f := fo2) 6 rfl (vp_in_nI (by omega) (by omega)) (x_cl (by omega)) dX8_calm_54 ?_
          refine lv_aload_n hx hb dX8_calm_55 rfl (lv_at hl 3 rfl) ?_
          refine x_get F X (v := .ref b6) (C := RX8) (T := TX8) (N := 14) (ci := 8) in_X8 0 rfl rfl 7 (by decide) mw_2 rfl dX8_calm_56 ?_
          refine lv_iload_n hx hb dX8_calm_59 rfl (lv_at hl 2 rfl) ?_
          refine x_iald F X (v := (fo2 t)) (n := 20) (f := fo2) 6 rfl (vp_in_nI (by omega) (by omega)) (x_cl (by omega)) dX8_calm_60 ?_
          refine lv_icmp_ge (tgt := 69) hx hb dX8_calm_61 (by decide) (fun c_61 => ?_) (fun c_61 => ?_)
          · refine lv_iload_n hx hb dX8_calm_69 rfl (lv_at hl 2 rfl) ?_
            refine lv_istore_n (lv' := [(3, .int (nI t)), (2, .int (sv1 ||| 0)), (4, .int (nI j)), (0, .ref b0), (1, .int 6)]) hx hb dX8_calm_70 rfl hl (by decide) rfl (fun ls hl => ?_)
            refine lv_iinc (v := (nI (j + 1))) (lv' := [(4, .int (nI (j + 1))), (3, .int (nI t)), (2, .int (sv1 ||| 0)), (0, .ref b0), (1, .int 6)]) hx hb dX8_calm_71 hl (k := 2) rfl (nI_add j 1) (by decide) rfl (fun ls hl => ?_)
            refine lv_goto (tgt := 17) hx hb dX8_calm_74 (by decide) ?_
            exact ih_17 (j + 1) t _ _ _ _ X (lv_sub hl [0, 1, 2, 3, 4] rfl) (by omega) (by omega) (by rw [x_or0, hs]; exact (x_orf_z (if_neg c_35)).symm) (by rw [x_lst, ← ht, if_neg (Int32.not_lt.mpr c_61)]) (by omega)
          · refine lv_iload hx hb dX8_calm_64 (lv_at hl 1 rfl) ?_
            refine lv_goto (tgt := 70) hx hb dX8_calm_66 (by decide) ?_
            refine lv_istore_n (lv' := [(3, .int (nI j)), (2, .int (sv1 ||| 0)), (4, .int (nI j)), (0, .ref b0), (1, .int 6)]) hx hb dX8_calm_70 rfl hl (by decide) rfl (fun ls hl => ?_)
            refine lv_iinc (v := (nI (j + 1))) (lv' := [(4, .int (nI (j + 1))), (3, .int (nI j)), (2, .int (sv1 ||| 0)), (0, .ref b0), (1, .int 6)]) hx hb dX8_calm_71 hl (k := 2) rfl (nI_add j 1) (by decide) rfl (fun ls hl => ?_)
            refine lv_goto (tgt := 17) hx hb dX8_calm_74 (by decide) ?_
            exact ih_17 (j + 1) j _ _ _ _ X (lv_sub hl [0, 1, 2, 3, 4] rfl) (by omega) (by omega) (by rw [x_or0, hs]; exact (x_orf_z (if_neg c_35)).symm) (by rw [x_lst, ← ht, if_pos (Int32.not_le.mp c_61)]) (by omega)
        · refine lv_iconst (v := 1) hx hb dX8_calm_38 (by decide) ?_
          refine lv_iload hx hb dX8_calm_39 (lv_at hl 0 rfl) ?_
          refine lv_ishl hx hb dX8_calm_41 ?_
          refine lv_goto (tgt := 46) hx hb dX8_calm_42 (by decide) ?_
          refine lv_ior hx hb dX8_calm_46 ?_
          refine lv_istore_n (lv' := [(2, .int (sv1 ||| (1 <<< ((nI j) &&& 31)))), (4, .int (nI j)), (3, .int (nI t)), (0, .ref b0), (1, .int 6)]) hx hb dX8_calm_47 rfl hl (by decide) rfl (fun ls hl => ?_)
          refine lv_aload_n hx hb dX8_calm_48 rfl (lv_at hl 3 rfl) ?_
          refine x_get F X (v := .ref b6) (C := RX8) (T := TX8) (N := 14) (ci := 8) in_X8 0 rfl rfl 7 (by decide) mw_2 rfl dX8_calm_49 ?_
          refine lv_iload hx hb dX8_calm_52 (lv_at hl 1 rfl) ?_
          refine x_iald F X (v := (fo2 j)) (n := 20) (f := fo2) 6 rfl (vp_in_nI (by omega) (by omega)) (x_cl (by omega)) dX8_calm_54 ?_
          refine lv_aload_n hx hb dX8_calm_55 rfl (lv_at hl 3 rfl) ?_
          refine x_get F X (v := .ref b6) (C := RX8) (T := TX8) (N := 14) (ci := 8) in_X8 0 rfl rfl 7 (by decide) mw_2 rfl dX8_calm_56 ?_
          refine lv_iload_n hx hb dX8_calm_59 rfl (lv_at hl 2 rfl) ?_
          refine x_iald F X (v := (fo2 t)) (n := 20) (f := fo2) 6 rfl (vp_in_nI (by omega) (by omega)) (x_cl (by omega)) dX8_calm_60 ?_
          refine lv_icmp_ge (tgt := 69) hx hb dX8_calm_61 (by decide) (fun c_61 => ?_) (fun c_61 => ?_)
          · refine lv_iload_n hx hb dX8_calm_69 rfl (lv_at hl 2 rfl) ?_
            refine lv_istore_n (lv' := [(3, .int (nI t)), (2, .int (sv1 ||| (1 <<< ((nI j) &&& 31)))), (4, .int (nI j)), (0, .ref b0), (1, .int 6)]) hx hb dX8_calm_70 rfl hl (by decide) rfl (fun ls hl => ?_)
            refine lv_iinc (v := (nI (j + 1))) (lv' := [(4, .int (nI (j + 1))), (3, .int (nI t)), (2, .int (sv1 ||| (1 <<< ((nI j) &&& 31)))), (0, .ref b0), (1, .int 6)]) hx hb dX8_calm_71 hl (k := 2) rfl (nI_add j 1) (by decide) rfl (fun ls hl => ?_)
            refine lv_goto (tgt := 17) hx hb dX8_calm_74 (by decide) ?_
            exact ih_17 (j + 1) t _ _ _ _ X (lv_sub hl [0, 1, 2, 3, 4] rfl) (by omega) (by omega) (by rw [hs, x_orf, x_shk, if_pos c_35]) (by rw [x_lst, ← ht, if_neg (Int32.not_lt.mpr c_61)]) (by omega)
          · refine lv_iload hx hb dX8_calm_64 (lv_at hl 1 rfl) ?_
            refine lv_goto (tgt := 70) hx hb dX8_calm_66 (by decide) ?_
            refine lv_istore_n (lv' := [(3, .int (nI j)), (2, .int (sv1 ||| (1 <<< ((nI j) &&& 31)))), (4, .int (nI j)), (0, .ref b0), (1, .int 6)]) hx hb dX8_calm_70 rfl hl (by decide) rfl (fun ls hl => ?_)
            refine lv_iinc (v := (nI (j + 1))) (lv' := [(4, .int (nI (j + 1))), (3, .int (nI j)), (2, .int (sv1 ||| (1 <<< ((nI j) &&& 31)))), (0, .ref b0), (1, .int 6)]) hx hb dX8_calm_71 hl (k := 2) rfl (nI_add j 1) (by decide) rfl (fun ls hl => ?_)
            refine lv_goto (tgt := 17) hx hb dX8_calm_74 (by decide) ?_
            exact ih_17 (j + 1) j _ _ _ _ X (lv_sub hl [0, 1, 2, 3, 4] rfl) (by omega) (by omega) (by rw [hs, x_orf, x_shk, if_pos c_35]) (by rw [x_lst, ← ht, if_pos (Int32.not_le.mp c_61)]) (by omega)
  exact L_17 (n + 1) 0 0 _ _ _ _ X (lv_sub hl [0, 1, 2, 3, 4] rfl) (by omega) (by omega) (by rfl) (by rfl) (by omega)

set_option maxHeartbeats 1000000 in
set_option maxRecDepth 100000 in
theorem c_X8_calm_7 (l : Launch) (D : va_G) (q : xQ) (b0 : Nat) (b1 : Nat) (b2 : Nat) (b3 : Nat) (b4 : Nat) (b5 : Nat) (b6 : Nat) (b7 : Nat) (b8 : Nat) (s : Nat → Int32) (p : Nat → Int32) (sl : Nat → Int32) (sv : Nat → Int32) (pd : Nat → Int32) (fo : Nat → Int32) (to : Nat → Int32) (ou : Nat → Int32) (kn : Int32) (ln : Int32) (mn : Int32) (la : Int32) (op : Int32) (wr : Int32) (n : Nat) (pr : Nat → Nat) (hok : x_ok s n pr) : xMi l yX8_calm wsX8_calm { frames := 4, cells := 0, slots := 0, locals := 92 } D q [.ref b0, .int 7] [mW q b0 b1 b2 b3 b4 b5 b6 b7 b8 s p sl sv pd fo to ou kn ln mn la op wr] (fun r gw => ∃ (fo2 : Nat → Int32), gw = [mW q b0 b1 b2 b3 b4 b5 b6 b7 b8 s p sl sv pd fo2 to ou kn ln mn la op wr] ∧ r = nI (x_lst (x_FT s pr n (-6) (s 4)) n)) := by
  refine xMi_of (cc := cX8_calm) (maxL := 5) (rt := .int) (by decide) rfl (Nat.le_of_ble_eq_true rfl) (fun _ _ _ => rfl) ?_
  intro p9 e9 s9 m9 a9 below meth c9 A9 Z9 ls H locs F X hl hret
  have hx := F.1.1
  have hb := F.1.2.1
  have in_X8 : ∀ w ∈ wsX80, w ∈ wsX8_calm := by decide +kernel
  have mw_0 : Cond.fieldLink RX8 7 "HatWindsModel" "s" "[I" ∈ wsX8_calm := by decide +kernel
  have mw_1 : Cond.initialized RX8 ∈ wsX8_calm := by decide +kernel
  have mw_2 : Cond.fieldLink RX8 26 "HatWindsModel" "forces" "[I" ∈ wsX8_calm := by decide +kernel
  have hl : lv_has ls 5 [(0, .ref b0), (1, .int 7)] := hl
  have hok0 := hok
  obtain ⟨hn, hn1, hs5, hs33, hpr, hwd, hcl, hsm, hpe, hst, hle, hhr, hcn⟩ := hok0
  refine lv_aload_n hx hb dX8_calm_0 rfl (lv_at hl 0 rfl) ?_
  refine lv_aload_n hx hb dX8_calm_1 rfl (lv_at hl 0 rfl) ?_
  refine x_get F X (v := .ref b1) (C := RX8) (T := TX8) (N := 14) (ci := 8) in_X8 0 rfl rfl 0 (by decide) mw_0 rfl dX8_calm_2 ?_
  refine lv_iconst (v := 4) hx hb dX8_calm_5 (by decide) ?_
  refine x_iald F X (v := (s 4)) (n := 133) (f := s) 1 rfl (show vp_in (nI 4) _ from vp_in_nI (by omega) (by omega)) rfl dX8_calm_6 ?_
  refine x_cVv F X (gc := [mW q b0 b1 b2 b3 b4 b5 b6 b7 b8 s p sl sv pd fo to ou kn ln mn la op wr]) (gr := []) (xp_idx (n := 1) [0] (by decide +kernel) rfl rfl) (c_X8_blows l D q b0 b1 b2 b3 b4 b5 b6 b7 b8 s p sl sv pd fo to ou kn ln mn la op wr n pr (s 4) (by first | assumption | omega)) (cwV 1 F.1.2.2.2.2 gX8_calm_X8_blows rfl rfl rfl (by decide +kernel) ⟨Nat.le_of_ble_eq_true rfl, Nat.le_of_ble_eq_true rfl⟩) rfl rfl (r0 := 0) (ci := 8) (T := TX8) (N := 14) rfl rfl hl.1 ⟨Nat.le_of_ble_eq_true rfl, Nat.le_of_ble_eq_true rfl⟩ (Nat.le_of_ble_eq_true rfl) dX8_calm_7 (fun g1 H locs hp X => ?_)
  obtain ⟨fo2, rfl, hfo2⟩ := hp
  have X : xS D A9 s9 [mW q b0 b1 b2 b3 b4 b5 b6 b7 b8 s p sl sv pd fo2 to ou kn ln mn la op wr] H locs := X
  refine lv_iconst (v := 0) hx hb dX8_calm_10 (by decide) ?_
  refine lv_istore_n (lv' := [(2, .int 0), (0, .ref b0), (1, .int 7)]) hx hb dX8_calm_11 rfl hl (by decide) rfl (fun ls hl => ?_)
  refine lv_iconst (v := 0) hx hb dX8_calm_12 (by decide) ?_
  refine lv_istore_n (lv' := [(3, .int 0), (2, .int 0), (0, .ref b0), (1, .int 7)]) hx hb dX8_calm_13 rfl hl (by decide) rfl (fun ls hl => ?_)
  refine lv_iconst (v := 0) hx hb dX8_calm_14 (by decide) ?_
  refine lv_istore (lv' := [(4, .int 0), (3, .int 0), (2, .int 0), (0, .ref b0), (1, .int 7)]) hx hb dX8_calm_15 hl (by decide) rfl (fun ls hl => ?_)
  have L_17 : ∀ (nn : Nat) (j t : Nat) (sv1 : Int32) (H : Heap) (locs : List Loc) (ls : Array Slot), xS D A9 s9 [mW q b0 b1 b2 b3 b4 b5 b6 b7 b8 s p sl sv pd fo2 to ou kn ln mn la op wr] H locs → lv_has ls 5 [(4, .int (nI j)), (3, .int (nI t)), (2, .int sv1), (0, .ref b0), (1, .int 7)] → (n < j + nn) → (j ≤ n) → (sv1 = x_orf (x_shk s fo2) j) → (t = x_lst fo2 j) → (t < n) → W p9 l e9 { frames := 4, cells := 0, slots := 0, locals := 92 } s9 m9 a9 below meth c9 H locs 0 0 Z9 (F0 m9 17 ls []) := by
    intro nn
    induction nn with
    | zero => intro j t sv1 H locs ls X hl hfuel hj hs ht ht2; exact absurd hfuel (by omega)
    | succ nn ih_17 =>
      intro j t sv1 H locs ls X hl hfuel hj hs ht ht2
      refine lv_iload hx hb dX8_calm_17 (lv_at hl 0 rfl) ?_
      refine lv_aload_n hx hb dX8_calm_19 rfl (lv_at hl 3 rfl) ?_
      refine x_get F X (v := .ref b1) (C := RX8) (T := TX8) (N := 14) (ci := 8) in_X8 0 rfl rfl 0 (by decide) mw_0 rfl dX8_calm_20 ?_
      refine lv_iconst (v := 5) hx hb dX8_calm_23 (by decide) ?_
      refine x_iald F X (v := (s 5)) (n := 133) (f := s) 1 rfl (show vp_in (nI 5) _ from vp_in_nI (by omega) (by omega)) rfl dX8_calm_24 ?_
      refine x_i (y := (nI n)) (hs5) ?_
      refine lv_icmp_ge (tgt := 77) hx hb dX8_calm_25 (by decide) (fun c_25 => ?_) (fun c_25 => ?_)
      · have c_25 : n ≤ j := (nI_leI (a := n) (b := j) (by omega) (by omega)).mp c_25
        refine lv_iload_n hx hb dX8_calm_77 rfl (lv_at hl 4 rfl) ?_
        refine lv_bipush (v := 6) hx hb dX8_calm_78 (by decide) ?_
        refine lv_icmp_ne (tgt := 87) hx hb dX8_calm_80 (by decide) (fun _ => ?_) (fun h => absurd h (by decide))
        refine lv_iload_n hx hb dX8_calm_87 rfl (lv_at hl 1 rfl) ?_
        refine hret _ _ _ _ _ _ ?_ X dX8_calm_88
        obtain rfl : j = n := by omega
        exact ⟨_, rfl, by rw [ht, x_lst_cong hfo2 j (Nat.le_refl j)]⟩
      · have c_25 : j < n := Nat.not_le.mp (fun h => c_25 ((nI_leI (a := n) (b := j) (by omega) (by omega)).mpr h))
        refine lv_iload_n hx hb dX8_calm_28 rfl (lv_at hl 2 rfl) ?_
        refine lv_aload_n hx hb dX8_calm_29 rfl (lv_at hl 3 rfl) ?_
        refine lv_iload hx hb dX8_calm_30 (lv_at hl 0 rfl) ?_
        refine x_cVi F X (gc := [mW q b0 b1 b2 b3 b4 b5 b6 b7 b8 s p sl sv pd fo2 to ou kn ln mn la op wr]) (gr := []) (xp_idx (n := 1) [0] (by decide +kernel) rfl rfl) (c_X8_hatsOf l D q b0 b1 b2 b3 b4 b5 b6 b7 b8 s p sl sv pd fo2 to ou kn ln mn la op wr j (by first | assumption | omega)) (cwV 1 F.1.2.2.2.2 gX8_calm_X8_hatsOf rfl rfl rfl (by decide +kernel) ⟨Nat.le_of_ble_eq_true rfl, Nat.le_of_ble_eq_true rfl⟩) rfl rfl (r0 := 0) (ci := 8) (T := TX8) (N := 14) rfl rfl hl.1 ⟨Nat.le_of_ble_eq_true rfl, Nat.le_of_ble_eq_true rfl⟩ (Nat.le_of_ble_eq_true rfl) dX8_calm_32 (fun r_32 g1 H locs hp X => ?_)
        obtain ⟨rfl, rfl⟩ := hp
        have X : xS D A9 s9 [mW q b0 b1 b2 b3 b4 b5 b6 b7 b8 s p sl sv pd fo2 to ou kn ln mn la op wr] H locs := X
        refine lv_if_ne (tgt := 45) hx hb dX8_calm_35 (by decide) (fun c_35 => ?_) (fun c_35 => ?_)
        · refine lv_iconst (v := 0) hx hb dX8_calm_45 (by decide) ?_
          refine lv_ior hx hb dX8_calm_46 ?_
          refine lv_istore_n (lv' := [(2, .int (sv1 ||| 0)), (4, .int (nI j)), (3, .int (nI t)), (0, .ref b0), (1, .int 7)]) hx hb dX8_calm_47 rfl hl (by decide) rfl (fun ls hl => ?_)
          refine lv_aload_n hx hb dX8_calm_48 rfl (lv_at hl 3 rfl) ?_
          refine x_get F X (v := .ref b6) (C := RX8) (T := TX8) (N := 14) (ci := 8) in_X8 0 rfl rfl 7 (by decide) mw_2 rfl dX8_calm_49 ?_
          refine lv_iload hx hb dX8_calm_52 (lv_at hl 1 rfl) ?_
          refine x_iald F X (v := (fo2 j)) (n := 20) (f := fo2) 6 rfl (vp_in_nI (by omega) (by omega)) (x_cl (by omega)) dX8_calm_54 ?_
          refine lv_aload_n hx hb dX8_calm_55 rfl (lv_at hl 3 rfl) ?_
          refine x_get F X (v := .ref b6) (C := RX8) (T := TX8) (N := 14) (ci := 8) in_X8 0 rfl rfl 7 (by decide) mw_2 rfl dX8_calm_56 ?_
          refine lv_iload_n hx hb dX8_calm_59 rfl (lv_at hl 2 rfl) ?_
          refine x_iald F X (v := (fo2 t)) (n := 20) (f := fo2) 6 rfl (vp_in_nI (by omega) (by omega)) (x_cl (by omega)) dX8_calm_60 ?_
          refine lv_icmp_ge (tgt := 69) hx hb dX8_calm_61 (by decide) (fun c_61 => ?_) (fun c_61 => ?_)
          · refine lv_iload_n hx hb dX8_calm_69 rfl (lv_at hl 2 rfl) ?_
            refine lv_istore_n (lv' := [(3, .int (nI t)), (2, .int (sv1 ||| 0)), (4, .int (nI j)), (0, .ref b0), (1, .int 7)]) hx hb dX8_calm_70 rfl hl (by decide) rfl (fun ls hl => ?_)
            refine lv_iinc (v := (nI (j + 1))) (lv' := [(4, .int (nI (j + 1))), (3, .int (nI t)), (2, .int (sv1 ||| 0)), (0, .ref b0), (1, .int 7)]) hx hb dX8_calm_71 hl (k := 2) rfl (nI_add j 1) (by decide) rfl (fun ls hl => ?_)
            refine lv_goto (tgt := 17) hx hb dX8_calm_74 (by decide) ?_
            exact ih_17 (j + 1) t _ _ _ _ X (lv_sub hl [0, 1, 2, 3, 4] rfl) (by omega) (by omega) (by rw [x_or0, hs]; exact (x_orf_z (if_neg c_35)).symm) (by rw [x_lst, ← ht, if_neg (Int32.not_lt.mpr c_61)]) (by omega)
          · refine lv_iload hx hb dX8_calm_64 (lv_at hl 1 rfl) ?_
            refine lv_goto (tgt := 70) hx hb dX8_calm_66 (by decide) ?_
            refine lv_istore_n (lv' := [(3, .int (nI j)), (2, .int (sv1 ||| 0)), (4, .int (nI j)), (0, .ref b0), (1, .int 7)]) hx hb dX8_calm_70 rfl hl (by decide) rfl (fun ls hl => ?_)
            refine lv_iinc (v := (nI (j + 1))) (lv' := [(4, .int (nI (j + 1))), (3, .int (nI j)), (2, .int (sv1 ||| 0)), (0, .ref b0), (1, .int 7)]) hx hb dX8_calm_71 hl (k := 2) rfl (nI_add j 1) (by decide) rfl (fun ls hl => ?_)
            refine lv_goto (tgt := 17) hx hb dX8_calm_74 (by decide) ?_
            exact ih_17 (j + 1) j _ _ _ _ X (lv_sub hl [0, 1, 2, 3, 4] rfl) (by omega) (by omega) (by rw [x_or0, hs]; exact (x_orf_z (if_neg c_35)).symm) (by rw [x_lst, ← ht, if_pos (Int32.not_le.mp c_61)]) (by omega)
        · refine lv_iconst (v := 1) hx hb dX8_calm_38 (by decide) ?_
          refine lv_iload hx hb dX8_calm_39 (lv_at hl 0 rfl) ?_
          refine lv_ishl hx hb dX8_calm_41 ?_
          refine lv_goto (tgt := 46) hx hb dX8_calm_42 (by decide) ?_
          refine lv_ior hx hb dX8_calm_46 ?_
          refine lv_istore_n (lv' := [(2, .int (sv1 ||| (1 <<< ((nI j) &&& 31)))), (4, .int (nI j)), (3, .int (nI t)), (0, .ref b0), (1, .int 7)]) hx hb dX8_calm_47 rfl hl (by decide) rfl (fun ls hl => ?_)
          refine lv_aload_n hx hb dX8_calm_48 rfl (lv_at hl 3 rfl) ?_
          refine x_get F X (v := .ref b6) (C := RX8) (T := TX8) (N := 14) (ci := 8) in_X8 0 rfl rfl 7 (by decide) mw_2 rfl dX8_calm_49 ?_
          refine lv_iload hx hb dX8_calm_52 (lv_at hl 1 rfl) ?_
          refine x_iald F X (v := (fo2 j)) (n := 20) (f := fo2) 6 rfl (vp_in_nI (by omega) (by omega)) (x_cl (by omega)) dX8_calm_54 ?_
          refine lv_aload_n hx hb dX8_calm_55 rfl (lv_at hl 3 rfl) ?_
          refine x_get F X (v := .ref b6) (C := RX8) (T := TX8) (N := 14) (ci := 8) in_X8 0 rfl rfl 7 (by decide) mw_2 rfl dX8_calm_56 ?_
          refine lv_iload_n hx hb dX8_calm_59 rfl (lv_at hl 2 rfl) ?_
          refine x_iald F X (v := (fo2 t)) (n := 20) (f := fo2) 6 rfl (vp_in_nI (by omega) (by omega)) (x_cl (by omega)) dX8_calm_60 ?_
          refine lv_icmp_ge (tgt := 69) hx hb dX8_calm_61 (by decide) (fun c_61 => ?_) (fun c_61 => ?_)
          · refine lv_iload_n hx hb dX8_calm_69 rfl (lv_at hl 2 rfl) ?_
            refine lv_istore_n (lv' := [(3, .int (nI t)), (2, .int (sv1 ||| (1 <<< ((nI j) &&& 31)))), (4, .int (nI j)), (0, .ref b0), (1, .int 7)]) hx hb dX8_calm_70 rfl hl (by decide) rfl (fun ls hl => ?_)
            refine lv_iinc (v := (nI (j + 1))) (lv' := [(4, .int (nI (j + 1))), (3, .int (nI t)), (2, .int (sv1 ||| (1 <<< ((nI j) &&& 31)))), (0, .ref b0), (1, .int 7)]) hx hb dX8_calm_71 hl (k := 2) rfl (nI_add j 1) (by decide) rfl (fun ls hl => ?_)
            refine lv_goto (tgt := 17) hx hb dX8_calm_74 (by decide) ?_
            exact ih_17 (j + 1) t _ _ _ _ X (lv_sub hl [0, 1, 2, 3, 4] rfl) (by omega) (by omega) (by rw [hs, x_orf, x_shk, if_pos c_35]) (by rw [x_lst, ← ht, if_neg (Int32.not_lt.mpr c_61)]) (by omega)
          · refine lv_iload hx hb dX8_calm_64 (lv_at hl 1 rfl) ?_
            refine lv_goto (tgt := 70) hx hb dX8_calm_66 (by decide) ?_
            refine lv_istore_n (lv' := [(3, .int (nI j)), (2, .int (sv1 ||| (1 <<< ((nI j) &&& 31)))), (4, .int (nI j)), (0, .ref b0), (1, .int 7)]) hx hb dX8_calm_70 rfl hl (by decide) rfl (fun ls hl => ?_)
            refine lv_iinc (v := (nI (j + 1))) (lv' := [(4, .int (nI (j + 1))), (3, .int (nI j)), (2, .int (sv1 ||| (1 <<< ((nI j) &&& 31)))), (0, .ref b0), (1, .int 7)]) hx hb dX8_calm_71 hl (k := 2) rfl (nI_add j 1) (by decide) rfl (fun ls hl => ?_)
            refine lv_goto (tgt := 17) hx hb dX8_calm_74 (by decide) ?_
            exact ih_17 (j + 1) j _ _ _ _ X (lv_sub hl [0, 1, 2, 3, 4] rfl) (by omega) (by omega) (by rw [hs, x_orf, x_shk, if_pos c_35]) (by rw [x_lst, ← ht, if_pos (Int32.not_le.mp c_61)]) (by omega)
  exact L_17 (n + 1) 0 0 _ _ _ _ X (lv_sub hl [0, 1, 2, 3, 4] rfl) (by omega) (by omega) (by rfl) (by rfl) (by omega)

set_option maxHeartbeats 1000000 in
set_option maxRecDepth 100000 in
theorem c_X8_count (l : Launch) (D : va_G) (q : xQ) (b0 : Nat) (b1 : Nat) (b2 : Nat) (b3 : Nat) (b4 : Nat) (b5 : Nat) (b6 : Nat) (b7 : Nat) (b8 : Nat) (s : Nat → Int32) (p : Nat → Int32) (sl : Nat → Int32) (sv : Nat → Int32) (pd : Nat → Int32) (fo : Nat → Int32) (to : Nat → Int32) (ou : Nat → Int32) (kn : Nat) (ln : Nat) (mn : Int32) (la : Int32) (op : Int32) (wr : Int32) (n : Nat) (pr : Nat → Nat) (wh : Int32) (hok : x_ok s n pr) : xMi l yX8_count wsX8_count { frames := 5, cells := 0, slots := 0, locals := 116 } D q [.ref b0, .int wh] [mW q b0 b1 b2 b3 b4 b5 b6 b7 b8 s p sl sv pd fo to ou (nI kn) (nI ln) mn la op wr] (fun r gw => ∃ (fo2 : Nat → Int32), gw = [mW q b0 b1 b2 b3 b4 b5 b6 b7 b8 s p sl sv pd fo2 to ou (nI kn) (nI ln) mn la op wr] ∧ r = x_cnt s n pr ln kn wh) := by
  refine xMi_of (cc := cX8_count) (maxL := 2) (rt := .int) (by decide) rfl (Nat.le_of_ble_eq_true rfl) (fun _ _ _ => rfl) ?_
  intro p9 e9 s9 m9 a9 below meth c9 A9 Z9 ls H locs F X hl hret
  have hx := F.1.1
  have hb := F.1.2.1
  have in_X8 : ∀ w ∈ wsX80, w ∈ wsX8_count := by decide +kernel
  have mw_0 : Cond.initialized RX8 ∈ wsX8_count := by decide +kernel
  have mw_1 : Cond.fieldLink RX8 7 "HatWindsModel" "s" "[I" ∈ wsX8_count := by decide +kernel
  have mw_2 : Cond.fieldLink RX8 106 "HatWindsModel" "length" "I" ∈ wsX8_count := by decide +kernel
  have mw_3 : Cond.fieldLink RX8 43 "HatWindsModel" "known" "I" ∈ wsX8_count := by decide +kernel
  have hl : lv_has ls 2 [(0, .ref b0), (1, .int wh)] := hl
  have hok0 := hok
  obtain ⟨hn, hn1, hs5, hs33, hpr, hwd, hcl, hsm, hpe, hst, hle, hhr, hcn⟩ := hok0
  refine lv_iload_n hx hb dX8_count_0 rfl (lv_at hl 1 rfl) ?_
  rcases x_sw wh 0 13 (by decide) with c_1 | c_1
  · refine lv_tableOut (tgt := 130) hx hb dX8_count_1 c_1 (by decide) ?_
    refine lv_iload_n hx hb dX8_count_130 rfl (lv_at hl 1 rfl) ?_
    refine lv_bipush (v := 8) hx hb dX8_count_131 (by decide) ?_
    refine lv_bipush (v := 11) hx hb dX8_count_133 (by decide) ?_
    refine x_cSi F X (gc := []) (gr := [mW q b0 b1 b2 b3 b4 b5 b6 b7 b8 s p sl sv pd fo to ou (nI kn) (nI ln) mn la op wr]) (xp_idx (n := 1) [0] (by decide +kernel) rfl rfl) (c_X8_in l D q wh 8 11 ) (va_cwS 3 F.1.2.2.2.2 gX8_count_X8_in rfl rfl rfl (by decide +kernel) ⟨Nat.le_of_ble_eq_true rfl, Nat.le_of_ble_eq_true rfl⟩) rfl rfl hl.1 ⟨Nat.le_of_ble_eq_true rfl, Nat.le_of_ble_eq_true rfl⟩ (Nat.le_of_ble_eq_true rfl) dX8_count_135 (fun r_135 g1 H locs hp X => ?_)
    obtain ⟨rfl, hz⟩ := hp
    have X : xS D A9 s9 [mW q b0 b1 b2 b3 b4 b5 b6 b7 b8 s p sl sv pd fo to ou (nI kn) (nI ln) mn la op wr] H locs := X
    rcases hz with ⟨rfl, b_135⟩ | ⟨rfl, b_135⟩
    · refine lv_if_eq (tgt := 153) hx hb dX8_count_138 (by decide) (fun h => absurd h (by decide)) (fun _ => ?_)
      exact absurd b_135 (x_rng_dn c_1)
    · refine lv_if_eq (tgt := 153) hx hb dX8_count_138 (by decide) (fun _ => ?_) (fun h => absurd (by decide) h)
      refine lv_bipush (v := (-2)) hx hb dX8_count_153 (by decide) ?_
      exact hret _ _ _ _ _ _ (by exact ⟨_, rfl, by rw [x_cnt_d c_1]⟩) X dX8_count_155
  · obtain ⟨j_1, hj1, hj2, e_1⟩ := c_1
    subst e_1
    rcases (show j_1 = 0 ∨ j_1 = 1 ∨ j_1 = 2 ∨ j_1 = 3 ∨ j_1 = 4 ∨ j_1 = 5 ∨ j_1 = 6 ∨ j_1 = 7 ∨ j_1 = 8 ∨ j_1 = 9 ∨ j_1 = 10 ∨ j_1 = 11 ∨ j_1 = 12 ∨ j_1 = 13 by omega) with rfl | rfl | rfl | rfl | rfl | rfl | rfl | rfl | rfl | rfl | rfl | rfl | rfl | rfl
    · refine lv_tableIn (off := 71) (tgt := 72) hx hb dX8_count_1 (by decide) (by decide) (by decide) (by decide) ?_
      refine lv_aload_n hx hb dX8_count_72 rfl (lv_at hl 0 rfl) ?_
      refine x_get F X (v := .ref b1) (C := RX8) (T := TX8) (N := 14) (ci := 8) in_X8 0 rfl rfl 0 (by decide) mw_1 rfl dX8_count_73 ?_
      refine lv_iconst (v := 5) hx hb dX8_count_76 (by decide) ?_
      refine x_iald F X (v := (s 5)) (n := 133) (f := s) 1 rfl (show vp_in (nI 5) _ from vp_in_nI (by omega) (by omega)) rfl dX8_count_77 ?_
      exact hret _ _ _ _ _ _ (by exact ⟨_, rfl, rfl⟩) X dX8_count_78
    · refine lv_tableIn (off := 78) (tgt := 79) hx hb dX8_count_1 (by decide) (by decide) (by decide) (by decide) ?_
      refine lv_aload_n hx hb dX8_count_79 rfl (lv_at hl 0 rfl) ?_
      refine x_get F X (v := .ref b1) (C := RX8) (T := TX8) (N := 14) (ci := 8) in_X8 0 rfl rfl 0 (by decide) mw_1 rfl dX8_count_80 ?_
      refine lv_iconst (v := 4) hx hb dX8_count_83 (by decide) ?_
      refine x_iald F X (v := (s 4)) (n := 133) (f := s) 1 rfl (show vp_in (nI 4) _ from vp_in_nI (by omega) (by omega)) rfl dX8_count_84 ?_
      exact hret _ _ _ _ _ _ (by exact ⟨_, rfl, rfl⟩) X dX8_count_85
    · refine lv_tableIn (off := 85) (tgt := 86) hx hb dX8_count_1 (by decide) (by decide) (by decide) (by decide) ?_
      refine lv_aload_n hx hb dX8_count_86 rfl (lv_at hl 0 rfl) ?_
      refine x_get F X (v := .ref b1) (C := RX8) (T := TX8) (N := 14) (ci := 8) in_X8 0 rfl rfl 0 (by decide) mw_1 rfl dX8_count_87 ?_
      refine lv_bipush (v := 6) hx hb dX8_count_90 (by decide) ?_
      refine lv_iload_n hx hb dX8_count_92 rfl (lv_at hl 1 rfl) ?_
      refine lv_iadd hx hb dX8_count_93 ?_
      refine x_i (y := (nI (6 + 2))) (nI_add 6 2) ?_
      refine lv_iconst (v := 2) hx hb dX8_count_94 (by decide) ?_
      refine lv_isub hx hb dX8_count_95 ?_
      refine x_i (y := (nI ((6 + 2) - 2))) (pk_sub (a := (6 + 2)) (b := 2) (by omega)) ?_
      refine x_iald F X (v := (s ((6 + 2) - 2))) (n := 133) (f := s) 1 rfl (vp_in_nI (by omega) (by omega)) (x_cl (by omega)) dX8_count_96 ?_
      exact hret _ _ _ _ _ _ (by exact ⟨_, rfl, rfl⟩) X dX8_count_97
    · refine lv_tableIn (off := 85) (tgt := 86) hx hb dX8_count_1 (by decide) (by decide) (by decide) (by decide) ?_
      refine lv_aload_n hx hb dX8_count_86 rfl (lv_at hl 0 rfl) ?_
      refine x_get F X (v := .ref b1) (C := RX8) (T := TX8) (N := 14) (ci := 8) in_X8 0 rfl rfl 0 (by decide) mw_1 rfl dX8_count_87 ?_
      refine lv_bipush (v := 6) hx hb dX8_count_90 (by decide) ?_
      refine lv_iload_n hx hb dX8_count_92 rfl (lv_at hl 1 rfl) ?_
      refine lv_iadd hx hb dX8_count_93 ?_
      refine x_i (y := (nI (6 + 3))) (nI_add 6 3) ?_
      refine lv_iconst (v := 2) hx hb dX8_count_94 (by decide) ?_
      refine lv_isub hx hb dX8_count_95 ?_
      refine x_i (y := (nI ((6 + 3) - 2))) (pk_sub (a := (6 + 3)) (b := 2) (by omega)) ?_
      refine x_iald F X (v := (s ((6 + 3) - 2))) (n := 133) (f := s) 1 rfl (vp_in_nI (by omega) (by omega)) (x_cl (by omega)) dX8_count_96 ?_
      exact hret _ _ _ _ _ _ (by exact ⟨_, rfl, rfl⟩) X dX8_count_97
    · refine lv_tableIn (off := 97) (tgt := 98) hx hb dX8_count_1 (by decide) (by decide) (by decide) (by decide) ?_
      refine lv_aload_n hx hb dX8_count_98 rfl (lv_at hl 0 rfl) ?_
      refine x_cVi F X (gc := [mW q b0 b1 b2 b3 b4 b5 b6 b7 b8 s p sl sv pd fo to ou (nI kn) (nI ln) mn la op wr]) (gr := []) (xp_idx (n := 1) [0] (by decide +kernel) rfl rfl) (c_X8_people l D q b0 b1 b2 b3 b4 b5 b6 b7 b8 s p sl sv pd fo to ou (nI kn) (nI ln) mn la op wr n pr (by first | assumption | omega)) (cwV 0 F.1.2.2.2.2 gX8_count_X8_people rfl rfl rfl (by decide +kernel) ⟨Nat.le_of_ble_eq_true rfl, Nat.le_of_ble_eq_true rfl⟩) rfl rfl (r0 := 0) (ci := 8) (T := TX8) (N := 14) rfl rfl hl.1 ⟨Nat.le_of_ble_eq_true rfl, Nat.le_of_ble_eq_true rfl⟩ (Nat.le_of_ble_eq_true rfl) dX8_count_99 (fun r_99 g1 H locs hp X => ?_)
      obtain ⟨rfl, rfl⟩ := hp
      have X : xS D A9 s9 [mW q b0 b1 b2 b3 b4 b5 b6 b7 b8 s p sl sv pd fo to ou (nI kn) (nI ln) mn la op wr] H locs := X
      exact hret _ _ _ _ _ _ (by exact ⟨_, rfl, rfl⟩) X dX8_count_102
    · refine lv_tableIn (off := 102) (tgt := 103) hx hb dX8_count_1 (by decide) (by decide) (by decide) (by decide) ?_
      refine lv_aload_n hx hb dX8_count_103 rfl (lv_at hl 0 rfl) ?_
      refine lv_aload_n hx hb dX8_count_104 rfl (lv_at hl 0 rfl) ?_
      refine x_get F X (v := .ref b1) (C := RX8) (T := TX8) (N := 14) (ci := 8) in_X8 0 rfl rfl 0 (by decide) mw_1 rfl dX8_count_105 ?_
      refine lv_iconst (v := 4) hx hb dX8_count_108 (by decide) ?_
      refine x_iald F X (v := (s 4)) (n := 133) (f := s) 1 rfl (show vp_in (nI 4) _ from vp_in_nI (by omega) (by omega)) rfl dX8_count_109 ?_
      refine x_cVi F X (gc := [mW q b0 b1 b2 b3 b4 b5 b6 b7 b8 s p sl sv pd fo to ou (nI kn) (nI ln) mn la op wr]) (gr := []) (xp_idx (n := 1) [0] (by decide +kernel) rfl rfl) (c_X8_hatsBy l D q b0 b1 b2 b3 b4 b5 b6 b7 b8 s p sl sv pd fo to ou (nI kn) (nI ln) mn la op wr n pr (s 4) (by first | assumption | omega)) (cwV 1 F.1.2.2.2.2 gX8_count_X8_hatsBy rfl rfl rfl (by decide +kernel) ⟨Nat.le_of_ble_eq_true rfl, Nat.le_of_ble_eq_true rfl⟩) rfl rfl (r0 := 0) (ci := 8) (T := TX8) (N := 14) rfl rfl hl.1 ⟨Nat.le_of_ble_eq_true rfl, Nat.le_of_ble_eq_true rfl⟩ (Nat.le_of_ble_eq_true rfl) dX8_count_110 (fun r_110 g1 H locs hp X => ?_)
      obtain ⟨fo2_110, rfl, rfl, hfo2_110⟩ := hp
      have X : xS D A9 s9 [mW q b0 b1 b2 b3 b4 b5 b6 b7 b8 s p sl sv pd fo2_110 to ou (nI kn) (nI ln) mn la op wr] H locs := X
      exact hret _ _ _ _ _ _ (by exact ⟨_, rfl, rfl⟩) X dX8_count_113
    · refine lv_tableIn (off := 113) (tgt := 114) hx hb dX8_count_1 (by decide) (by decide) (by decide) (by decide) ?_
      refine lv_aload_n hx hb dX8_count_114 rfl (lv_at hl 0 rfl) ?_
      refine lv_iload_n hx hb dX8_count_115 rfl (lv_at hl 1 rfl) ?_
      refine x_cVi F X (gc := [mW q b0 b1 b2 b3 b4 b5 b6 b7 b8 s p sl sv pd fo to ou (nI kn) (nI ln) mn la op wr]) (gr := []) (xp_idx (n := 1) [0] (by decide +kernel) rfl rfl) (c_X8_calm_6 l D q b0 b1 b2 b3 b4 b5 b6 b7 b8 s p sl sv pd fo to ou (nI kn) (nI ln) mn la op wr n pr (by first | assumption | omega)) (cwV 1 F.1.2.2.2.2 gX8_count_X8_calm rfl rfl rfl (by decide +kernel) ⟨Nat.le_of_ble_eq_true rfl, Nat.le_of_ble_eq_true rfl⟩) rfl rfl (r0 := 0) (ci := 8) (T := TX8) (N := 14) rfl rfl hl.1 ⟨Nat.le_of_ble_eq_true rfl, Nat.le_of_ble_eq_true rfl⟩ (Nat.le_of_ble_eq_true rfl) dX8_count_116 (fun r_116 g1 H locs hp X => ?_)
      obtain ⟨fo2_116, rfl, rfl⟩ := hp
      have X : xS D A9 s9 [mW q b0 b1 b2 b3 b4 b5 b6 b7 b8 s p sl sv pd fo2_116 to ou (nI kn) (nI ln) mn la op wr] H locs := X
      exact hret _ _ _ _ _ _ (by exact ⟨_, rfl, rfl⟩) X dX8_count_119
    · refine lv_tableIn (off := 113) (tgt := 114) hx hb dX8_count_1 (by decide) (by decide) (by decide) (by decide) ?_
      refine lv_aload_n hx hb dX8_count_114 rfl (lv_at hl 0 rfl) ?_
      refine lv_iload_n hx hb dX8_count_115 rfl (lv_at hl 1 rfl) ?_
      refine x_cVi F X (gc := [mW q b0 b1 b2 b3 b4 b5 b6 b7 b8 s p sl sv pd fo to ou (nI kn) (nI ln) mn la op wr]) (gr := []) (xp_idx (n := 1) [0] (by decide +kernel) rfl rfl) (c_X8_calm_7 l D q b0 b1 b2 b3 b4 b5 b6 b7 b8 s p sl sv pd fo to ou (nI kn) (nI ln) mn la op wr n pr (by first | assumption | omega)) (cwV 1 F.1.2.2.2.2 gX8_count_X8_calm rfl rfl rfl (by decide +kernel) ⟨Nat.le_of_ble_eq_true rfl, Nat.le_of_ble_eq_true rfl⟩) rfl rfl (r0 := 0) (ci := 8) (T := TX8) (N := 14) rfl rfl hl.1 ⟨Nat.le_of_ble_eq_true rfl, Nat.le_of_ble_eq_true rfl⟩ (Nat.le_of_ble_eq_true rfl) dX8_count_116 (fun r_116 g1 H locs hp X => ?_)
      obtain ⟨fo2_116, rfl, rfl⟩ := hp
      have X : xS D A9 s9 [mW q b0 b1 b2 b3 b4 b5 b6 b7 b8 s p sl sv pd fo2_116 to ou (nI kn) (nI ln) mn la op wr] H locs := X
      exact hret _ _ _ _ _ _ (by exact ⟨_, rfl, rfl⟩) X dX8_count_119
    · refine lv_tableIn (off := 129) (tgt := 130) hx hb dX8_count_1 (by decide) (by decide) (by decide) (by decide) ?_
      refine lv_iload_n hx hb dX8_count_130 rfl (lv_at hl 1 rfl) ?_
      refine lv_bipush (v := 8) hx hb dX8_count_131 (by decide) ?_
      refine lv_bipush (v := 11) hx hb dX8_count_133 (by decide) ?_
      refine x_cSi F X (gc := []) (gr := [mW q b0 b1 b2 b3 b4 b5 b6 b7 b8 s p sl sv pd fo to ou (nI kn) (nI ln) mn la op wr]) (xp_idx (n := 1) [0] (by decide +kernel) rfl rfl) (c_X8_inN l D q 8 8 11 (by first | assumption | omega) (by first | assumption | omega) (by first | assumption | omega)) (va_cwS 3 F.1.2.2.2.2 gX8_count_X8_in rfl rfl rfl (by decide +kernel) ⟨Nat.le_of_ble_eq_true rfl, Nat.le_of_ble_eq_true rfl⟩) rfl rfl hl.1 ⟨Nat.le_of_ble_eq_true rfl, Nat.le_of_ble_eq_true rfl⟩ (Nat.le_of_ble_eq_true rfl) dX8_count_135 (fun r_135 g1 H locs hp X => ?_)
      obtain ⟨rfl, hz⟩ := hp
      have X : xS D A9 s9 [mW q b0 b1 b2 b3 b4 b5 b6 b7 b8 s p sl sv pd fo to ou (nI kn) (nI ln) mn la op wr] H locs := X
      rcases hz with ⟨rfl, b_135⟩ | ⟨rfl, b_135⟩
      · refine lv_if_eq (tgt := 153) hx hb dX8_count_138 (by decide) (fun h => absurd h (by decide)) (fun _ => ?_)
        refine lv_aload_n hx hb dX8_count_141 rfl (lv_at hl 0 rfl) ?_
        refine x_get F X (v := .ref b1) (C := RX8) (T := TX8) (N := 14) (ci := 8) in_X8 0 rfl rfl 0 (by decide) mw_1 rfl dX8_count_142 ?_
        refine lv_iload_n hx hb dX8_count_145 rfl (lv_at hl 1 rfl) ?_
        refine lv_bipush (v := 8) hx hb dX8_count_146 (by decide) ?_
        refine lv_isub hx hb dX8_count_148 ?_
        refine x_i (y := (nI (8 - 8))) (pk_sub (a := 8) (b := 8) (by omega)) ?_
        refine x_iald F X (v := (s (8 - 8))) (n := 133) (f := s) 1 rfl (vp_in_nI (by omega) (by omega)) (x_cl (by omega)) dX8_count_149 ?_
        refine lv_goto (tgt := 155) hx hb dX8_count_150 (by decide) ?_
        exact hret _ _ _ _ _ _ (by exact ⟨_, rfl, rfl⟩) X dX8_count_155
      · refine lv_if_eq (tgt := 153) hx hb dX8_count_138 (by decide) (fun _ => ?_) (fun h => absurd (by decide) h)
        omega
    · refine lv_tableIn (off := 129) (tgt := 130) hx hb dX8_count_1 (by decide) (by decide) (by decide) (by decide) ?_
      refine lv_iload_n hx hb dX8_count_130 rfl (lv_at hl 1 rfl) ?_
      refine lv_bipush (v := 8) hx hb dX8_count_131 (by decide) ?_
      refine lv_bipush (v := 11) hx hb dX8_count_133 (by decide) ?_
      refine x_cSi F X (gc := []) (gr := [mW q b0 b1 b2 b3 b4 b5 b6 b7 b8 s p sl sv pd fo to ou (nI kn) (nI ln) mn la op wr]) (xp_idx (n := 1) [0] (by decide +kernel) rfl rfl) (c_X8_inN l D q 9 8 11 (by first | assumption | omega) (by first | assumption | omega) (by first | assumption | omega)) (va_cwS 3 F.1.2.2.2.2 gX8_count_X8_in rfl rfl rfl (by decide +kernel) ⟨Nat.le_of_ble_eq_true rfl, Nat.le_of_ble_eq_true rfl⟩) rfl rfl hl.1 ⟨Nat.le_of_ble_eq_true rfl, Nat.le_of_ble_eq_true rfl⟩ (Nat.le_of_ble_eq_true rfl) dX8_count_135 (fun r_135 g1 H locs hp X => ?_)
      obtain ⟨rfl, hz⟩ := hp
      have X : xS D A9 s9 [mW q b0 b1 b2 b3 b4 b5 b6 b7 b8 s p sl sv pd fo to ou (nI kn) (nI ln) mn la op wr] H locs := X
      rcases hz with ⟨rfl, b_135⟩ | ⟨rfl, b_135⟩
      · refine lv_if_eq (tgt := 153) hx hb dX8_count_138 (by decide) (fun h => absurd h (by decide)) (fun _ => ?_)
        refine lv_aload_n hx hb dX8_count_141 rfl (lv_at hl 0 rfl) ?_
        refine x_get F X (v := .ref b1) (C := RX8) (T := TX8) (N := 14) (ci := 8) in_X8 0 rfl rfl 0 (by decide) mw_1 rfl dX8_count_142 ?_
        refine lv_iload_n hx hb dX8_count_145 rfl (lv_at hl 1 rfl) ?_
        refine lv_bipush (v := 8) hx hb dX8_count_146 (by decide) ?_
        refine lv_isub hx hb dX8_count_148 ?_
        refine x_i (y := (nI (9 - 8))) (pk_sub (a := 9) (b := 8) (by omega)) ?_
        refine x_iald F X (v := (s (9 - 8))) (n := 133) (f := s) 1 rfl (vp_in_nI (by omega) (by omega)) (x_cl (by omega)) dX8_count_149 ?_
        refine lv_goto (tgt := 155) hx hb dX8_count_150 (by decide) ?_
        exact hret _ _ _ _ _ _ (by exact ⟨_, rfl, rfl⟩) X dX8_count_155
      · refine lv_if_eq (tgt := 153) hx hb dX8_count_138 (by decide) (fun _ => ?_) (fun h => absurd (by decide) h)
        omega
    · refine lv_tableIn (off := 129) (tgt := 130) hx hb dX8_count_1 (by decide) (by decide) (by decide) (by decide) ?_
      refine lv_iload_n hx hb dX8_count_130 rfl (lv_at hl 1 rfl) ?_
      refine lv_bipush (v := 8) hx hb dX8_count_131 (by decide) ?_
      refine lv_bipush (v := 11) hx hb dX8_count_133 (by decide) ?_
      refine x_cSi F X (gc := []) (gr := [mW q b0 b1 b2 b3 b4 b5 b6 b7 b8 s p sl sv pd fo to ou (nI kn) (nI ln) mn la op wr]) (xp_idx (n := 1) [0] (by decide +kernel) rfl rfl) (c_X8_inN l D q 10 8 11 (by first | assumption | omega) (by first | assumption | omega) (by first | assumption | omega)) (va_cwS 3 F.1.2.2.2.2 gX8_count_X8_in rfl rfl rfl (by decide +kernel) ⟨Nat.le_of_ble_eq_true rfl, Nat.le_of_ble_eq_true rfl⟩) rfl rfl hl.1 ⟨Nat.le_of_ble_eq_true rfl, Nat.le_of_ble_eq_true rfl⟩ (Nat.le_of_ble_eq_true rfl) dX8_count_135 (fun r_135 g1 H locs hp X => ?_)
      obtain ⟨rfl, hz⟩ := hp
      have X : xS D A9 s9 [mW q b0 b1 b2 b3 b4 b5 b6 b7 b8 s p sl sv pd fo to ou (nI kn) (nI ln) mn la op wr] H locs := X
      rcases hz with ⟨rfl, b_135⟩ | ⟨rfl, b_135⟩
      · refine lv_if_eq (tgt := 153) hx hb dX8_count_138 (by decide) (fun h => absurd h (by decide)) (fun _ => ?_)
        refine lv_aload_n hx hb dX8_count_141 rfl (lv_at hl 0 rfl) ?_
        refine x_get F X (v := .ref b1) (C := RX8) (T := TX8) (N := 14) (ci := 8) in_X8 0 rfl rfl 0 (by decide) mw_1 rfl dX8_count_142 ?_
        refine lv_iload_n hx hb dX8_count_145 rfl (lv_at hl 1 rfl) ?_
        refine lv_bipush (v := 8) hx hb dX8_count_146 (by decide) ?_
        refine lv_isub hx hb dX8_count_148 ?_
        refine x_i (y := (nI (10 - 8))) (pk_sub (a := 10) (b := 8) (by omega)) ?_
        refine x_iald F X (v := (s (10 - 8))) (n := 133) (f := s) 1 rfl (vp_in_nI (by omega) (by omega)) (x_cl (by omega)) dX8_count_149 ?_
        refine lv_goto (tgt := 155) hx hb dX8_count_150 (by decide) ?_
        exact hret _ _ _ _ _ _ (by exact ⟨_, rfl, rfl⟩) X dX8_count_155
      · refine lv_if_eq (tgt := 153) hx hb dX8_count_138 (by decide) (fun _ => ?_) (fun h => absurd (by decide) h)
        omega
    · refine lv_tableIn (off := 129) (tgt := 130) hx hb dX8_count_1 (by decide) (by decide) (by decide) (by decide) ?_
      refine lv_iload_n hx hb dX8_count_130 rfl (lv_at hl 1 rfl) ?_
      refine lv_bipush (v := 8) hx hb dX8_count_131 (by decide) ?_
      refine lv_bipush (v := 11) hx hb dX8_count_133 (by decide) ?_
      refine x_cSi F X (gc := []) (gr := [mW q b0 b1 b2 b3 b4 b5 b6 b7 b8 s p sl sv pd fo to ou (nI kn) (nI ln) mn la op wr]) (xp_idx (n := 1) [0] (by decide +kernel) rfl rfl) (c_X8_inN l D q 11 8 11 (by first | assumption | omega) (by first | assumption | omega) (by first | assumption | omega)) (va_cwS 3 F.1.2.2.2.2 gX8_count_X8_in rfl rfl rfl (by decide +kernel) ⟨Nat.le_of_ble_eq_true rfl, Nat.le_of_ble_eq_true rfl⟩) rfl rfl hl.1 ⟨Nat.le_of_ble_eq_true rfl, Nat.le_of_ble_eq_true rfl⟩ (Nat.le_of_ble_eq_true rfl) dX8_count_135 (fun r_135 g1 H locs hp X => ?_)
      obtain ⟨rfl, hz⟩ := hp
      have X : xS D A9 s9 [mW q b0 b1 b2 b3 b4 b5 b6 b7 b8 s p sl sv pd fo to ou (nI kn) (nI ln) mn la op wr] H locs := X
      rcases hz with ⟨rfl, b_135⟩ | ⟨rfl, b_135⟩
      · refine lv_if_eq (tgt := 153) hx hb dX8_count_138 (by decide) (fun h => absurd h (by decide)) (fun _ => ?_)
        refine lv_aload_n hx hb dX8_count_141 rfl (lv_at hl 0 rfl) ?_
        refine x_get F X (v := .ref b1) (C := RX8) (T := TX8) (N := 14) (ci := 8) in_X8 0 rfl rfl 0 (by decide) mw_1 rfl dX8_count_142 ?_
        refine lv_iload_n hx hb dX8_count_145 rfl (lv_at hl 1 rfl) ?_
        refine lv_bipush (v := 8) hx hb dX8_count_146 (by decide) ?_
        refine lv_isub hx hb dX8_count_148 ?_
        refine x_i (y := (nI (11 - 8))) (pk_sub (a := 11) (b := 8) (by omega)) ?_
        refine x_iald F X (v := (s (11 - 8))) (n := 133) (f := s) 1 rfl (vp_in_nI (by omega) (by omega)) (x_cl (by omega)) dX8_count_149 ?_
        refine lv_goto (tgt := 155) hx hb dX8_count_150 (by decide) ?_
        exact hret _ _ _ _ _ _ (by exact ⟨_, rfl, rfl⟩) X dX8_count_155
      · refine lv_if_eq (tgt := 153) hx hb dX8_count_138 (by decide) (fun _ => ?_) (fun h => absurd (by decide) h)
        omega
    · refine lv_tableIn (off := 119) (tgt := 120) hx hb dX8_count_1 (by decide) (by decide) (by decide) (by decide) ?_
      refine lv_aload_n hx hb dX8_count_120 rfl (lv_at hl 0 rfl) ?_
      refine x_get F X (v := .int (nI ln)) (C := RX8) (T := TX8) (N := 14) (ci := 8) in_X8 0 rfl rfl 6 (by decide) mw_2 rfl dX8_count_121 ?_
      exact hret _ _ _ _ _ _ (by exact ⟨_, rfl, rfl⟩) X dX8_count_124
    · refine lv_tableIn (off := 124) (tgt := 125) hx hb dX8_count_1 (by decide) (by decide) (by decide) (by decide) ?_
      refine lv_aload_n hx hb dX8_count_125 rfl (lv_at hl 0 rfl) ?_
      refine x_get F X (v := .int (nI kn)) (C := RX8) (T := TX8) (N := 14) (ci := 8) in_X8 0 rfl rfl 2 (by decide) mw_3 rfl dX8_count_126 ?_
      exact hret _ _ _ _ _ _ (by exact ⟨_, rfl, rfl⟩) X dX8_count_129

