set_option maxHeartbeats 1000000 in
set_option maxRecDepth 100000 in
theorem c_X8_branches (l : Launch) (D : va_G) (q : xQ) (b0 : Nat) (b1 : Nat) (b2 : Nat) (b3 : Nat) (b4 : Nat) (b5 : Nat) (b6 : Nat) (b7 : Nat) (b8 : Nat) (s : Nat → Int32) (p : Nat → Int32) (sl : Nat → Int32) (sv : Nat → Int32) (pd : Nat → Int32) (fo : Nat → Int32) (to : Nat → Int32) (ou : Nat → Int32) (kn : Int32) (ln : Int32) (mn : Int32) (la : Int32) (op : Int32) (wr : Int32) (n : Nat) (pr : Nat → Nat) (k : Nat) (hok : x_ok s n pr) (hk : k < n) : xMi l yX8_branches wsX8_branches { frames := 2, cells := 0, slots := 0, locals := 43 } D q [.ref b0, .int (nI k)] [mW q b0 b1 b2 b3 b4 b5 b6 b7 b8 s p sl sv pd fo to ou kn ln mn la op wr] (fun r gw => gw = [mW q b0 b1 b2 b3 b4 b5 b6 b7 b8 s p sl sv pd fo to ou kn ln mn la op wr] ∧ r = nI (x_ct (x_tF s) (nI k) n)) := by
  refine xMi_of (cc := cX8_branches) (maxL := 4) (rt := .int) (by decide) rfl (Nat.le_of_ble_eq_true rfl) (fun _ _ _ => rfl) ?_
  intro p9 e9 s9 m9 a9 below meth c9 A9 Z9 ls H locs F X hl hret
  have hx := F.1.1
  have hb := F.1.2.1
  have in_X8 : ∀ w ∈ wsX80, w ∈ wsX8_branches := by decide +kernel
  have mw_0 : Cond.fieldLink RX8 7 "HatWindsModel" "s" "[I" ∈ wsX8_branches := by decide +kernel
  have mw_1 : Cond.initialized RX8 ∈ wsX8_branches := by decide +kernel
  have hl : lv_has ls 4 [(0, .ref b0), (1, .int (nI k))] := hl
  have hok0 := hok
  obtain ⟨hn, hn1, hs5, hs33, hpr, hwd, hcl, hsm, hpe, hst, hle, hhr, hcn⟩ := hok0
  have hc1 : x_ct (x_tF s) (nI k) 1 = 0 := by
    show x_ct (x_tF s) (nI k) 0 + (if s 33 = nI k then 1 else 0) = 0
    rw [hs33, if_neg (x_m1 k (by omega))]
    rfl
  refine lv_iconst (v := 0) hx hb dX8_branches_0 (by decide) ?_
  refine lv_istore_n (lv' := [(2, .int 0), (0, .ref b0), (1, .int (nI k))]) hx hb dX8_branches_1 rfl hl (by decide) rfl (fun ls hl => ?_)
  refine lv_iconst (v := 1) hx hb dX8_branches_2 (by decide) ?_
  refine lv_istore_n (lv' := [(3, .int 1), (2, .int 0), (0, .ref b0), (1, .int (nI k))]) hx hb dX8_branches_3 rfl hl (by decide) rfl (fun ls hl => ?_)
  have L_4 : ∀ (nn : Nat) (j : Nat) (t : Nat) (H : Heap) (locs : List Loc) (ls : Array Slot), xS D A9 s9 [mW q b0 b1 b2 b3 b4 b5 b6 b7 b8 s p sl sv pd fo to ou kn ln mn la op wr] H locs → lv_has ls 4 [(3, .int (nI j)), (2, .int (nI t)), (0, .ref b0), (1, .int (nI k))] → (n < j + nn) → (j ≤ n) → (1 ≤ j) → (t = x_ct (x_tF s) (nI k) j) → W p9 l e9 { frames := 2, cells := 0, slots := 0, locals := 43 } s9 m9 a9 below meth c9 H locs 0 0 Z9 (F0 m9 4 ls []) := by
    intro nn
    induction nn with
    | zero => intro j t H locs ls X hl hfuel hj hj1 ht; exact absurd hfuel (by omega)
    | succ nn ih_4 =>
      intro j t H locs ls X hl hfuel hj hj1 ht
      refine lv_iload_n hx hb dX8_branches_4 rfl (lv_at hl 0 rfl) ?_
      refine lv_aload_n hx hb dX8_branches_5 rfl (lv_at hl 2 rfl) ?_
      refine x_get F X (v := .ref b1) (C := RX8) (T := TX8) (N := 14) (ci := 8) in_X8 0 rfl rfl 0 (by decide) mw_0 rfl dX8_branches_6 ?_
      refine lv_iconst (v := 5) hx hb dX8_branches_9 (by decide) ?_
      refine x_iald F X (v := (s 5)) (n := 133) (f := s) 1 rfl (show vp_in (nI 5) _ from vp_in_nI (by omega) (by omega)) rfl dX8_branches_10 ?_
      refine x_i (y := (nI n)) (hs5) ?_
      refine lv_icmp_ge (tgt := 38) hx hb dX8_branches_11 (by decide) (fun c_11 => ?_) (fun c_11 => ?_)
      · have c_11 : n ≤ j := (nI_leI (a := n) (b := j) (by omega) (by omega)).mp c_11
        refine lv_iload_n hx hb dX8_branches_38 rfl (lv_at hl 1 rfl) ?_
        refine hret _ _ _ _ _ _ ?_ X dX8_branches_39
        obtain rfl : j = n := by omega
        subst ht
        exact ⟨rfl, rfl⟩
      · have c_11 : j < n := Nat.not_le.mp (fun h => c_11 ((nI_leI (a := n) (b := j) (by omega) (by omega)).mpr h))
        refine lv_iload_n hx hb dX8_branches_14 rfl (lv_at hl 1 rfl) ?_
        refine lv_aload_n hx hb dX8_branches_15 rfl (lv_at hl 2 rfl) ?_
        refine lv_iload_n hx hb dX8_branches_16 rfl (lv_at hl 0 rfl) ?_
        refine lv_iconst (v := 0) hx hb dX8_branches_17 (by decide) ?_
        refine x_cVi F X (gc := [mW q b0 b1 b2 b3 b4 b5 b6 b7 b8 s p sl sv pd fo to ou kn ln mn la op wr]) (gr := []) (xp_idx (n := 1) [0] (by decide +kernel) rfl rfl) (c_X8_its l D q b0 b1 b2 b3 b4 b5 b6 b7 b8 s p sl sv pd fo to ou kn ln mn la op wr j 0 (by first | assumption | omega) (by first | assumption | omega)) (cwV 2 F.1.2.2.2.2 gX8_branches_X8_its rfl rfl rfl (by decide +kernel) ⟨Nat.le_of_ble_eq_true rfl, Nat.le_of_ble_eq_true rfl⟩) rfl rfl (r0 := 0) (ci := 8) (T := TX8) (N := 14) rfl rfl hl.1 ⟨Nat.le_of_ble_eq_true rfl, Nat.le_of_ble_eq_true rfl⟩ (Nat.le_of_ble_eq_true rfl) dX8_branches_18 (fun r_18 g1 H locs hp X => ?_)
        obtain ⟨rfl, rfl⟩ := hp
        have X : xS D A9 s9 [mW q b0 b1 b2 b3 b4 b5 b6 b7 b8 s p sl sv pd fo to ou kn ln mn la op wr] H locs := X
        refine lv_iload_n hx hb dX8_branches_21 rfl (lv_at hl 3 rfl) ?_
        refine lv_icmp_ne (tgt := 29) hx hb dX8_branches_22 (by decide) (fun c_22 => ?_) (fun c_22 => ?_)
        · refine lv_iconst (v := 0) hx hb dX8_branches_29 (by decide) ?_
          refine lv_iadd hx hb dX8_branches_30 ?_
          refine x_i (y := (nI (t + 0))) (nI_add t 0) ?_
          refine lv_istore_n (lv' := [(2, .int (nI (t + 0))), (3, .int (nI j)), (0, .ref b0), (1, .int (nI k))]) hx hb dX8_branches_31 rfl hl (by decide) rfl (fun ls hl => ?_)
          refine lv_iinc (v := (nI (j + 1))) (lv' := [(3, .int (nI (j + 1))), (2, .int (nI (t + 0))), (0, .ref b0), (1, .int (nI k))]) hx hb dX8_branches_32 hl (k := 1) rfl (nI_add j 1) (by decide) rfl (fun ls hl => ?_)
          refine lv_goto (tgt := 4) hx hb dX8_branches_35 (by decide) ?_
          exact ih_4 (j + 1) (t + 0) _ _ _ X (lv_sub hl [0, 1, 2, 3] rfl) (by omega) (by omega) (by omega) (by rw [x_ct, ← ht, if_neg (show ¬ x_tF s j = nI k from c_22)])
        · refine lv_iconst (v := 1) hx hb dX8_branches_25 (by decide) ?_
          refine lv_goto (tgt := 30) hx hb dX8_branches_26 (by decide) ?_
          refine lv_iadd hx hb dX8_branches_30 ?_
          refine x_i (y := (nI (t + 1))) (nI_add t 1) ?_
          refine lv_istore_n (lv' := [(2, .int (nI (t + 1))), (3, .int (nI j)), (0, .ref b0), (1, .int (nI k))]) hx hb dX8_branches_31 rfl hl (by decide) rfl (fun ls hl => ?_)
          refine lv_iinc (v := (nI (j + 1))) (lv' := [(3, .int (nI (j + 1))), (2, .int (nI (t + 1))), (0, .ref b0), (1, .int (nI k))]) hx hb dX8_branches_32 hl (k := 1) rfl (nI_add j 1) (by decide) rfl (fun ls hl => ?_)
          refine lv_goto (tgt := 4) hx hb dX8_branches_35 (by decide) ?_
          exact ih_4 (j + 1) (t + 1) _ _ _ X (lv_sub hl [0, 1, 2, 3] rfl) (by omega) (by omega) (by omega) (by rw [x_ct, ← ht, if_pos (show x_tF s j = nI k from c_22)])
  exact L_4 (n) 1 0 _ _ _ X (lv_sub hl [0, 1, 2, 3] rfl) (by omega) (by omega) (by omega) (by exact hc1.symm)

set_option maxHeartbeats 1000000 in
set_option maxRecDepth 100000 in
theorem c_X8_branchSet (l : Launch) (D : va_G) (q : xQ) (b0 : Nat) (b1 : Nat) (b2 : Nat) (b3 : Nat) (b4 : Nat) (b5 : Nat) (b6 : Nat) (b7 : Nat) (b8 : Nat) (s : Nat → Int32) (p : Nat → Int32) (sl : Nat → Int32) (sv : Nat → Int32) (pd : Nat → Int32) (fo : Nat → Int32) (to : Nat → Int32) (ou : Nat → Int32) (kn : Int32) (ln : Int32) (mn : Int32) (la : Int32) (op : Int32) (wr : Int32) (n : Nat) (pr : Nat → Nat) (k : Nat) (hok : x_ok s n pr) (hk : k < n) : xMi l yX8_branchSet wsX8_branchSet { frames := 2, cells := 0, slots := 0, locals := 43 } D q [.ref b0, .int (nI k)] [mW q b0 b1 b2 b3 b4 b5 b6 b7 b8 s p sl sv pd fo to ou kn ln mn la op wr] (fun r gw => gw = [mW q b0 b1 b2 b3 b4 b5 b6 b7 b8 s p sl sv pd fo to ou kn ln mn la op wr] ∧ r = x_bs s n k) := by
  refine xMi_of (cc := cX8_branchSet) (maxL := 4) (rt := .int) (by decide) rfl (Nat.le_of_ble_eq_true rfl) (fun _ _ _ => rfl) ?_
  intro p9 e9 s9 m9 a9 below meth c9 A9 Z9 ls H locs F X hl hret
  have hx := F.1.1
  have hb := F.1.2.1
  have in_X8 : ∀ w ∈ wsX80, w ∈ wsX8_branchSet := by decide +kernel
  have mw_0 : Cond.fieldLink RX8 7 "HatWindsModel" "s" "[I" ∈ wsX8_branchSet := by decide +kernel
  have mw_1 : Cond.initialized RX8 ∈ wsX8_branchSet := by decide +kernel
  have hl : lv_has ls 4 [(0, .ref b0), (1, .int (nI k))] := hl
  have hok0 := hok
  obtain ⟨hn, hn1, hs5, hs33, hpr, hwd, hcl, hsm, hpe, hst, hle, hhr, hcn⟩ := hok0
  have hb0 : x_bo (x_tF s) (nI k) 0 = 0 := if_neg (by show ¬ s 33 = nI k; rw [hs33]; exact x_m1 k (by omega))
  refine lv_iconst (v := 0) hx hb dX8_branchSet_0 (by decide) ?_
  refine lv_istore_n (lv' := [(2, .int 0), (0, .ref b0), (1, .int (nI k))]) hx hb dX8_branchSet_1 rfl hl (by decide) rfl (fun ls hl => ?_)
  refine lv_iconst (v := 1) hx hb dX8_branchSet_2 (by decide) ?_
  refine lv_istore_n (lv' := [(3, .int 1), (2, .int 0), (0, .ref b0), (1, .int (nI k))]) hx hb dX8_branchSet_3 rfl hl (by decide) rfl (fun ls hl => ?_)
  have L_4 : ∀ (nn : Nat) (j : Nat) (sv1 : Int32) (H : Heap) (locs : List Loc) (ls : Array Slot), xS D A9 s9 [mW q b0 b1 b2 b3 b4 b5 b6 b7 b8 s p sl sv pd fo to ou kn ln mn la op wr] H locs → lv_has ls 4 [(3, .int (nI j)), (2, .int sv1), (0, .ref b0), (1, .int (nI k))] → (n < j + nn) → (j ≤ n) → (1 ≤ j) → (sv1 = x_orf (x_bo (x_tF s) (nI k)) j) → W p9 l e9 { frames := 2, cells := 0, slots := 0, locals := 43 } s9 m9 a9 below meth c9 H locs 0 0 Z9 (F0 m9 4 ls []) := by
    intro nn
    induction nn with
    | zero => intro j sv1 H locs ls X hl hfuel hj hj1 ht; exact absurd hfuel (by omega)
    | succ nn ih_4 =>
      intro j sv1 H locs ls X hl hfuel hj hj1 ht
      refine lv_iload_n hx hb dX8_branchSet_4 rfl (lv_at hl 0 rfl) ?_
      refine lv_aload_n hx hb dX8_branchSet_5 rfl (lv_at hl 2 rfl) ?_
      refine x_get F X (v := .ref b1) (C := RX8) (T := TX8) (N := 14) (ci := 8) in_X8 0 rfl rfl 0 (by decide) mw_0 rfl dX8_branchSet_6 ?_
      refine lv_iconst (v := 5) hx hb dX8_branchSet_9 (by decide) ?_
      refine x_iald F X (v := (s 5)) (n := 133) (f := s) 1 rfl (show vp_in (nI 5) _ from vp_in_nI (by omega) (by omega)) rfl dX8_branchSet_10 ?_
      refine x_i (y := (nI n)) (hs5) ?_
      refine lv_icmp_ge (tgt := 40) hx hb dX8_branchSet_11 (by decide) (fun c_11 => ?_) (fun c_11 => ?_)
      · have c_11 : n ≤ j := (nI_leI (a := n) (b := j) (by omega) (by omega)).mp c_11
        refine lv_iload_n hx hb dX8_branchSet_40 rfl (lv_at hl 1 rfl) ?_
        refine hret _ _ _ _ _ _ ?_ X dX8_branchSet_41
        obtain rfl : j = n := by omega
        exact ⟨rfl, ht⟩
      · have c_11 : j < n := Nat.not_le.mp (fun h => c_11 ((nI_leI (a := n) (b := j) (by omega) (by omega)).mpr h))
        refine lv_iload_n hx hb dX8_branchSet_14 rfl (lv_at hl 1 rfl) ?_
        refine lv_aload_n hx hb dX8_branchSet_15 rfl (lv_at hl 2 rfl) ?_
        refine lv_iload_n hx hb dX8_branchSet_16 rfl (lv_at hl 0 rfl) ?_
        refine lv_iconst (v := 0) hx hb dX8_branchSet_17 (by decide) ?_
        refine x_cVi F X (gc := [mW q b0 b1 b2 b3 b4 b5 b6 b7 b8 s p sl sv pd fo to ou kn ln mn la op wr]) (gr := []) (xp_idx (n := 1) [0] (by decide +kernel) rfl rfl) (c_X8_its l D q b0 b1 b2 b3 b4 b5 b6 b7 b8 s p sl sv pd fo to ou kn ln mn la op wr j 0 (by first | assumption | omega) (by first | assumption | omega)) (cwV 2 F.1.2.2.2.2 gX8_branchSet_X8_its rfl rfl rfl (by decide +kernel) ⟨Nat.le_of_ble_eq_true rfl, Nat.le_of_ble_eq_true rfl⟩) rfl rfl (r0 := 0) (ci := 8) (T := TX8) (N := 14) rfl rfl hl.1 ⟨Nat.le_of_ble_eq_true rfl, Nat.le_of_ble_eq_true rfl⟩ (Nat.le_of_ble_eq_true rfl) dX8_branchSet_18 (fun r_18 g1 H locs hp X => ?_)
        obtain ⟨rfl, rfl⟩ := hp
        have X : xS D A9 s9 [mW q b0 b1 b2 b3 b4 b5 b6 b7 b8 s p sl sv pd fo to ou kn ln mn la op wr] H locs := X
        refine lv_iload_n hx hb dX8_branchSet_21 rfl (lv_at hl 3 rfl) ?_
        refine lv_icmp_ne (tgt := 31) hx hb dX8_branchSet_22 (by decide) (fun c_22 => ?_) (fun c_22 => ?_)
        · refine lv_iconst (v := 0) hx hb dX8_branchSet_31 (by decide) ?_
          refine lv_ior hx hb dX8_branchSet_32 ?_
          refine lv_istore_n (lv' := [(2, .int (sv1 ||| 0)), (3, .int (nI j)), (0, .ref b0), (1, .int (nI k))]) hx hb dX8_branchSet_33 rfl hl (by decide) rfl (fun ls hl => ?_)
          refine lv_iinc (v := (nI (j + 1))) (lv' := [(3, .int (nI (j + 1))), (2, .int (sv1 ||| 0)), (0, .ref b0), (1, .int (nI k))]) hx hb dX8_branchSet_34 hl (k := 1) rfl (nI_add j 1) (by decide) rfl (fun ls hl => ?_)
          refine lv_goto (tgt := 4) hx hb dX8_branchSet_37 (by decide) ?_
          exact ih_4 (j + 1) _ _ _ _ X (lv_sub hl [0, 1, 2, 3] rfl) (by omega) (by omega) (by omega) (by rw [x_or0, ht]; exact (x_orf_z (if_neg c_22)).symm)
        · refine lv_iconst (v := 1) hx hb dX8_branchSet_25 (by decide) ?_
          refine lv_iload_n hx hb dX8_branchSet_26 rfl (lv_at hl 0 rfl) ?_
          refine lv_ishl hx hb dX8_branchSet_27 ?_
          refine lv_goto (tgt := 32) hx hb dX8_branchSet_28 (by decide) ?_
          refine lv_ior hx hb dX8_branchSet_32 ?_
          refine lv_istore_n (lv' := [(2, .int (sv1 ||| (1 <<< ((nI j) &&& 31)))), (3, .int (nI j)), (0, .ref b0), (1, .int (nI k))]) hx hb dX8_branchSet_33 rfl hl (by decide) rfl (fun ls hl => ?_)
          refine lv_iinc (v := (nI (j + 1))) (lv' := [(3, .int (nI (j + 1))), (2, .int (sv1 ||| (1 <<< ((nI j) &&& 31)))), (0, .ref b0), (1, .int (nI k))]) hx hb dX8_branchSet_34 hl (k := 1) rfl (nI_add j 1) (by decide) rfl (fun ls hl => ?_)
          refine lv_goto (tgt := 4) hx hb dX8_branchSet_37 (by decide) ?_
          exact ih_4 (j + 1) _ _ _ _ X (lv_sub hl [0, 1, 2, 3] rfl) (by omega) (by omega) (by omega) (by rw [ht, x_orf, x_bo, if_pos (show x_tF s j = nI k from c_22)])
  exact L_4 (n) 1 _ _ _ _ X (lv_sub hl [0, 1, 2, 3] rfl) (by omega) (by omega) (by omega) (by exact (x_orf_1 hb0).symm)

set_option maxHeartbeats 1000000 in
set_option maxRecDepth 100000 in
theorem c_X8_behind (l : Launch) (D : va_G) (q : xQ) (b0 : Nat) (b1 : Nat) (b2 : Nat) (b3 : Nat) (b4 : Nat) (b5 : Nat) (b6 : Nat) (b7 : Nat) (b8 : Nat) (s : Nat → Int32) (p : Nat → Int32) (sl : Nat → Int32) (sv : Nat → Int32) (pd : Nat → Int32) (fo : Nat → Int32) (to : Nat → Int32) (ou : Nat → Int32) (kn : Int32) (ln : Int32) (mn : Int32) (la : Int32) (op : Int32) (wr : Int32) (n : Nat) (pr : Nat → Nat) (k : Nat) (hok : x_ok s n pr) (hk : k < n) : xMi l yX8_behind wsX8_behind { frames := 2, cells := 0, slots := 0, locals := 43 } D q [.ref b0, .int (nI k)] [mW q b0 b1 b2 b3 b4 b5 b6 b7 b8 s p sl sv pd fo to ou kn ln mn la op wr] (fun r gw => gw = [mW q b0 b1 b2 b3 b4 b5 b6 b7 b8 s p sl sv pd fo to ou kn ln mn la op wr] ∧ r = nI (x_bn pr k (n - (k + 1)))) := by
  refine xMi_of (cc := cX8_behind) (maxL := 6) (rt := .int) (by decide) rfl (Nat.le_of_ble_eq_true rfl) (fun _ _ _ => rfl) ?_
  intro p9 e9 s9 m9 a9 below meth c9 A9 Z9 ls H locs F X hl hret
  have hx := F.1.1
  have hb := F.1.2.1
  have in_X8 : ∀ w ∈ wsX80, w ∈ wsX8_behind := by decide +kernel
  have mw_0 : Cond.fieldLink RX8 7 "HatWindsModel" "s" "[I" ∈ wsX8_behind := by decide +kernel
  have mw_1 : Cond.initialized RX8 ∈ wsX8_behind := by decide +kernel
  have hl : lv_has ls 6 [(0, .ref b0), (1, .int (nI k))] := hl
  have hok0 := hok
  obtain ⟨hn, hn1, hs5, hs33, hpr, hwd, hcl, hsm, hpe, hst, hle, hhr, hcn⟩ := hok0
  refine lv_iconst (v := 1) hx hb dX8_behind_0 (by decide) ?_
  refine lv_iload_n hx hb dX8_behind_1 rfl (lv_at hl 1 rfl) ?_
  refine lv_ishl hx hb dX8_behind_2 ?_
  refine x_i (y := (nI (2 ^ k))) (x_shl1 (by omega)) ?_
  refine lv_istore_n (lv' := [(2, .int (nI (2 ^ k))), (0, .ref b0), (1, .int (nI k))]) hx hb dX8_behind_3 rfl hl (by decide) rfl (fun ls hl => ?_)
  refine lv_iconst (v := 0) hx hb dX8_behind_4 (by decide) ?_
  refine lv_istore_n (lv' := [(3, .int 0), (2, .int (nI (2 ^ k))), (0, .ref b0), (1, .int (nI k))]) hx hb dX8_behind_5 rfl hl (by decide) rfl (fun ls hl => ?_)
  refine lv_iload_n hx hb dX8_behind_6 rfl (lv_at hl 3 rfl) ?_
  refine lv_iconst (v := 1) hx hb dX8_behind_7 (by decide) ?_
  refine lv_iadd hx hb dX8_behind_8 ?_
  refine x_i (y := (nI (k + 1))) (nI_add k 1) ?_
  refine lv_istore (lv' := [(4, .int (nI (k + 1))), (3, .int 0), (2, .int (nI (2 ^ k))), (0, .ref b0), (1, .int (nI k))]) hx hb dX8_behind_9 hl (by decide) rfl (fun ls hl => ?_)
  have L_11 : ∀ (nn : Nat) (j b t : Nat) (H : Heap) (locs : List Loc) (ls : Array Slot), xS D A9 s9 [mW q b0 b1 b2 b3 b4 b5 b6 b7 b8 s p sl sv pd fo to ou kn ln mn la op wr] H locs → lv_has ls 6 [(4, .int (nI j)), (3, .int (nI t)), (2, .int (nI b)), (0, .ref b0), (1, .int (nI k))] → (n < j + nn) → (j ≤ n) → (k + 1 ≤ j) → (b = x_bh pr k (j - (k + 1))) → (t = x_bn pr k (j - (k + 1))) → W p9 l e9 { frames := 2, cells := 0, slots := 0, locals := 43 } s9 m9 a9 below meth c9 H locs 0 0 Z9 (F0 m9 11 ls []) := by
    intro nn
    induction nn with
    | zero => intro j b t H locs ls X hl hfuel hj hj2 hbb ht; exact absurd hfuel (by omega)
    | succ nn ih_11 =>
      intro j b t H locs ls X hl hfuel hj hj2 hbb ht
      refine lv_iload hx hb dX8_behind_11 (lv_at hl 0 rfl) ?_
      refine lv_aload_n hx hb dX8_behind_13 rfl (lv_at hl 3 rfl) ?_
      refine x_get F X (v := .ref b1) (C := RX8) (T := TX8) (N := 14) (ci := 8) in_X8 0 rfl rfl 0 (by decide) mw_0 rfl dX8_behind_14 ?_
      refine lv_iconst (v := 5) hx hb dX8_behind_17 (by decide) ?_
      refine x_iald F X (v := (s 5)) (n := 133) (f := s) 1 rfl (show vp_in (nI 5) _ from vp_in_nI (by omega) (by omega)) rfl dX8_behind_18 ?_
      refine x_i (y := (nI n)) (hs5) ?_
      refine lv_icmp_ge (tgt := 89) hx hb dX8_behind_19 (by decide) (fun c_19 => ?_) (fun c_19 => ?_)
      · have c_19 : n ≤ j := (nI_leI (a := n) (b := j) (by omega) (by omega)).mp c_19
        refine lv_iload_n hx hb dX8_behind_89 rfl (lv_at hl 1 rfl) ?_
        refine hret _ _ _ _ _ _ ?_ X dX8_behind_90
        obtain rfl : j = n := by omega
        subst ht
        exact ⟨rfl, rfl⟩
      · have c_19 : j < n := Nat.not_le.mp (fun h => c_19 ((nI_leI (a := n) (b := j) (by omega) (by omega)).mpr h))
        have hjp := (hpr j (by omega) (by omega)).2
        have hb31 : b < 2 ^ 31 := by
          rw [hbb]
          have h1 := x_bh_lt pr k (j - (k + 1))
          have h2 : (2 : Nat) ^ (k + 1 + (j - (k + 1))) ≤ 2 ^ 20 := Nat.pow_le_pow_right (by decide) (by omega)
          omega
        refine lv_aload_n hx hb dX8_behind_22 rfl (lv_at hl 3 rfl) ?_
        refine lv_iload hx hb dX8_behind_23 (lv_at hl 0 rfl) ?_
        refine lv_iconst (v := 0) hx hb dX8_behind_25 (by decide) ?_
        refine x_cVi F X (gc := [mW q b0 b1 b2 b3 b4 b5 b6 b7 b8 s p sl sv pd fo to ou kn ln mn la op wr]) (gr := []) (xp_idx (n := 1) [0] (by decide +kernel) rfl rfl) (c_X8_its l D q b0 b1 b2 b3 b4 b5 b6 b7 b8 s p sl sv pd fo to ou kn ln mn la op wr j 0 (by first | assumption | omega) (by first | assumption | omega)) (cwV 2 F.1.2.2.2.2 gX8_behind_X8_its rfl rfl rfl (by decide +kernel) ⟨Nat.le_of_ble_eq_true rfl, Nat.le_of_ble_eq_true rfl⟩) rfl rfl (r0 := 0) (ci := 8) (T := TX8) (N := 14) rfl rfl hl.1 ⟨Nat.le_of_ble_eq_true rfl, Nat.le_of_ble_eq_true rfl⟩ (Nat.le_of_ble_eq_true rfl) dX8_behind_26 (fun r_26 g1 H locs hp X => ?_)
        obtain ⟨rfl, rfl⟩ := hp
        have X : xS D A9 s9 [mW q b0 b1 b2 b3 b4 b5 b6 b7 b8 s p sl sv pd fo to ou kn ln mn la op wr] H locs := X
        refine x_i (y := (nI (pr j))) ((hpr j (by omega) (by omega)).1) ?_
        refine lv_if_lt (tgt := 51) hx hb dX8_behind_29 (by decide) (fun c_29 => ?_) (fun c_29 => ?_)
        · exfalso
          have c_29 : pr j < 0 := (nI_ltI (a := pr j) (b := 0) (by omega) (by omega)).mp c_29
          omega
        have c_29 : 0 ≤ pr j := Nat.not_lt.mp (fun h => c_29 ((nI_ltI (a := pr j) (b := 0) (by omega) (by omega)).mpr h))
        refine lv_iload_n hx hb dX8_behind_32 rfl (lv_at hl 2 rfl) ?_
        refine lv_aload_n hx hb dX8_behind_33 rfl (lv_at hl 3 rfl) ?_
        refine lv_iload hx hb dX8_behind_34 (lv_at hl 0 rfl) ?_
        refine lv_iconst (v := 0) hx hb dX8_behind_36 (by decide) ?_
        refine x_cVi F X (gc := [mW q b0 b1 b2 b3 b4 b5 b6 b7 b8 s p sl sv pd fo to ou kn ln mn la op wr]) (gr := []) (xp_idx (n := 1) [0] (by decide +kernel) rfl rfl) (c_X8_its l D q b0 b1 b2 b3 b4 b5 b6 b7 b8 s p sl sv pd fo to ou kn ln mn la op wr j 0 (by first | assumption | omega) (by first | assumption | omega)) (cwV 2 F.1.2.2.2.2 gX8_behind_X8_its rfl rfl rfl (by decide +kernel) ⟨Nat.le_of_ble_eq_true rfl, Nat.le_of_ble_eq_true rfl⟩) rfl rfl (r0 := 0) (ci := 8) (T := TX8) (N := 14) rfl rfl hl.1 ⟨Nat.le_of_ble_eq_true rfl, Nat.le_of_ble_eq_true rfl⟩ (Nat.le_of_ble_eq_true rfl) dX8_behind_37 (fun r_37 g1 H locs hp X => ?_)
        obtain ⟨rfl, rfl⟩ := hp
        have X : xS D A9 s9 [mW q b0 b1 b2 b3 b4 b5 b6 b7 b8 s p sl sv pd fo to ou kn ln mn la op wr] H locs := X
        refine x_i (y := (nI (pr j))) ((hpr j (by omega) (by omega)).1) ?_
        refine lv_ishr hx hb dX8_behind_40 ?_
        refine lv_iconst (v := 1) hx hb dX8_behind_41 (by decide) ?_
        refine lv_iand hx hb dX8_behind_42 ?_
        refine x_i (y := (nI (b / 2 ^ pr j % 2))) (x_shr1 hb31 (by omega)) ?_
        refine lv_iconst (v := 1) hx hb dX8_behind_43 (by decide) ?_
        refine lv_icmp_ne (tgt := 51) hx hb dX8_behind_44 (by decide) (fun c_44 => ?_) (fun c_44 => ?_)
        · have c_44 : ¬ (b / 2 ^ pr j % 2 = 1) := fun h => c_44 ((nI_eq (a := b / 2 ^ pr j % 2) (b := 1) (by omega) (by omega)).mpr h)
          refine lv_iconst (v := 0) hx hb dX8_behind_51 (by decide) ?_
          refine lv_istore (lv' := [(5, .int 0), (4, .int (nI j)), (3, .int (nI t)), (2, .int (nI b)), (0, .ref b0), (1, .int (nI k))]) hx hb dX8_behind_52 hl (by decide) rfl (fun ls hl => ?_)
          refine lv_iload_n hx hb dX8_behind_54 rfl (lv_at hl 3 rfl) ?_
          refine lv_iload hx hb dX8_behind_55 (lv_at hl 0 rfl) ?_
          refine lv_if_eq (tgt := 67) hx hb dX8_behind_57 (by decide) (fun _ => ?_) (fun h => absurd (by decide) h)
          refine lv_iconst (v := 0) hx hb dX8_behind_67 (by decide) ?_
          refine lv_ior hx hb dX8_behind_68 ?_
          refine x_i (y := (nI b)) (x_or0 _) ?_
          refine lv_istore_n (lv' := [(2, .int (nI b)), (5, .int 0), (4, .int (nI j)), (3, .int (nI t)), (0, .ref b0), (1, .int (nI k))]) hx hb dX8_behind_69 rfl hl (by decide) rfl (fun ls hl => ?_)
          refine lv_iload_n hx hb dX8_behind_70 rfl (lv_at hl 3 rfl) ?_
          refine lv_iload hx hb dX8_behind_71 (lv_at hl 1 rfl) ?_
          refine lv_if_eq (tgt := 80) hx hb dX8_behind_73 (by decide) (fun _ => ?_) (fun h => absurd (by decide) h)
          refine lv_iconst (v := 0) hx hb dX8_behind_80 (by decide) ?_
          refine lv_iadd hx hb dX8_behind_81 ?_
          refine x_i (y := (nI (t + 0))) (nI_add t 0) ?_
          refine lv_istore_n (lv' := [(3, .int (nI (t + 0))), (2, .int (nI b)), (5, .int 0), (4, .int (nI j)), (0, .ref b0), (1, .int (nI k))]) hx hb dX8_behind_82 rfl hl (by decide) rfl (fun ls hl => ?_)
          refine lv_iinc (v := (nI (j + 1))) (lv' := [(4, .int (nI (j + 1))), (3, .int (nI (t + 0))), (2, .int (nI b)), (5, .int 0), (0, .ref b0), (1, .int (nI k))]) hx hb dX8_behind_83 hl (k := 3) rfl (nI_add j 1) (by decide) rfl (fun ls hl => ?_)
          refine lv_goto (tgt := 11) hx hb dX8_behind_86 (by decide) ?_
          exact ih_11 (j + 1) b (t + 0) _ _ _ X (lv_sub hl [0, 1, 2, 4, 5] rfl) (by omega) (by omega) (by omega) (by exact x_bh_no hbb hj2 (by rw [← Bool.not_eq_true, x_tb]; exact c_44)) (by exact x_bn_no hbb ht hj2 (by rw [← Bool.not_eq_true, x_tb]; exact c_44))
        · have c_44 : b / 2 ^ pr j % 2 = 1 := (nI_eq (a := b / 2 ^ pr j % 2) (b := 1) (by omega) (by omega)).mp c_44
          refine lv_iconst (v := 1) hx hb dX8_behind_47 (by decide) ?_
          refine lv_goto (tgt := 52) hx hb dX8_behind_48 (by decide) ?_
          refine lv_istore (lv' := [(5, .int 1), (4, .int (nI j)), (3, .int (nI t)), (2, .int (nI b)), (0, .ref b0), (1, .int (nI k))]) hx hb dX8_behind_52 hl (by decide) rfl (fun ls hl => ?_)
          refine lv_iload_n hx hb dX8_behind_54 rfl (lv_at hl 3 rfl) ?_
          refine lv_iload hx hb dX8_behind_55 (lv_at hl 0 rfl) ?_
          refine lv_if_eq (tgt := 67) hx hb dX8_behind_57 (by decide) (fun h => absurd h (by decide)) (fun _ => ?_)
          refine lv_iconst (v := 1) hx hb dX8_behind_60 (by decide) ?_
          refine lv_iload hx hb dX8_behind_61 (lv_at hl 1 rfl) ?_
          refine lv_ishl hx hb dX8_behind_63 ?_
          refine x_i (y := (nI (2 ^ j))) (x_shl1 (by omega)) ?_
          refine lv_goto (tgt := 68) hx hb dX8_behind_64 (by decide) ?_
          refine lv_ior hx hb dX8_behind_68 ?_
          refine x_i (y := (nI (b ||| 2 ^ j))) (fa_or _ _) ?_
          refine lv_istore_n (lv' := [(2, .int (nI (b ||| 2 ^ j))), (5, .int 1), (4, .int (nI j)), (3, .int (nI t)), (0, .ref b0), (1, .int (nI k))]) hx hb dX8_behind_69 rfl hl (by decide) rfl (fun ls hl => ?_)
          refine lv_iload_n hx hb dX8_behind_70 rfl (lv_at hl 3 rfl) ?_
          refine lv_iload hx hb dX8_behind_71 (lv_at hl 1 rfl) ?_
          refine lv_if_eq (tgt := 80) hx hb dX8_behind_73 (by decide) (fun h => absurd h (by decide)) (fun _ => ?_)
          refine lv_iconst (v := 1) hx hb dX8_behind_76 (by decide) ?_
          refine lv_goto (tgt := 81) hx hb dX8_behind_77 (by decide) ?_
          refine lv_iadd hx hb dX8_behind_81 ?_
          refine x_i (y := (nI (t + 1))) (nI_add t 1) ?_
          refine lv_istore_n (lv' := [(3, .int (nI (t + 1))), (2, .int (nI (b ||| 2 ^ j))), (5, .int 1), (4, .int (nI j)), (0, .ref b0), (1, .int (nI k))]) hx hb dX8_behind_82 rfl hl (by decide) rfl (fun ls hl => ?_)
          refine lv_iinc (v := (nI (j + 1))) (lv' := [(4, .int (nI (j + 1))), (3, .int (nI (t + 1))), (2, .int (nI (b ||| 2 ^ j))), (5, .int 1), (0, .ref b0), (1, .int (nI k))]) hx hb dX8_behind_83 hl (k := 3) rfl (nI_add j 1) (by decide) rfl (fun ls hl => ?_)
          refine lv_goto (tgt := 11) hx hb dX8_behind_86 (by decide) ?_
          exact ih_11 (j + 1) (b ||| 2 ^ j) (t + 1) _ _ _ X (lv_sub hl [0, 1, 2, 4, 5] rfl) (by omega) (by omega) (by omega) (by exact x_bh_yes hbb hj2 (by rw [(x_tb b (pr j)).mpr c_44]; decide)) (by exact x_bn_yes hbb ht hj2 ((x_tb b (pr j)).mpr c_44))
  exact L_11 (n + 1) (k + 1) (2 ^ k) 0 _ _ _ X (lv_sub hl [0, 1, 2, 3, 4] rfl) (by omega) (by omega) (by omega) (by rw [Nat.sub_self]; rfl) (by rw [Nat.sub_self]; rfl)

set_option maxHeartbeats 1000000 in
set_option maxRecDepth 100000 in
theorem c_X8_depth (l : Launch) (D : va_G) (q : xQ) (b0 : Nat) (b1 : Nat) (b2 : Nat) (b3 : Nat) (b4 : Nat) (b5 : Nat) (b6 : Nat) (b7 : Nat) (b8 : Nat) (s : Nat → Int32) (p : Nat → Int32) (sl : Nat → Int32) (sv : Nat → Int32) (pd : Nat → Int32) (fo : Nat → Int32) (to : Nat → Int32) (ou : Nat → Int32) (kn : Int32) (ln : Int32) (mn : Int32) (la : Int32) (op : Int32) (wr : Int32) (n : Nat) (pr : Nat → Nat) (k : Nat) (hok : x_ok s n pr) (hk : k < n) : xMi l yX8_depth wsX8_depth { frames := 2, cells := 0, slots := 0, locals := 43 } D q [.ref b0, .int (nI k)] [mW q b0 b1 b2 b3 b4 b5 b6 b7 b8 s p sl sv pd fo to ou kn ln mn la op wr] (fun r gw => gw = [mW q b0 b1 b2 b3 b4 b5 b6 b7 b8 s p sl sv pd fo to ou kn ln mn la op wr] ∧ r = nI (x_dep pr k k)) := by
  refine xMi_of (cc := cX8_depth) (maxL := 4) (rt := .int) (by decide) rfl (Nat.le_of_ble_eq_true rfl) (fun _ _ _ => rfl) ?_
  intro p9 e9 s9 m9 a9 below meth c9 A9 Z9 ls H locs F X hl hret
  have hx := F.1.1
  have hb := F.1.2.1
  have mw_0 : Cond.initialized RX8 ∈ wsX8_depth := by decide +kernel
  have hl : lv_has ls 4 [(0, .ref b0), (1, .int (nI k))] := hl
  have hok0 := hok
  obtain ⟨hn, hn1, hs5, hs33, hpr, hwd, hcl, hsm, hpe, hst, hle, hhr, hcn⟩ := hok0
  refine lv_iconst (v := 0) hx hb dX8_depth_0 (by decide) ?_
  refine lv_istore_n (lv' := [(2, .int 0), (0, .ref b0), (1, .int (nI k))]) hx hb dX8_depth_1 rfl hl (by decide) rfl (fun ls hl => ?_)
  refine lv_iload_n hx hb dX8_depth_2 rfl (lv_at hl 2 rfl) ?_
  refine lv_istore_n (lv' := [(3, .int (nI k)), (2, .int 0), (0, .ref b0), (1, .int (nI k))]) hx hb dX8_depth_3 rfl hl (by decide) rfl (fun ls hl => ?_)
  have L_4 : ∀ (nn : Nat) (d u : Nat) (H : Heap) (locs : List Loc) (ls : Array Slot), xS D A9 s9 [mW q b0 b1 b2 b3 b4 b5 b6 b7 b8 s p sl sv pd fo to ou kn ln mn la op wr] H locs → lv_has ls 4 [(3, .int (nI u)), (2, .int (nI d)), (0, .ref b0), (1, .int (nI k))] → (u < nn) → (u < n) → (d + x_dep pr u u = x_dep pr k k) → (d + u ≤ k) → W p9 l e9 { frames := 2, cells := 0, slots := 0, locals := 43 } s9 m9 a9 below meth c9 H locs 0 0 Z9 (F0 m9 4 ls []) := by
    intro nn
    induction nn with
    | zero => intro d u H locs ls X hl hfuel hu hd hdk; exact absurd hfuel (by omega)
    | succ nn ih_4 =>
      intro d u H locs ls X hl hfuel hu hd hdk
      refine lv_iload_n hx hb dX8_depth_4 rfl (lv_at hl 0 rfl) ?_
      refine lv_if_le (tgt := 21) hx hb dX8_depth_5 (by decide) (fun c_5 => ?_) (fun c_5 => ?_)
      · have c_5 : u ≤ 0 := (nI_leI (a := u) (b := 0) (by omega) (by omega)).mp c_5
        refine lv_iload_n hx hb dX8_depth_21 rfl (lv_at hl 1 rfl) ?_
        refine hret _ _ _ _ _ _ ?_ X dX8_depth_22
        obtain rfl : u = 0 := by omega
        have : x_dep pr 0 0 = 0 := rfl
        obtain rfl : d = x_dep pr k k := by omega
        exact ⟨rfl, rfl⟩
      · have c_5 : 0 < u := Nat.not_le.mp (fun h => c_5 ((nI_leI (a := u) (b := 0) (by omega) (by omega)).mpr h))
        refine lv_aload_n hx hb dX8_depth_8 rfl (lv_at hl 2 rfl) ?_
        refine lv_iload_n hx hb dX8_depth_9 rfl (lv_at hl 0 rfl) ?_
        refine lv_iconst (v := 0) hx hb dX8_depth_10 (by decide) ?_
        refine x_cVi F X (gc := [mW q b0 b1 b2 b3 b4 b5 b6 b7 b8 s p sl sv pd fo to ou kn ln mn la op wr]) (gr := []) (xp_idx (n := 1) [0] (by decide +kernel) rfl rfl) (c_X8_its l D q b0 b1 b2 b3 b4 b5 b6 b7 b8 s p sl sv pd fo to ou kn ln mn la op wr u 0 (by first | assumption | omega) (by first | assumption | omega)) (cwV 2 F.1.2.2.2.2 gX8_depth_X8_its rfl rfl rfl (by decide +kernel) ⟨Nat.le_of_ble_eq_true rfl, Nat.le_of_ble_eq_true rfl⟩) rfl rfl (r0 := 0) (ci := 8) (T := TX8) (N := 14) rfl rfl hl.1 ⟨Nat.le_of_ble_eq_true rfl, Nat.le_of_ble_eq_true rfl⟩ (Nat.le_of_ble_eq_true rfl) dX8_depth_11 (fun r_11 g1 H locs hp X => ?_)
        obtain ⟨rfl, rfl⟩ := hp
        have X : xS D A9 s9 [mW q b0 b1 b2 b3 b4 b5 b6 b7 b8 s p sl sv pd fo to ou kn ln mn la op wr] H locs := X
        refine x_i (y := (nI (pr u))) ((hpr u (by omega) hu).1) ?_
        refine lv_istore_n (lv' := [(3, .int (nI (pr u))), (2, .int (nI d)), (0, .ref b0), (1, .int (nI k))]) hx hb dX8_depth_14 rfl hl (by decide) rfl (fun ls hl => ?_)
        refine lv_iinc (v := (nI (d + 1))) (lv' := [(2, .int (nI (d + 1))), (3, .int (nI (pr u))), (0, .ref b0), (1, .int (nI k))]) hx hb dX8_depth_15 hl (k := 1) rfl (nI_add d 1) (by decide) rfl (fun ls hl => ?_)
        refine lv_goto (tgt := 4) hx hb dX8_depth_18 (by decide) ?_
        exact ih_4 (d + 1) (pr u) _ _ _ X (lv_sub hl [1, 0, 2, 3] rfl) (by have := (hpr u (by omega) hu).2; omega) (by have := (hpr u (by omega) hu).2; omega) (by have := x_dep_step pr n (fun o h1 h2 => (hpr o h1 h2).2) (show 1 ≤ u by omega) hu; omega) (by have := (hpr u (by omega) hu).2; omega)
  exact L_4 (k + 1) 0 k _ _ _ X (lv_sub hl [0, 1, 2, 3] rfl) (by omega) (by omega) (by exact Nat.zero_add _) (by omega)

set_option maxHeartbeats 1000000 in
set_option maxRecDepth 100000 in
theorem c_X8_of (l : Launch) (D : va_G) (q : xQ) (b0 : Nat) (b1 : Nat) (b2 : Nat) (b3 : Nat) (b4 : Nat) (b5 : Nat) (b6 : Nat) (b7 : Nat) (b8 : Nat) (s : Nat → Int32) (p : Nat → Int32) (sl : Nat → Int32) (sv : Nat → Int32) (pd : Nat → Int32) (fo : Nat → Int32) (to : Nat → Int32) (ou : Nat → Int32) (kn : Int32) (ln : Int32) (mn : Int32) (la : Int32) (op : Int32) (wr : Int32) (n : Nat) (pr : Nat → Nat) (st : Int32) (wh : Int32) (hok : x_ok s n pr) : xMi l yX8_of wsX8_of { frames := 3, cells := 0, slots := 0, locals := 68 } D q [.ref b0, .int st, .int wh] [mW q b0 b1 b2 b3 b4 b5 b6 b7 b8 s p sl sv pd fo to ou kn ln mn la op wr] (fun r gw => gw = [mW q b0 b1 b2 b3 b4 b5 b6 b7 b8 s p sl sv pd fo to ou kn ln mn la op wr] ∧ r = x_st n st (x_ofk s n pr wh)) := by
  refine xMi_of (cc := cX8_of) (maxL := 3) (rt := .int) (by decide) rfl (Nat.le_of_ble_eq_true rfl) (fun _ _ _ => rfl) ?_
  intro p9 e9 s9 m9 a9 below meth c9 A9 Z9 ls H locs F X hl hret
  have hx := F.1.1
  have hb := F.1.2.1
  have mw_0 : Cond.initialized RX8 ∈ wsX8_of := by decide +kernel
  have hl : lv_has ls 3 [(0, .ref b0), (1, .int st), (2, .int wh)] := hl
  have hok0 := hok
  obtain ⟨hn, hn1, hs5, hs33, hpr, hwd, hcl, hsm, hpe, hst, hle, hhr, hcn⟩ := hok0
  refine lv_aload_n hx hb dX8_of_0 rfl (lv_at hl 0 rfl) ?_
  refine lv_iload_n hx hb dX8_of_1 rfl (lv_at hl 1 rfl) ?_
  refine x_cVi F X (gc := [mW q b0 b1 b2 b3 b4 b5 b6 b7 b8 s p sl sv pd fo to ou kn ln mn la op wr]) (gr := []) (xp_idx (n := 1) [0] (by decide +kernel) rfl rfl) (c_X8_isStreet l D q b0 b1 b2 b3 b4 b5 b6 b7 b8 s p sl sv pd fo to ou kn ln mn la op wr n st (by first | assumption | omega) (by first | assumption | omega) (by first | assumption | omega)) (cwV 1 F.1.2.2.2.2 gX8_of_X8_isStreet rfl rfl rfl (by decide +kernel) ⟨Nat.le_of_ble_eq_true rfl, Nat.le_of_ble_eq_true rfl⟩) rfl rfl (r0 := 0) (ci := 8) (T := TX8) (N := 14) rfl rfl hl.1 ⟨Nat.le_of_ble_eq_true rfl, Nat.le_of_ble_eq_true rfl⟩ (Nat.le_of_ble_eq_true rfl) dX8_of_2 (fun r_2 g1 H locs hp X => ?_)
  obtain ⟨rfl, hz⟩ := hp
  have X : xS D A9 s9 [mW q b0 b1 b2 b3 b4 b5 b6 b7 b8 s p sl sv pd fo to ou kn ln mn la op wr] H locs := X
  rcases hz with ⟨rfl, b_2⟩ | ⟨rfl, b_2⟩
  · refine lv_if_ne (tgt := 10) hx hb dX8_of_5 (by decide) (fun _ => ?_) (fun h => absurd h (by decide))
    obtain ⟨k, hk, ek⟩ := b_2
    refine lv_iload_n hx hb dX8_of_10 rfl (lv_at hl 2 rfl) ?_
    rcases x_sw wh 0 7 (by decide) with c_11 | c_11
    · refine lv_tableOut (tgt := 102) hx hb dX8_of_11 c_11 (by decide) ?_
      refine lv_bipush (v := (-2)) hx hb dX8_of_102 (by decide) ?_
      exact hret _ _ _ _ _ _ (by exact ⟨rfl, by rw [ek, x_st_in (by omega) hk, x_ofk_d c_11]⟩) X dX8_of_104
    · obtain ⟨j_1, hj1, hj2, e_11⟩ := c_11
      subst e_11
      rcases (show j_1 = 0 ∨ j_1 = 1 ∨ j_1 = 2 ∨ j_1 = 3 ∨ j_1 = 4 ∨ j_1 = 5 ∨ j_1 = 6 ∨ j_1 = 7 by omega) with rfl | rfl | rfl | rfl | rfl | rfl | rfl | rfl
      · refine lv_tableIn (off := 45) (tgt := 56) hx hb dX8_of_11 (by decide) (by decide) (by decide) (by decide) ?_
        refine lv_aload_n hx hb dX8_of_56 rfl (lv_at hl 0 rfl) ?_
        refine lv_iload_n hx hb dX8_of_57 rfl (lv_at hl 1 rfl) ?_
        refine x_i (y := (nI k)) (ek) ?_
        refine lv_iconst (v := 0) hx hb dX8_of_58 (by decide) ?_
        refine x_cVi F X (gc := [mW q b0 b1 b2 b3 b4 b5 b6 b7 b8 s p sl sv pd fo to ou kn ln mn la op wr]) (gr := []) (xp_idx (n := 1) [0] (by decide +kernel) rfl rfl) (c_X8_its l D q b0 b1 b2 b3 b4 b5 b6 b7 b8 s p sl sv pd fo to ou kn ln mn la op wr k 0 (by first | assumption | omega) (by first | assumption | omega)) (cwV 2 F.1.2.2.2.2 gX8_of_X8_its rfl rfl rfl (by decide +kernel) ⟨Nat.le_of_ble_eq_true rfl, Nat.le_of_ble_eq_true rfl⟩) rfl rfl (r0 := 0) (ci := 8) (T := TX8) (N := 14) rfl rfl hl.1 ⟨Nat.le_of_ble_eq_true rfl, Nat.le_of_ble_eq_true rfl⟩ (Nat.le_of_ble_eq_true rfl) dX8_of_59 (fun r_59 g1 H locs hp X => ?_)
        obtain ⟨rfl, rfl⟩ := hp
        have X : xS D A9 s9 [mW q b0 b1 b2 b3 b4 b5 b6 b7 b8 s p sl sv pd fo to ou kn ln mn la op wr] H locs := X
        refine lv_if_ge (tgt := 70) hx hb dX8_of_62 (by decide) (fun c_62 => ?_) (fun c_62 => ?_)
        · refine lv_aload_n hx hb dX8_of_70 rfl (lv_at hl 0 rfl) ?_
          refine lv_iload_n hx hb dX8_of_71 rfl (lv_at hl 1 rfl) ?_
          refine x_i (y := (nI k)) (ek) ?_
          refine lv_iconst (v := 0) hx hb dX8_of_72 (by decide) ?_
          refine x_cVi F X (gc := [mW q b0 b1 b2 b3 b4 b5 b6 b7 b8 s p sl sv pd fo to ou kn ln mn la op wr]) (gr := []) (xp_idx (n := 1) [0] (by decide +kernel) rfl rfl) (c_X8_its l D q b0 b1 b2 b3 b4 b5 b6 b7 b8 s p sl sv pd fo to ou kn ln mn la op wr k 0 (by first | assumption | omega) (by first | assumption | omega)) (cwV 2 F.1.2.2.2.2 gX8_of_X8_its rfl rfl rfl (by decide +kernel) ⟨Nat.le_of_ble_eq_true rfl, Nat.le_of_ble_eq_true rfl⟩) rfl rfl (r0 := 0) (ci := 8) (T := TX8) (N := 14) rfl rfl hl.1 ⟨Nat.le_of_ble_eq_true rfl, Nat.le_of_ble_eq_true rfl⟩ (Nat.le_of_ble_eq_true rfl) dX8_of_73 (fun r_73 g1 H locs hp X => ?_)
          obtain ⟨rfl, rfl⟩ := hp
          have X : xS D A9 s9 [mW q b0 b1 b2 b3 b4 b5 b6 b7 b8 s p sl sv pd fo to ou kn ln mn la op wr] H locs := X
          exact hret _ _ _ _ _ _ (by exact ⟨rfl, by rw [ek, x_st_in (by omega) hk]; exact (if_neg (Int32.not_lt.mpr c_62)).symm⟩) X dX8_of_76
        · refine lv_bipush (v := (-6)) hx hb dX8_of_65 (by decide) ?_
          refine lv_goto (tgt := 76) hx hb dX8_of_67 (by decide) ?_
          exact hret _ _ _ _ _ _ (by exact ⟨rfl, by rw [ek, x_st_in (by omega) hk]; exact (if_pos (Int32.not_le.mp c_62)).symm⟩) X dX8_of_76
      · refine lv_tableIn (off := 66) (tgt := 77) hx hb dX8_of_11 (by decide) (by decide) (by decide) (by decide) ?_
        refine lv_aload_n hx hb dX8_of_77 rfl (lv_at hl 0 rfl) ?_
        refine lv_iload_n hx hb dX8_of_78 rfl (lv_at hl 1 rfl) ?_
        refine x_i (y := (nI k)) (ek) ?_
        refine lv_iload_n hx hb dX8_of_79 rfl (lv_at hl 2 rfl) ?_
        refine x_cVi F X (gc := [mW q b0 b1 b2 b3 b4 b5 b6 b7 b8 s p sl sv pd fo to ou kn ln mn la op wr]) (gr := []) (xp_idx (n := 1) [0] (by decide +kernel) rfl rfl) (c_X8_its l D q b0 b1 b2 b3 b4 b5 b6 b7 b8 s p sl sv pd fo to ou kn ln mn la op wr k 1 (by first | assumption | omega) (by first | assumption | omega)) (cwV 2 F.1.2.2.2.2 gX8_of_X8_its rfl rfl rfl (by decide +kernel) ⟨Nat.le_of_ble_eq_true rfl, Nat.le_of_ble_eq_true rfl⟩) rfl rfl (r0 := 0) (ci := 8) (T := TX8) (N := 14) rfl rfl hl.1 ⟨Nat.le_of_ble_eq_true rfl, Nat.le_of_ble_eq_true rfl⟩ (Nat.le_of_ble_eq_true rfl) dX8_of_80 (fun r_80 g1 H locs hp X => ?_)
        obtain ⟨rfl, rfl⟩ := hp
        have X : xS D A9 s9 [mW q b0 b1 b2 b3 b4 b5 b6 b7 b8 s p sl sv pd fo to ou kn ln mn la op wr] H locs := X
        exact hret _ _ _ _ _ _ (by exact ⟨rfl, by rw [ek, x_st_in (by omega) hk]; rfl⟩) X dX8_of_83
      · refine lv_tableIn (off := 66) (tgt := 77) hx hb dX8_of_11 (by decide) (by decide) (by decide) (by decide) ?_
        refine lv_aload_n hx hb dX8_of_77 rfl (lv_at hl 0 rfl) ?_
        refine lv_iload_n hx hb dX8_of_78 rfl (lv_at hl 1 rfl) ?_
        refine x_i (y := (nI k)) (ek) ?_
        refine lv_iload_n hx hb dX8_of_79 rfl (lv_at hl 2 rfl) ?_
        refine x_cVi F X (gc := [mW q b0 b1 b2 b3 b4 b5 b6 b7 b8 s p sl sv pd fo to ou kn ln mn la op wr]) (gr := []) (xp_idx (n := 1) [0] (by decide +kernel) rfl rfl) (c_X8_its l D q b0 b1 b2 b3 b4 b5 b6 b7 b8 s p sl sv pd fo to ou kn ln mn la op wr k 2 (by first | assumption | omega) (by first | assumption | omega)) (cwV 2 F.1.2.2.2.2 gX8_of_X8_its rfl rfl rfl (by decide +kernel) ⟨Nat.le_of_ble_eq_true rfl, Nat.le_of_ble_eq_true rfl⟩) rfl rfl (r0 := 0) (ci := 8) (T := TX8) (N := 14) rfl rfl hl.1 ⟨Nat.le_of_ble_eq_true rfl, Nat.le_of_ble_eq_true rfl⟩ (Nat.le_of_ble_eq_true rfl) dX8_of_80 (fun r_80 g1 H locs hp X => ?_)
        obtain ⟨rfl, rfl⟩ := hp
        have X : xS D A9 s9 [mW q b0 b1 b2 b3 b4 b5 b6 b7 b8 s p sl sv pd fo to ou kn ln mn la op wr] H locs := X
        exact hret _ _ _ _ _ _ (by exact ⟨rfl, by rw [ek, x_st_in (by omega) hk]; rfl⟩) X dX8_of_83
      · refine lv_tableIn (off := 66) (tgt := 77) hx hb dX8_of_11 (by decide) (by decide) (by decide) (by decide) ?_
        refine lv_aload_n hx hb dX8_of_77 rfl (lv_at hl 0 rfl) ?_
        refine lv_iload_n hx hb dX8_of_78 rfl (lv_at hl 1 rfl) ?_
        refine x_i (y := (nI k)) (ek) ?_
        refine lv_iload_n hx hb dX8_of_79 rfl (lv_at hl 2 rfl) ?_
        refine x_cVi F X (gc := [mW q b0 b1 b2 b3 b4 b5 b6 b7 b8 s p sl sv pd fo to ou kn ln mn la op wr]) (gr := []) (xp_idx (n := 1) [0] (by decide +kernel) rfl rfl) (c_X8_its l D q b0 b1 b2 b3 b4 b5 b6 b7 b8 s p sl sv pd fo to ou kn ln mn la op wr k 3 (by first | assumption | omega) (by first | assumption | omega)) (cwV 2 F.1.2.2.2.2 gX8_of_X8_its rfl rfl rfl (by decide +kernel) ⟨Nat.le_of_ble_eq_true rfl, Nat.le_of_ble_eq_true rfl⟩) rfl rfl (r0 := 0) (ci := 8) (T := TX8) (N := 14) rfl rfl hl.1 ⟨Nat.le_of_ble_eq_true rfl, Nat.le_of_ble_eq_true rfl⟩ (Nat.le_of_ble_eq_true rfl) dX8_of_80 (fun r_80 g1 H locs hp X => ?_)
        obtain ⟨rfl, rfl⟩ := hp
        have X : xS D A9 s9 [mW q b0 b1 b2 b3 b4 b5 b6 b7 b8 s p sl sv pd fo to ou kn ln mn la op wr] H locs := X
        exact hret _ _ _ _ _ _ (by exact ⟨rfl, by rw [ek, x_st_in (by omega) hk]; rfl⟩) X dX8_of_83
      · refine lv_tableIn (off := 66) (tgt := 77) hx hb dX8_of_11 (by decide) (by decide) (by decide) (by decide) ?_
        refine lv_aload_n hx hb dX8_of_77 rfl (lv_at hl 0 rfl) ?_
        refine lv_iload_n hx hb dX8_of_78 rfl (lv_at hl 1 rfl) ?_
        refine x_i (y := (nI k)) (ek) ?_
        refine lv_iload_n hx hb dX8_of_79 rfl (lv_at hl 2 rfl) ?_
        refine x_cVi F X (gc := [mW q b0 b1 b2 b3 b4 b5 b6 b7 b8 s p sl sv pd fo to ou kn ln mn la op wr]) (gr := []) (xp_idx (n := 1) [0] (by decide +kernel) rfl rfl) (c_X8_its l D q b0 b1 b2 b3 b4 b5 b6 b7 b8 s p sl sv pd fo to ou kn ln mn la op wr k 4 (by first | assumption | omega) (by first | assumption | omega)) (cwV 2 F.1.2.2.2.2 gX8_of_X8_its rfl rfl rfl (by decide +kernel) ⟨Nat.le_of_ble_eq_true rfl, Nat.le_of_ble_eq_true rfl⟩) rfl rfl (r0 := 0) (ci := 8) (T := TX8) (N := 14) rfl rfl hl.1 ⟨Nat.le_of_ble_eq_true rfl, Nat.le_of_ble_eq_true rfl⟩ (Nat.le_of_ble_eq_true rfl) dX8_of_80 (fun r_80 g1 H locs hp X => ?_)
        obtain ⟨rfl, rfl⟩ := hp
        have X : xS D A9 s9 [mW q b0 b1 b2 b3 b4 b5 b6 b7 b8 s p sl sv pd fo to ou kn ln mn la op wr] H locs := X
        exact hret _ _ _ _ _ _ (by exact ⟨rfl, by rw [ek, x_st_in (by omega) hk]; rfl⟩) X dX8_of_83
      · refine lv_tableIn (off := 73) (tgt := 84) hx hb dX8_of_11 (by decide) (by decide) (by decide) (by decide) ?_
        refine lv_aload_n hx hb dX8_of_84 rfl (lv_at hl 0 rfl) ?_
        refine lv_iload_n hx hb dX8_of_85 rfl (lv_at hl 1 rfl) ?_
        refine x_i (y := (nI k)) (ek) ?_
        refine x_cVi F X (gc := [mW q b0 b1 b2 b3 b4 b5 b6 b7 b8 s p sl sv pd fo to ou kn ln mn la op wr]) (gr := []) (xp_idx (n := 1) [0] (by decide +kernel) rfl rfl) (c_X8_branchSet l D q b0 b1 b2 b3 b4 b5 b6 b7 b8 s p sl sv pd fo to ou kn ln mn la op wr n pr k (by first | assumption | omega) (by first | assumption | omega)) (cwV 1 F.1.2.2.2.2 gX8_of_X8_branchSet rfl rfl rfl (by decide +kernel) ⟨Nat.le_of_ble_eq_true rfl, Nat.le_of_ble_eq_true rfl⟩) rfl rfl (r0 := 0) (ci := 8) (T := TX8) (N := 14) rfl rfl hl.1 ⟨Nat.le_of_ble_eq_true rfl, Nat.le_of_ble_eq_true rfl⟩ (Nat.le_of_ble_eq_true rfl) dX8_of_86 (fun r_86 g1 H locs hp X => ?_)
        obtain ⟨rfl, rfl⟩ := hp
        have X : xS D A9 s9 [mW q b0 b1 b2 b3 b4 b5 b6 b7 b8 s p sl sv pd fo to ou kn ln mn la op wr] H locs := X
        exact hret _ _ _ _ _ _ (by exact ⟨rfl, by rw [ek, x_st_in (by omega) hk]; rfl⟩) X dX8_of_89
      · refine lv_tableIn (off := 79) (tgt := 90) hx hb dX8_of_11 (by decide) (by decide) (by decide) (by decide) ?_
        refine lv_aload_n hx hb dX8_of_90 rfl (lv_at hl 0 rfl) ?_
        refine lv_iload_n hx hb dX8_of_91 rfl (lv_at hl 1 rfl) ?_
        refine x_i (y := (nI k)) (ek) ?_
        refine x_cVi F X (gc := [mW q b0 b1 b2 b3 b4 b5 b6 b7 b8 s p sl sv pd fo to ou kn ln mn la op wr]) (gr := []) (xp_idx (n := 1) [0] (by decide +kernel) rfl rfl) (c_X8_behind l D q b0 b1 b2 b3 b4 b5 b6 b7 b8 s p sl sv pd fo to ou kn ln mn la op wr n pr k (by first | assumption | omega) (by first | assumption | omega)) (cwV 1 F.1.2.2.2.2 gX8_of_X8_behind rfl rfl rfl (by decide +kernel) ⟨Nat.le_of_ble_eq_true rfl, Nat.le_of_ble_eq_true rfl⟩) rfl rfl (r0 := 0) (ci := 8) (T := TX8) (N := 14) rfl rfl hl.1 ⟨Nat.le_of_ble_eq_true rfl, Nat.le_of_ble_eq_true rfl⟩ (Nat.le_of_ble_eq_true rfl) dX8_of_92 (fun r_92 g1 H locs hp X => ?_)
        obtain ⟨rfl, rfl⟩ := hp
        have X : xS D A9 s9 [mW q b0 b1 b2 b3 b4 b5 b6 b7 b8 s p sl sv pd fo to ou kn ln mn la op wr] H locs := X
        exact hret _ _ _ _ _ _ (by exact ⟨rfl, by rw [ek, x_st_in (by omega) hk]; rfl⟩) X dX8_of_95
      · refine lv_tableIn (off := 85) (tgt := 96) hx hb dX8_of_11 (by decide) (by decide) (by decide) (by decide) ?_
        refine lv_aload_n hx hb dX8_of_96 rfl (lv_at hl 0 rfl) ?_
        refine lv_iload_n hx hb dX8_of_97 rfl (lv_at hl 1 rfl) ?_
        refine x_i (y := (nI k)) (ek) ?_
        refine x_cVi F X (gc := [mW q b0 b1 b2 b3 b4 b5 b6 b7 b8 s p sl sv pd fo to ou kn ln mn la op wr]) (gr := []) (xp_idx (n := 1) [0] (by decide +kernel) rfl rfl) (c_X8_depth l D q b0 b1 b2 b3 b4 b5 b6 b7 b8 s p sl sv pd fo to ou kn ln mn la op wr n pr k (by first | assumption | omega) (by first | assumption | omega)) (cwV 1 F.1.2.2.2.2 gX8_of_X8_depth rfl rfl rfl (by decide +kernel) ⟨Nat.le_of_ble_eq_true rfl, Nat.le_of_ble_eq_true rfl⟩) rfl rfl (r0 := 0) (ci := 8) (T := TX8) (N := 14) rfl rfl hl.1 ⟨Nat.le_of_ble_eq_true rfl, Nat.le_of_ble_eq_true rfl⟩ (Nat.le_of_ble_eq_true rfl) dX8_of_98 (fun r_98 g1 H locs hp X => ?_)
        obtain ⟨rfl, rfl⟩ := hp
        have X : xS D A9 s9 [mW q b0 b1 b2 b3 b4 b5 b6 b7 b8 s p sl sv pd fo to ou kn ln mn la op wr] H locs := X
        exact hret _ _ _ _ _ _ (by exact ⟨rfl, by rw [ek, x_st_in (by omega) hk]; rfl⟩) X dX8_of_101
  · refine lv_if_ne (tgt := 10) hx hb dX8_of_5 (by decide) (fun h => absurd (by decide) h) (fun _ => ?_)
    refine lv_iconst (v := (-1)) hx hb dX8_of_8 (by decide) ?_
    exact hret _ _ _ _ _ _ (by exact ⟨rfl, (x_st_out (by omega) b_2 _).symm⟩) X dX8_of_9

set_option maxHeartbeats 1000000 in
set_option maxRecDepth 100000 in
theorem c_X8_now (l : Launch) (D : va_G) (q : xQ) (b0 : Nat) (b1 : Nat) (b2 : Nat) (b3 : Nat) (b4 : Nat) (b5 : Nat) (b6 : Nat) (b7 : Nat) (b8 : Nat) (s : Nat → Int32) (p : Nat → Int32) (sl : Nat → Int32) (sv : Nat → Int32) (pd : Nat → Int32) (fo : Nat → Int32) (to : Nat → Int32) (ou : Nat → Int32) (kn : Int32) (ln : Int32) (mn : Int32) (la : Int32) (op : Int32) (wr : Int32) (n : Nat) (pr : Nat → Nat) (st : Int32) (wh : Int32) (hok : x_ok s n pr) : xMi l yX8_now wsX8_now { frames := 4, cells := 0, slots := 0, locals := 92 } D q [.ref b0, .int st, .int wh] [mW q b0 b1 b2 b3 b4 b5 b6 b7 b8 s p sl sv pd fo to ou kn ln mn la op wr] (fun r gw => ∃ (fo2 : Nat → Int32), gw = [mW q b0 b1 b2 b3 b4 b5 b6 b7 b8 s p sl sv pd fo2 to ou kn ln mn la op wr] ∧ r = x_st n st (x_nowk s (x_FT s pr n (-6) (s 4)) wh)) := by
  refine xMi_of (cc := cX8_now) (maxL := 3) (rt := .int) (by decide) rfl (Nat.le_of_ble_eq_true rfl) (fun _ _ _ => rfl) ?_
  intro p9 e9 s9 m9 a9 below meth c9 A9 Z9 ls H locs F X hl hret
  have hx := F.1.1
  have hb := F.1.2.1
  have in_X8 : ∀ w ∈ wsX80, w ∈ wsX8_now := by decide +kernel
  have mw_0 : Cond.initialized RX8 ∈ wsX8_now := by decide +kernel
  have mw_1 : Cond.fieldLink RX8 7 "HatWindsModel" "s" "[I" ∈ wsX8_now := by decide +kernel
  have mw_2 : Cond.fieldLink RX8 26 "HatWindsModel" "forces" "[I" ∈ wsX8_now := by decide +kernel
  have hl : lv_has ls 3 [(0, .ref b0), (1, .int st), (2, .int wh)] := hl
  have hok0 := hok
  obtain ⟨hn, hn1, hs5, hs33, hpr, hwd, hcl, hsm, hpe, hst, hle, hhr, hcn⟩ := hok0
  refine lv_aload_n hx hb dX8_now_0 rfl (lv_at hl 0 rfl) ?_
  refine lv_iload_n hx hb dX8_now_1 rfl (lv_at hl 1 rfl) ?_
  refine x_cVi F X (gc := [mW q b0 b1 b2 b3 b4 b5 b6 b7 b8 s p sl sv pd fo to ou kn ln mn la op wr]) (gr := []) (xp_idx (n := 1) [0] (by decide +kernel) rfl rfl) (c_X8_isStreet l D q b0 b1 b2 b3 b4 b5 b6 b7 b8 s p sl sv pd fo to ou kn ln mn la op wr n st (by first | assumption | omega) (by first | assumption | omega) (by first | assumption | omega)) (cwV 1 F.1.2.2.2.2 gX8_now_X8_isStreet rfl rfl rfl (by decide +kernel) ⟨Nat.le_of_ble_eq_true rfl, Nat.le_of_ble_eq_true rfl⟩) rfl rfl (r0 := 0) (ci := 8) (T := TX8) (N := 14) rfl rfl hl.1 ⟨Nat.le_of_ble_eq_true rfl, Nat.le_of_ble_eq_true rfl⟩ (Nat.le_of_ble_eq_true rfl) dX8_now_2 (fun r_2 g1 H locs hp X => ?_)
  obtain ⟨rfl, hz⟩ := hp
  have X : xS D A9 s9 [mW q b0 b1 b2 b3 b4 b5 b6 b7 b8 s p sl sv pd fo to ou kn ln mn la op wr] H locs := X
  rcases hz with ⟨rfl, b_2⟩ | ⟨rfl, b_2⟩
  · refine lv_if_ne (tgt := 10) hx hb dX8_now_5 (by decide) (fun _ => ?_) (fun h => absurd h (by decide))
    obtain ⟨k, hk, ek⟩ := b_2
    refine lv_aload_n hx hb dX8_now_10 rfl (lv_at hl 0 rfl) ?_
    refine lv_aload_n hx hb dX8_now_11 rfl (lv_at hl 0 rfl) ?_
    refine x_get F X (v := .ref b1) (C := RX8) (T := TX8) (N := 14) (ci := 8) in_X8 0 rfl rfl 0 (by decide) mw_1 rfl dX8_now_12 ?_
    refine lv_iconst (v := 4) hx hb dX8_now_15 (by decide) ?_
    refine x_iald F X (v := (s 4)) (n := 133) (f := s) 1 rfl (show vp_in (nI 4) _ from vp_in_nI (by omega) (by omega)) rfl dX8_now_16 ?_
    refine x_cVv F X (gc := [mW q b0 b1 b2 b3 b4 b5 b6 b7 b8 s p sl sv pd fo to ou kn ln mn la op wr]) (gr := []) (xp_idx (n := 1) [0] (by decide +kernel) rfl rfl) (c_X8_blows l D q b0 b1 b2 b3 b4 b5 b6 b7 b8 s p sl sv pd fo to ou kn ln mn la op wr n pr (s 4) (by first | assumption | omega)) (cwV 1 F.1.2.2.2.2 gX8_now_X8_blows rfl rfl rfl (by decide +kernel) ⟨Nat.le_of_ble_eq_true rfl, Nat.le_of_ble_eq_true rfl⟩) rfl rfl (r0 := 0) (ci := 8) (T := TX8) (N := 14) rfl rfl hl.1 ⟨Nat.le_of_ble_eq_true rfl, Nat.le_of_ble_eq_true rfl⟩ (Nat.le_of_ble_eq_true rfl) dX8_now_17 (fun g1 H locs hp X => ?_)
    obtain ⟨fo2, rfl, hfo2⟩ := hp
    have X : xS D A9 s9 [mW q b0 b1 b2 b3 b4 b5 b6 b7 b8 s p sl sv pd fo2 to ou kn ln mn la op wr] H locs := X
    refine lv_iload_n hx hb dX8_now_20 rfl (lv_at hl 2 rfl) ?_
    rcases x_sw wh 0 4 (by decide) with c_21 | c_21
    · refine lv_tableOut (tgt := 128) hx hb dX8_now_21 c_21 (by decide) ?_
      refine lv_bipush (v := (-2)) hx hb dX8_now_128 (by decide) ?_
      exact hret _ _ _ _ _ _ (by exact ⟨_, rfl, by rw [ek, x_st_in (by omega) hk, x_nowk_d c_21]⟩) X dX8_now_130
    · obtain ⟨j_1, hj1, hj2, e_21⟩ := c_21
      subst e_21
      rcases (show j_1 = 0 ∨ j_1 = 1 ∨ j_1 = 2 ∨ j_1 = 3 ∨ j_1 = 4 by omega) with rfl | rfl | rfl | rfl | rfl
      · refine lv_tableIn (off := 35) (tgt := 56) hx hb dX8_now_21 (by decide) (by decide) (by decide) (by decide) ?_
        refine lv_aload_n hx hb dX8_now_56 rfl (lv_at hl 0 rfl) ?_
        refine x_get F X (v := .ref b6) (C := RX8) (T := TX8) (N := 14) (ci := 8) in_X8 0 rfl rfl 7 (by decide) mw_2 rfl dX8_now_57 ?_
        refine lv_iload_n hx hb dX8_now_60 rfl (lv_at hl 1 rfl) ?_
        refine x_i (y := (nI k)) (ek) ?_
        refine x_iald F X (v := (fo2 k)) (n := 20) (f := fo2) 6 rfl (vp_in_nI (by omega) (by omega)) (x_cl (by omega)) dX8_now_61 ?_
        exact hret _ _ _ _ _ _ (by exact ⟨_, rfl, by rw [ek, x_st_in (by omega) hk]; exact hfo2 k hk⟩) X dX8_now_62
      · refine lv_tableIn (off := 42) (tgt := 63) hx hb dX8_now_21 (by decide) (by decide) (by decide) (by decide) ?_
        refine lv_aload_n hx hb dX8_now_63 rfl (lv_at hl 0 rfl) ?_
        refine lv_iload_n hx hb dX8_now_64 rfl (lv_at hl 1 rfl) ?_
        refine x_i (y := (nI k)) (ek) ?_
        refine x_cVi F X (gc := [mW q b0 b1 b2 b3 b4 b5 b6 b7 b8 s p sl sv pd fo2 to ou kn ln mn la op wr]) (gr := []) (xp_idx (n := 1) [0] (by decide +kernel) rfl rfl) (c_X8_gustOf l D q b0 b1 b2 b3 b4 b5 b6 b7 b8 s p sl sv pd fo2 to ou kn ln mn la op wr k (by first | assumption | omega)) (cwV 1 F.1.2.2.2.2 gX8_now_X8_gustOf rfl rfl rfl (by decide +kernel) ⟨Nat.le_of_ble_eq_true rfl, Nat.le_of_ble_eq_true rfl⟩) rfl rfl (r0 := 0) (ci := 8) (T := TX8) (N := 14) rfl rfl hl.1 ⟨Nat.le_of_ble_eq_true rfl, Nat.le_of_ble_eq_true rfl⟩ (Nat.le_of_ble_eq_true rfl) dX8_now_65 (fun r_65 g1 H locs hp X => ?_)
        obtain ⟨rfl, rfl⟩ := hp
        have X : xS D A9 s9 [mW q b0 b1 b2 b3 b4 b5 b6 b7 b8 s p sl sv pd fo2 to ou kn ln mn la op wr] H locs := X
        exact hret _ _ _ _ _ _ (by exact ⟨_, rfl, by rw [ek, x_st_in (by omega) hk, hfo2 k hk]; rfl⟩) X dX8_now_68
      · refine lv_tableIn (off := 48) (tgt := 69) hx hb dX8_now_21 (by decide) (by decide) (by decide) (by decide) ?_
        refine lv_aload_n hx hb dX8_now_69 rfl (lv_at hl 0 rfl) ?_
        refine lv_iload_n hx hb dX8_now_70 rfl (lv_at hl 1 rfl) ?_
        refine x_i (y := (nI k)) (ek) ?_
        refine lv_iconst (v := 2) hx hb dX8_now_71 (by decide) ?_
        refine x_cVi F X (gc := [mW q b0 b1 b2 b3 b4 b5 b6 b7 b8 s p sl sv pd fo2 to ou kn ln mn la op wr]) (gr := []) (xp_idx (n := 1) [0] (by decide +kernel) rfl rfl) (c_X8_its l D q b0 b1 b2 b3 b4 b5 b6 b7 b8 s p sl sv pd fo2 to ou kn ln mn la op wr k 2 (by first | assumption | omega) (by first | assumption | omega)) (cwV 2 F.1.2.2.2.2 gX8_now_X8_its rfl rfl rfl (by decide +kernel) ⟨Nat.le_of_ble_eq_true rfl, Nat.le_of_ble_eq_true rfl⟩) rfl rfl (r0 := 0) (ci := 8) (T := TX8) (N := 14) rfl rfl hl.1 ⟨Nat.le_of_ble_eq_true rfl, Nat.le_of_ble_eq_true rfl⟩ (Nat.le_of_ble_eq_true rfl) dX8_now_72 (fun r_72 g1 H locs hp X => ?_)
        obtain ⟨rfl, rfl⟩ := hp
        have X : xS D A9 s9 [mW q b0 b1 b2 b3 b4 b5 b6 b7 b8 s p sl sv pd fo2 to ou kn ln mn la op wr] H locs := X
        refine lv_if_ne (tgt := 83) hx hb dX8_now_75 (by decide) (fun c_75 => ?_) (fun c_75 => ?_)
        · refine lv_aload_n hx hb dX8_now_83 rfl (lv_at hl 0 rfl) ?_
          refine lv_iload_n hx hb dX8_now_84 rfl (lv_at hl 1 rfl) ?_
          refine x_i (y := (nI k)) (ek) ?_
          refine x_cVi F X (gc := [mW q b0 b1 b2 b3 b4 b5 b6 b7 b8 s p sl sv pd fo2 to ou kn ln mn la op wr]) (gr := []) (xp_idx (n := 1) [0] (by decide +kernel) rfl rfl) (c_X8_stepsOf l D q b0 b1 b2 b3 b4 b5 b6 b7 b8 s p sl sv pd fo2 to ou kn ln mn la op wr k (by first | assumption | omega) (by exact x_stp_pos hst (hcl k hk) c_75)) (cwV 1 F.1.2.2.2.2 gX8_now_X8_stepsOf rfl rfl rfl (by decide +kernel) ⟨Nat.le_of_ble_eq_true rfl, Nat.le_of_ble_eq_true rfl⟩) rfl rfl (r0 := 0) (ci := 8) (T := TX8) (N := 14) rfl rfl hl.1 ⟨Nat.le_of_ble_eq_true rfl, Nat.le_of_ble_eq_true rfl⟩ (Nat.le_of_ble_eq_true rfl) dX8_now_85 (fun r_85 g1 H locs hp X => ?_)
          obtain ⟨rfl, rfl⟩ := hp
          have X : xS D A9 s9 [mW q b0 b1 b2 b3 b4 b5 b6 b7 b8 s p sl sv pd fo2 to ou kn ln mn la op wr] H locs := X
          exact hret _ _ _ _ _ _ (by exact ⟨_, rfl, by rw [ek, x_st_in (by omega) hk, hfo2 k hk]; exact (if_neg c_75).symm⟩) X dX8_now_88
        · refine lv_bipush (v := (-6)) hx hb dX8_now_78 (by decide) ?_
          refine lv_goto (tgt := 88) hx hb dX8_now_80 (by decide) ?_
          exact hret _ _ _ _ _ _ (by exact ⟨_, rfl, by rw [ek, x_st_in (by omega) hk]; exact (if_pos c_75).symm⟩) X dX8_now_88
      · refine lv_tableIn (off := 68) (tgt := 89) hx hb dX8_now_21 (by decide) (by decide) (by decide) (by decide) ?_
        refine lv_aload_n hx hb dX8_now_89 rfl (lv_at hl 0 rfl) ?_
        refine lv_iload_n hx hb dX8_now_90 rfl (lv_at hl 1 rfl) ?_
        refine x_i (y := (nI k)) (ek) ?_
        refine lv_iconst (v := 3) hx hb dX8_now_91 (by decide) ?_
        refine x_cVi F X (gc := [mW q b0 b1 b2 b3 b4 b5 b6 b7 b8 s p sl sv pd fo2 to ou kn ln mn la op wr]) (gr := []) (xp_idx (n := 1) [0] (by decide +kernel) rfl rfl) (c_X8_its l D q b0 b1 b2 b3 b4 b5 b6 b7 b8 s p sl sv pd fo2 to ou kn ln mn la op wr k 3 (by first | assumption | omega) (by first | assumption | omega)) (cwV 2 F.1.2.2.2.2 gX8_now_X8_its rfl rfl rfl (by decide +kernel) ⟨Nat.le_of_ble_eq_true rfl, Nat.le_of_ble_eq_true rfl⟩) rfl rfl (r0 := 0) (ci := 8) (T := TX8) (N := 14) rfl rfl hl.1 ⟨Nat.le_of_ble_eq_true rfl, Nat.le_of_ble_eq_true rfl⟩ (Nat.le_of_ble_eq_true rfl) dX8_now_92 (fun r_92 g1 H locs hp X => ?_)
        obtain ⟨rfl, rfl⟩ := hp
        have X : xS D A9 s9 [mW q b0 b1 b2 b3 b4 b5 b6 b7 b8 s p sl sv pd fo2 to ou kn ln mn la op wr] H locs := X
        refine lv_if_ne (tgt := 103) hx hb dX8_now_95 (by decide) (fun c_95 => ?_) (fun c_95 => ?_)
        · refine lv_aload_n hx hb dX8_now_103 rfl (lv_at hl 0 rfl) ?_
          refine x_get F X (v := .ref b6) (C := RX8) (T := TX8) (N := 14) (ci := 8) in_X8 0 rfl rfl 7 (by decide) mw_2 rfl dX8_now_104 ?_
          refine lv_iload_n hx hb dX8_now_107 rfl (lv_at hl 1 rfl) ?_
          refine x_i (y := (nI k)) (ek) ?_
          refine x_iald F X (v := (fo2 k)) (n := 20) (f := fo2) 6 rfl (vp_in_nI (by omega) (by omega)) (x_cl (by omega)) dX8_now_108 ?_
          refine lv_aload_n hx hb dX8_now_109 rfl (lv_at hl 0 rfl) ?_
          refine x_get F X (v := .ref b1) (C := RX8) (T := TX8) (N := 14) (ci := 8) in_X8 0 rfl rfl 0 (by decide) mw_1 rfl dX8_now_110 ?_
          refine lv_iconst (v := 3) hx hb dX8_now_113 (by decide) ?_
          refine x_iald F X (v := (s 3)) (n := 133) (f := s) 1 rfl (show vp_in (nI 3) _ from vp_in_nI (by omega) (by omega)) rfl dX8_now_114 ?_
          refine lv_idiv hx hb dX8_now_115 (by
              obtain ⟨v, v1, v2, v3⟩ := hle
              rw [v3]
              exact nI_ne0 v1 (by omega)) ?_
          refine lv_bipush (v := 9) hx hb dX8_now_116 (by decide) ?_
          refine x_cSi F X (gc := []) (gr := [mW q b0 b1 b2 b3 b4 b5 b6 b7 b8 s p sl sv pd fo2 to ou kn ln mn la op wr]) (xp_idx (n := 1) [0] (by decide +kernel) rfl rfl) (c_X8_less l D q ((fo2 k) / (s 3)) 9 ) (va_cwS 2 F.1.2.2.2.2 gX8_now_X8_less rfl rfl rfl (by decide +kernel) ⟨Nat.le_of_ble_eq_true rfl, Nat.le_of_ble_eq_true rfl⟩) rfl rfl hl.1 ⟨Nat.le_of_ble_eq_true rfl, Nat.le_of_ble_eq_true rfl⟩ (Nat.le_of_ble_eq_true rfl) dX8_now_118 (fun r_118 g1 H locs hp X => ?_)
          obtain ⟨rfl, rfl⟩ := hp
          have X : xS D A9 s9 [mW q b0 b1 b2 b3 b4 b5 b6 b7 b8 s p sl sv pd fo2 to ou kn ln mn la op wr] H locs := X
          refine hret _ _ _ _ _ _ ?_ X dX8_now_121
          obtain ⟨v, v1, v2, v3⟩ := hle
          exact ⟨_, rfl, by rw [ek, x_st_in (by omega) hk, hfo2 k hk, v3, ← x_quo_n _ v1 (by omega), ← v3]; exact (if_neg c_95).symm⟩
        · refine lv_bipush (v := (-6)) hx hb dX8_now_98 (by decide) ?_
          refine lv_goto (tgt := 121) hx hb dX8_now_100 (by decide) ?_
          exact hret _ _ _ _ _ _ (by exact ⟨_, rfl, by rw [ek, x_st_in (by omega) hk]; exact (if_pos c_95).symm⟩) X dX8_now_121
      · refine lv_tableIn (off := 101) (tgt := 122) hx hb dX8_now_21 (by decide) (by decide) (by decide) (by decide) ?_
        refine lv_aload_n hx hb dX8_now_122 rfl (lv_at hl 0 rfl) ?_
        refine lv_iload_n hx hb dX8_now_123 rfl (lv_at hl 1 rfl) ?_
        refine x_i (y := (nI k)) (ek) ?_
        refine x_cVi F X (gc := [mW q b0 b1 b2 b3 b4 b5 b6 b7 b8 s p sl sv pd fo2 to ou kn ln mn la op wr]) (gr := []) (xp_idx (n := 1) [0] (by decide +kernel) rfl rfl) (c_X8_hatsOf l D q b0 b1 b2 b3 b4 b5 b6 b7 b8 s p sl sv pd fo2 to ou kn ln mn la op wr k (by first | assumption | omega)) (cwV 1 F.1.2.2.2.2 gX8_now_X8_hatsOf rfl rfl rfl (by decide +kernel) ⟨Nat.le_of_ble_eq_true rfl, Nat.le_of_ble_eq_true rfl⟩) rfl rfl (r0 := 0) (ci := 8) (T := TX8) (N := 14) rfl rfl hl.1 ⟨Nat.le_of_ble_eq_true rfl, Nat.le_of_ble_eq_true rfl⟩ (Nat.le_of_ble_eq_true rfl) dX8_now_124 (fun r_124 g1 H locs hp X => ?_)
        obtain ⟨rfl, rfl⟩ := hp
        have X : xS D A9 s9 [mW q b0 b1 b2 b3 b4 b5 b6 b7 b8 s p sl sv pd fo2 to ou kn ln mn la op wr] H locs := X
        exact hret _ _ _ _ _ _ (by exact ⟨_, rfl, by rw [ek, x_st_in (by omega) hk]; show x_ha s (fo2 k) (x_tP s k) = _; rw [hfo2 k hk]; rfl⟩) X dX8_now_127
  · refine lv_if_ne (tgt := 10) hx hb dX8_now_5 (by decide) (fun h => absurd (by decide) h) (fun _ => ?_)
    refine lv_iconst (v := (-1)) hx hb dX8_now_8 (by decide) ?_
    exact hret _ _ _ _ _ _ (by exact ⟨_, rfl, (x_st_out (by omega) b_2 _).symm⟩) X dX8_now_9

