set_option maxHeartbeats 1000000 in
set_option maxRecDepth 100000 in
theorem c_X8_writes (l : Launch) (D : va_G) (q : xQ) (b0 : Nat) (b1 : Nat) (b2 : Nat) (b3 : Nat) (b4 : Nat) (b5 : Nat) (b6 : Nat) (b7 : Nat) (b8 : Nat) (s : Nat → Int32) (p : Nat → Int32) (sl : Nat → Int32) (sv : Nat → Int32) (pd : Nat → Int32) (fo : Nat → Int32) (to : Nat → Int32) (ou : Nat → Int32) (kn : Int32) (ln : Int32) (mn : Int32) (la : Int32) (op : Int32) (wr : Nat) (x : Nat) (S : List Nat) (hou : xOu S ou wr) (hwr : wr < 300) : xMv l yX8_writes wsX8_writes { frames := 0, cells := 0, slots := 0, locals := 0 } D q [.ref b0, .int (nI x)] [mW q b0 b1 b2 b3 b4 b5 b6 b7 b8 s p sl sv pd fo to ou kn ln mn la op (nI wr)] (fun gw => ∃ (ou2 : Nat → Int32), gw = [mW q b0 b1 b2 b3 b4 b5 b6 b7 b8 s p sl sv pd fo to ou2 kn ln mn la op (nI (wr + 1))] ∧ (xOu (S ++ [x]) ou2 (wr + 1))) := by
  refine xMv_of (cc := cX8_writes) (maxL := 2) (by decide) rfl (Nat.le_of_ble_eq_true rfl) ?_
  intro p9 e9 s9 m9 a9 below meth c9 A9 Z9 ls H locs F hini X hl hret
  have hx := F.1.1
  have hb := F.1.2.1
  have in_X8 : ∀ w ∈ wsX80, w ∈ wsX8_writes := by decide +kernel
  have mw_0 : Cond.fieldLink RX8 32 "HatWindsModel" "out" "[I" ∈ wsX8_writes := by decide +kernel
  have mw_1 : Cond.fieldLink RX8 141 "HatWindsModel" "written" "I" ∈ wsX8_writes := by decide +kernel
  have hl : lv_has ls 2 [(0, .ref b0), (1, .int (nI x))] := hl
  refine lv_aload_n hx hb dX8_writes_0 rfl (lv_at hl 0 rfl) ?_
  refine x_get F X (v := .ref b8) (C := RX8) (T := TX8) (N := 14) (ci := 8) in_X8 0 rfl rfl 12 (by decide) mw_0 rfl dX8_writes_1 ?_
  refine lv_aload_n hx hb dX8_writes_4 rfl (lv_at hl 0 rfl) ?_
  refine x_get F X (v := .int (nI wr)) (C := RX8) (T := TX8) (N := 14) (ci := 8) in_X8 0 rfl rfl 13 (by decide) mw_1 rfl dX8_writes_5 ?_
  refine lv_iload_n hx hb dX8_writes_8 rfl (lv_at hl 1 rfl) ?_
  refine x_iast F X (gs' := [mW q b0 b1 b2 b3 b4 b5 b6 b7 b8 s p sl sv pd fo to (upd ou wr (nI x)) kn ln mn la op (nI wr)]) (n := 300) (f := ou) (k := wr) 8 rfl (vp_in_nI (by omega) (by omega)) (nI_clamp (by omega)) dX8_writes_9 rfl (fun H locs X => ?_)
  refine lv_aload_n hx hb dX8_writes_10 rfl (lv_at hl 0 rfl) ?_
  refine lv_dup hx hb dX8_writes_11 rfl ?_
  refine x_get F X (v := .int (nI wr)) (C := RX8) (T := TX8) (N := 14) (ci := 8) in_X8 0 rfl rfl 13 (by decide) mw_1 rfl dX8_writes_12 ?_
  refine lv_iconst (v := 1) hx hb dX8_writes_15 (by decide) ?_
  refine lv_iadd hx hb dX8_writes_16 ?_
  refine x_i (y := (nI (wr + 1))) (nI_add wr 1) ?_
  refine x_put F X (gs' := [mW q b0 b1 b2 b3 b4 b5 b6 b7 b8 s p sl sv pd fo to (upd ou wr (nI x)) kn ln mn la op (nI (wr + 1))]) (v := .int (nI (wr + 1))) (C := RX8) (T := TX8) (N := 14) (ci := 8) in_X8 tyX8 tyX8_ok nmX8 0 rfl rfl 13 (by decide) mw_1 rfl rfl rfl (Nat.le_of_ble_eq_true rfl) dX8_writes_17 rfl (fun H locs X => ?_)
  exact hret _ _ _ _ _ (by exact ⟨_, rfl, xOu_put hou x⟩) X dX8_writes_20

set_option maxHeartbeats 1000000 in
set_option maxRecDepth 100000 in
theorem c_X8_writesStreet (l : Launch) (D : va_G) (q : xQ) (b0 : Nat) (b1 : Nat) (b2 : Nat) (b3 : Nat) (b4 : Nat) (b5 : Nat) (b6 : Nat) (b7 : Nat) (b8 : Nat) (s : Nat → Int32) (p : Nat → Int32) (sl : Nat → Int32) (sv : Nat → Int32) (pd : Nat → Int32) (fo : Nat → Int32) (to : Nat → Int32) (ou : Nat → Int32) (kn : Int32) (ln : Int32) (mn : Int32) (la : Int32) (op : Int32) (wr : Nat) (n : Nat) (pr : Nat → Nat) (k : Nat) (S : List Nat) (hok : x_ok s n pr) (hk : k < n) (hou : xOu S ou wr) (hw6 : wr + 6 ≤ 300) : xMv l yX8_writesStreet wsX8_writesStreet { frames := 2, cells := 0, slots := 0, locals := 43 } D q [.ref b0, .int (nI k)] [mW q b0 b1 b2 b3 b4 b5 b6 b7 b8 s p sl sv pd fo to ou kn ln mn la op (nI wr)] (fun gw => ∃ (ou2 : Nat → Int32), ∃ (wr2 : Nat), gw = [mW q b0 b1 b2 b3 b4 b5 b6 b7 b8 s p sl sv pd fo to ou2 kn ln mn la op (nI wr2)] ∧ (xOu (S ++ x_wT s k) ou2 wr2)) := by
  refine xMv_of (cc := cX8_writesStreet) (maxL := 3) (by decide) rfl (Nat.le_of_ble_eq_true rfl) ?_
  intro p9 e9 s9 m9 a9 below meth c9 A9 Z9 ls H locs F hini X hl hret
  have hx := F.1.1
  have hb := F.1.2.1
  have mw_0 : Cond.initialized RX8 ∈ wsX8_writesStreet := by decide +kernel
  have hl : lv_has ls 3 [(0, .ref b0), (1, .int (nI k))] := hl
  have hok0 := hok
  obtain ⟨hn, hn1, hs5, hs33, hpr, hwd, hcl, hsm, hpe, hst, hle, hhr, hcn⟩ := hok0
  obtain ⟨w, hw1, hw2, ew⟩ := hwd k hk
  obtain ⟨c1, hc1, ec⟩ := hcl k hk
  obtain ⟨m1, hm1, em⟩ := hsm k hk
  obtain ⟨u, hu1, eu⟩ := hpe k hk
  refine lv_aload_n hx hb dX8_writesStreet_0 rfl (lv_at hl 0 rfl) ?_
  refine lv_bipush (v := 48) hx hb dX8_writesStreet_1 (by decide) ?_
  refine lv_aload_n hx hb dX8_writesStreet_3 rfl (lv_at hl 0 rfl) ?_
  refine lv_iload_n hx hb dX8_writesStreet_4 rfl (lv_at hl 1 rfl) ?_
  refine lv_iconst (v := 1) hx hb dX8_writesStreet_5 (by decide) ?_
  refine x_cVi F X (gc := [mW q b0 b1 b2 b3 b4 b5 b6 b7 b8 s p sl sv pd fo to ou kn ln mn la op (nI wr)]) (gr := []) (xp_idx (n := 1) [0] (by decide +kernel) rfl rfl) (c_X8_its l D q b0 b1 b2 b3 b4 b5 b6 b7 b8 s p sl sv pd fo to ou kn ln mn la op (nI wr) k 1 (by first | assumption | omega) (by first | assumption | omega)) (cwV 2 F.1.2.2.2.2 gX8_writesStreet_X8_its rfl rfl rfl (by decide +kernel) ⟨Nat.le_of_ble_eq_true rfl, Nat.le_of_ble_eq_true rfl⟩) rfl rfl (r0 := 0) (ci := 8) (T := TX8) (N := 14) rfl rfl hl.1 ⟨Nat.le_of_ble_eq_true rfl, Nat.le_of_ble_eq_true rfl⟩ (Nat.le_of_ble_eq_true rfl) dX8_writesStreet_6 (fun r_6 g1 H locs hp X => ?_)
  obtain ⟨rfl, rfl⟩ := hp
  have X : xS D A9 s9 [mW q b0 b1 b2 b3 b4 b5 b6 b7 b8 s p sl sv pd fo to ou kn ln mn la op (nI wr)] H locs := X
  refine x_i (y := (nI w)) (ew) ?_
  refine lv_iadd hx hb dX8_writesStreet_9 ?_
  refine x_i (y := (nI (48 + w))) (nI_add 48 w) ?_
  refine x_cVv F X (gc := [mW q b0 b1 b2 b3 b4 b5 b6 b7 b8 s p sl sv pd fo to ou kn ln mn la op (nI wr)]) (gr := []) (xp_idx (n := 1) [0] (by decide +kernel) rfl rfl) (c_X8_writes l D q b0 b1 b2 b3 b4 b5 b6 b7 b8 s p sl sv pd fo to ou kn ln mn la op wr (48 + w) S (by assumption) (by first | assumption | omega)) (cwV 1 F.1.2.2.2.2 gX8_writesStreet_X8_writes rfl rfl rfl (by decide +kernel) ⟨Nat.le_of_ble_eq_true rfl, Nat.le_of_ble_eq_true rfl⟩) rfl rfl (r0 := 0) (ci := 8) (T := TX8) (N := 14) rfl rfl hl.1 ⟨Nat.le_of_ble_eq_true rfl, Nat.le_of_ble_eq_true rfl⟩ (Nat.le_of_ble_eq_true rfl) dX8_writesStreet_10 (fun g1 H locs hp X => ?_)
  obtain ⟨ou2_10, rfl, hou_9⟩ := hp
  have X : xS D A9 s9 [mW q b0 b1 b2 b3 b4 b5 b6 b7 b8 s p sl sv pd fo to ou2_10 kn ln mn la op (nI (wr + 1))] H locs := X
  refine lv_aload_n hx hb dX8_writesStreet_13 rfl (lv_at hl 0 rfl) ?_
  refine lv_iload_n hx hb dX8_writesStreet_14 rfl (lv_at hl 1 rfl) ?_
  refine lv_iconst (v := 2) hx hb dX8_writesStreet_15 (by decide) ?_
  refine x_cVi F X (gc := [mW q b0 b1 b2 b3 b4 b5 b6 b7 b8 s p sl sv pd fo to ou2_10 kn ln mn la op (nI (wr + 1))]) (gr := []) (xp_idx (n := 1) [0] (by decide +kernel) rfl rfl) (c_X8_its l D q b0 b1 b2 b3 b4 b5 b6 b7 b8 s p sl sv pd fo to ou2_10 kn ln mn la op (nI (wr + 1)) k 2 (by first | assumption | omega) (by first | assumption | omega)) (cwV 2 F.1.2.2.2.2 gX8_writesStreet_X8_its rfl rfl rfl (by decide +kernel) ⟨Nat.le_of_ble_eq_true rfl, Nat.le_of_ble_eq_true rfl⟩) rfl rfl (r0 := 0) (ci := 8) (T := TX8) (N := 14) rfl rfl hl.1 ⟨Nat.le_of_ble_eq_true rfl, Nat.le_of_ble_eq_true rfl⟩ (Nat.le_of_ble_eq_true rfl) dX8_writesStreet_16 (fun r_16 g1 H locs hp X => ?_)
  obtain ⟨rfl, rfl⟩ := hp
  have X : xS D A9 s9 [mW q b0 b1 b2 b3 b4 b5 b6 b7 b8 s p sl sv pd fo to ou2_10 kn ln mn la op (nI (wr + 1))] H locs := X
  refine x_i (y := (nI c1)) (ec) ?_
  refine lv_if_le (tgt := 37) hx hb dX8_writesStreet_19 (by decide) (fun c_19 => ?_) (fun c_19 => ?_)
  · have c_19 : c1 ≤ 0 := (nI_leI (a := c1) (b := 0) (by omega) (by omega)).mp c_19
    refine lv_aload_n hx hb dX8_writesStreet_37 rfl (lv_at hl 0 rfl) ?_
    refine lv_iload_n hx hb dX8_writesStreet_38 rfl (lv_at hl 1 rfl) ?_
    refine lv_iconst (v := 3) hx hb dX8_writesStreet_39 (by decide) ?_
    refine x_cVi F X (gc := [mW q b0 b1 b2 b3 b4 b5 b6 b7 b8 s p sl sv pd fo to ou2_10 kn ln mn la op (nI (wr + 1))]) (gr := []) (xp_idx (n := 1) [0] (by decide +kernel) rfl rfl) (c_X8_its l D q b0 b1 b2 b3 b4 b5 b6 b7 b8 s p sl sv pd fo to ou2_10 kn ln mn la op (nI (wr + 1)) k 3 (by first | assumption | omega) (by first | assumption | omega)) (cwV 2 F.1.2.2.2.2 gX8_writesStreet_X8_its rfl rfl rfl (by decide +kernel) ⟨Nat.le_of_ble_eq_true rfl, Nat.le_of_ble_eq_true rfl⟩) rfl rfl (r0 := 0) (ci := 8) (T := TX8) (N := 14) rfl rfl hl.1 ⟨Nat.le_of_ble_eq_true rfl, Nat.le_of_ble_eq_true rfl⟩ (Nat.le_of_ble_eq_true rfl) dX8_writesStreet_40 (fun r_40 g1 H locs hp X => ?_)
    obtain ⟨rfl, rfl⟩ := hp
    have X : xS D A9 s9 [mW q b0 b1 b2 b3 b4 b5 b6 b7 b8 s p sl sv pd fo to ou2_10 kn ln mn la op (nI (wr + 1))] H locs := X
    refine x_i (y := (nI m1)) (em) ?_
    refine lv_iconst (v := 1) hx hb dX8_writesStreet_43 (by decide) ?_
    refine lv_icmp_ne (tgt := 53) hx hb dX8_writesStreet_44 (by decide) (fun c_44 => ?_) (fun c_44 => ?_)
    · have c_44 : ¬ (m1 = 1) := fun h => c_44 ((nI_eq (a := m1) (b := 1) (by omega) (by omega)).mpr h)
      refine lv_aload_n hx hb dX8_writesStreet_53 rfl (lv_at hl 0 rfl) ?_
      refine lv_iload_n hx hb dX8_writesStreet_54 rfl (lv_at hl 1 rfl) ?_
      refine lv_iconst (v := 4) hx hb dX8_writesStreet_55 (by decide) ?_
      refine x_cVi F X (gc := [mW q b0 b1 b2 b3 b4 b5 b6 b7 b8 s p sl sv pd fo to ou2_10 kn ln mn la op (nI (wr + 1))]) (gr := []) (xp_idx (n := 1) [0] (by decide +kernel) rfl rfl) (c_X8_its l D q b0 b1 b2 b3 b4 b5 b6 b7 b8 s p sl sv pd fo to ou2_10 kn ln mn la op (nI (wr + 1)) k 4 (by first | assumption | omega) (by first | assumption | omega)) (cwV 2 F.1.2.2.2.2 gX8_writesStreet_X8_its rfl rfl rfl (by decide +kernel) ⟨Nat.le_of_ble_eq_true rfl, Nat.le_of_ble_eq_true rfl⟩) rfl rfl (r0 := 0) (ci := 8) (T := TX8) (N := 14) rfl rfl hl.1 ⟨Nat.le_of_ble_eq_true rfl, Nat.le_of_ble_eq_true rfl⟩ (Nat.le_of_ble_eq_true rfl) dX8_writesStreet_56 (fun r_56 g1 H locs hp X => ?_)
      obtain ⟨rfl, rfl⟩ := hp
      have X : xS D A9 s9 [mW q b0 b1 b2 b3 b4 b5 b6 b7 b8 s p sl sv pd fo to ou2_10 kn ln mn la op (nI (wr + 1))] H locs := X
      refine x_i (y := (nI u)) (eu) ?_
      refine lv_istore_n (lv' := [(2, .int (nI u)), (0, .ref b0), (1, .int (nI k))]) hx hb dX8_writesStreet_59 rfl hl (by decide) rfl (fun ls hl => ?_)
      refine lv_iload_n hx hb dX8_writesStreet_60 rfl (lv_at hl 0 rfl) ?_
      refine lv_if_le (tgt := 70) hx hb dX8_writesStreet_61 (by decide) (fun c_61 => ?_) (fun c_61 => ?_)
      · have c_61 : u ≤ 0 := (nI_leI (a := u) (b := 0) (by omega) (by omega)).mp c_61
        refine lv_iload_n hx hb dX8_writesStreet_70 rfl (lv_at hl 0 rfl) ?_
        refine lv_bipush (v := 9) hx hb dX8_writesStreet_71 (by decide) ?_
        refine lv_icmp_le (tgt := 87) hx hb dX8_writesStreet_73 (by decide) (fun c_73 => ?_) (fun c_73 => ?_)
        · have c_73 : u ≤ 9 := (nI_leI (a := u) (b := 9) (by omega) (by omega)).mp c_73
          refine lv_iload_n hx hb dX8_writesStreet_87 rfl (lv_at hl 0 rfl) ?_
          refine lv_if_le (tgt := 102) hx hb dX8_writesStreet_88 (by decide) (fun c_88 => ?_) (fun c_88 => ?_)
          · have c_88 : u ≤ 0 := (nI_leI (a := u) (b := 0) (by omega) (by omega)).mp c_88
            refine hret _ _ _ _ _ ?_ X dX8_writesStreet_102
            refine ⟨_, _, rfl, ?_⟩
            show xOu (S ++ x_wsf (s (33 + 5 * k + 1)).toNatClampNeg (s (33 + 5 * k + 2)).toNatClampNeg (s (33 + 5 * k + 3)).toNatClampNeg (s (33 + 5 * k + 4)).toNatClampNeg) _ _
            rw [ew, ec, em, eu, nI_clamp (by omega), nI_clamp (by omega), nI_clamp (by omega), nI_clamp (by omega)]
            unfold x_wsf
            rw [if_neg (by omega), if_neg (by omega), if_neg (by omega), if_neg (by omega), if_neg (by omega)]
            simpa only [List.append_assoc, List.singleton_append, List.cons_append, List.nil_append, List.append_nil] using (by assumption : xOu (S ++ [48 + w]) _ _)
          · have c_88 : 0 < u := Nat.not_le.mp (fun h => c_88 ((nI_leI (a := u) (b := 0) (by omega) (by omega)).mpr h))
            exfalso; omega
        · have c_73 : 9 < u := Nat.not_le.mp (fun h => c_73 ((nI_leI (a := u) (b := 9) (by omega) (by omega)).mpr h))
          exfalso; omega
      · have c_61 : 0 < u := Nat.not_le.mp (fun h => c_61 ((nI_leI (a := u) (b := 0) (by omega) (by omega)).mpr h))
        refine lv_aload_n hx hb dX8_writesStreet_64 rfl (lv_at hl 1 rfl) ?_
        refine lv_bipush (v := 42) hx hb dX8_writesStreet_65 (by decide) ?_
        refine x_cVv F X (gc := [mW q b0 b1 b2 b3 b4 b5 b6 b7 b8 s p sl sv pd fo to ou2_10 kn ln mn la op (nI (wr + 1))]) (gr := []) (xp_idx (n := 1) [0] (by decide +kernel) rfl rfl) (c_X8_writes l D q b0 b1 b2 b3 b4 b5 b6 b7 b8 s p sl sv pd fo to ou2_10 kn ln mn la op (wr + 1) 42 (S ++ [48 + w]) (by assumption) (by first | assumption | omega)) (cwV 1 F.1.2.2.2.2 gX8_writesStreet_X8_writes rfl rfl rfl (by decide +kernel) ⟨Nat.le_of_ble_eq_true rfl, Nat.le_of_ble_eq_true rfl⟩) rfl rfl (r0 := 0) (ci := 8) (T := TX8) (N := 14) rfl rfl hl.1 ⟨Nat.le_of_ble_eq_true rfl, Nat.le_of_ble_eq_true rfl⟩ (Nat.le_of_ble_eq_true rfl) dX8_writesStreet_67 (fun g1 H locs hp X => ?_)
        obtain ⟨ou2_67, rfl, hou_9⟩ := hp
        have X : xS D A9 s9 [mW q b0 b1 b2 b3 b4 b5 b6 b7 b8 s p sl sv pd fo to ou2_67 kn ln mn la op (nI ((wr + 1) + 1))] H locs := X
        refine lv_iload_n hx hb dX8_writesStreet_70 rfl (lv_at hl 0 rfl) ?_
        refine lv_bipush (v := 9) hx hb dX8_writesStreet_71 (by decide) ?_
        refine lv_icmp_le (tgt := 87) hx hb dX8_writesStreet_73 (by decide) (fun c_73 => ?_) (fun c_73 => ?_)
        · have c_73 : u ≤ 9 := (nI_leI (a := u) (b := 9) (by omega) (by omega)).mp c_73
          refine lv_iload_n hx hb dX8_writesStreet_87 rfl (lv_at hl 0 rfl) ?_
          refine lv_if_le (tgt := 102) hx hb dX8_writesStreet_88 (by decide) (fun c_88 => ?_) (fun c_88 => ?_)
          · have c_88 : u ≤ 0 := (nI_leI (a := u) (b := 0) (by omega) (by omega)).mp c_88
            exfalso; omega
          · have c_88 : 0 < u := Nat.not_le.mp (fun h => c_88 ((nI_leI (a := u) (b := 0) (by omega) (by omega)).mpr h))
            refine lv_aload_n hx hb dX8_writesStreet_91 rfl (lv_at hl 1 rfl) ?_
            refine lv_bipush (v := 48) hx hb dX8_writesStreet_92 (by decide) ?_
            refine lv_iload_n hx hb dX8_writesStreet_94 rfl (lv_at hl 0 rfl) ?_
            refine lv_bipush (v := 10) hx hb dX8_writesStreet_95 (by decide) ?_
            refine lv_irem hx hb dX8_writesStreet_97 (by decide) ?_
            refine x_i (y := (nI (u % 10))) (pk_rem (a := u) (d := 10) (by omega) (by omega) (by omega)) ?_
            refine lv_iadd hx hb dX8_writesStreet_98 ?_
            refine x_i (y := (nI (48 + (u % 10)))) (nI_add 48 (u % 10)) ?_
            refine x_cVv F X (gc := [mW q b0 b1 b2 b3 b4 b5 b6 b7 b8 s p sl sv pd fo to ou2_67 kn ln mn la op (nI ((wr + 1) + 1))]) (gr := []) (xp_idx (n := 1) [0] (by decide +kernel) rfl rfl) (c_X8_writes l D q b0 b1 b2 b3 b4 b5 b6 b7 b8 s p sl sv pd fo to ou2_67 kn ln mn la op ((wr + 1) + 1) (48 + (u % 10)) ((S ++ [48 + w]) ++ [42]) (by assumption) (by first | assumption | omega)) (cwV 1 F.1.2.2.2.2 gX8_writesStreet_X8_writes rfl rfl rfl (by decide +kernel) ⟨Nat.le_of_ble_eq_true rfl, Nat.le_of_ble_eq_true rfl⟩) rfl rfl (r0 := 0) (ci := 8) (T := TX8) (N := 14) rfl rfl hl.1 ⟨Nat.le_of_ble_eq_true rfl, Nat.le_of_ble_eq_true rfl⟩ (Nat.le_of_ble_eq_true rfl) dX8_writesStreet_99 (fun g1 H locs hp X => ?_)
            obtain ⟨ou2_99, rfl, hou_9⟩ := hp
            have X : xS D A9 s9 [mW q b0 b1 b2 b3 b4 b5 b6 b7 b8 s p sl sv pd fo to ou2_99 kn ln mn la op (nI (((wr + 1) + 1) + 1))] H locs := X
            refine hret _ _ _ _ _ ?_ X dX8_writesStreet_102
            refine ⟨_, _, rfl, ?_⟩
            show xOu (S ++ x_wsf (s (33 + 5 * k + 1)).toNatClampNeg (s (33 + 5 * k + 2)).toNatClampNeg (s (33 + 5 * k + 3)).toNatClampNeg (s (33 + 5 * k + 4)).toNatClampNeg) _ _
            rw [ew, ec, em, eu, nI_clamp (by omega), nI_clamp (by omega), nI_clamp (by omega), nI_clamp (by omega)]
            unfold x_wsf
            rw [if_neg (by omega), if_neg (by omega), if_pos (by omega), if_neg (by omega), if_pos (by omega)]
            simpa only [List.append_assoc, List.singleton_append, List.cons_append, List.nil_append, List.append_nil] using (by assumption : xOu (((S ++ [48 + w]) ++ [42]) ++ [48 + u % 10]) _ _)
        · have c_73 : 9 < u := Nat.not_le.mp (fun h => c_73 ((nI_leI (a := u) (b := 9) (by omega) (by omega)).mpr h))
          refine lv_aload_n hx hb dX8_writesStreet_76 rfl (lv_at hl 1 rfl) ?_
          refine lv_bipush (v := 48) hx hb dX8_writesStreet_77 (by decide) ?_
          refine lv_iload_n hx hb dX8_writesStreet_79 rfl (lv_at hl 0 rfl) ?_
          refine lv_bipush (v := 10) hx hb dX8_writesStreet_80 (by decide) ?_
          refine lv_idiv hx hb dX8_writesStreet_82 (by decide) ?_
          refine x_i (y := (nI (u / 10))) (pk_div (a := u) (d := 10) (by omega) (by omega) (by omega)) ?_
          refine lv_iadd hx hb dX8_writesStreet_83 ?_
          refine x_i (y := (nI (48 + (u / 10)))) (nI_add 48 (u / 10)) ?_
          refine x_cVv F X (gc := [mW q b0 b1 b2 b3 b4 b5 b6 b7 b8 s p sl sv pd fo to ou2_67 kn ln mn la op (nI ((wr + 1) + 1))]) (gr := []) (xp_idx (n := 1) [0] (by decide +kernel) rfl rfl) (c_X8_writes l D q b0 b1 b2 b3 b4 b5 b6 b7 b8 s p sl sv pd fo to ou2_67 kn ln mn la op ((wr + 1) + 1) (48 + (u / 10)) ((S ++ [48 + w]) ++ [42]) (by assumption) (by first | assumption | omega)) (cwV 1 F.1.2.2.2.2 gX8_writesStreet_X8_writes rfl rfl rfl (by decide +kernel) ⟨Nat.le_of_ble_eq_true rfl, Nat.le_of_ble_eq_true rfl⟩) rfl rfl (r0 := 0) (ci := 8) (T := TX8) (N := 14) rfl rfl hl.1 ⟨Nat.le_of_ble_eq_true rfl, Nat.le_of_ble_eq_true rfl⟩ (Nat.le_of_ble_eq_true rfl) dX8_writesStreet_84 (fun g1 H locs hp X => ?_)
          obtain ⟨ou2_84, rfl, hou_9⟩ := hp
          have X : xS D A9 s9 [mW q b0 b1 b2 b3 b4 b5 b6 b7 b8 s p sl sv pd fo to ou2_84 kn ln mn la op (nI (((wr + 1) + 1) + 1))] H locs := X
          refine lv_iload_n hx hb dX8_writesStreet_87 rfl (lv_at hl 0 rfl) ?_
          refine lv_if_le (tgt := 102) hx hb dX8_writesStreet_88 (by decide) (fun c_88 => ?_) (fun c_88 => ?_)
          · have c_88 : u ≤ 0 := (nI_leI (a := u) (b := 0) (by omega) (by omega)).mp c_88
            exfalso; omega
          · have c_88 : 0 < u := Nat.not_le.mp (fun h => c_88 ((nI_leI (a := u) (b := 0) (by omega) (by omega)).mpr h))
            refine lv_aload_n hx hb dX8_writesStreet_91 rfl (lv_at hl 1 rfl) ?_
            refine lv_bipush (v := 48) hx hb dX8_writesStreet_92 (by decide) ?_
            refine lv_iload_n hx hb dX8_writesStreet_94 rfl (lv_at hl 0 rfl) ?_
            refine lv_bipush (v := 10) hx hb dX8_writesStreet_95 (by decide) ?_
            refine lv_irem hx hb dX8_writesStreet_97 (by decide) ?_
            refine x_i (y := (nI (u % 10))) (pk_rem (a := u) (d := 10) (by omega) (by omega) (by omega)) ?_
            refine lv_iadd hx hb dX8_writesStreet_98 ?_
            refine x_i (y := (nI (48 + (u % 10)))) (nI_add 48 (u % 10)) ?_
            refine x_cVv F X (gc := [mW q b0 b1 b2 b3 b4 b5 b6 b7 b8 s p sl sv pd fo to ou2_84 kn ln mn la op (nI (((wr + 1) + 1) + 1))]) (gr := []) (xp_idx (n := 1) [0] (by decide +kernel) rfl rfl) (c_X8_writes l D q b0 b1 b2 b3 b4 b5 b6 b7 b8 s p sl sv pd fo to ou2_84 kn ln mn la op (((wr + 1) + 1) + 1) (48 + (u % 10)) (((S ++ [48 + w]) ++ [42]) ++ [48 + u / 10]) (by assumption) (by first | assumption | omega)) (cwV 1 F.1.2.2.2.2 gX8_writesStreet_X8_writes rfl rfl rfl (by decide +kernel) ⟨Nat.le_of_ble_eq_true rfl, Nat.le_of_ble_eq_true rfl⟩) rfl rfl (r0 := 0) (ci := 8) (T := TX8) (N := 14) rfl rfl hl.1 ⟨Nat.le_of_ble_eq_true rfl, Nat.le_of_ble_eq_true rfl⟩ (Nat.le_of_ble_eq_true rfl) dX8_writesStreet_99 (fun g1 H locs hp X => ?_)
            obtain ⟨ou2_99, rfl, hou_9⟩ := hp
            have X : xS D A9 s9 [mW q b0 b1 b2 b3 b4 b5 b6 b7 b8 s p sl sv pd fo to ou2_99 kn ln mn la op (nI ((((wr + 1) + 1) + 1) + 1))] H locs := X
            refine hret _ _ _ _ _ ?_ X dX8_writesStreet_102
            refine ⟨_, _, rfl, ?_⟩
            show xOu (S ++ x_wsf (s (33 + 5 * k + 1)).toNatClampNeg (s (33 + 5 * k + 2)).toNatClampNeg (s (33 + 5 * k + 3)).toNatClampNeg (s (33 + 5 * k + 4)).toNatClampNeg) _ _
            rw [ew, ec, em, eu, nI_clamp (by omega), nI_clamp (by omega), nI_clamp (by omega), nI_clamp (by omega)]
            unfold x_wsf
            rw [if_neg (by omega), if_neg (by omega), if_pos (by omega), if_pos (by omega), if_pos (by omega)]
            simpa only [List.append_assoc, List.singleton_append, List.cons_append, List.nil_append, List.append_nil] using (by assumption : xOu ((((S ++ [48 + w]) ++ [42]) ++ [48 + u / 10]) ++ [48 + u % 10]) _ _)
    · have c_44 : m1 = 1 := (nI_eq (a := m1) (b := 1) (by omega) (by omega)).mp c_44
      refine lv_aload_n hx hb dX8_writesStreet_47 rfl (lv_at hl 0 rfl) ?_
      refine lv_bipush (v := 33) hx hb dX8_writesStreet_48 (by decide) ?_
      refine x_cVv F X (gc := [mW q b0 b1 b2 b3 b4 b5 b6 b7 b8 s p sl sv pd fo to ou2_10 kn ln mn la op (nI (wr + 1))]) (gr := []) (xp_idx (n := 1) [0] (by decide +kernel) rfl rfl) (c_X8_writes l D q b0 b1 b2 b3 b4 b5 b6 b7 b8 s p sl sv pd fo to ou2_10 kn ln mn la op (wr + 1) 33 (S ++ [48 + w]) (by assumption) (by first | assumption | omega)) (cwV 1 F.1.2.2.2.2 gX8_writesStreet_X8_writes rfl rfl rfl (by decide +kernel) ⟨Nat.le_of_ble_eq_true rfl, Nat.le_of_ble_eq_true rfl⟩) rfl rfl (r0 := 0) (ci := 8) (T := TX8) (N := 14) rfl rfl hl.1 ⟨Nat.le_of_ble_eq_true rfl, Nat.le_of_ble_eq_true rfl⟩ (Nat.le_of_ble_eq_true rfl) dX8_writesStreet_50 (fun g1 H locs hp X => ?_)
      obtain ⟨ou2_50, rfl, hou_9⟩ := hp
      have X : xS D A9 s9 [mW q b0 b1 b2 b3 b4 b5 b6 b7 b8 s p sl sv pd fo to ou2_50 kn ln mn la op (nI ((wr + 1) + 1))] H locs := X
      refine lv_aload_n hx hb dX8_writesStreet_53 rfl (lv_at hl 0 rfl) ?_
      refine lv_iload_n hx hb dX8_writesStreet_54 rfl (lv_at hl 1 rfl) ?_
      refine lv_iconst (v := 4) hx hb dX8_writesStreet_55 (by decide) ?_
      refine x_cVi F X (gc := [mW q b0 b1 b2 b3 b4 b5 b6 b7 b8 s p sl sv pd fo to ou2_50 kn ln mn la op (nI ((wr + 1) + 1))]) (gr := []) (xp_idx (n := 1) [0] (by decide +kernel) rfl rfl) (c_X8_its l D q b0 b1 b2 b3 b4 b5 b6 b7 b8 s p sl sv pd fo to ou2_50 kn ln mn la op (nI ((wr + 1) + 1)) k 4 (by first | assumption | omega) (by first | assumption | omega)) (cwV 2 F.1.2.2.2.2 gX8_writesStreet_X8_its rfl rfl rfl (by decide +kernel) ⟨Nat.le_of_ble_eq_true rfl, Nat.le_of_ble_eq_true rfl⟩) rfl rfl (r0 := 0) (ci := 8) (T := TX8) (N := 14) rfl rfl hl.1 ⟨Nat.le_of_ble_eq_true rfl, Nat.le_of_ble_eq_true rfl⟩ (Nat.le_of_ble_eq_true rfl) dX8_writesStreet_56 (fun r_56 g1 H locs hp X => ?_)
      obtain ⟨rfl, rfl⟩ := hp
      have X : xS D A9 s9 [mW q b0 b1 b2 b3 b4 b5 b6 b7 b8 s p sl sv pd fo to ou2_50 kn ln mn la op (nI ((wr + 1) + 1))] H locs := X
      refine x_i (y := (nI u)) (eu) ?_
      refine lv_istore_n (lv' := [(2, .int (nI u)), (0, .ref b0), (1, .int (nI k))]) hx hb dX8_writesStreet_59 rfl hl (by decide) rfl (fun ls hl => ?_)
      refine lv_iload_n hx hb dX8_writesStreet_60 rfl (lv_at hl 0 rfl) ?_
      refine lv_if_le (tgt := 70) hx hb dX8_writesStreet_61 (by decide) (fun c_61 => ?_) (fun c_61 => ?_)
      · have c_61 : u ≤ 0 := (nI_leI (a := u) (b := 0) (by omega) (by omega)).mp c_61
        refine lv_iload_n hx hb dX8_writesStreet_70 rfl (lv_at hl 0 rfl) ?_
        refine lv_bipush (v := 9) hx hb dX8_writesStreet_71 (by decide) ?_
        refine lv_icmp_le (tgt := 87) hx hb dX8_writesStreet_73 (by decide) (fun c_73 => ?_) (fun c_73 => ?_)
        · have c_73 : u ≤ 9 := (nI_leI (a := u) (b := 9) (by omega) (by omega)).mp c_73
          refine lv_iload_n hx hb dX8_writesStreet_87 rfl (lv_at hl 0 rfl) ?_
          refine lv_if_le (tgt := 102) hx hb dX8_writesStreet_88 (by decide) (fun c_88 => ?_) (fun c_88 => ?_)
          · have c_88 : u ≤ 0 := (nI_leI (a := u) (b := 0) (by omega) (by omega)).mp c_88
            refine hret _ _ _ _ _ ?_ X dX8_writesStreet_102
            refine ⟨_, _, rfl, ?_⟩
            show xOu (S ++ x_wsf (s (33 + 5 * k + 1)).toNatClampNeg (s (33 + 5 * k + 2)).toNatClampNeg (s (33 + 5 * k + 3)).toNatClampNeg (s (33 + 5 * k + 4)).toNatClampNeg) _ _
            rw [ew, ec, em, eu, nI_clamp (by omega), nI_clamp (by omega), nI_clamp (by omega), nI_clamp (by omega)]
            unfold x_wsf
            rw [if_neg (by omega), if_pos (by omega), if_neg (by omega), if_neg (by omega), if_neg (by omega)]
            simpa only [List.append_assoc, List.singleton_append, List.cons_append, List.nil_append, List.append_nil] using (by assumption : xOu ((S ++ [48 + w]) ++ [33]) _ _)
          · have c_88 : 0 < u := Nat.not_le.mp (fun h => c_88 ((nI_leI (a := u) (b := 0) (by omega) (by omega)).mpr h))
            exfalso; omega
        · have c_73 : 9 < u := Nat.not_le.mp (fun h => c_73 ((nI_leI (a := u) (b := 9) (by omega) (by omega)).mpr h))
          exfalso; omega
      · have c_61 : 0 < u := Nat.not_le.mp (fun h => c_61 ((nI_leI (a := u) (b := 0) (by omega) (by omega)).mpr h))
        refine lv_aload_n hx hb dX8_writesStreet_64 rfl (lv_at hl 1 rfl) ?_
        refine lv_bipush (v := 42) hx hb dX8_writesStreet_65 (by decide) ?_
        refine x_cVv F X (gc := [mW q b0 b1 b2 b3 b4 b5 b6 b7 b8 s p sl sv pd fo to ou2_50 kn ln mn la op (nI ((wr + 1) + 1))]) (gr := []) (xp_idx (n := 1) [0] (by decide +kernel) rfl rfl) (c_X8_writes l D q b0 b1 b2 b3 b4 b5 b6 b7 b8 s p sl sv pd fo to ou2_50 kn ln mn la op ((wr + 1) + 1) 42 ((S ++ [48 + w]) ++ [33]) (by assumption) (by first | assumption | omega)) (cwV 1 F.1.2.2.2.2 gX8_writesStreet_X8_writes rfl rfl rfl (by decide +kernel) ⟨Nat.le_of_ble_eq_true rfl, Nat.le_of_ble_eq_true rfl⟩) rfl rfl (r0 := 0) (ci := 8) (T := TX8) (N := 14) rfl rfl hl.1 ⟨Nat.le_of_ble_eq_true rfl, Nat.le_of_ble_eq_true rfl⟩ (Nat.le_of_ble_eq_true rfl) dX8_writesStreet_67 (fun g1 H locs hp X => ?_)
        obtain ⟨ou2_67, rfl, hou_9⟩ := hp
        have X : xS D A9 s9 [mW q b0 b1 b2 b3 b4 b5 b6 b7 b8 s p sl sv pd fo to ou2_67 kn ln mn la op (nI (((wr + 1) + 1) + 1))] H locs := X
        refine lv_iload_n hx hb dX8_writesStreet_70 rfl (lv_at hl 0 rfl) ?_
        refine lv_bipush (v := 9) hx hb dX8_writesStreet_71 (by decide) ?_
        refine lv_icmp_le (tgt := 87) hx hb dX8_writesStreet_73 (by decide) (fun c_73 => ?_) (fun c_73 => ?_)
        · have c_73 : u ≤ 9 := (nI_leI (a := u) (b := 9) (by omega) (by omega)).mp c_73
          refine lv_iload_n hx hb dX8_writesStreet_87 rfl (lv_at hl 0 rfl) ?_
          refine lv_if_le (tgt := 102) hx hb dX8_writesStreet_88 (by decide) (fun c_88 => ?_) (fun c_88 => ?_)
          · have c_88 : u ≤ 0 := (nI_leI (a := u) (b := 0) (by omega) (by omega)).mp c_88
            exfalso; omega
          · have c_88 : 0 < u := Nat.not_le.mp (fun h => c_88 ((nI_leI (a := u) (b := 0) (by omega) (by omega)).mpr h))
            refine lv_aload_n hx hb dX8_writesStreet_91 rfl (lv_at hl 1 rfl) ?_
            refine lv_bipush (v := 48) hx hb dX8_writesStreet_92 (by decide) ?_
            refine lv_iload_n hx hb dX8_writesStreet_94 rfl (lv_at hl 0 rfl) ?_
            refine lv_bipush (v := 10) hx hb dX8_writesStreet_95 (by decide) ?_
            refine lv_irem hx hb dX8_writesStreet_97 (by decide) ?_
            refine x_i (y := (nI (u % 10))) (pk_rem (a := u) (d := 10) (by omega) (by omega) (by omega)) ?_
            refine lv_iadd hx hb dX8_writesStreet_98 ?_
            refine x_i (y := (nI (48 + (u % 10)))) (nI_add 48 (u % 10)) ?_
            refine x_cVv F X (gc := [mW q b0 b1 b2 b3 b4 b5 b6 b7 b8 s p sl sv pd fo to ou2_67 kn ln mn la op (nI (((wr + 1) + 1) + 1))]) (gr := []) (xp_idx (n := 1) [0] (by decide +kernel) rfl rfl) (c_X8_writes l D q b0 b1 b2 b3 b4 b5 b6 b7 b8 s p sl sv pd fo to ou2_67 kn ln mn la op (((wr + 1) + 1) + 1) (48 + (u % 10)) (((S ++ [48 + w]) ++ [33]) ++ [42]) (by assumption) (by first | assumption | omega)) (cwV 1 F.1.2.2.2.2 gX8_writesStreet_X8_writes rfl rfl rfl (by decide +kernel) ⟨Nat.le_of_ble_eq_true rfl, Nat.le_of_ble_eq_true rfl⟩) rfl rfl (r0 := 0) (ci := 8) (T := TX8) (N := 14) rfl rfl hl.1 ⟨Nat.le_of_ble_eq_true rfl, Nat.le_of_ble_eq_true rfl⟩ (Nat.le_of_ble_eq_true rfl) dX8_writesStreet_99 (fun g1 H locs hp X => ?_)
            obtain ⟨ou2_99, rfl, hou_9⟩ := hp
            have X : xS D A9 s9 [mW q b0 b1 b2 b3 b4 b5 b6 b7 b8 s p sl sv pd fo to ou2_99 kn ln mn la op (nI ((((wr + 1) + 1) + 1) + 1))] H locs := X
            refine hret _ _ _ _ _ ?_ X dX8_writesStreet_102
            refine ⟨_, _, rfl, ?_⟩
            show xOu (S ++ x_wsf (s (33 + 5 * k + 1)).toNatClampNeg (s (33 + 5 * k + 2)).toNatClampNeg (s (33 + 5 * k + 3)).toNatClampNeg (s (33 + 5 * k + 4)).toNatClampNeg) _ _
            rw [ew, ec, em, eu, nI_clamp (by omega), nI_clamp (by omega), nI_clamp (by omega), nI_clamp (by omega)]
            unfold x_wsf
            rw [if_neg (by omega), if_pos (by omega), if_pos (by omega), if_neg (by omega), if_pos (by omega)]
            simpa only [List.append_assoc, List.singleton_append, List.cons_append, List.nil_append, List.append_nil] using (by assumption : xOu ((((S ++ [48 + w]) ++ [33]) ++ [42]) ++ [48 + u % 10]) _ _)
        · have c_73 : 9 < u := Nat.not_le.mp (fun h => c_73 ((nI_leI (a := u) (b := 9) (by omega) (by omega)).mpr h))
          refine lv_aload_n hx hb dX8_writesStreet_76 rfl (lv_at hl 1 rfl) ?_
          refine lv_bipush (v := 48) hx hb dX8_writesStreet_77 (by decide) ?_
          refine lv_iload_n hx hb dX8_writesStreet_79 rfl (lv_at hl 0 rfl) ?_
          refine lv_bipush (v := 10) hx hb dX8_writesStreet_80 (by decide) ?_
          refine lv_idiv hx hb dX8_writesStreet_82 (by decide) ?_
          refine x_i (y := (nI (u / 10))) (pk_div (a := u) (d := 10) (by omega) (by omega) (by omega)) ?_
          refine lv_iadd hx hb dX8_writesStreet_83 ?_
          refine x_i (y := (nI (48 + (u / 10)))) (nI_add 48 (u / 10)) ?_
          refine x_cVv F X (gc := [mW q b0 b1 b2 b3 b4 b5 b6 b7 b8 s p sl sv pd fo to ou2_67 kn ln mn la op (nI (((wr + 1) + 1) + 1))]) (gr := []) (xp_idx (n := 1) [0] (by decide +kernel) rfl rfl) (c_X8_writes l D q b0 b1 b2 b3 b4 b5 b6 b7 b8 s p sl sv pd fo to ou2_67 kn ln mn la op (((wr + 1) + 1) + 1) (48 + (u / 10)) (((S ++ [48 + w]) ++ [33]) ++ [42]) (by assumption) (by first | assumption | omega)) (cwV 1 F.1.2.2.2.2 gX8_writesStreet_X8_writes rfl rfl rfl (by decide +kernel) ⟨Nat.le_of_ble_eq_true rfl, Nat.le_of_ble_eq_true rfl⟩) rfl rfl (r0 := 0) (ci := 8) (T := TX8) (N := 14) rfl rfl hl.1 ⟨Nat.le_of_ble_eq_true rfl, Nat.le_of_ble_eq_true rfl⟩ (Nat.le_of_ble_eq_true rfl) dX8_writesStreet_84 (fun g1 H locs hp X => ?_)
          obtain ⟨ou2_84, rfl, hou_9⟩ := hp
          have X : xS D A9 s9 [mW q b0 b1 b2 b3 b4 b5 b6 b7 b8 s p sl sv pd fo to ou2_84 kn ln mn la op (nI ((((wr + 1) + 1) + 1) + 1))] H locs := X
          refine lv_iload_n hx hb dX8_writesStreet_87 rfl (lv_at hl 0 rfl) ?_
          refine lv_if_le (tgt := 102) hx hb dX8_writesStreet_88 (by decide) (fun c_88 => ?_) (fun c_88 => ?_)
          · have c_88 : u ≤ 0 := (nI_leI (a := u) (b := 0) (by omega) (by omega)).mp c_88
            exfalso; omega
          · have c_88 : 0 < u := Nat.not_le.mp (fun h => c_88 ((nI_leI (a := u) (b := 0) (by omega) (by omega)).mpr h))
            refine lv_aload_n hx hb dX8_writesStreet_91 rfl (lv_at hl 1 rfl) ?_
            refine lv_bipush (v := 48) hx hb dX8_writesStreet_92 (by decide) ?_
            refine lv_iload_n hx hb dX8_writesStreet_94 rfl (lv_at hl 0 rfl) ?_
            refine lv_bipush (v := 10) hx hb dX8_writesStreet_95 (by decide) ?_
            refine lv_irem hx hb dX8_writesStreet_97 (by decide) ?_
            refine x_i (y := (nI (u % 10))) (pk_rem (a := u) (d := 10) (by omega) (by omega) (by omega)) ?_
            refine lv_iadd hx hb dX8_writesStreet_98 ?_
            refine x_i (y := (nI (48 + (u % 10)))) (nI_add 48 (u % 10)) ?_
            refine x_cVv F X (gc := [mW q b0 b1 b2 b3 b4 b5 b6 b7 b8 s p sl sv pd fo to ou2_84 kn ln mn la op (nI ((((wr + 1) + 1) + 1) + 1))]) (gr := []) (xp_idx (n := 1) [0] (by decide +kernel) rfl rfl) (c_X8_writes l D q b0 b1 b2 b3 b4 b5 b6 b7 b8 s p sl sv pd fo to ou2_84 kn ln mn la op ((((wr + 1) + 1) + 1) + 1) (48 + (u % 10)) ((((S ++ [48 + w]) ++ [33]) ++ [42]) ++ [48 + u / 10]) (by assumption) (by first | assumption | omega)) (cwV 1 F.1.2.2.2.2 gX8_writesStreet_X8_writes rfl rfl rfl (by decide +kernel) ⟨Nat.le_of_ble_eq_true rfl, Nat.le_of_ble_eq_true rfl⟩) rfl rfl (r0 := 0) (ci := 8) (T := TX8) (N := 14) rfl rfl hl.1 ⟨Nat.le_of_ble_eq_true rfl, Nat.le_of_ble_eq_true rfl⟩ (Nat.le_of_ble_eq_true rfl) dX8_writesStreet_99 (fun g1 H locs hp X => ?_)
            obtain ⟨ou2_99, rfl, hou_9⟩ := hp
            have X : xS D A9 s9 [mW q b0 b1 b2 b3 b4 b5 b6 b7 b8 s p sl sv pd fo to ou2_99 kn ln mn la op (nI (((((wr + 1) + 1) + 1) + 1) + 1))] H locs := X
            refine hret _ _ _ _ _ ?_ X dX8_writesStreet_102
            refine ⟨_, _, rfl, ?_⟩
            show xOu (S ++ x_wsf (s (33 + 5 * k + 1)).toNatClampNeg (s (33 + 5 * k + 2)).toNatClampNeg (s (33 + 5 * k + 3)).toNatClampNeg (s (33 + 5 * k + 4)).toNatClampNeg) _ _
            rw [ew, ec, em, eu, nI_clamp (by omega), nI_clamp (by omega), nI_clamp (by omega), nI_clamp (by omega)]
            unfold x_wsf
            rw [if_neg (by omega), if_pos (by omega), if_pos (by omega), if_pos (by omega), if_pos (by omega)]
            simpa only [List.append_assoc, List.singleton_append, List.cons_append, List.nil_append, List.append_nil] using (by assumption : xOu (((((S ++ [48 + w]) ++ [33]) ++ [42]) ++ [48 + u / 10]) ++ [48 + u % 10]) _ _)
  · have c_19 : 0 < c1 := Nat.not_le.mp (fun h => c_19 ((nI_leI (a := c1) (b := 0) (by omega) (by omega)).mpr h))
    refine lv_aload_n hx hb dX8_writesStreet_22 rfl (lv_at hl 0 rfl) ?_
    refine lv_bipush (v := 97) hx hb dX8_writesStreet_23 (by decide) ?_
    refine lv_aload_n hx hb dX8_writesStreet_25 rfl (lv_at hl 0 rfl) ?_
    refine lv_iload_n hx hb dX8_writesStreet_26 rfl (lv_at hl 1 rfl) ?_
    refine lv_iconst (v := 2) hx hb dX8_writesStreet_27 (by decide) ?_
    refine x_cVi F X (gc := [mW q b0 b1 b2 b3 b4 b5 b6 b7 b8 s p sl sv pd fo to ou2_10 kn ln mn la op (nI (wr + 1))]) (gr := []) (xp_idx (n := 1) [0] (by decide +kernel) rfl rfl) (c_X8_its l D q b0 b1 b2 b3 b4 b5 b6 b7 b8 s p sl sv pd fo to ou2_10 kn ln mn la op (nI (wr + 1)) k 2 (by first | assumption | omega) (by first | assumption | omega)) (cwV 2 F.1.2.2.2.2 gX8_writesStreet_X8_its rfl rfl rfl (by decide +kernel) ⟨Nat.le_of_ble_eq_true rfl, Nat.le_of_ble_eq_true rfl⟩) rfl rfl (r0 := 0) (ci := 8) (T := TX8) (N := 14) rfl rfl hl.1 ⟨Nat.le_of_ble_eq_true rfl, Nat.le_of_ble_eq_true rfl⟩ (Nat.le_of_ble_eq_true rfl) dX8_writesStreet_28 (fun r_28 g1 H locs hp X => ?_)
    obtain ⟨rfl, rfl⟩ := hp
    have X : xS D A9 s9 [mW q b0 b1 b2 b3 b4 b5 b6 b7 b8 s p sl sv pd fo to ou2_10 kn ln mn la op (nI (wr + 1))] H locs := X
    refine x_i (y := (nI c1)) (ec) ?_
    refine lv_iadd hx hb dX8_writesStreet_31 ?_
    refine x_i (y := (nI (97 + c1))) (nI_add 97 c1) ?_
    refine lv_iconst (v := 1) hx hb dX8_writesStreet_32 (by decide) ?_
    refine lv_isub hx hb dX8_writesStreet_33 ?_
    refine x_i (y := (nI ((97 + c1) - 1))) (pk_sub (a := (97 + c1)) (b := 1) (by omega)) ?_
    refine x_cVv F X (gc := [mW q b0 b1 b2 b3 b4 b5 b6 b7 b8 s p sl sv pd fo to ou2_10 kn ln mn la op (nI (wr + 1))]) (gr := []) (xp_idx (n := 1) [0] (by decide +kernel) rfl rfl) (c_X8_writes l D q b0 b1 b2 b3 b4 b5 b6 b7 b8 s p sl sv pd fo to ou2_10 kn ln mn la op (wr + 1) ((97 + c1) - 1) (S ++ [48 + w]) (by assumption) (by first | assumption | omega)) (cwV 1 F.1.2.2.2.2 gX8_writesStreet_X8_writes rfl rfl rfl (by decide +kernel) ⟨Nat.le_of_ble_eq_true rfl, Nat.le_of_ble_eq_true rfl⟩) rfl rfl (r0 := 0) (ci := 8) (T := TX8) (N := 14) rfl rfl hl.1 ⟨Nat.le_of_ble_eq_true rfl, Nat.le_of_ble_eq_true rfl⟩ (Nat.le_of_ble_eq_true rfl) dX8_writesStreet_34 (fun g1 H locs hp X => ?_)
    obtain ⟨ou2_34, rfl, hou_9⟩ := hp
    have X : xS D A9 s9 [mW q b0 b1 b2 b3 b4 b5 b6 b7 b8 s p sl sv pd fo to ou2_34 kn ln mn la op (nI ((wr + 1) + 1))] H locs := X
    refine lv_aload_n hx hb dX8_writesStreet_37 rfl (lv_at hl 0 rfl) ?_
    refine lv_iload_n hx hb dX8_writesStreet_38 rfl (lv_at hl 1 rfl) ?_
    refine lv_iconst (v := 3) hx hb dX8_writesStreet_39 (by decide) ?_
    refine x_cVi F X (gc := [mW q b0 b1 b2 b3 b4 b5 b6 b7 b8 s p sl sv pd fo to ou2_34 kn ln mn la op (nI ((wr + 1) + 1))]) (gr := []) (xp_idx (n := 1) [0] (by decide +kernel) rfl rfl) (c_X8_its l D q b0 b1 b2 b3 b4 b5 b6 b7 b8 s p sl sv pd fo to ou2_34 kn ln mn la op (nI ((wr + 1) + 1)) k 3 (by first | assumption | omega) (by first | assumption | omega)) (cwV 2 F.1.2.2.2.2 gX8_writesStreet_X8_its rfl rfl rfl (by decide +kernel) ⟨Nat.le_of_ble_eq_true rfl, Nat.le_of_ble_eq_true rfl⟩) rfl rfl (r0 := 0) (ci := 8) (T := TX8) (N := 14) rfl rfl hl.1 ⟨Nat.le_of_ble_eq_true rfl, Nat.le_of_ble_eq_true rfl⟩ (Nat.le_of_ble_eq_true rfl) dX8_writesStreet_40 (fun r_40 g1 H locs hp X => ?_)
    obtain ⟨rfl, rfl⟩ := hp
    have X : xS D A9 s9 [mW q b0 b1 b2 b3 b4 b5 b6 b7 b8 s p sl sv pd fo to ou2_34 kn ln mn la op (nI ((wr + 1) + 1))] H locs := X
    refine x_i (y := (nI m1)) (em) ?_
    refine lv_iconst (v := 1) hx hb dX8_writesStreet_43 (by decide) ?_
    refine lv_icmp_ne (tgt := 53) hx hb dX8_writesStreet_44 (by decide) (fun c_44 => ?_) (fun c_44 => ?_)
    · have c_44 : ¬ (m1 = 1) := fun h => c_44 ((nI_eq (a := m1) (b := 1) (by omega) (by omega)).mpr h)
      refine lv_aload_n hx hb dX8_writesStreet_53 rfl (lv_at hl 0 rfl) ?_
      refine lv_iload_n hx hb dX8_writesStreet_54 rfl (lv_at hl 1 rfl) ?_
      refine lv_iconst (v := 4) hx hb dX8_writesStreet_55 (by decide) ?_
      refine x_cVi F X (gc := [mW q b0 b1 b2 b3 b4 b5 b6 b7 b8 s p sl sv pd fo to ou2_34 kn ln mn la op (nI ((wr + 1) + 1))]) (gr := []) (xp_idx (n := 1) [0] (by decide +kernel) rfl rfl) (c_X8_its l D q b0 b1 b2 b3 b4 b5 b6 b7 b8 s p sl sv pd fo to ou2_34 kn ln mn la op (nI ((wr + 1) + 1)) k 4 (by first | assumption | omega) (by first | assumption | omega)) (cwV 2 F.1.2.2.2.2 gX8_writesStreet_X8_its rfl rfl rfl (by decide +kernel) ⟨Nat.le_of_ble_eq_true rfl, Nat.le_of_ble_eq_true rfl⟩) rfl rfl (r0 := 0) (ci := 8) (T := TX8) (N := 14) rfl rfl hl.1 ⟨Nat.le_of_ble_eq_true rfl, Nat.le_of_ble_eq_true rfl⟩ (Nat.le_of_ble_eq_true rfl) dX8_writesStreet_56 (fun r_56 g1 H locs hp X => ?_)
      obtain ⟨rfl, rfl⟩ := hp
      have X : xS D A9 s9 [mW q b0 b1 b2 b3 b4 b5 b6 b7 b8 s p sl sv pd fo to ou2_34 kn ln mn la op (nI ((wr + 1) + 1))] H locs := X
      refine x_i (y := (nI u)) (eu) ?_
      refine lv_istore_n (lv' := [(2, .int (nI u)), (0, .ref b0), (1, .int (nI k))]) hx hb dX8_writesStreet_59 rfl hl (by decide) rfl (fun ls hl => ?_)
      refine lv_iload_n hx hb dX8_writesStreet_60 rfl (lv_at hl 0 rfl) ?_
      refine lv_if_le (tgt := 70) hx hb dX8_writesStreet_61 (by decide) (fun c_61 => ?_) (fun c_61 => ?_)
      · have c_61 : u ≤ 0 := (nI_leI (a := u) (b := 0) (by omega) (by omega)).mp c_61
        refine lv_iload_n hx hb dX8_writesStreet_70 rfl (lv_at hl 0 rfl) ?_
        refine lv_bipush (v := 9) hx hb dX8_writesStreet_71 (by decide) ?_
        refine lv_icmp_le (tgt := 87) hx hb dX8_writesStreet_73 (by decide) (fun c_73 => ?_) (fun c_73 => ?_)
        · have c_73 : u ≤ 9 := (nI_leI (a := u) (b := 9) (by omega) (by omega)).mp c_73
          refine lv_iload_n hx hb dX8_writesStreet_87 rfl (lv_at hl 0 rfl) ?_
          refine lv_if_le (tgt := 102) hx hb dX8_writesStreet_88 (by decide) (fun c_88 => ?_) (fun c_88 => ?_)
          · have c_88 : u ≤ 0 := (nI_leI (a := u) (b := 0) (by omega) (by omega)).mp c_88
            refine hret _ _ _ _ _ ?_ X dX8_writesStreet_102
            refine ⟨_, _, rfl, ?_⟩
            show xOu (S ++ x_wsf (s (33 + 5 * k + 1)).toNatClampNeg (s (33 + 5 * k + 2)).toNatClampNeg (s (33 + 5 * k + 3)).toNatClampNeg (s (33 + 5 * k + 4)).toNatClampNeg) _ _
            rw [ew, ec, em, eu, nI_clamp (by omega), nI_clamp (by omega), nI_clamp (by omega), nI_clamp (by omega)]
            unfold x_wsf
            rw [if_pos (by omega), if_neg (by omega), if_neg (by omega), if_neg (by omega), if_neg (by omega)]
            simpa only [List.append_assoc, List.singleton_append, List.cons_append, List.nil_append, List.append_nil] using (by assumption : xOu ((S ++ [48 + w]) ++ [97 + c1 - 1]) _ _)
          · have c_88 : 0 < u := Nat.not_le.mp (fun h => c_88 ((nI_leI (a := u) (b := 0) (by omega) (by omega)).mpr h))
            exfalso; omega
        · have c_73 : 9 < u := Nat.not_le.mp (fun h => c_73 ((nI_leI (a := u) (b := 9) (by omega) (by omega)).mpr h))
          exfalso; omega
      · have c_61 : 0 < u := Nat.not_le.mp (fun h => c_61 ((nI_leI (a := u) (b := 0) (by omega) (by omega)).mpr h))
        refine lv_aload_n hx hb dX8_writesStreet_64 rfl (lv_at hl 1 rfl) ?_
        refine lv_bipush (v := 42) hx hb dX8_writesStreet_65 (by decide) ?_
        refine x_cVv F X (gc := [mW q b0 b1 b2 b3 b4 b5 b6 b7 b8 s p sl sv pd fo to ou2_34 kn ln mn la op (nI ((wr + 1) + 1))]) (gr := []) (xp_idx (n := 1) [0] (by decide +kernel) rfl rfl) (c_X8_writes l D q b0 b1 b2 b3 b4 b5 b6 b7 b8 s p sl sv pd fo to ou2_34 kn ln mn la op ((wr + 1) + 1) 42 ((S ++ [48 + w]) ++ [97 + c1 - 1]) (by assumption) (by first | assumption | omega)) (cwV 1 F.1.2.2.2.2 gX8_writesStreet_X8_writes rfl rfl rfl (by decide +kernel) ⟨Nat.le_of_ble_eq_true rfl, Nat.le_of_ble_eq_true rfl⟩) rfl rfl (r0 := 0) (ci := 8) (T := TX8) (N := 14) rfl rfl hl.1 ⟨Nat.le_of_ble_eq_true rfl, Nat.le_of_ble_eq_true rfl⟩ (Nat.le_of_ble_eq_true rfl) dX8_writesStreet_67 (fun g1 H locs hp X => ?_)
        obtain ⟨ou2_67, rfl, hou_9⟩ := hp
        have X : xS D A9 s9 [mW q b0 b1 b2 b3 b4 b5 b6 b7 b8 s p sl sv pd fo to ou2_67 kn ln mn la op (nI (((wr + 1) + 1) + 1))] H locs := X
        refine lv_iload_n hx hb dX8_writesStreet_70 rfl (lv_at hl 0 rfl) ?_
        refine lv_bipush (v := 9) hx hb dX8_writesStreet_71 (by decide) ?_
        refine lv_icmp_le (tgt := 87) hx hb dX8_writesStreet_73 (by decide) (fun c_73 => ?_) (fun c_73 => ?_)
        · have c_73 : u ≤ 9 := (nI_leI (a := u) (b := 9) (by omega) (by omega)).mp c_73
          refine lv_iload_n hx hb dX8_writesStreet_87 rfl (lv_at hl 0 rfl) ?_
          refine lv_if_le (tgt := 102) hx hb dX8_writesStreet_88 (by decide) (fun c_88 => ?_) (fun c_88 => ?_)
          · have c_88 : u ≤ 0 := (nI_leI (a := u) (b := 0) (by omega) (by omega)).mp c_88
            exfalso; omega
          · have c_88 : 0 < u := Nat.not_le.mp (fun h => c_88 ((nI_leI (a := u) (b := 0) (by omega) (by omega)).mpr h))
            refine lv_aload_n hx hb dX8_writesStreet_91 rfl (lv_at hl 1 rfl) ?_
            refine lv_bipush (v := 48) hx hb dX8_writesStreet_92 (by decide) ?_
            refine lv_iload_n hx hb dX8_writesStreet_94 rfl (lv_at hl 0 rfl) ?_
            refine lv_bipush (v := 10) hx hb dX8_writesStreet_95 (by decide) ?_
            refine lv_irem hx hb dX8_writesStreet_97 (by decide) ?_
            refine x_i (y := (nI (u % 10))) (pk_rem (a := u) (d := 10) (by omega) (by omega) (by omega)) ?_
            refine lv_iadd hx hb dX8_writesStreet_98 ?_
            refine x_i (y := (nI (48 + (u % 10)))) (nI_add 48 (u % 10)) ?_
            refine x_cVv F X (gc := [mW q b0 b1 b2 b3 b4 b5 b6 b7 b8 s p sl sv pd fo to ou2_67 kn ln mn la op (nI (((wr + 1) + 1) + 1))]) (gr := []) (xp_idx (n := 1) [0] (by decide +kernel) rfl rfl) (c_X8_writes l D q b0 b1 b2 b3 b4 b5 b6 b7 b8 s p sl sv pd fo to ou2_67 kn ln mn la op (((wr + 1) + 1) + 1) (48 + (u % 10)) (((S ++ [48 + w]) ++ [97 + c1 - 1]) ++ [42]) (by assumption) (by first | assumption | omega)) (cwV 1 F.1.2.2.2.2 gX8_writesStreet_X8_writes rfl rfl rfl (by decide +kernel) ⟨Nat.le_of_ble_eq_true rfl, Nat.le_of_ble_eq_true rfl⟩) rfl rfl (r0 := 0) (ci := 8) (T := TX8) (N := 14) rfl rfl hl.1 ⟨Nat.le_of_ble_eq_true rfl, Nat.le_of_ble_eq_true rfl⟩ (Nat.le_of_ble_eq_true rfl) dX8_writesStreet_99 (fun g1 H locs hp X => ?_)
            obtain ⟨ou2_99, rfl, hou_9⟩ := hp
            have X : xS D A9 s9 [mW q b0 b1 b2 b3 b4 b5 b6 b7 b8 s p sl sv pd fo to ou2_99 kn ln mn la op (nI ((((wr + 1) + 1) + 1) + 1))] H locs := X
            refine hret _ _ _ _ _ ?_ X dX8_writesStreet_102
            refine ⟨_, _, rfl, ?_⟩
            show xOu (S ++ x_wsf (s (33 + 5 * k + 1)).toNatClampNeg (s (33 + 5 * k + 2)).toNatClampNeg (s (33 + 5 * k + 3)).toNatClampNeg (s (33 + 5 * k + 4)).toNatClampNeg) _ _
            rw [ew, ec, em, eu, nI_clamp (by omega), nI_clamp (by omega), nI_clamp (by omega), nI_clamp (by omega)]
            unfold x_wsf
            rw [if_pos (by omega), if_neg (by omega), if_pos (by omega), if_neg (by omega), if_pos (by omega)]
            simpa only [List.append_assoc, List.singleton_append, List.cons_append, List.nil_append, List.append_nil] using (by assumption : xOu ((((S ++ [48 + w]) ++ [97 + c1 - 1]) ++ [42]) ++ [48 + u % 10]) _ _)
        · have c_73 : 9 < u := Nat.not_le.mp (fun h => c_73 ((nI_leI (a := u) (b := 9) (by omega) (by omega)).mpr h))
          refine lv_aload_n hx hb dX8_writesStreet_76 rfl (lv_at hl 1 rfl) ?_
          refine lv_bipush (v := 48) hx hb dX8_writesStreet_77 (by decide) ?_
          refine lv_iload_n hx hb dX8_writesStreet_79 rfl (lv_at hl 0 rfl) ?_
          refine lv_bipush (v := 10) hx hb dX8_writesStreet_80 (by decide) ?_
          refine lv_idiv hx hb dX8_writesStreet_82 (by decide) ?_
          refine x_i (y := (nI (u / 10))) (pk_div (a := u) (d := 10) (by omega) (by omega) (by omega)) ?_
          refine lv_iadd hx hb dX8_writesStreet_83 ?_
          refine x_i (y := (nI (48 + (u / 10)))) (nI_add 48 (u / 10)) ?_
          refine x_cVv F X (gc := [mW q b0 b1 b2 b3 b4 b5 b6 b7 b8 s p sl sv pd fo to ou2_67 kn ln mn la op (nI (((wr + 1) + 1) + 1))]) (gr := []) (xp_idx (n := 1) [0] (by decide +kernel) rfl rfl) (c_X8_writes l D q b0 b1 b2 b3 b4 b5 b6 b7 b8 s p sl sv pd fo to ou2_67 kn ln mn la op (((wr + 1) + 1) + 1) (48 + (u / 10)) (((S ++ [48 + w]) ++ [97 + c1 - 1]) ++ [42]) (by assumption) (by first | assumption | omega)) (cwV 1 F.1.2.2.2.2 gX8_writesStreet_X8_writes rfl rfl rfl (by decide +kernel) ⟨Nat.le_of_ble_eq_true rfl, Nat.le_of_ble_eq_true rfl⟩) rfl rfl (r0 := 0) (ci := 8) (T := TX8) (N := 14) rfl rfl hl.1 ⟨Nat.le_of_ble_eq_true rfl, Nat.le_of_ble_eq_true rfl⟩ (Nat.le_of_ble_eq_true rfl) dX8_writesStreet_84 (fun g1 H locs hp X => ?_)
          obtain ⟨ou2_84, rfl, hou_9⟩ := hp
          have X : xS D A9 s9 [mW q b0 b1 b2 b3 b4 b5 b6 b7 b8 s p sl sv pd fo to ou2_84 kn ln mn la op (nI ((((wr + 1) + 1) + 1) + 1))] H locs := X
          refine lv_iload_n hx hb dX8_writesStreet_87 rfl (lv_at hl 0 rfl) ?_
          refine lv_if_le (tgt := 102) hx hb dX8_writesStreet_88 (by decide) (fun c_88 => ?_) (fun c_88 => ?_)
          · have c_88 : u ≤ 0 := (nI_leI (a := u) (b := 0) (by omega) (by omega)).mp c_88
            exfalso; omega
          · have c_88 : 0 < u := Nat.not_le.mp (fun h => c_88 ((nI_leI (a := u) (b := 0) (by omega) (by omega)).mpr h))
            refine lv_aload_n hx hb dX8_writesStreet_91 rfl (lv_at hl 1 rfl) ?_
            refine lv_bipush (v := 48) hx hb dX8_writesStreet_92 (by decide) ?_
            refine lv_iload_n hx hb dX8_writesStreet_94 rfl (lv_at hl 0 rfl) ?_
            refine lv_bipush (v := 10) hx hb dX8_writesStreet_95 (by decide) ?_
            refine lv_irem hx hb dX8_writesStreet_97 (by decide) ?_
            refine x_i (y := (nI (u % 10))) (pk_rem (a := u) (d := 10) (by omega) (by omega) (by omega)) ?_
            refine lv_iadd hx hb dX8_writesStreet_98 ?_
            refine x_i (y := (nI (48 + (u % 10)))) (nI_add 48 (u % 10)) ?_
            refine x_cVv F X (gc := [mW q b0 b1 b2 b3 b4 b5 b6 b7 b8 s p sl sv pd fo to ou2_84 kn ln mn la op (nI ((((wr + 1) + 1) + 1) + 1))]) (gr := []) (xp_idx (n := 1) [0] (by decide +kernel) rfl rfl) (c_X8_writes l D q b0 b1 b2 b3 b4 b5 b6 b7 b8 s p sl sv pd fo to ou2_84 kn ln mn la op ((((wr + 1) + 1) + 1) + 1) (48 + (u % 10)) ((((S ++ [48 + w]) ++ [97 + c1 - 1]) ++ [42]) ++ [48 + u / 10]) (by assumption) (by first | assumption | omega)) (cwV 1 F.1.2.2.2.2 gX8_writesStreet_X8_writes rfl rfl rfl (by decide +kernel) ⟨Nat.le_of_ble_eq_true rfl, Nat.le_of_ble_eq_true rfl⟩) rfl rfl (r0 := 0) (ci := 8) (T := TX8) (N := 14) rfl rfl hl.1 ⟨Nat.le_of_ble_eq_true rfl, Nat.le_of_ble_eq_true rfl⟩ (Nat.le_of_ble_eq_true rfl) dX8_writesStreet_99 (fun g1 H locs hp X => ?_)
            obtain ⟨ou2_99, rfl, hou_9⟩ := hp
            have X : xS D A9 s9 [mW q b0 b1 b2 b3 b4 b5 b6 b7 b8 s p sl sv pd fo to ou2_99 kn ln mn la op (nI (((((wr + 1) + 1) + 1) + 1) + 1))] H locs := X
            refine hret _ _ _ _ _ ?_ X dX8_writesStreet_102
            refine ⟨_, _, rfl, ?_⟩
            show xOu (S ++ x_wsf (s (33 + 5 * k + 1)).toNatClampNeg (s (33 + 5 * k + 2)).toNatClampNeg (s (33 + 5 * k + 3)).toNatClampNeg (s (33 + 5 * k + 4)).toNatClampNeg) _ _
            rw [ew, ec, em, eu, nI_clamp (by omega), nI_clamp (by omega), nI_clamp (by omega), nI_clamp (by omega)]
            unfold x_wsf
            rw [if_pos (by omega), if_neg (by omega), if_pos (by omega), if_pos (by omega), if_pos (by omega)]
            simpa only [List.append_assoc, List.singleton_append, List.cons_append, List.nil_append, List.append_nil] using (by assumption : xOu (((((S ++ [48 + w]) ++ [97 + c1 - 1]) ++ [42]) ++ [48 + u / 10]) ++ [48 + u % 10]) _ _)
    · have c_44 : m1 = 1 := (nI_eq (a := m1) (b := 1) (by omega) (by omega)).mp c_44
      refine lv_aload_n hx hb dX8_writesStreet_47 rfl (lv_at hl 0 rfl) ?_
      refine lv_bipush (v := 33) hx hb dX8_writesStreet_48 (by decide) ?_
      refine x_cVv F X (gc := [mW q b0 b1 b2 b3 b4 b5 b6 b7 b8 s p sl sv pd fo to ou2_34 kn ln mn la op (nI ((wr + 1) + 1))]) (gr := []) (xp_idx (n := 1) [0] (by decide +kernel) rfl rfl) (c_X8_writes l D q b0 b1 b2 b3 b4 b5 b6 b7 b8 s p sl sv pd fo to ou2_34 kn ln mn la op ((wr + 1) + 1) 33 ((S ++ [48 + w]) ++ [97 + c1 - 1]) (by assumption) (by first | assumption | omega)) (cwV 1 F.1.2.2.2.2 gX8_writesStreet_X8_writes rfl rfl rfl (by decide +kernel) ⟨Nat.le_of_ble_eq_true rfl, Nat.le_of_ble_eq_true rfl⟩) rfl rfl (r0 := 0) (ci := 8) (T := TX8) (N := 14) rfl rfl hl.1 ⟨Nat.le_of_ble_eq_true rfl, Nat.le_of_ble_eq_true rfl⟩ (Nat.le_of_ble_eq_true rfl) dX8_writesStreet_50 (fun g1 H locs hp X => ?_)
      obtain ⟨ou2_50, rfl, hou_9⟩ := hp
      have X : xS D A9 s9 [mW q b0 b1 b2 b3 b4 b5 b6 b7 b8 s p sl sv pd fo to ou2_50 kn ln mn la op (nI (((wr + 1) + 1) + 1))] H locs := X
      refine lv_aload_n hx hb dX8_writesStreet_53 rfl (lv_at hl 0 rfl) ?_
      refine lv_iload_n hx hb dX8_writesStreet_54 rfl (lv_at hl 1 rfl) ?_
      refine lv_iconst (v := 4) hx hb dX8_writesStreet_55 (by decide) ?_
      refine x_cVi F X (gc := [mW q b0 b1 b2 b3 b4 b5 b6 b7 b8 s p sl sv pd fo to ou2_50 kn ln mn la op (nI (((wr + 1) + 1) + 1))]) (gr := []) (xp_idx (n := 1) [0] (by decide +kernel) rfl rfl) (c_X8_its l D q b0 b1 b2 b3 b4 b5 b6 b7 b8 s p sl sv pd fo to ou2_50 kn ln mn la op (nI (((wr + 1) + 1) + 1)) k 4 (by first | assumption | omega) (by first | assumption | omega)) (cwV 2 F.1.2.2.2.2 gX8_writesStreet_X8_its rfl rfl rfl (by decide +kernel) ⟨Nat.le_of_ble_eq_true rfl, Nat.le_of_ble_eq_true rfl⟩) rfl rfl (r0 := 0) (ci := 8) (T := TX8) (N := 14) rfl rfl hl.1 ⟨Nat.le_of_ble_eq_true rfl, Nat.le_of_ble_eq_true rfl⟩ (Nat.le_of_ble_eq_true rfl) dX8_writesStreet_56 (fun r_56 g1 H locs hp X => ?_)
      obtain ⟨rfl, rfl⟩ := hp
      have X : xS D A9 s9 [mW q b0 b1 b2 b3 b4 b5 b6 b7 b8 s p sl sv pd fo to ou2_50 kn ln mn la op (nI (((wr + 1) + 1) + 1))] H locs := X
      refine x_i (y := (nI u)) (eu) ?_
      refine lv_istore_n (lv' := [(2, .int (nI u)), (0, .ref b0), (1, .int (nI k))]) hx hb dX8_writesStreet_59 rfl hl (by decide) rfl (fun ls hl => ?_)
      refine lv_iload_n hx hb dX8_writesStreet_60 rfl (lv_at hl 0 rfl) ?_
      refine lv_if_le (tgt := 70) hx hb dX8_writesStreet_61 (by decide) (fun c_61 => ?_) (fun c_61 => ?_)
      · have c_61 : u ≤ 0 := (nI_leI (a := u) (b := 0) (by omega) (by omega)).mp c_61
        refine lv_iload_n hx hb dX8_writesStreet_70 rfl (lv_at hl 0 rfl) ?_
        refine lv_bipush (v := 9) hx hb dX8_writesStreet_71 (by decide) ?_
        refine lv_icmp_le (tgt := 87) hx hb dX8_writesStreet_73 (by decide) (fun c_73 => ?_) (fun c_73 => ?_)
        · have c_73 : u ≤ 9 := (nI_leI (a := u) (b := 9) (by omega) (by omega)).mp c_73
          refine lv_iload_n hx hb dX8_writesStreet_87 rfl (lv_at hl 0 rfl) ?_
          refine lv_if_le (tgt := 102) hx hb dX8_writesStreet_88 (by decide) (fun c_88 => ?_) (fun c_88 => ?_)
          · have c_88 : u ≤ 0 := (nI_leI (a := u) (b := 0) (by omega) (by omega)).mp c_88
            refine hret _ _ _ _ _ ?_ X dX8_writesStreet_102
            refine ⟨_, _, rfl, ?_⟩
            show xOu (S ++ x_wsf (s (33 + 5 * k + 1)).toNatClampNeg (s (33 + 5 * k + 2)).toNatClampNeg (s (33 + 5 * k + 3)).toNatClampNeg (s (33 + 5 * k + 4)).toNatClampNeg) _ _
            rw [ew, ec, em, eu, nI_clamp (by omega), nI_clamp (by omega), nI_clamp (by omega), nI_clamp (by omega)]
            unfold x_wsf
            rw [if_pos (by omega), if_pos (by omega), if_neg (by omega), if_neg (by omega), if_neg (by omega)]
            simpa only [List.append_assoc, List.singleton_append, List.cons_append, List.nil_append, List.append_nil] using (by assumption : xOu (((S ++ [48 + w]) ++ [97 + c1 - 1]) ++ [33]) _ _)
          · have c_88 : 0 < u := Nat.not_le.mp (fun h => c_88 ((nI_leI (a := u) (b := 0) (by omega) (by omega)).mpr h))
            exfalso; omega
        · have c_73 : 9 < u := Nat.not_le.mp (fun h => c_73 ((nI_leI (a := u) (b := 9) (by omega) (by omega)).mpr h))
          exfalso; omega
      · have c_61 : 0 < u := Nat.not_le.mp (fun h => c_61 ((nI_leI (a := u) (b := 0) (by omega) (by omega)).mpr h))
        refine lv_aload_n hx hb dX8_writesStreet_64 rfl (lv_at hl 1 rfl) ?_
        refine lv_bipush (v := 42) hx hb dX8_writesStreet_65 (by decide) ?_
        refine x_cVv F X (gc := [mW q b0 b1 b2 b3 b4 b5 b6 b7 b8 s p sl sv pd fo to ou2_50 kn ln mn la op (nI (((wr + 1) + 1) + 1))]) (gr := []) (xp_idx (n := 1) [0] (by decide +kernel) rfl rfl) (c_X8_writes l D q b0 b1 b2 b3 b4 b5 b6 b7 b8 s p sl sv pd fo to ou2_50 kn ln mn la op (((wr + 1) + 1) + 1) 42 (((S ++ [48 + w]) ++ [97 + c1 - 1]) ++ [33]) (by assumption) (by first | assumption | omega)) (cwV 1 F.1.2.2.2.2 gX8_writesStreet_X8_writes rfl rfl rfl (by decide +kernel) ⟨Nat.le_of_ble_eq_true rfl, Nat.le_of_ble_eq_true rfl⟩) rfl rfl (r0 := 0) (ci := 8) (T := TX8) (N := 14) rfl rfl hl.1 ⟨Nat.le_of_ble_eq_true rfl, Nat.le_of_ble_eq_true rfl⟩ (Nat.le_of_ble_eq_true rfl) dX8_writesStreet_67 (fun g1 H locs hp X => ?_)
        obtain ⟨ou2_67, rfl, hou_9⟩ := hp
        have X : xS D A9 s9 [mW q b0 b1 b2 b3 b4 b5 b6 b7 b8 s p sl sv pd fo to ou2_67 kn ln mn la op (nI ((((wr + 1) + 1) + 1) + 1))] H locs := X
        refine lv_iload_n hx hb dX8_writesStreet_70 rfl (lv_at hl 0 rfl) ?_
        refine lv_bipush (v := 9) hx hb dX8_writesStreet_71 (by decide) ?_
        refine lv_icmp_le (tgt := 87) hx hb dX8_writesStreet_73 (by decide) (fun c_73 => ?_) (fun c_73 => ?_)
        · have c_73 : u ≤ 9 := (nI_leI (a := u) (b := 9) (by omega) (by omega)).mp c_73
          refine lv_iload_n hx hb dX8_writesStreet_87 rfl (lv_at hl 0 rfl) ?_
          refine lv_if_le (tgt := 102) hx hb dX8_writesStreet_88 (by decide) (fun c_88 => ?_) (fun c_88 => ?_)
          · have c_88 : u ≤ 0 := (nI_leI (a := u) (b := 0) (by omega) (by omega)).mp c_88
            exfalso; omega
          · have c_88 : 0 < u := Nat.not_le.mp (fun h => c_88 ((nI_leI (a := u) (b := 0) (by omega) (by omega)).mpr h))
            refine lv_aload_n hx hb dX8_writesStreet_91 rfl (lv_at hl 1 rfl) ?_
            refine lv_bipush (v := 48) hx hb dX8_writesStreet_92 (by decide) ?_
            refine lv_iload_n hx hb dX8_writesStreet_94 rfl (lv_at hl 0 rfl) ?_
            refine lv_bipush (v := 10) hx hb dX8_writesStreet_95 (by decide) ?_
            refine lv_irem hx hb dX8_writesStreet_97 (by decide) ?_
            refine x_i (y := (nI (u % 10))) (pk_rem (a := u) (d := 10) (by omega) (by omega) (by omega)) ?_
            refine lv_iadd hx hb dX8_writesStreet_98 ?_
            refine x_i (y := (nI (48 + (u % 10)))) (nI_add 48 (u % 10)) ?_
            refine x_cVv F X (gc := [mW q b0 b1 b2 b3 b4 b5 b6 b7 b8 s p sl sv pd fo to ou2_67 kn ln mn la op (nI ((((wr + 1) + 1) + 1) + 1))]) (gr := []) (xp_idx (n := 1) [0] (by decide +kernel) rfl rfl) (c_X8_writes l D q b0 b1 b2 b3 b4 b5 b6 b7 b8 s p sl sv pd fo to ou2_67 kn ln mn la op ((((wr + 1) + 1) + 1) + 1) (48 + (u % 10)) ((((S ++ [48 + w]) ++ [97 + c1 - 1]) ++ [33]) ++ [42]) (by assumption) (by first | assumption | omega)) (cwV 1 F.1.2.2.2.2 gX8_writesStreet_X8_writes rfl rfl rfl (by decide +kernel) ⟨Nat.le_of_ble_eq_true rfl, Nat.le_of_ble_eq_true rfl⟩) rfl rfl (r0 := 0) (ci := 8) (T := TX8) (N := 14) rfl rfl hl.1 ⟨Nat.le_of_ble_eq_true rfl, Nat.le_of_ble_eq_true rfl⟩ (Nat.le_of_ble_eq_true rfl) dX8_writesStreet_99 (fun g1 H locs hp X => ?_)
            obtain ⟨ou2_99, rfl, hou_9⟩ := hp
            have X : xS D A9 s9 [mW q b0 b1 b2 b3 b4 b5 b6 b7 b8 s p sl sv pd fo to ou2_99 kn ln mn la op (nI (((((wr + 1) + 1) + 1) + 1) + 1))] H locs := X
            refine hret _ _ _ _ _ ?_ X dX8_writesStreet_102
            refine ⟨_, _, rfl, ?_⟩
            show xOu (S ++ x_wsf (s (33 + 5 * k + 1)).toNatClampNeg (s (33 + 5 * k + 2)).toNatClampNeg (s (33 + 5 * k + 3)).toNatClampNeg (s (33 + 5 * k + 4)).toNatClampNeg) _ _
            rw [ew, ec, em, eu, nI_clamp (by omega), nI_clamp (by omega), nI_clamp (by omega), nI_clamp (by omega)]
            unfold x_wsf
            rw [if_pos (by omega), if_pos (by omega), if_pos (by omega), if_neg (by omega), if_pos (by omega)]
            simpa only [List.append_assoc, List.singleton_append, List.cons_append, List.nil_append, List.append_nil] using (by assumption : xOu (((((S ++ [48 + w]) ++ [97 + c1 - 1]) ++ [33]) ++ [42]) ++ [48 + u % 10]) _ _)
        · have c_73 : 9 < u := Nat.not_le.mp (fun h => c_73 ((nI_leI (a := u) (b := 9) (by omega) (by omega)).mpr h))
          refine lv_aload_n hx hb dX8_writesStreet_76 rfl (lv_at hl 1 rfl) ?_
          refine lv_bipush (v := 48) hx hb dX8_writesStreet_77 (by decide) ?_
          refine lv_iload_n hx hb dX8_writesStreet_79 rfl (lv_at hl 0 rfl) ?_
          refine lv_bipush (v := 10) hx hb dX8_writesStreet_80 (by decide) ?_
          refine lv_idiv hx hb dX8_writesStreet_82 (by decide) ?_
          refine x_i (y := (nI (u / 10))) (pk_div (a := u) (d := 10) (by omega) (by omega) (by omega)) ?_
          refine lv_iadd hx hb dX8_writesStreet_83 ?_
          refine x_i (y := (nI (48 + (u / 10)))) (nI_add 48 (u / 10)) ?_
          refine x_cVv F X (gc := [mW q b0 b1 b2 b3 b4 b5 b6 b7 b8 s p sl sv pd fo to ou2_67 kn ln mn la op (nI ((((wr + 1) + 1) + 1) + 1))]) (gr := []) (xp_idx (n := 1) [0] (by decide +kernel) rfl rfl) (c_X8_writes l D q b0 b1 b2 b3 b4 b5 b6 b7 b8 s p sl sv pd fo to ou2_67 kn ln mn la op ((((wr + 1) + 1) + 1) + 1) (48 + (u / 10)) ((((S ++ [48 + w]) ++ [97 + c1 - 1]) ++ [33]) ++ [42]) (by assumption) (by first | assumption | omega)) (cwV 1 F.1.2.2.2.2 gX8_writesStreet_X8_writes rfl rfl rfl (by decide +kernel) ⟨Nat.le_of_ble_eq_true rfl, Nat.le_of_ble_eq_true rfl⟩) rfl rfl (r0 := 0) (ci := 8) (T := TX8) (N := 14) rfl rfl hl.1 ⟨Nat.le_of_ble_eq_true rfl, Nat.le_of_ble_eq_true rfl⟩ (Nat.le_of_ble_eq_true rfl) dX8_writesStreet_84 (fun g1 H locs hp X => ?_)
          obtain ⟨ou2_84, rfl, hou_9⟩ := hp
          have X : xS D A9 s9 [mW q b0 b1 b2 b3 b4 b5 b6 b7 b8 s p sl sv pd fo to ou2_84 kn ln mn la op (nI (((((wr + 1) + 1) + 1) + 1) + 1))] H locs := X
          refine lv_iload_n hx hb dX8_writesStreet_87 rfl (lv_at hl 0 rfl) ?_
          refine lv_if_le (tgt := 102) hx hb dX8_writesStreet_88 (by decide) (fun c_88 => ?_) (fun c_88 => ?_)
          · have c_88 : u ≤ 0 := (nI_leI (a := u) (b := 0) (by omega) (by omega)).mp c_88
            exfalso; omega
          · have c_88 : 0 < u := Nat.not_le.mp (fun h => c_88 ((nI_leI (a := u) (b := 0) (by omega) (by omega)).mpr h))
            refine lv_aload_n hx hb dX8_writesStreet_91 rfl (lv_at hl 1 rfl) ?_
            refine lv_bipush (v := 48) hx hb dX8_writesStreet_92 (by decide) ?_
            refine lv_iload_n hx hb dX8_writesStreet_94 rfl (lv_at hl 0 rfl) ?_
            refine lv_bipush (v := 10) hx hb dX8_writesStreet_95 (by decide) ?_
            refine lv_irem hx hb dX8_writesStreet_97 (by decide) ?_
            refine x_i (y := (nI (u % 10))) (pk_rem (a := u) (d := 10) (by omega) (by omega) (by omega)) ?_
            refine lv_iadd hx hb dX8_writesStreet_98 ?_
            refine x_i (y := (nI (48 + (u % 10)))) (nI_add 48 (u % 10)) ?_
            refine x_cVv F X (gc := [mW q b0 b1 b2 b3 b4 b5 b6 b7 b8 s p sl sv pd fo to ou2_84 kn ln mn la op (nI (((((wr + 1) + 1) + 1) + 1) + 1))]) (gr := []) (xp_idx (n := 1) [0] (by decide +kernel) rfl rfl) (c_X8_writes l D q b0 b1 b2 b3 b4 b5 b6 b7 b8 s p sl sv pd fo to ou2_84 kn ln mn la op (((((wr + 1) + 1) + 1) + 1) + 1) (48 + (u % 10)) (((((S ++ [48 + w]) ++ [97 + c1 - 1]) ++ [33]) ++ [42]) ++ [48 + u / 10]) (by assumption) (by first | assumption | omega)) (cwV 1 F.1.2.2.2.2 gX8_writesStreet_X8_writes rfl rfl rfl (by decide +kernel) ⟨Nat.le_of_ble_eq_true rfl, Nat.le_of_ble_eq_true rfl⟩) rfl rfl (r0 := 0) (ci := 8) (T := TX8) (N := 14) rfl rfl hl.1 ⟨Nat.le_of_ble_eq_true rfl, Nat.le_of_ble_eq_true rfl⟩ (Nat.le_of_ble_eq_true rfl) dX8_writesStreet_99 (fun g1 H locs hp X => ?_)
            obtain ⟨ou2_99, rfl, hou_9⟩ := hp
            have X : xS D A9 s9 [mW q b0 b1 b2 b3 b4 b5 b6 b7 b8 s p sl sv pd fo to ou2_99 kn ln mn la op (nI ((((((wr + 1) + 1) + 1) + 1) + 1) + 1))] H locs := X
            refine hret _ _ _ _ _ ?_ X dX8_writesStreet_102
            refine ⟨_, _, rfl, ?_⟩
            show xOu (S ++ x_wsf (s (33 + 5 * k + 1)).toNatClampNeg (s (33 + 5 * k + 2)).toNatClampNeg (s (33 + 5 * k + 3)).toNatClampNeg (s (33 + 5 * k + 4)).toNatClampNeg) _ _
            rw [ew, ec, em, eu, nI_clamp (by omega), nI_clamp (by omega), nI_clamp (by omega), nI_clamp (by omega)]
            unfold x_wsf
            rw [if_pos (by omega), if_pos (by omega), if_pos (by omega), if_pos (by omega), if_pos (by omega)]
            simpa only [List.append_assoc, List.singleton_append, List.cons_append, List.nil_append, List.append_nil] using (by assumption : xOu ((((((S ++ [48 + w]) ++ [97 + c1 - 1]) ++ [33]) ++ [42]) ++ [48 + u / 10]) ++ [48 + u % 10]) _ _)

set_option maxHeartbeats 1000000 in
set_option maxRecDepth 100000 in
theorem c_X8_nextBranch (l : Launch) (D : va_G) (q : xQ) (b0 : Nat) (b1 : Nat) (b2 : Nat) (b3 : Nat) (b4 : Nat) (b5 : Nat) (b6 : Nat) (b7 : Nat) (b8 : Nat) (s : Nat → Int32) (p : Nat → Int32) (sl : Nat → Int32) (sv : Nat → Int32) (pd : Nat → Int32) (fo : Nat → Int32) (to : Nat → Int32) (ou : Nat → Int32) (kn : Int32) (ln : Int32) (mn : Int32) (la : Int32) (op : Int32) (wr : Int32) (n : Nat) (pr : Nat → Nat) (k : Nat) (j : Nat) (hok : x_ok s n pr) (hk : k < n) (hj : j < n) : xMi l yX8_nextBranch wsX8_nextBranch { frames := 2, cells := 0, slots := 0, locals := 43 } D q [.ref b0, .int (nI k), .int (nI j)] [mW q b0 b1 b2 b3 b4 b5 b6 b7 b8 s p sl sv pd fo to ou kn ln mn la op wr] (fun r gw => gw = [mW q b0 b1 b2 b3 b4 b5 b6 b7 b8 s p sl sv pd fo to ou kn ln mn la op wr] ∧ ((∃ o, (j < o ∧ 1 ≤ o) ∧ o < n ∧ x_nb pr n k j = o ∧ pr o = k ∧ r = nI o) ∨ (¬ x_nb pr n k j < n ∧ r = -6))) := by
  refine xMi_of (cc := cX8_nextBranch) (maxL := 4) (rt := .int) (by decide) rfl (Nat.le_of_ble_eq_true rfl) (fun _ _ _ => rfl) ?_
  intro p9 e9 s9 m9 a9 below meth c9 A9 Z9 ls H locs F X hl hret
  have hx := F.1.1
  have hb := F.1.2.1
  have in_X8 : ∀ w ∈ wsX80, w ∈ wsX8_nextBranch := by decide +kernel
  have mw_0 : Cond.fieldLink RX8 7 "HatWindsModel" "s" "[I" ∈ wsX8_nextBranch := by decide +kernel
  have mw_1 : Cond.initialized RX8 ∈ wsX8_nextBranch := by decide +kernel
  have hl : lv_has ls 4 [(0, .ref b0), (1, .int (nI k)), (2, .int (nI j))] := hl
  have hok0 := hok
  obtain ⟨hn, hn1, hs5, hs33, hpr, hwd, hcl, hsm, hpe, hst, hle, hhr, hcn⟩ := hok0
  refine lv_iload_n hx hb dX8_nextBranch_0 rfl (lv_at hl 2 rfl) ?_
  refine lv_iconst (v := 1) hx hb dX8_nextBranch_1 (by decide) ?_
  refine lv_iadd hx hb dX8_nextBranch_2 ?_
  refine x_i (y := (nI (j + 1))) (nI_add j 1) ?_
  refine lv_istore_n (lv' := [(3, .int (nI (j + 1))), (0, .ref b0), (1, .int (nI k)), (2, .int (nI j))]) hx hb dX8_nextBranch_3 rfl hl (by decide) rfl (fun ls hl => ?_)
  have L_4 : ∀ (nn : Nat) (o : Nat) (H : Heap) (locs : List Loc) (ls : Array Slot), xS D A9 s9 [mW q b0 b1 b2 b3 b4 b5 b6 b7 b8 s p sl sv pd fo to ou kn ln mn la op wr] H locs → lv_has ls 4 [(3, .int (nI o)), (0, .ref b0), (1, .int (nI k)), (2, .int (nI j))] → (n < o + nn) → (j < o) → (o ≤ n) → (∀ i, j < i → i < o → pr i ≠ k) → W p9 l e9 { frames := 2, cells := 0, slots := 0, locals := 43 } s9 m9 a9 below meth c9 H locs 0 0 Z9 (F0 m9 4 ls []) := by
    intro nn
    induction nn with
    | zero => intro o H locs ls X hl hfuel hjo ho hlow; exact absurd hfuel (by omega)
    | succ nn ih_4 =>
      intro o H locs ls X hl hfuel hjo ho hlow
      refine lv_iload_n hx hb dX8_nextBranch_4 rfl (lv_at hl 0 rfl) ?_
      refine lv_aload_n hx hb dX8_nextBranch_5 rfl (lv_at hl 1 rfl) ?_
      refine x_get F X (v := .ref b1) (C := RX8) (T := TX8) (N := 14) (ci := 8) in_X8 0 rfl rfl 0 (by decide) mw_0 rfl dX8_nextBranch_6 ?_
      refine lv_iconst (v := 5) hx hb dX8_nextBranch_9 (by decide) ?_
      refine x_iald F X (v := (s 5)) (n := 133) (f := s) 1 rfl (show vp_in (nI 5) _ from vp_in_nI (by omega) (by omega)) rfl dX8_nextBranch_10 ?_
      refine x_i (y := (nI n)) (hs5) ?_
      refine lv_icmp_ge (tgt := 32) hx hb dX8_nextBranch_11 (by decide) (fun c_11 => ?_) (fun c_11 => ?_)
      · have c_11 : n ≤ o := (nI_leI (a := n) (b := o) (by omega) (by omega)).mp c_11
        refine lv_bipush (v := (-6)) hx hb dX8_nextBranch_32 (by decide) ?_
        exact hret _ _ _ _ _ _ (by exact ⟨rfl, Or.inr ⟨by rw [x_nb_is hjo ho (fun h => absurd h (by omega)) hlow]; omega, rfl⟩⟩) X dX8_nextBranch_34
      · have c_11 : o < n := Nat.not_le.mp (fun h => c_11 ((nI_leI (a := n) (b := o) (by omega) (by omega)).mpr h))
        have hpo := (hpr o (by omega) (by omega)).2
        refine lv_aload_n hx hb dX8_nextBranch_14 rfl (lv_at hl 1 rfl) ?_
        refine lv_iload_n hx hb dX8_nextBranch_15 rfl (lv_at hl 0 rfl) ?_
        refine lv_iconst (v := 0) hx hb dX8_nextBranch_16 (by decide) ?_
        refine x_cVi F X (gc := [mW q b0 b1 b2 b3 b4 b5 b6 b7 b8 s p sl sv pd fo to ou kn ln mn la op wr]) (gr := []) (xp_idx (n := 1) [0] (by decide +kernel) rfl rfl) (c_X8_its l D q b0 b1 b2 b3 b4 b5 b6 b7 b8 s p sl sv pd fo to ou kn ln mn la op wr o 0 (by first | assumption | omega) (by first | assumption | omega)) (cwV 2 F.1.2.2.2.2 gX8_nextBranch_X8_its rfl rfl rfl (by decide +kernel) ⟨Nat.le_of_ble_eq_true rfl, Nat.le_of_ble_eq_true rfl⟩) rfl rfl (r0 := 0) (ci := 8) (T := TX8) (N := 14) rfl rfl hl.1 ⟨Nat.le_of_ble_eq_true rfl, Nat.le_of_ble_eq_true rfl⟩ (Nat.le_of_ble_eq_true rfl) dX8_nextBranch_17 (fun r_17 g1 H locs hp X => ?_)
        obtain ⟨rfl, rfl⟩ := hp
        have X : xS D A9 s9 [mW q b0 b1 b2 b3 b4 b5 b6 b7 b8 s p sl sv pd fo to ou kn ln mn la op wr] H locs := X
        refine x_i (y := (nI (pr o))) ((hpr o (by omega) (by omega)).1) ?_
        refine lv_iload_n hx hb dX8_nextBranch_20 rfl (lv_at hl 2 rfl) ?_
        refine lv_icmp_ne (tgt := 26) hx hb dX8_nextBranch_21 (by decide) (fun c_21 => ?_) (fun c_21 => ?_)
        · have c_21 : ¬ ((pr o) = k) := fun h => c_21 ((nI_eq (a := (pr o)) (b := k) (by omega) (by omega)).mpr h)
          refine lv_iinc (v := (nI (o + 1))) (lv' := [(3, .int (nI (o + 1))), (0, .ref b0), (1, .int (nI k)), (2, .int (nI j))]) hx hb dX8_nextBranch_26 hl (k := 0) rfl (nI_add o 1) (by decide) rfl (fun ls hl => ?_)
          refine lv_goto (tgt := 4) hx hb dX8_nextBranch_29 (by decide) ?_
          exact ih_4 (o + 1) _ _ _ X (lv_sub hl [0, 1, 2, 3] rfl) (by omega) (by omega) (by omega) (by
              intro i h1 h2
              by_cases e : i = o
              · rw [e]; exact c_21
              · exact hlow i h1 (by omega))
        · have c_21 : (pr o) = k := (nI_eq (a := (pr o)) (b := k) (by omega) (by omega)).mp c_21
          refine lv_iload_n hx hb dX8_nextBranch_24 rfl (lv_at hl 0 rfl) ?_
          exact hret _ _ _ _ _ _ (by exact ⟨rfl, Or.inl ⟨o, ⟨hjo, by omega⟩, by omega, x_nb_is hjo (by omega) (fun _ => c_21) hlow, c_21, rfl⟩⟩) X dX8_nextBranch_25
  exact L_4 (n + 1) (j + 1) _ _ _ X (lv_sub hl [0, 1, 2, 3] rfl) (by omega) (by omega) (by omega) (by intro i h1 h2; omega)

set_option maxHeartbeats 1000000 in
set_option maxRecDepth 100000 in
theorem c_X8_goesUp (l : Launch) (D : va_G) (q : xQ) (b0 : Nat) (b1 : Nat) (b2 : Nat) (b3 : Nat) (b4 : Nat) (b5 : Nat) (b6 : Nat) (b7 : Nat) (b8 : Nat) (s : Nat → Int32) (p : Nat → Int32) (sl : Nat → Int32) (sv : Nat → Int32) (pd : Nat → Int32) (fo : Nat → Int32) (to : Nat → Int32) (ou : Nat → Int32) (kn : Int32) (ln : Int32) (mn : Int32) (la : Int32) (op : Int32) (wr : Nat) (n : Nat) (pr : Nat → Nat) (j : Nat) (S : List Nat) (U : List Nat) (wt : Nat → List Nat) (hok : x_ok s n pr) (hj : j < n) (hou : xOu S ou wr) (hU : S ++ x_up wt pr n j = U) (hU3 : U.length ≤ 300) : xMi l yX8_goesUp wsX8_goesUp { frames := 3, cells := 0, slots := 0, locals := 66 } D q [.ref b0, .int (nI j)] [mW q b0 b1 b2 b3 b4 b5 b6 b7 b8 s p sl sv pd fo to ou kn ln mn la op (nI wr)] (fun r gw => ∃ (ou2 : Nat → Int32), ∃ (wr2 : Nat), ∃ (S2 : List Nat), gw = [mW q b0 b1 b2 b3 b4 b5 b6 b7 b8 s p sl sv pd fo to ou2 kn ln mn la op (nI wr2)] ∧ (xOu S2 ou2 wr2 ∧ ((∃ b, b < n ∧ r = nI b ∧ S2 ++ (wt b ++ (x_tt wt pr n b b ++ x_up wt pr n b)) = U ∧ S.length ≤ S2.length) ∨ (r = -1 ∧ S2 = U)))) := by
  refine xMi_of (cc := cX8_goesUp) (maxL := 4) (rt := .int) (by decide) rfl (Nat.le_of_ble_eq_true rfl) (fun _ _ _ => rfl) ?_
  intro p9 e9 s9 m9 a9 below meth c9 A9 Z9 ls H locs F X hl hret
  have hx := F.1.1
  have hb := F.1.2.1
  have mw_0 : Cond.initialized RX8 ∈ wsX8_goesUp := by decide +kernel
  have hl : lv_has ls 4 [(0, .ref b0), (1, .int (nI j))] := hl
  have hok0 := hok
  obtain ⟨hn, hn1, hs5, hs33, hpr, hwd, hcl, hsm, hpe, hst, hle, hhr, hcn⟩ := hok0
  have hp2 : ∀ o, 1 ≤ o → o < n → pr o < o := fun o h1 h2 => (hpr o h1 h2).2
  refine lv_iload_n hx hb dX8_goesUp_0 rfl (lv_at hl 1 rfl) ?_
  refine lv_istore_n (lv' := [(2, .int (nI j)), (0, .ref b0), (1, .int (nI j))]) hx hb dX8_goesUp_1 rfl hl (by decide) rfl (fun ls hl => ?_)
  have L_2 : ∀ (nn : Nat) (i wr1 : Nat) (ou1 : Nat → Int32) (S1 : List Nat) (H : Heap) (locs : List Loc) (ls : Array Slot), xS D A9 s9 [mW q b0 b1 b2 b3 b4 b5 b6 b7 b8 s p sl sv pd fo to ou1 kn ln mn la op (nI wr1)] H locs → lv_has ls 4 [(2, .int (nI i)), (0, .ref b0), (1, .int (nI j))] → (i < nn) → (i < n) → (xOu S1 ou1 wr1) → (S.length ≤ S1.length) → (S1 ++ x_up wt pr n i = U) → W p9 l e9 { frames := 3, cells := 0, slots := 0, locals := 66 } s9 m9 a9 below meth c9 H locs 0 0 Z9 (F0 m9 2 ls []) := by
    intro nn
    induction nn with
    | zero => intro i wr1 ou1 S1 H locs ls X hl hfuel hi hou1 hSS hrem; exact absurd hfuel (by omega)
    | succ nn ih_2 =>
      intro i wr1 ou1 S1 H locs ls X hl hfuel hi hou1 hSS hrem
      refine lv_iload_n hx hb dX8_goesUp_2 rfl (lv_at hl 0 rfl) ?_
      refine lv_if_le (tgt := 48) hx hb dX8_goesUp_3 (by decide) (fun c_3 => ?_) (fun c_3 => ?_)
      · have c_3 : i ≤ 0 := (nI_leI (a := i) (b := 0) (by omega) (by omega)).mp c_3
        refine lv_iconst (v := (-1)) hx hb dX8_goesUp_48 (by decide) ?_
        refine hret _ _ _ _ _ _ ?_ X dX8_goesUp_49
        obtain rfl : i = 0 := by omega
        rw [x_up_0, List.append_nil] at hrem
        exact ⟨_, _, _, rfl, hou1, Or.inr ⟨rfl, hrem⟩⟩
      · have c_3 : 0 < i := Nat.not_le.mp (fun h => c_3 ((nI_leI (a := i) (b := 0) (by omega) (by omega)).mpr h))
        have hpi := hp2 i (by omega) hi
        refine lv_aload_n hx hb dX8_goesUp_6 rfl (lv_at hl 1 rfl) ?_
        refine lv_aload_n hx hb dX8_goesUp_7 rfl (lv_at hl 1 rfl) ?_
        refine lv_iload_n hx hb dX8_goesUp_8 rfl (lv_at hl 0 rfl) ?_
        refine lv_iconst (v := 0) hx hb dX8_goesUp_9 (by decide) ?_
        refine x_cVi F X (gc := [mW q b0 b1 b2 b3 b4 b5 b6 b7 b8 s p sl sv pd fo to ou1 kn ln mn la op (nI wr1)]) (gr := []) (xp_idx (n := 1) [0] (by decide +kernel) rfl rfl) (c_X8_its l D q b0 b1 b2 b3 b4 b5 b6 b7 b8 s p sl sv pd fo to ou1 kn ln mn la op (nI wr1) i 0 (by first | assumption | omega) (by first | assumption | omega)) (cwV 2 F.1.2.2.2.2 gX8_goesUp_X8_its rfl rfl rfl (by decide +kernel) ⟨Nat.le_of_ble_eq_true rfl, Nat.le_of_ble_eq_true rfl⟩) rfl rfl (r0 := 0) (ci := 8) (T := TX8) (N := 14) rfl rfl hl.1 ⟨Nat.le_of_ble_eq_true rfl, Nat.le_of_ble_eq_true rfl⟩ (Nat.le_of_ble_eq_true rfl) dX8_goesUp_10 (fun r_10 g1 H locs hp X => ?_)
        obtain ⟨rfl, rfl⟩ := hp
        have X : xS D A9 s9 [mW q b0 b1 b2 b3 b4 b5 b6 b7 b8 s p sl sv pd fo to ou1 kn ln mn la op (nI wr1)] H locs := X
        refine x_i (y := (nI (pr i))) ((hpr i (by omega) hi).1) ?_
        refine lv_iload_n hx hb dX8_goesUp_13 rfl (lv_at hl 0 rfl) ?_
        refine x_cVi F X (gc := [mW q b0 b1 b2 b3 b4 b5 b6 b7 b8 s p sl sv pd fo to ou1 kn ln mn la op (nI wr1)]) (gr := []) (xp_idx (n := 1) [0] (by decide +kernel) rfl rfl) (c_X8_nextBranch l D q b0 b1 b2 b3 b4 b5 b6 b7 b8 s p sl sv pd fo to ou1 kn ln mn la op (nI wr1) n pr (pr i) i (by first | assumption | omega) (by first | assumption | omega) (by first | assumption | omega)) (cwV 2 F.1.2.2.2.2 gX8_goesUp_X8_nextBranch rfl rfl rfl (by decide +kernel) ⟨Nat.le_of_ble_eq_true rfl, Nat.le_of_ble_eq_true rfl⟩) rfl rfl (r0 := 0) (ci := 8) (T := TX8) (N := 14) rfl rfl hl.1 ⟨Nat.le_of_ble_eq_true rfl, Nat.le_of_ble_eq_true rfl⟩ (Nat.le_of_ble_eq_true rfl) dX8_goesUp_14 (fun r_14 g1 H locs hp X => ?_)
        obtain ⟨rfl, hnb_14⟩ := hp
        have X : xS D A9 s9 [mW q b0 b1 b2 b3 b4 b5 b6 b7 b8 s p sl sv pd fo to ou1 kn ln mn la op (nI wr1)] H locs := X
        refine lv_istore_n (lv' := [(3, .int r_14), (2, .int (nI i)), (0, .ref b0), (1, .int (nI j))]) hx hb dX8_goesUp_17 rfl hl (by decide) rfl (fun ls hl => ?_)
        refine lv_iload_n hx hb dX8_goesUp_18 rfl (lv_at hl 0 rfl) ?_
        refine lv_bipush (v := (-6)) hx hb dX8_goesUp_19 (by decide) ?_
        refine lv_icmp_eq (tgt := 32) hx hb dX8_goesUp_21 (by decide) (fun c_21 => ?_) (fun c_21 => ?_)
        · obtain ⟨hno, -⟩ := hnb_14.resolve_left (fun h => by obtain ⟨b, -, hb3, -, -, eb⟩ := h; rw [eb] at c_21; exact x_m6 b (by omega) c_21.symm)
          have hr := hrem
          rw [x_up_s wt hp2 (by omega) hi, x_tt_n wt pr hi hno, if_neg (show ¬ i = pr i by omega)] at hr
          have hlen := congrArg List.length hr
          rw [List.length_append, List.length_append, List.length_singleton] at hlen
          have hw1 := hou1.1
          refine lv_aload_n hx hb dX8_goesUp_32 rfl (lv_at hl 2 rfl) ?_
          refine lv_bipush (v := 41) hx hb dX8_goesUp_33 (by decide) ?_
          refine x_cVv F X (gc := [mW q b0 b1 b2 b3 b4 b5 b6 b7 b8 s p sl sv pd fo to ou1 kn ln mn la op (nI wr1)]) (gr := []) (xp_idx (n := 1) [0] (by decide +kernel) rfl rfl) (c_X8_writes l D q b0 b1 b2 b3 b4 b5 b6 b7 b8 s p sl sv pd fo to ou1 kn ln mn la op wr1 41 S1 (by first | assumption | omega) (by first | assumption | omega)) (cwV 1 F.1.2.2.2.2 gX8_goesUp_X8_writes rfl rfl rfl (by decide +kernel) ⟨Nat.le_of_ble_eq_true rfl, Nat.le_of_ble_eq_true rfl⟩) rfl rfl (r0 := 0) (ci := 8) (T := TX8) (N := 14) rfl rfl hl.1 ⟨Nat.le_of_ble_eq_true rfl, Nat.le_of_ble_eq_true rfl⟩ (Nat.le_of_ble_eq_true rfl) dX8_goesUp_35 (fun g1 H locs hp X => ?_)
          obtain ⟨ou2_35, rfl, hou2_35⟩ := hp
          have X : xS D A9 s9 [mW q b0 b1 b2 b3 b4 b5 b6 b7 b8 s p sl sv pd fo to ou2_35 kn ln mn la op (nI (wr1 + 1))] H locs := X
          refine lv_aload_n hx hb dX8_goesUp_38 rfl (lv_at hl 2 rfl) ?_
          refine lv_iload_n hx hb dX8_goesUp_39 rfl (lv_at hl 1 rfl) ?_
          refine lv_iconst (v := 0) hx hb dX8_goesUp_40 (by decide) ?_
          refine x_cVi F X (gc := [mW q b0 b1 b2 b3 b4 b5 b6 b7 b8 s p sl sv pd fo to ou2_35 kn ln mn la op (nI (wr1 + 1))]) (gr := []) (xp_idx (n := 1) [0] (by decide +kernel) rfl rfl) (c_X8_its l D q b0 b1 b2 b3 b4 b5 b6 b7 b8 s p sl sv pd fo to ou2_35 kn ln mn la op (nI (wr1 + 1)) i 0 (by first | assumption | omega) (by first | assumption | omega)) (cwV 2 F.1.2.2.2.2 gX8_goesUp_X8_its rfl rfl rfl (by decide +kernel) ⟨Nat.le_of_ble_eq_true rfl, Nat.le_of_ble_eq_true rfl⟩) rfl rfl (r0 := 0) (ci := 8) (T := TX8) (N := 14) rfl rfl hl.1 ⟨Nat.le_of_ble_eq_true rfl, Nat.le_of_ble_eq_true rfl⟩ (Nat.le_of_ble_eq_true rfl) dX8_goesUp_41 (fun r_41 g1 H locs hp X => ?_)
          obtain ⟨rfl, rfl⟩ := hp
          have X : xS D A9 s9 [mW q b0 b1 b2 b3 b4 b5 b6 b7 b8 s p sl sv pd fo to ou2_35 kn ln mn la op (nI (wr1 + 1))] H locs := X
          refine x_i (y := (nI (pr i))) ((hpr i (by omega) hi).1) ?_
          refine lv_istore_n (lv' := [(2, .int (nI (pr i))), (3, .int r_14), (0, .ref b0), (1, .int (nI j))]) hx hb dX8_goesUp_44 rfl hl (by decide) rfl (fun ls hl => ?_)
          refine lv_goto (tgt := 2) hx hb dX8_goesUp_45 (by decide) ?_
          exact ih_2 (pr i) _ _ (S1 ++ [41]) _ _ _ X (lv_sub hl [0, 2, 3] rfl) (by omega) (by omega) (by assumption) (by rw [List.length_append]; omega) (by rw [List.append_assoc]; exact hr)
        · obtain ⟨b, ⟨hb1, hb2⟩, hb3, hb4, hb5, eb⟩ := hnb_14.resolve_right (fun h => c_21 h.2)
          have hr := hrem
          rw [x_up_s wt hp2 (by omega) hi, x_tt_s wt pr hi (by rw [hb4]; exact hb3), hb4, if_neg (show ¬ i = pr i by omega)] at hr
          have hlen := congrArg List.length hr
          rw [List.length_append, List.length_append, List.length_cons] at hlen
          have hw1 := hou1.1
          refine lv_aload_n hx hb dX8_goesUp_24 rfl (lv_at hl 2 rfl) ?_
          refine lv_bipush (v := 44) hx hb dX8_goesUp_25 (by decide) ?_
          refine x_cVv F X (gc := [mW q b0 b1 b2 b3 b4 b5 b6 b7 b8 s p sl sv pd fo to ou1 kn ln mn la op (nI wr1)]) (gr := []) (xp_idx (n := 1) [0] (by decide +kernel) rfl rfl) (c_X8_writes l D q b0 b1 b2 b3 b4 b5 b6 b7 b8 s p sl sv pd fo to ou1 kn ln mn la op wr1 44 S1 (by first | assumption | omega) (by first | assumption | omega)) (cwV 1 F.1.2.2.2.2 gX8_goesUp_X8_writes rfl rfl rfl (by decide +kernel) ⟨Nat.le_of_ble_eq_true rfl, Nat.le_of_ble_eq_true rfl⟩) rfl rfl (r0 := 0) (ci := 8) (T := TX8) (N := 14) rfl rfl hl.1 ⟨Nat.le_of_ble_eq_true rfl, Nat.le_of_ble_eq_true rfl⟩ (Nat.le_of_ble_eq_true rfl) dX8_goesUp_27 (fun g1 H locs hp X => ?_)
          obtain ⟨ou2_27, rfl, hou2_27⟩ := hp
          have X : xS D A9 s9 [mW q b0 b1 b2 b3 b4 b5 b6 b7 b8 s p sl sv pd fo to ou2_27 kn ln mn la op (nI (wr1 + 1))] H locs := X
          refine lv_iload_n hx hb dX8_goesUp_30 rfl (lv_at hl 0 rfl) ?_
          refine hret _ _ _ _ _ _ ?_ X dX8_goesUp_31
          refine ⟨_, _, S1 ++ [44], rfl, by assumption, Or.inl ⟨b, hb3, eb, ?_, by rw [List.length_append]; omega⟩⟩
          rw [← hr, x_up_s wt hp2 hb2 hb3, hb5]
          simp only [List.append_assoc, List.cons_append, List.singleton_append, List.nil_append]
  exact L_2 (j + 1) j _ _ S _ _ _ X (lv_sub hl [0, 1, 2] rfl) (by omega) (by omega) (by assumption) (by omega) (by assumption)

