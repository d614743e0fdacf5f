set_option maxHeartbeats 1000000 in
set_option maxRecDepth 100000 in
theorem c_X7_tellAlone (l : Launch) (D : va_G) (q : xQ) (h0 : Nat) (h1 : Nat) (h2 : Nat) (h3 : Nat) (h4 : Nat) (h5 : Nat) (i0 : Nat) (i1 : Nat) (f1 : Nat → Int32) (f2 : Nat → Int32) (f3 : Nat → Int32) (f4 : Nat → Int32) (f5 : Nat → Int32) (cs : Nat → Int32) (n : Nat) (st : Nat) (z : Nat) (ov : Int32) (Ss : List Nat) (hn : n ≤ 20) (hst : st < n) (hwd : ∀ o, o < n → ∃ w, 1 ≤ w ∧ w ≤ 9 ∧ f2 o = nI w) (hcl : ∀ o, o < n → ∃ v, v ≤ 5 ∧ f3 o = nI v) (hsm : ∀ o, o < n → ∃ v, v ≤ 1 ∧ f4 o = nI v) (hpe : ∀ o, o < n → ∃ v, v ≤ 99 ∧ f5 o = nI v) (hS : xPad Ss cs z ov) : xMv l yX7_tellAlone wsX7_tellAlone { frames := 1, cells := 0, slots := 0, locals := 21 } D q [.ref h0, .int (nI st), .ref i0] [sW q h0 h1 h2 h3 h4 h5 f1 f2 f3 f4 f5 (nI n), pW q i0 i1 cs (nI z) ov] (fun gw => ∃ (cs2 : Nat → Int32), ∃ (z2 : Nat), ∃ (ov2 : Int32), gw = [sW q h0 h1 h2 h3 h4 h5 f1 f2 f3 f4 f5 (nI n), pW q i0 i1 cs2 (nI z2) ov2] ∧ (xPad (Ss ++ x_ws f2 f3 f4 f5 st) cs2 z2 ov2)) := by
  refine xMv_of (cc := cX7_tellAlone) (maxL := 4) (by decide) rfl (Nat.le_of_ble_eq_true rfl) ?_
  intro p9 e9 s9 m9 a9 below meth c9 A9 Z9 ls H locs F hini X hl hret
  have hx := F.1.1
  have hb := F.1.2.1
  have in_X5 : ∀ w ∈ wsX50, w ∈ wsX7_tellAlone := by decide +kernel
  have mw_0 : Cond.fieldLink RX7 168 "HatWinds$Streets" "width" "[I" ∈ wsX7_tellAlone := by decide +kernel
  have mw_1 : Cond.initialized RX3 ∈ wsX7_tellAlone := by decide +kernel
  have mw_2 : Cond.fieldLink RX7 171 "HatWinds$Streets" "cloth" "[I" ∈ wsX7_tellAlone := by decide +kernel
  have mw_3 : Cond.fieldLink RX7 174 "HatWinds$Streets" "smoke" "[I" ∈ wsX7_tellAlone := by decide +kernel
  have mw_4 : Cond.fieldLink RX7 177 "HatWinds$Streets" "people" "[I" ∈ wsX7_tellAlone := by decide +kernel
  have hl : lv_has ls 4 [(0, .ref h0), (1, .int (nI st)), (2, .ref i0)] := hl
  obtain ⟨w, hw1, hw2, ew⟩ := hwd st hst
  obtain ⟨c1, hc1, ec⟩ := hcl st hst
  obtain ⟨m1, hm1, em⟩ := hsm st hst
  obtain ⟨u, hu1, eu⟩ := hpe st hst
  refine lv_aload_n hx hb dX7_tellAlone_0 rfl (lv_at hl 2 rfl) ?_
  refine lv_bipush (v := 48) hx hb dX7_tellAlone_1 (by decide) ?_
  refine lv_aload_n hx hb dX7_tellAlone_3 rfl (lv_at hl 0 rfl) ?_
  refine x_get F X (v := .ref h2) (C := RX5) (T := TX5) (N := 6) (ci := 5) in_X5 0 rfl rfl 1 (by decide) mw_0 rfl dX7_tellAlone_4 ?_
  refine lv_iload_n hx hb dX7_tellAlone_7 rfl (lv_at hl 1 rfl) ?_
  refine x_iald F X (v := (f2 st)) (n := 20) (f := f2) 2 rfl (vp_in_nI (by omega) (by omega)) (x_cl (by omega)) dX7_tellAlone_8 ?_
  refine x_i (y := (nI w)) (ew) ?_
  refine lv_iadd hx hb dX7_tellAlone_9 ?_
  refine x_i (y := (nI (48 + w))) (nI_add 48 w) ?_
  refine x_cVv F X (gc := [pW q i0 i1 cs (nI z) ov]) (gr := [sW q h0 h1 h2 h3 h4 h5 f1 f2 f3 f4 f5 (nI n)]) (xp_idx (n := 2) [1, 0] (by decide +kernel) rfl rfl) (c_X3_add l D q i0 i1 cs z ov (48 + w) Ss (by first | assumption | omega) (by assumption)) (cwV 1 F.1.2.2.2.2 gX7_tellAlone_X3_add rfl rfl rfl (by decide +kernel) ⟨Nat.le_of_ble_eq_true rfl, Nat.le_of_ble_eq_true rfl⟩) rfl rfl (r0 := 0) (ci := 3) (T := TX3) (N := 3) rfl rfl hl.1 ⟨Nat.le_of_ble_eq_true rfl, Nat.le_of_ble_eq_true rfl⟩ (Nat.le_of_ble_eq_true rfl) dX7_tellAlone_10 (fun g1 H locs hp X => ?_)
  obtain ⟨cs2_10, k2_10, ov2_10, rfl, hS9⟩ := hp
  have X := X.perm (gs' := [sW q h0 h1 h2 h3 h4 h5 f1 f2 f3 f4 f5 (nI n), pW q i0 i1 cs2_10 (nI k2_10) ov2_10]) (xp_idx (n := 2) [1, 0] (by decide +kernel) rfl rfl)
  refine lv_aload_n hx hb dX7_tellAlone_13 rfl (lv_at hl 0 rfl) ?_
  refine x_get F X (v := .ref h3) (C := RX5) (T := TX5) (N := 6) (ci := 5) in_X5 0 rfl rfl 2 (by decide) mw_2 rfl dX7_tellAlone_14 ?_
  refine lv_iload_n hx hb dX7_tellAlone_17 rfl (lv_at hl 1 rfl) ?_
  refine x_iald F X (v := (f3 st)) (n := 20) (f := f3) 3 rfl (vp_in_nI (by omega) (by omega)) (x_cl (by omega)) dX7_tellAlone_18 ?_
  refine x_i (y := (nI c1)) (ec) ?_
  refine lv_if_le (tgt := 37) hx hb dX7_tellAlone_19 (by decide) (fun c_19 => ?_) (fun c_19 => ?_)
  · have c_19 : c1 ≤ 0 := (nI_leI (a := c1) (b := 0) (by omega) (by omega)).mp c_19
    refine lv_aload_n hx hb dX7_tellAlone_37 rfl (lv_at hl 0 rfl) ?_
    refine x_get F X (v := .ref h4) (C := RX5) (T := TX5) (N := 6) (ci := 5) in_X5 0 rfl rfl 3 (by decide) mw_3 rfl dX7_tellAlone_38 ?_
    refine lv_iload_n hx hb dX7_tellAlone_41 rfl (lv_at hl 1 rfl) ?_
    refine x_iald F X (v := (f4 st)) (n := 20) (f := f4) 4 rfl (vp_in_nI (by omega) (by omega)) (x_cl (by omega)) dX7_tellAlone_42 ?_
    refine x_i (y := (nI m1)) (em) ?_
    refine lv_if_le (tgt := 52) hx hb dX7_tellAlone_43 (by decide) (fun c_43 => ?_) (fun c_43 => ?_)
    · have c_43 : m1 ≤ 0 := (nI_leI (a := m1) (b := 0) (by omega) (by omega)).mp c_43
      refine lv_aload_n hx hb dX7_tellAlone_52 rfl (lv_at hl 0 rfl) ?_
      refine x_get F X (v := .ref h5) (C := RX5) (T := TX5) (N := 6) (ci := 5) in_X5 0 rfl rfl 4 (by decide) mw_4 rfl dX7_tellAlone_53 ?_
      refine lv_iload_n hx hb dX7_tellAlone_56 rfl (lv_at hl 1 rfl) ?_
      refine x_iald F X (v := (f5 st)) (n := 20) (f := f5) 5 rfl (vp_in_nI (by omega) (by omega)) (x_cl (by omega)) dX7_tellAlone_57 ?_
      refine x_i (y := (nI u)) (eu) ?_
      refine lv_istore_n (lv' := [(3, .int (nI u)), (0, .ref h0), (1, .int (nI st)), (2, .ref i0)]) hx hb dX7_tellAlone_58 rfl hl (by decide) rfl (fun ls hl => ?_)
      refine lv_iload_n hx hb dX7_tellAlone_59 rfl (lv_at hl 0 rfl) ?_
      refine lv_if_le (tgt := 97) hx hb dX7_tellAlone_60 (by decide) (fun c_60 => ?_) (fun c_60 => ?_)
      · have c_60 : u ≤ 0 := (nI_leI (a := u) (b := 0) (by omega) (by omega)).mp c_60
        refine hret _ _ _ _ _ ?_ X dX7_tellAlone_97
        refine ⟨_, _, _, rfl, ?_⟩
        show xPad (Ss ++ x_wsf (f2 st).toNatClampNeg (f3 st).toNatClampNeg (f4 st).toNatClampNeg (f5 st).toNatClampNeg) _ _ _
        rw [ew, ec, em, eu, nI_clamp (by omega), nI_clamp (by omega), nI_clamp (by omega), nI_clamp (by omega)]
        unfold x_wsf
        rw [if_neg (by omega), if_neg (by omega), if_neg (by omega), if_neg (by omega), if_neg (by omega)]
        simpa only [List.append_assoc, List.singleton_append, List.cons_append, List.nil_append, List.append_nil] using (by assumption : xPad (Ss ++ [48 + w]) _ _ _)
      · have c_60 : 0 < u := Nat.not_le.mp (fun h => c_60 ((nI_leI (a := u) (b := 0) (by omega) (by omega)).mpr h))
        refine lv_aload_n hx hb dX7_tellAlone_63 rfl (lv_at hl 3 rfl) ?_
        refine lv_bipush (v := 42) hx hb dX7_tellAlone_64 (by decide) ?_
        refine x_cVv F X (gc := [pW q i0 i1 cs2_10 (nI k2_10) ov2_10]) (gr := [sW q h0 h1 h2 h3 h4 h5 f1 f2 f3 f4 f5 (nI n)]) (xp_idx (n := 2) [1, 0] (by decide +kernel) rfl rfl) (c_X3_add l D q i0 i1 cs2_10 k2_10 ov2_10 42 (Ss ++ [48 + w]) (by first | assumption | omega) (by assumption)) (cwV 1 F.1.2.2.2.2 gX7_tellAlone_X3_add rfl rfl rfl (by decide +kernel) ⟨Nat.le_of_ble_eq_true rfl, Nat.le_of_ble_eq_true rfl⟩) rfl rfl (r0 := 0) (ci := 3) (T := TX3) (N := 3) rfl rfl hl.1 ⟨Nat.le_of_ble_eq_true rfl, Nat.le_of_ble_eq_true rfl⟩ (Nat.le_of_ble_eq_true rfl) dX7_tellAlone_66 (fun g1 H locs hp X => ?_)
        obtain ⟨cs2_66, k2_66, ov2_66, rfl, hS9⟩ := hp
        have X := X.perm (gs' := [sW q h0 h1 h2 h3 h4 h5 f1 f2 f3 f4 f5 (nI n), pW q i0 i1 cs2_66 (nI k2_66) ov2_66]) (xp_idx (n := 2) [1, 0] (by decide +kernel) rfl rfl)
        refine lv_iload_n hx hb dX7_tellAlone_69 rfl (lv_at hl 0 rfl) ?_
        refine lv_bipush (v := 10) hx hb dX7_tellAlone_70 (by decide) ?_
        refine lv_icmp_lt (tgt := 86) hx hb dX7_tellAlone_72 (by decide) (fun c_72 => ?_) (fun c_72 => ?_)
        · have c_72 : u < 10 := (nI_ltI (a := u) (b := 10) (by omega) (by omega)).mp c_72
          refine lv_aload_n hx hb dX7_tellAlone_86 rfl (lv_at hl 3 rfl) ?_
          refine lv_bipush (v := 48) hx hb dX7_tellAlone_87 (by decide) ?_
          refine lv_iload_n hx hb dX7_tellAlone_89 rfl (lv_at hl 0 rfl) ?_
          refine lv_bipush (v := 10) hx hb dX7_tellAlone_90 (by decide) ?_
          refine lv_irem hx hb dX7_tellAlone_92 (by decide) ?_
          refine x_i (y := (nI (u % 10))) (pk_rem (a := u) (d := 10) (by omega) (by omega) (by omega)) ?_
          refine lv_iadd hx hb dX7_tellAlone_93 ?_
          refine x_i (y := (nI (48 + (u % 10)))) (nI_add 48 (u % 10)) ?_
          refine x_cVv F X (gc := [pW q i0 i1 cs2_66 (nI k2_66) ov2_66]) (gr := [sW q h0 h1 h2 h3 h4 h5 f1 f2 f3 f4 f5 (nI n)]) (xp_idx (n := 2) [1, 0] (by decide +kernel) rfl rfl) (c_X3_add l D q i0 i1 cs2_66 k2_66 ov2_66 (48 + (u % 10)) ((Ss ++ [48 + w]) ++ [42]) (by first | assumption | omega) (by assumption)) (cwV 1 F.1.2.2.2.2 gX7_tellAlone_X3_add rfl rfl rfl (by decide +kernel) ⟨Nat.le_of_ble_eq_true rfl, Nat.le_of_ble_eq_true rfl⟩) rfl rfl (r0 := 0) (ci := 3) (T := TX3) (N := 3) rfl rfl hl.1 ⟨Nat.le_of_ble_eq_true rfl, Nat.le_of_ble_eq_true rfl⟩ (Nat.le_of_ble_eq_true rfl) dX7_tellAlone_94 (fun g1 H locs hp X => ?_)
          obtain ⟨cs2_94, k2_94, ov2_94, rfl, hS9⟩ := hp
          have X := X.perm (gs' := [sW q h0 h1 h2 h3 h4 h5 f1 f2 f3 f4 f5 (nI n), pW q i0 i1 cs2_94 (nI k2_94) ov2_94]) (xp_idx (n := 2) [1, 0] (by decide +kernel) rfl rfl)
          refine hret _ _ _ _ _ ?_ X dX7_tellAlone_97
          refine ⟨_, _, _, rfl, ?_⟩
          show xPad (Ss ++ x_wsf (f2 st).toNatClampNeg (f3 st).toNatClampNeg (f4 st).toNatClampNeg (f5 st).toNatClampNeg) _ _ _
          rw [ew, ec, em, eu, nI_clamp (by omega), nI_clamp (by omega), nI_clamp (by omega), nI_clamp (by omega)]
          unfold x_wsf
          rw [if_neg (by omega), if_neg (by omega), if_pos (by omega), if_neg (by omega), if_pos (by omega)]
          simpa only [List.append_assoc, List.singleton_append, List.cons_append, List.nil_append, List.append_nil] using (by assumption : xPad (((Ss ++ [48 + w]) ++ [42]) ++ [48 + u % 10]) _ _ _)
        · have c_72 : 10 ≤ u := Nat.not_lt.mp (fun h => c_72 ((nI_ltI (a := u) (b := 10) (by omega) (by omega)).mpr h))
          refine lv_aload_n hx hb dX7_tellAlone_75 rfl (lv_at hl 3 rfl) ?_
          refine lv_bipush (v := 48) hx hb dX7_tellAlone_76 (by decide) ?_
          refine lv_iload_n hx hb dX7_tellAlone_78 rfl (lv_at hl 0 rfl) ?_
          refine lv_bipush (v := 10) hx hb dX7_tellAlone_79 (by decide) ?_
          refine lv_idiv hx hb dX7_tellAlone_81 (by decide) ?_
          refine x_i (y := (nI (u / 10))) (pk_div (a := u) (d := 10) (by omega) (by omega) (by omega)) ?_
          refine lv_iadd hx hb dX7_tellAlone_82 ?_
          refine x_i (y := (nI (48 + (u / 10)))) (nI_add 48 (u / 10)) ?_
          refine x_cVv F X (gc := [pW q i0 i1 cs2_66 (nI k2_66) ov2_66]) (gr := [sW q h0 h1 h2 h3 h4 h5 f1 f2 f3 f4 f5 (nI n)]) (xp_idx (n := 2) [1, 0] (by decide +kernel) rfl rfl) (c_X3_add l D q i0 i1 cs2_66 k2_66 ov2_66 (48 + (u / 10)) ((Ss ++ [48 + w]) ++ [42]) (by first | assumption | omega) (by assumption)) (cwV 1 F.1.2.2.2.2 gX7_tellAlone_X3_add rfl rfl rfl (by decide +kernel) ⟨Nat.le_of_ble_eq_true rfl, Nat.le_of_ble_eq_true rfl⟩) rfl rfl (r0 := 0) (ci := 3) (T := TX3) (N := 3) rfl rfl hl.1 ⟨Nat.le_of_ble_eq_true rfl, Nat.le_of_ble_eq_true rfl⟩ (Nat.le_of_ble_eq_true rfl) dX7_tellAlone_83 (fun g1 H locs hp X => ?_)
          obtain ⟨cs2_83, k2_83, ov2_83, rfl, hS9⟩ := hp
          have X := X.perm (gs' := [sW q h0 h1 h2 h3 h4 h5 f1 f2 f3 f4 f5 (nI n), pW q i0 i1 cs2_83 (nI k2_83) ov2_83]) (xp_idx (n := 2) [1, 0] (by decide +kernel) rfl rfl)
          refine lv_aload_n hx hb dX7_tellAlone_86 rfl (lv_at hl 3 rfl) ?_
          refine lv_bipush (v := 48) hx hb dX7_tellAlone_87 (by decide) ?_
          refine lv_iload_n hx hb dX7_tellAlone_89 rfl (lv_at hl 0 rfl) ?_
          refine lv_bipush (v := 10) hx hb dX7_tellAlone_90 (by decide) ?_
          refine lv_irem hx hb dX7_tellAlone_92 (by decide) ?_
          refine x_i (y := (nI (u % 10))) (pk_rem (a := u) (d := 10) (by omega) (by omega) (by omega)) ?_
          refine lv_iadd hx hb dX7_tellAlone_93 ?_
          refine x_i (y := (nI (48 + (u % 10)))) (nI_add 48 (u % 10)) ?_
          refine x_cVv F X (gc := [pW q i0 i1 cs2_83 (nI k2_83) ov2_83]) (gr := [sW q h0 h1 h2 h3 h4 h5 f1 f2 f3 f4 f5 (nI n)]) (xp_idx (n := 2) [1, 0] (by decide +kernel) rfl rfl) (c_X3_add l D q i0 i1 cs2_83 k2_83 ov2_83 (48 + (u % 10)) (((Ss ++ [48 + w]) ++ [42]) ++ [48 + u / 10]) (by first | assumption | omega) (by assumption)) (cwV 1 F.1.2.2.2.2 gX7_tellAlone_X3_add rfl rfl rfl (by decide +kernel) ⟨Nat.le_of_ble_eq_true rfl, Nat.le_of_ble_eq_true rfl⟩) rfl rfl (r0 := 0) (ci := 3) (T := TX3) (N := 3) rfl rfl hl.1 ⟨Nat.le_of_ble_eq_true rfl, Nat.le_of_ble_eq_true rfl⟩ (Nat.le_of_ble_eq_true rfl) dX7_tellAlone_94 (fun g1 H locs hp X => ?_)
          obtain ⟨cs2_94, k2_94, ov2_94, rfl, hS9⟩ := hp
          have X := X.perm (gs' := [sW q h0 h1 h2 h3 h4 h5 f1 f2 f3 f4 f5 (nI n), pW q i0 i1 cs2_94 (nI k2_94) ov2_94]) (xp_idx (n := 2) [1, 0] (by decide +kernel) rfl rfl)
          refine hret _ _ _ _ _ ?_ X dX7_tellAlone_97
          refine ⟨_, _, _, rfl, ?_⟩
          show xPad (Ss ++ x_wsf (f2 st).toNatClampNeg (f3 st).toNatClampNeg (f4 st).toNatClampNeg (f5 st).toNatClampNeg) _ _ _
          rw [ew, ec, em, eu, nI_clamp (by omega), nI_clamp (by omega), nI_clamp (by omega), nI_clamp (by omega)]
          unfold x_wsf
          rw [if_neg (by omega), if_neg (by omega), if_pos (by omega), if_pos (by omega), if_pos (by omega)]
          simpa only [List.append_assoc, List.singleton_append, List.cons_append, List.nil_append, List.append_nil] using (by assumption : xPad ((((Ss ++ [48 + w]) ++ [42]) ++ [48 + u / 10]) ++ [48 + u % 10]) _ _ _)
    · have c_43 : 0 < m1 := Nat.not_le.mp (fun h => c_43 ((nI_leI (a := m1) (b := 0) (by omega) (by omega)).mpr h))
      refine lv_aload_n hx hb dX7_tellAlone_46 rfl (lv_at hl 2 rfl) ?_
      refine lv_bipush (v := 33) hx hb dX7_tellAlone_47 (by decide) ?_
      refine x_cVv F X (gc := [pW q i0 i1 cs2_10 (nI k2_10) ov2_10]) (gr := [sW q h0 h1 h2 h3 h4 h5 f1 f2 f3 f4 f5 (nI n)]) (xp_idx (n := 2) [1, 0] (by decide +kernel) rfl rfl) (c_X3_add l D q i0 i1 cs2_10 k2_10 ov2_10 33 (Ss ++ [48 + w]) (by first | assumption | omega) (by assumption)) (cwV 1 F.1.2.2.2.2 gX7_tellAlone_X3_add rfl rfl rfl (by decide +kernel) ⟨Nat.le_of_ble_eq_true rfl, Nat.le_of_ble_eq_true rfl⟩) rfl rfl (r0 := 0) (ci := 3) (T := TX3) (N := 3) rfl rfl hl.1 ⟨Nat.le_of_ble_eq_true rfl, Nat.le_of_ble_eq_true rfl⟩ (Nat.le_of_ble_eq_true rfl) dX7_tellAlone_49 (fun g1 H locs hp X => ?_)
      obtain ⟨cs2_49, k2_49, ov2_49, rfl, hS9⟩ := hp
      have X := X.perm (gs' := [sW q h0 h1 h2 h3 h4 h5 f1 f2 f3 f4 f5 (nI n), pW q i0 i1 cs2_49 (nI k2_49) ov2_49]) (xp_idx (n := 2) [1, 0] (by decide +kernel) rfl rfl)
      refine lv_aload_n hx hb dX7_tellAlone_52 rfl (lv_at hl 0 rfl) ?_
      refine x_get F X (v := .ref h5) (C := RX5) (T := TX5) (N := 6) (ci := 5) in_X5 0 rfl rfl 4 (by decide) mw_4 rfl dX7_tellAlone_53 ?_
      refine lv_iload_n hx hb dX7_tellAlone_56 rfl (lv_at hl 1 rfl) ?_
      refine x_iald F X (v := (f5 st)) (n := 20) (f := f5) 5 rfl (vp_in_nI (by omega) (by omega)) (x_cl (by omega)) dX7_tellAlone_57 ?_
      refine x_i (y := (nI u)) (eu) ?_
      refine lv_istore_n (lv' := [(3, .int (nI u)), (0, .ref h0), (1, .int (nI st)), (2, .ref i0)]) hx hb dX7_tellAlone_58 rfl hl (by decide) rfl (fun ls hl => ?_)
      refine lv_iload_n hx hb dX7_tellAlone_59 rfl (lv_at hl 0 rfl) ?_
      refine lv_if_le (tgt := 97) hx hb dX7_tellAlone_60 (by decide) (fun c_60 => ?_) (fun c_60 => ?_)
      · have c_60 : u ≤ 0 := (nI_leI (a := u) (b := 0) (by omega) (by omega)).mp c_60
        refine hret _ _ _ _ _ ?_ X dX7_tellAlone_97
        refine ⟨_, _, _, rfl, ?_⟩
        show xPad (Ss ++ x_wsf (f2 st).toNatClampNeg (f3 st).toNatClampNeg (f4 st).toNatClampNeg (f5 st).toNatClampNeg) _ _ _
        rw [ew, ec, em, eu, nI_clamp (by omega), nI_clamp (by omega), nI_clamp (by omega), nI_clamp (by omega)]
        unfold x_wsf
        rw [if_neg (by omega), if_pos (by omega), if_neg (by omega), if_neg (by omega), if_neg (by omega)]
        simpa only [List.append_assoc, List.singleton_append, List.cons_append, List.nil_append, List.append_nil] using (by assumption : xPad ((Ss ++ [48 + w]) ++ [33]) _ _ _)
      · have c_60 : 0 < u := Nat.not_le.mp (fun h => c_60 ((nI_leI (a := u) (b := 0) (by omega) (by omega)).mpr h))
        refine lv_aload_n hx hb dX7_tellAlone_63 rfl (lv_at hl 3 rfl) ?_
        refine lv_bipush (v := 42) hx hb dX7_tellAlone_64 (by decide) ?_
        refine x_cVv F X (gc := [pW q i0 i1 cs2_49 (nI k2_49) ov2_49]) (gr := [sW q h0 h1 h2 h3 h4 h5 f1 f2 f3 f4 f5 (nI n)]) (xp_idx (n := 2) [1, 0] (by decide +kernel) rfl rfl) (c_X3_add l D q i0 i1 cs2_49 k2_49 ov2_49 42 ((Ss ++ [48 + w]) ++ [33]) (by first | assumption | omega) (by assumption)) (cwV 1 F.1.2.2.2.2 gX7_tellAlone_X3_add rfl rfl rfl (by decide +kernel) ⟨Nat.le_of_ble_eq_true rfl, Nat.le_of_ble_eq_true rfl⟩) rfl rfl (r0 := 0) (ci := 3) (T := TX3) (N := 3) rfl rfl hl.1 ⟨Nat.le_of_ble_eq_true rfl, Nat.le_of_ble_eq_true rfl⟩ (Nat.le_of_ble_eq_true rfl) dX7_tellAlone_66 (fun g1 H locs hp X => ?_)
        obtain ⟨cs2_66, k2_66, ov2_66, rfl, hS9⟩ := hp
        have X := X.perm (gs' := [sW q h0 h1 h2 h3 h4 h5 f1 f2 f3 f4 f5 (nI n), pW q i0 i1 cs2_66 (nI k2_66) ov2_66]) (xp_idx (n := 2) [1, 0] (by decide +kernel) rfl rfl)
        refine lv_iload_n hx hb dX7_tellAlone_69 rfl (lv_at hl 0 rfl) ?_
        refine lv_bipush (v := 10) hx hb dX7_tellAlone_70 (by decide) ?_
        refine lv_icmp_lt (tgt := 86) hx hb dX7_tellAlone_72 (by decide) (fun c_72 => ?_) (fun c_72 => ?_)
        · have c_72 : u < 10 := (nI_ltI (a := u) (b := 10) (by omega) (by omega)).mp c_72
          refine lv_aload_n hx hb dX7_tellAlone_86 rfl (lv_at hl 3 rfl) ?_
          refine lv_bipush (v := 48) hx hb dX7_tellAlone_87 (by decide) ?_
          refine lv_iload_n hx hb dX7_tellAlone_89 rfl (lv_at hl 0 rfl) ?_
          refine lv_bipush (v := 10) hx hb dX7_tellAlone_90 (by decide) ?_
          refine lv_irem hx hb dX7_tellAlone_92 (by decide) ?_
          refine x_i (y := (nI (u % 10))) (pk_rem (a := u) (d := 10) (by omega) (by omega) (by omega)) ?_
          refine lv_iadd hx hb dX7_tellAlone_93 ?_
          refine x_i (y := (nI (48 + (u % 10)))) (nI_add 48 (u % 10)) ?_
          refine x_cVv F X (gc := [pW q i0 i1 cs2_66 (nI k2_66) ov2_66]) (gr := [sW q h0 h1 h2 h3 h4 h5 f1 f2 f3 f4 f5 (nI n)]) (xp_idx (n := 2) [1, 0] (by decide +kernel) rfl rfl) (c_X3_add l D q i0 i1 cs2_66 k2_66 ov2_66 (48 + (u % 10)) (((Ss ++ [48 + w]) ++ [33]) ++ [42]) (by first | assumption | omega) (by assumption)) (cwV 1 F.1.2.2.2.2 gX7_tellAlone_X3_add rfl rfl rfl (by decide +kernel) ⟨Nat.le_of_ble_eq_true rfl, Nat.le_of_ble_eq_true rfl⟩) rfl rfl (r0 := 0) (ci := 3) (T := TX3) (N := 3) rfl rfl hl.1 ⟨Nat.le_of_ble_eq_true rfl, Nat.le_of_ble_eq_true rfl⟩ (Nat.le_of_ble_eq_true rfl) dX7_tellAlone_94 (fun g1 H locs hp X => ?_)
          obtain ⟨cs2_94, k2_94, ov2_94, rfl, hS9⟩ := hp
          have X := X.perm (gs' := [sW q h0 h1 h2 h3 h4 h5 f1 f2 f3 f4 f5 (nI n), pW q i0 i1 cs2_94 (nI k2_94) ov2_94]) (xp_idx (n := 2) [1, 0] (by decide +kernel) rfl rfl)
          refine hret _ _ _ _ _ ?_ X dX7_tellAlone_97
          refine ⟨_, _, _, rfl, ?_⟩
          show xPad (Ss ++ x_wsf (f2 st).toNatClampNeg (f3 st).toNatClampNeg (f4 st).toNatClampNeg (f5 st).toNatClampNeg) _ _ _
          rw [ew, ec, em, eu, nI_clamp (by omega), nI_clamp (by omega), nI_clamp (by omega), nI_clamp (by omega)]
          unfold x_wsf
          rw [if_neg (by omega), if_pos (by omega), if_pos (by omega), if_neg (by omega), if_pos (by omega)]
          simpa only [List.append_assoc, List.singleton_append, List.cons_append, List.nil_append, List.append_nil] using (by assumption : xPad ((((Ss ++ [48 + w]) ++ [33]) ++ [42]) ++ [48 + u % 10]) _ _ _)
        · have c_72 : 10 ≤ u := Nat.not_lt.mp (fun h => c_72 ((nI_ltI (a := u) (b := 10) (by omega) (by omega)).mpr h))
          refine lv_aload_n hx hb dX7_tellAlone_75 rfl (lv_at hl 3 rfl) ?_
          refine lv_bipush (v := 48) hx hb dX7_tellAlone_76 (by decide) ?_
          refine lv_iload_n hx hb dX7_tellAlone_78 rfl (lv_at hl 0 rfl) ?_
          refine lv_bipush (v := 10) hx hb dX7_tellAlone_79 (by decide) ?_
          refine lv_idiv hx hb dX7_tellAlone_81 (by decide) ?_
          refine x_i (y := (nI (u / 10))) (pk_div (a := u) (d := 10) (by omega) (by omega) (by omega)) ?_
          refine lv_iadd hx hb dX7_tellAlone_82 ?_
          refine x_i (y := (nI (48 + (u / 10)))) (nI_add 48 (u / 10)) ?_
          refine x_cVv F X (gc := [pW q i0 i1 cs2_66 (nI k2_66) ov2_66]) (gr := [sW q h0 h1 h2 h3 h4 h5 f1 f2 f3 f4 f5 (nI n)]) (xp_idx (n := 2) [1, 0] (by decide +kernel) rfl rfl) (c_X3_add l D q i0 i1 cs2_66 k2_66 ov2_66 (48 + (u / 10)) (((Ss ++ [48 + w]) ++ [33]) ++ [42]) (by first | assumption | omega) (by assumption)) (cwV 1 F.1.2.2.2.2 gX7_tellAlone_X3_add rfl rfl rfl (by decide +kernel) ⟨Nat.le_of_ble_eq_true rfl, Nat.le_of_ble_eq_true rfl⟩) rfl rfl (r0 := 0) (ci := 3) (T := TX3) (N := 3) rfl rfl hl.1 ⟨Nat.le_of_ble_eq_true rfl, Nat.le_of_ble_eq_true rfl⟩ (Nat.le_of_ble_eq_true rfl) dX7_tellAlone_83 (fun g1 H locs hp X => ?_)
          obtain ⟨cs2_83, k2_83, ov2_83, rfl, hS9⟩ := hp
          have X := X.perm (gs' := [sW q h0 h1 h2 h3 h4 h5 f1 f2 f3 f4 f5 (nI n), pW q i0 i1 cs2_83 (nI k2_83) ov2_83]) (xp_idx (n := 2) [1, 0] (by decide +kernel) rfl rfl)
          refine lv_aload_n hx hb dX7_tellAlone_86 rfl (lv_at hl 3 rfl) ?_
          refine lv_bipush (v := 48) hx hb dX7_tellAlone_87 (by decide) ?_
          refine lv_iload_n hx hb dX7_tellAlone_89 rfl (lv_at hl 0 rfl) ?_
          refine lv_bipush (v := 10) hx hb dX7_tellAlone_90 (by decide) ?_
          refine lv_irem hx hb dX7_tellAlone_92 (by decide) ?_
          refine x_i (y := (nI (u % 10))) (pk_rem (a := u) (d := 10) (by omega) (by omega) (by omega)) ?_
          refine lv_iadd hx hb dX7_tellAlone_93 ?_
          refine x_i (y := (nI (48 + (u % 10)))) (nI_add 48 (u % 10)) ?_
          refine x_cVv F X (gc := [pW q i0 i1 cs2_83 (nI k2_83) ov2_83]) (gr := [sW q h0 h1 h2 h3 h4 h5 f1 f2 f3 f4 f5 (nI n)]) (xp_idx (n := 2) [1, 0] (by decide +kernel) rfl rfl) (c_X3_add l D q i0 i1 cs2_83 k2_83 ov2_83 (48 + (u % 10)) ((((Ss ++ [48 + w]) ++ [33]) ++ [42]) ++ [48 + u / 10]) (by first | assumption | omega) (by assumption)) (cwV 1 F.1.2.2.2.2 gX7_tellAlone_X3_add rfl rfl rfl (by decide +kernel) ⟨Nat.le_of_ble_eq_true rfl, Nat.le_of_ble_eq_true rfl⟩) rfl rfl (r0 := 0) (ci := 3) (T := TX3) (N := 3) rfl rfl hl.1 ⟨Nat.le_of_ble_eq_true rfl, Nat.le_of_ble_eq_true rfl⟩ (Nat.le_of_ble_eq_true rfl) dX7_tellAlone_94 (fun g1 H locs hp X => ?_)
          obtain ⟨cs2_94, k2_94, ov2_94, rfl, hS9⟩ := hp
          have X := X.perm (gs' := [sW q h0 h1 h2 h3 h4 h5 f1 f2 f3 f4 f5 (nI n), pW q i0 i1 cs2_94 (nI k2_94) ov2_94]) (xp_idx (n := 2) [1, 0] (by decide +kernel) rfl rfl)
          refine hret _ _ _ _ _ ?_ X dX7_tellAlone_97
          refine ⟨_, _, _, rfl, ?_⟩
          show xPad (Ss ++ x_wsf (f2 st).toNatClampNeg (f3 st).toNatClampNeg (f4 st).toNatClampNeg (f5 st).toNatClampNeg) _ _ _
          rw [ew, ec, em, eu, nI_clamp (by omega), nI_clamp (by omega), nI_clamp (by omega), nI_clamp (by omega)]
          unfold x_wsf
          rw [if_neg (by omega), if_pos (by omega), if_pos (by omega), if_pos (by omega), if_pos (by omega)]
          simpa only [List.append_assoc, List.singleton_append, List.cons_append, List.nil_append, List.append_nil] using (by assumption : xPad (((((Ss ++ [48 + w]) ++ [33]) ++ [42]) ++ [48 + u / 10]) ++ [48 + u % 10]) _ _ _)
  · have c_19 : 0 < c1 := Nat.not_le.mp (fun h => c_19 ((nI_leI (a := c1) (b := 0) (by omega) (by omega)).mpr h))
    refine lv_aload_n hx hb dX7_tellAlone_22 rfl (lv_at hl 2 rfl) ?_
    refine lv_bipush (v := 97) hx hb dX7_tellAlone_23 (by decide) ?_
    refine lv_aload_n hx hb dX7_tellAlone_25 rfl (lv_at hl 0 rfl) ?_
    refine x_get F X (v := .ref h3) (C := RX5) (T := TX5) (N := 6) (ci := 5) in_X5 0 rfl rfl 2 (by decide) mw_2 rfl dX7_tellAlone_26 ?_
    refine lv_iload_n hx hb dX7_tellAlone_29 rfl (lv_at hl 1 rfl) ?_
    refine x_iald F X (v := (f3 st)) (n := 20) (f := f3) 3 rfl (vp_in_nI (by omega) (by omega)) (x_cl (by omega)) dX7_tellAlone_30 ?_
    refine x_i (y := (nI c1)) (ec) ?_
    refine lv_iadd hx hb dX7_tellAlone_31 ?_
    refine x_i (y := (nI (97 + c1))) (nI_add 97 c1) ?_
    refine lv_iconst (v := 1) hx hb dX7_tellAlone_32 (by decide) ?_
    refine lv_isub hx hb dX7_tellAlone_33 ?_
    refine x_i (y := (nI ((97 + c1) - 1))) (pk_sub (a := (97 + c1)) (b := 1) (by omega)) ?_
    refine x_cVv F X (gc := [pW q i0 i1 cs2_10 (nI k2_10) ov2_10]) (gr := [sW q h0 h1 h2 h3 h4 h5 f1 f2 f3 f4 f5 (nI n)]) (xp_idx (n := 2) [1, 0] (by decide +kernel) rfl rfl) (c_X3_add l D q i0 i1 cs2_10 k2_10 ov2_10 ((97 + c1) - 1) (Ss ++ [48 + w]) (by first | assumption | omega) (by assumption)) (cwV 1 F.1.2.2.2.2 gX7_tellAlone_X3_add rfl rfl rfl (by decide +kernel) ⟨Nat.le_of_ble_eq_true rfl, Nat.le_of_ble_eq_true rfl⟩) rfl rfl (r0 := 0) (ci := 3) (T := TX3) (N := 3) rfl rfl hl.1 ⟨Nat.le_of_ble_eq_true rfl, Nat.le_of_ble_eq_true rfl⟩ (Nat.le_of_ble_eq_true rfl) dX7_tellAlone_34 (fun g1 H locs hp X => ?_)
    obtain ⟨cs2_34, k2_34, ov2_34, rfl, hS9⟩ := hp
    have X := X.perm (gs' := [sW q h0 h1 h2 h3 h4 h5 f1 f2 f3 f4 f5 (nI n), pW q i0 i1 cs2_34 (nI k2_34) ov2_34]) (xp_idx (n := 2) [1, 0] (by decide +kernel) rfl rfl)
    refine lv_aload_n hx hb dX7_tellAlone_37 rfl (lv_at hl 0 rfl) ?_
    refine x_get F X (v := .ref h4) (C := RX5) (T := TX5) (N := 6) (ci := 5) in_X5 0 rfl rfl 3 (by decide) mw_3 rfl dX7_tellAlone_38 ?_
    refine lv_iload_n hx hb dX7_tellAlone_41 rfl (lv_at hl 1 rfl) ?_
    refine x_iald F X (v := (f4 st)) (n := 20) (f := f4) 4 rfl (vp_in_nI (by omega) (by omega)) (x_cl (by omega)) dX7_tellAlone_42 ?_
    refine x_i (y := (nI m1)) (em) ?_
    refine lv_if_le (tgt := 52) hx hb dX7_tellAlone_43 (by decide) (fun c_43 => ?_) (fun c_43 => ?_)
    · have c_43 : m1 ≤ 0 := (nI_leI (a := m1) (b := 0) (by omega) (by omega)).mp c_43
      refine lv_aload_n hx hb dX7_tellAlone_52 rfl (lv_at hl 0 rfl) ?_
      refine x_get F X (v := .ref h5) (C := RX5) (T := TX5) (N := 6) (ci := 5) in_X5 0 rfl rfl 4 (by decide) mw_4 rfl dX7_tellAlone_53 ?_
      refine lv_iload_n hx hb dX7_tellAlone_56 rfl (lv_at hl 1 rfl) ?_
      refine x_iald F X (v := (f5 st)) (n := 20) (f := f5) 5 rfl (vp_in_nI (by omega) (by omega)) (x_cl (by omega)) dX7_tellAlone_57 ?_
      refine x_i (y := (nI u)) (eu) ?_
      refine lv_istore_n (lv' := [(3, .int (nI u)), (0, .ref h0), (1, .int (nI st)), (2, .ref i0)]) hx hb dX7_tellAlone_58 rfl hl (by decide) rfl (fun ls hl => ?_)
      refine lv_iload_n hx hb dX7_tellAlone_59 rfl (lv_at hl 0 rfl) ?_
      refine lv_if_le (tgt := 97) hx hb dX7_tellAlone_60 (by decide) (fun c_60 => ?_) (fun c_60 => ?_)
      · have c_60 : u ≤ 0 := (nI_leI (a := u) (b := 0) (by omega) (by omega)).mp c_60
        refine hret _ _ _ _ _ ?_ X dX7_tellAlone_97
        refine ⟨_, _, _, rfl, ?_⟩
        show xPad (Ss ++ x_wsf (f2 st).toNatClampNeg (f3 st).toNatClampNeg (f4 st).toNatClampNeg (f5 st).toNatClampNeg) _ _ _
        rw [ew, ec, em, eu, nI_clamp (by omega), nI_clamp (by omega), nI_clamp (by omega), nI_clamp (by omega)]
        unfold x_wsf
        rw [if_pos (by omega), if_neg (by omega), if_neg (by omega), if_neg (by omega), if_neg (by omega)]
        simpa only [List.append_assoc, List.singleton_append, List.cons_append, List.nil_append, List.append_nil] using (by assumption : xPad ((Ss ++ [48 + w]) ++ [97 + c1 - 1]) _ _ _)
      · have c_60 : 0 < u := Nat.not_le.mp (fun h => c_60 ((nI_leI (a := u) (b := 0) (by omega) (by omega)).mpr h))
        refine lv_aload_n hx hb dX7_tellAlone_63 rfl (lv_at hl 3 rfl) ?_
        refine lv_bipush (v := 42) hx hb dX7_tellAlone_64 (by decide) ?_
        refine x_cVv F X (gc := [pW q i0 i1 cs2_34 (nI k2_34) ov2_34]) (gr := [sW q h0 h1 h2 h3 h4 h5 f1 f2 f3 f4 f5 (nI n)]) (xp_idx (n := 2) [1, 0] (by decide +kernel) rfl rfl) (c_X3_add l D q i0 i1 cs2_34 k2_34 ov2_34 42 ((Ss ++ [48 + w]) ++ [97 + c1 - 1]) (by first | assumption | omega) (by assumption)) (cwV 1 F.1.2.2.2.2 gX7_tellAlone_X3_add rfl rfl rfl (by decide +kernel) ⟨Nat.le_of_ble_eq_true rfl, Nat.le_of_ble_eq_true rfl⟩) rfl rfl (r0 := 0) (ci := 3) (T := TX3) (N := 3) rfl rfl hl.1 ⟨Nat.le_of_ble_eq_true rfl, Nat.le_of_ble_eq_true rfl⟩ (Nat.le_of_ble_eq_true rfl) dX7_tellAlone_66 (fun g1 H locs hp X => ?_)
        obtain ⟨cs2_66, k2_66, ov2_66, rfl, hS9⟩ := hp
        have X := X.perm (gs' := [sW q h0 h1 h2 h3 h4 h5 f1 f2 f3 f4 f5 (nI n), pW q i0 i1 cs2_66 (nI k2_66) ov2_66]) (xp_idx (n := 2) [1, 0] (by decide +kernel) rfl rfl)
        refine lv_iload_n hx hb dX7_tellAlone_69 rfl (lv_at hl 0 rfl) ?_
        refine lv_bipush (v := 10) hx hb dX7_tellAlone_70 (by decide) ?_
        refine lv_icmp_lt (tgt := 86) hx hb dX7_tellAlone_72 (by decide) (fun c_72 => ?_) (fun c_72 => ?_)
        · have c_72 : u < 10 := (nI_ltI (a := u) (b := 10) (by omega) (by omega)).mp c_72
          refine lv_aload_n hx hb dX7_tellAlone_86 rfl (lv_at hl 3 rfl) ?_
          refine lv_bipush (v := 48) hx hb dX7_tellAlone_87 (by decide) ?_
          refine lv_iload_n hx hb dX7_tellAlone_89 rfl (lv_at hl 0 rfl) ?_
          refine lv_bipush (v := 10) hx hb dX7_tellAlone_90 (by decide) ?_
          refine lv_irem hx hb dX7_tellAlone_92 (by decide) ?_
          refine x_i (y := (nI (u % 10))) (pk_rem (a := u) (d := 10) (by omega) (by omega) (by omega)) ?_
          refine lv_iadd hx hb dX7_tellAlone_93 ?_
          refine x_i (y := (nI (48 + (u % 10)))) (nI_add 48 (u % 10)) ?_
          refine x_cVv F X (gc := [pW q i0 i1 cs2_66 (nI k2_66) ov2_66]) (gr := [sW q h0 h1 h2 h3 h4 h5 f1 f2 f3 f4 f5 (nI n)]) (xp_idx (n := 2) [1, 0] (by decide +kernel) rfl rfl) (c_X3_add l D q i0 i1 cs2_66 k2_66 ov2_66 (48 + (u % 10)) (((Ss ++ [48 + w]) ++ [97 + c1 - 1]) ++ [42]) (by first | assumption | omega) (by assumption)) (cwV 1 F.1.2.2.2.2 gX7_tellAlone_X3_add rfl rfl rfl (by decide +kernel) ⟨Nat.le_of_ble_eq_true rfl, Nat.le_of_ble_eq_true rfl⟩) rfl rfl (r0 := 0) (ci := 3) (T := TX3) (N := 3) rfl rfl hl.1 ⟨Nat.le_of_ble_eq_true rfl, Nat.le_of_ble_eq_true rfl⟩ (Nat.le_of_ble_eq_true rfl) dX7_tellAlone_94 (fun g1 H locs hp X => ?_)
          obtain ⟨cs2_94, k2_94, ov2_94, rfl, hS9⟩ := hp
          have X := X.perm (gs' := [sW q h0 h1 h2 h3 h4 h5 f1 f2 f3 f4 f5 (nI n), pW q i0 i1 cs2_94 (nI k2_94) ov2_94]) (xp_idx (n := 2) [1, 0] (by decide +kernel) rfl rfl)
          refine hret _ _ _ _ _ ?_ X dX7_tellAlone_97
          refine ⟨_, _, _, rfl, ?_⟩
          show xPad (Ss ++ x_wsf (f2 st).toNatClampNeg (f3 st).toNatClampNeg (f4 st).toNatClampNeg (f5 st).toNatClampNeg) _ _ _
          rw [ew, ec, em, eu, nI_clamp (by omega), nI_clamp (by omega), nI_clamp (by omega), nI_clamp (by omega)]
          unfold x_wsf
          rw [if_pos (by omega), if_neg (by omega), if_pos (by omega), if_neg (by omega), if_pos (by omega)]
          simpa only [List.append_assoc, List.singleton_append, List.cons_append, List.nil_append, List.append_nil] using (by assumption : xPad ((((Ss ++ [48 + w]) ++ [97 + c1 - 1]) ++ [42]) ++ [48 + u % 10]) _ _ _)
        · have c_72 : 10 ≤ u := Nat.not_lt.mp (fun h => c_72 ((nI_ltI (a := u) (b := 10) (by omega) (by omega)).mpr h))
          refine lv_aload_n hx hb dX7_tellAlone_75 rfl (lv_at hl 3 rfl) ?_
          refine lv_bipush (v := 48) hx hb dX7_tellAlone_76 (by decide) ?_
          refine lv_iload_n hx hb dX7_tellAlone_78 rfl (lv_at hl 0 rfl) ?_
          refine lv_bipush (v := 10) hx hb dX7_tellAlone_79 (by decide) ?_
          refine lv_idiv hx hb dX7_tellAlone_81 (by decide) ?_
          refine x_i (y := (nI (u / 10))) (pk_div (a := u) (d := 10) (by omega) (by omega) (by omega)) ?_
          refine lv_iadd hx hb dX7_tellAlone_82 ?_
          refine x_i (y := (nI (48 + (u / 10)))) (nI_add 48 (u / 10)) ?_
          refine x_cVv F X (gc := [pW q i0 i1 cs2_66 (nI k2_66) ov2_66]) (gr := [sW q h0 h1 h2 h3 h4 h5 f1 f2 f3 f4 f5 (nI n)]) (xp_idx (n := 2) [1, 0] (by decide +kernel) rfl rfl) (c_X3_add l D q i0 i1 cs2_66 k2_66 ov2_66 (48 + (u / 10)) (((Ss ++ [48 + w]) ++ [97 + c1 - 1]) ++ [42]) (by first | assumption | omega) (by assumption)) (cwV 1 F.1.2.2.2.2 gX7_tellAlone_X3_add rfl rfl rfl (by decide +kernel) ⟨Nat.le_of_ble_eq_true rfl, Nat.le_of_ble_eq_true rfl⟩) rfl rfl (r0 := 0) (ci := 3) (T := TX3) (N := 3) rfl rfl hl.1 ⟨Nat.le_of_ble_eq_true rfl, Nat.le_of_ble_eq_true rfl⟩ (Nat.le_of_ble_eq_true rfl) dX7_tellAlone_83 (fun g1 H locs hp X => ?_)
          obtain ⟨cs2_83, k2_83, ov2_83, rfl, hS9⟩ := hp
          have X := X.perm (gs' := [sW q h0 h1 h2 h3 h4 h5 f1 f2 f3 f4 f5 (nI n), pW q i0 i1 cs2_83 (nI k2_83) ov2_83]) (xp_idx (n := 2) [1, 0] (by decide +kernel) rfl rfl)
          refine lv_aload_n hx hb dX7_tellAlone_86 rfl (lv_at hl 3 rfl) ?_
          refine lv_bipush (v := 48) hx hb dX7_tellAlone_87 (by decide) ?_
          refine lv_iload_n hx hb dX7_tellAlone_89 rfl (lv_at hl 0 rfl) ?_
          refine lv_bipush (v := 10) hx hb dX7_tellAlone_90 (by decide) ?_
          refine lv_irem hx hb dX7_tellAlone_92 (by decide) ?_
          refine x_i (y := (nI (u % 10))) (pk_rem (a := u) (d := 10) (by omega) (by omega) (by omega)) ?_
          refine lv_iadd hx hb dX7_tellAlone_93 ?_
          refine x_i (y := (nI (48 + (u % 10)))) (nI_add 48 (u % 10)) ?_
          refine x_cVv F X (gc := [pW q i0 i1 cs2_83 (nI k2_83) ov2_83]) (gr := [sW q h0 h1 h2 h3 h4 h5 f1 f2 f3 f4 f5 (nI n)]) (xp_idx (n := 2) [1, 0] (by decide +kernel) rfl rfl) (c_X3_add l D q i0 i1 cs2_83 k2_83 ov2_83 (48 + (u % 10)) ((((Ss ++ [48 + w]) ++ [97 + c1 - 1]) ++ [42]) ++ [48 + u / 10]) (by first | assumption | omega) (by assumption)) (cwV 1 F.1.2.2.2.2 gX7_tellAlone_X3_add rfl rfl rfl (by decide +kernel) ⟨Nat.le_of_ble_eq_true rfl, Nat.le_of_ble_eq_true rfl⟩) rfl rfl (r0 := 0) (ci := 3) (T := TX3) (N := 3) rfl rfl hl.1 ⟨Nat.le_of_ble_eq_true rfl, Nat.le_of_ble_eq_true rfl⟩ (Nat.le_of_ble_eq_true rfl) dX7_tellAlone_94 (fun g1 H locs hp X => ?_)
          obtain ⟨cs2_94, k2_94, ov2_94, rfl, hS9⟩ := hp
          have X := X.perm (gs' := [sW q h0 h1 h2 h3 h4 h5 f1 f2 f3 f4 f5 (nI n), pW q i0 i1 cs2_94 (nI k2_94) ov2_94]) (xp_idx (n := 2) [1, 0] (by decide +kernel) rfl rfl)
          refine hret _ _ _ _ _ ?_ X dX7_tellAlone_97
          refine ⟨_, _, _, rfl, ?_⟩
          show xPad (Ss ++ x_wsf (f2 st).toNatClampNeg (f3 st).toNatClampNeg (f4 st).toNatClampNeg (f5 st).toNatClampNeg) _ _ _
          rw [ew, ec, em, eu, nI_clamp (by omega), nI_clamp (by omega), nI_clamp (by omega), nI_clamp (by omega)]
          unfold x_wsf
          rw [if_pos (by omega), if_neg (by omega), if_pos (by omega), if_pos (by omega), if_pos (by omega)]
          simpa only [List.append_assoc, List.singleton_append, List.cons_append, List.nil_append, List.append_nil] using (by assumption : xPad (((((Ss ++ [48 + w]) ++ [97 + c1 - 1]) ++ [42]) ++ [48 + u / 10]) ++ [48 + u % 10]) _ _ _)
    · have c_43 : 0 < m1 := Nat.not_le.mp (fun h => c_43 ((nI_leI (a := m1) (b := 0) (by omega) (by omega)).mpr h))
      refine lv_aload_n hx hb dX7_tellAlone_46 rfl (lv_at hl 2 rfl) ?_
      refine lv_bipush (v := 33) hx hb dX7_tellAlone_47 (by decide) ?_
      refine x_cVv F X (gc := [pW q i0 i1 cs2_34 (nI k2_34) ov2_34]) (gr := [sW q h0 h1 h2 h3 h4 h5 f1 f2 f3 f4 f5 (nI n)]) (xp_idx (n := 2) [1, 0] (by decide +kernel) rfl rfl) (c_X3_add l D q i0 i1 cs2_34 k2_34 ov2_34 33 ((Ss ++ [48 + w]) ++ [97 + c1 - 1]) (by first | assumption | omega) (by assumption)) (cwV 1 F.1.2.2.2.2 gX7_tellAlone_X3_add rfl rfl rfl (by decide +kernel) ⟨Nat.le_of_ble_eq_true rfl, Nat.le_of_ble_eq_true rfl⟩) rfl rfl (r0 := 0) (ci := 3) (T := TX3) (N := 3) rfl rfl hl.1 ⟨Nat.le_of_ble_eq_true rfl, Nat.le_of_ble_eq_true rfl⟩ (Nat.le_of_ble_eq_true rfl) dX7_tellAlone_49 (fun g1 H locs hp X => ?_)
      obtain ⟨cs2_49, k2_49, ov2_49, rfl, hS9⟩ := hp
      have X := X.perm (gs' := [sW q h0 h1 h2 h3 h4 h5 f1 f2 f3 f4 f5 (nI n), pW q i0 i1 cs2_49 (nI k2_49) ov2_49]) (xp_idx (n := 2) [1, 0] (by decide +kernel) rfl rfl)
      refine lv_aload_n hx hb dX7_tellAlone_52 rfl (lv_at hl 0 rfl) ?_
      refine x_get F X (v := .ref h5) (C := RX5) (T := TX5) (N := 6) (ci := 5) in_X5 0 rfl rfl 4 (by decide) mw_4 rfl dX7_tellAlone_53 ?_
      refine lv_iload_n hx hb dX7_tellAlone_56 rfl (lv_at hl 1 rfl) ?_
      refine x_iald F X (v := (f5 st)) (n := 20) (f := f5) 5 rfl (vp_in_nI (by omega) (by omega)) (x_cl (by omega)) dX7_tellAlone_57 ?_
      refine x_i (y := (nI u)) (eu) ?_
      refine lv_istore_n (lv' := [(3, .int (nI u)), (0, .ref h0), (1, .int (nI st)), (2, .ref i0)]) hx hb dX7_tellAlone_58 rfl hl (by decide) rfl (fun ls hl => ?_)
      refine lv_iload_n hx hb dX7_tellAlone_59 rfl (lv_at hl 0 rfl) ?_
      refine lv_if_le (tgt := 97) hx hb dX7_tellAlone_60 (by decide) (fun c_60 => ?_) (fun c_60 => ?_)
      · have c_60 : u ≤ 0 := (nI_leI (a := u) (b := 0) (by omega) (by omega)).mp c_60
        refine hret _ _ _ _ _ ?_ X dX7_tellAlone_97
        refine ⟨_, _, _, rfl, ?_⟩
        show xPad (Ss ++ x_wsf (f2 st).toNatClampNeg (f3 st).toNatClampNeg (f4 st).toNatClampNeg (f5 st).toNatClampNeg) _ _ _
        rw [ew, ec, em, eu, nI_clamp (by omega), nI_clamp (by omega), nI_clamp (by omega), nI_clamp (by omega)]
        unfold x_wsf
        rw [if_pos (by omega), if_pos (by omega), if_neg (by omega), if_neg (by omega), if_neg (by omega)]
        simpa only [List.append_assoc, List.singleton_append, List.cons_append, List.nil_append, List.append_nil] using (by assumption : xPad (((Ss ++ [48 + w]) ++ [97 + c1 - 1]) ++ [33]) _ _ _)
      · have c_60 : 0 < u := Nat.not_le.mp (fun h => c_60 ((nI_leI (a := u) (b := 0) (by omega) (by omega)).mpr h))
        refine lv_aload_n hx hb dX7_tellAlone_63 rfl (lv_at hl 3 rfl) ?_
        refine lv_bipush (v := 42) hx hb dX7_tellAlone_64 (by decide) ?_
        refine x_cVv F X (gc := [pW q i0 i1 cs2_49 (nI k2_49) ov2_49]) (gr := [sW q h0 h1 h2 h3 h4 h5 f1 f2 f3 f4 f5 (nI n)]) (xp_idx (n := 2) [1, 0] (by decide +kernel) rfl rfl) (c_X3_add l D q i0 i1 cs2_49 k2_49 ov2_49 42 (((Ss ++ [48 + w]) ++ [97 + c1 - 1]) ++ [33]) (by first | assumption | omega) (by assumption)) (cwV 1 F.1.2.2.2.2 gX7_tellAlone_X3_add rfl rfl rfl (by decide +kernel) ⟨Nat.le_of_ble_eq_true rfl, Nat.le_of_ble_eq_true rfl⟩) rfl rfl (r0 := 0) (ci := 3) (T := TX3) (N := 3) rfl rfl hl.1 ⟨Nat.le_of_ble_eq_true rfl, Nat.le_of_ble_eq_true rfl⟩ (Nat.le_of_ble_eq_true rfl) dX7_tellAlone_66 (fun g1 H locs hp X => ?_)
        obtain ⟨cs2_66, k2_66, ov2_66, rfl, hS9⟩ := hp
        have X := X.perm (gs' := [sW q h0 h1 h2 h3 h4 h5 f1 f2 f3 f4 f5 (nI n), pW q i0 i1 cs2_66 (nI k2_66) ov2_66]) (xp_idx (n := 2) [1, 0] (by decide +kernel) rfl rfl)
        refine lv_iload_n hx hb dX7_tellAlone_69 rfl (lv_at hl 0 rfl) ?_
        refine lv_bipush (v := 10) hx hb dX7_tellAlone_70 (by decide) ?_
        refine lv_icmp_lt (tgt := 86) hx hb dX7_tellAlone_72 (by decide) (fun c_72 => ?_) (fun c_72 => ?_)
        · have c_72 : u < 10 := (nI_ltI (a := u) (b := 10) (by omega) (by omega)).mp c_72
          refine lv_aload_n hx hb dX7_tellAlone_86 rfl (lv_at hl 3 rfl) ?_
          refine lv_bipush (v := 48) hx hb dX7_tellAlone_87 (by decide) ?_
          refine lv_iload_n hx hb dX7_tellAlone_89 rfl (lv_at hl 0 rfl) ?_
          refine lv_bipush (v := 10) hx hb dX7_tellAlone_90 (by decide) ?_
          refine lv_irem hx hb dX7_tellAlone_92 (by decide) ?_
          refine x_i (y := (nI (u % 10))) (pk_rem (a := u) (d := 10) (by omega) (by omega) (by omega)) ?_
          refine lv_iadd hx hb dX7_tellAlone_93 ?_
          refine x_i (y := (nI (48 + (u % 10)))) (nI_add 48 (u % 10)) ?_
          refine x_cVv F X (gc := [pW q i0 i1 cs2_66 (nI k2_66) ov2_66]) (gr := [sW q h0 h1 h2 h3 h4 h5 f1 f2 f3 f4 f5 (nI n)]) (xp_idx (n := 2) [1, 0] (by decide +kernel) rfl rfl) (c_X3_add l D q i0 i1 cs2_66 k2_66 ov2_66 (48 + (u % 10)) ((((Ss ++ [48 + w]) ++ [97 + c1 - 1]) ++ [33]) ++ [42]) (by first | assumption | omega) (by assumption)) (cwV 1 F.1.2.2.2.2 gX7_tellAlone_X3_add rfl rfl rfl (by decide +kernel) ⟨Nat.le_of_ble_eq_true rfl, Nat.le_of_ble_eq_true rfl⟩) rfl rfl (r0 := 0) (ci := 3) (T := TX3) (N := 3) rfl rfl hl.1 ⟨Nat.le_of_ble_eq_true rfl, Nat.le_of_ble_eq_true rfl⟩ (Nat.le_of_ble_eq_true rfl) dX7_tellAlone_94 (fun g1 H locs hp X => ?_)
          obtain ⟨cs2_94, k2_94, ov2_94, rfl, hS9⟩ := hp
          have X := X.perm (gs' := [sW q h0 h1 h2 h3 h4 h5 f1 f2 f3 f4 f5 (nI n), pW q i0 i1 cs2_94 (nI k2_94) ov2_94]) (xp_idx (n := 2) [1, 0] (by decide +kernel) rfl rfl)
          refine hret _ _ _ _ _ ?_ X dX7_tellAlone_97
          refine ⟨_, _, _, rfl, ?_⟩
          show xPad (Ss ++ x_wsf (f2 st).toNatClampNeg (f3 st).toNatClampNeg (f4 st).toNatClampNeg (f5 st).toNatClampNeg) _ _ _
          rw [ew, ec, em, eu, nI_clamp (by omega), nI_clamp (by omega), nI_clamp (by omega), nI_clamp (by omega)]
          unfold x_wsf
          rw [if_pos (by omega), if_pos (by omega), if_pos (by omega), if_neg (by omega), if_pos (by omega)]
          simpa only [List.append_assoc, List.singleton_append, List.cons_append, List.nil_append, List.append_nil] using (by assumption : xPad (((((Ss ++ [48 + w]) ++ [97 + c1 - 1]) ++ [33]) ++ [42]) ++ [48 + u % 10]) _ _ _)
        · have c_72 : 10 ≤ u := Nat.not_lt.mp (fun h => c_72 ((nI_ltI (a := u) (b := 10) (by omega) (by omega)).mpr h))
          refine lv_aload_n hx hb dX7_tellAlone_75 rfl (lv_at hl 3 rfl) ?_
          refine lv_bipush (v := 48) hx hb dX7_tellAlone_76 (by decide) ?_
          refine lv_iload_n hx hb dX7_tellAlone_78 rfl (lv_at hl 0 rfl) ?_
          refine lv_bipush (v := 10) hx hb dX7_tellAlone_79 (by decide) ?_
          refine lv_idiv hx hb dX7_tellAlone_81 (by decide) ?_
          refine x_i (y := (nI (u / 10))) (pk_div (a := u) (d := 10) (by omega) (by omega) (by omega)) ?_
          refine lv_iadd hx hb dX7_tellAlone_82 ?_
          refine x_i (y := (nI (48 + (u / 10)))) (nI_add 48 (u / 10)) ?_
          refine x_cVv F X (gc := [pW q i0 i1 cs2_66 (nI k2_66) ov2_66]) (gr := [sW q h0 h1 h2 h3 h4 h5 f1 f2 f3 f4 f5 (nI n)]) (xp_idx (n := 2) [1, 0] (by decide +kernel) rfl rfl) (c_X3_add l D q i0 i1 cs2_66 k2_66 ov2_66 (48 + (u / 10)) ((((Ss ++ [48 + w]) ++ [97 + c1 - 1]) ++ [33]) ++ [42]) (by first | assumption | omega) (by assumption)) (cwV 1 F.1.2.2.2.2 gX7_tellAlone_X3_add rfl rfl rfl (by decide +kernel) ⟨Nat.le_of_ble_eq_true rfl, Nat.le_of_ble_eq_true rfl⟩) rfl rfl (r0 := 0) (ci := 3) (T := TX3) (N := 3) rfl rfl hl.1 ⟨Nat.le_of_ble_eq_true rfl, Nat.le_of_ble_eq_true rfl⟩ (Nat.le_of_ble_eq_true rfl) dX7_tellAlone_83 (fun g1 H locs hp X => ?_)
          obtain ⟨cs2_83, k2_83, ov2_83, rfl, hS9⟩ := hp
          have X := X.perm (gs' := [sW q h0 h1 h2 h3 h4 h5 f1 f2 f3 f4 f5 (nI n), pW q i0 i1 cs2_83 (nI k2_83) ov2_83]) (xp_idx (n := 2) [1, 0] (by decide +kernel) rfl rfl)
          refine lv_aload_n hx hb dX7_tellAlone_86 rfl (lv_at hl 3 rfl) ?_
          refine lv_bipush (v := 48) hx hb dX7_tellAlone_87 (by decide) ?_
          refine lv_iload_n hx hb dX7_tellAlone_89 rfl (lv_at hl 0 rfl) ?_
          refine lv_bipush (v := 10) hx hb dX7_tellAlone_90 (by decide) ?_
          refine lv_irem hx hb dX7_tellAlone_92 (by decide) ?_
          refine x_i (y := (nI (u % 10))) (pk_rem (a := u) (d := 10) (by omega) (by omega) (by omega)) ?_
          refine lv_iadd hx hb dX7_tellAlone_93 ?_
          refine x_i (y := (nI (48 + (u % 10)))) (nI_add 48 (u % 10)) ?_
          refine x_cVv F X (gc := [pW q i0 i1 cs2_83 (nI k2_83) ov2_83]) (gr := [sW q h0 h1 h2 h3 h4 h5 f1 f2 f3 f4 f5 (nI n)]) (xp_idx (n := 2) [1, 0] (by decide +kernel) rfl rfl) (c_X3_add l D q i0 i1 cs2_83 k2_83 ov2_83 (48 + (u % 10)) (((((Ss ++ [48 + w]) ++ [97 + c1 - 1]) ++ [33]) ++ [42]) ++ [48 + u / 10]) (by first | assumption | omega) (by assumption)) (cwV 1 F.1.2.2.2.2 gX7_tellAlone_X3_add rfl rfl rfl (by decide +kernel) ⟨Nat.le_of_ble_eq_true rfl, Nat.le_of_ble_eq_true rfl⟩) rfl rfl (r0 := 0) (ci := 3) (T := TX3) (N := 3) rfl rfl hl.1 ⟨Nat.le_of_ble_eq_true rfl, Nat.le_of_ble_eq_true rfl⟩ (Nat.le_of_ble_eq_true rfl) dX7_tellAlone_94 (fun g1 H locs hp X => ?_)
          obtain ⟨cs2_94, k2_94, ov2_94, rfl, hS9⟩ := hp
          have X := X.perm (gs' := [sW q h0 h1 h2 h3 h4 h5 f1 f2 f3 f4 f5 (nI n), pW q i0 i1 cs2_94 (nI k2_94) ov2_94]) (xp_idx (n := 2) [1, 0] (by decide +kernel) rfl rfl)
          refine hret _ _ _ _ _ ?_ X dX7_tellAlone_97
          refine ⟨_, _, _, rfl, ?_⟩
          show xPad (Ss ++ x_wsf (f2 st).toNatClampNeg (f3 st).toNatClampNeg (f4 st).toNatClampNeg (f5 st).toNatClampNeg) _ _ _
          rw [ew, ec, em, eu, nI_clamp (by omega), nI_clamp (by omega), nI_clamp (by omega), nI_clamp (by omega)]
          unfold x_wsf
          rw [if_pos (by omega), if_pos (by omega), if_pos (by omega), if_pos (by omega), if_pos (by omega)]
          simpa only [List.append_assoc, List.singleton_append, List.cons_append, List.nil_append, List.append_nil] using (by assumption : xPad ((((((Ss ++ [48 + w]) ++ [97 + c1 - 1]) ++ [33]) ++ [42]) ++ [48 + u / 10]) ++ [48 + u % 10]) _ _ _)

set_option maxHeartbeats 1000000 in
set_option maxRecDepth 100000 in
theorem c_X7_tell_s (l : Launch) (D : va_G) (q : xQ) (m : Nat) (IH : ∀ (h0 : Nat) (h1 : Nat) (h2 : Nat) (h3 : Nat) (h4 : Nat) (h5 : Nat) (i0 : Nat) (i1 : Nat) (f1 : Nat → Int32) (f2 : Nat → Int32) (f3 : Nat → Int32) (f4 : Nat → Int32) (f5 : Nat → Int32) (cs : Nat → Int32) (n : Nat) (st : Nat) (z : Nat) (ov : Int32) (Ss : List Nat) (d : Nat) (pr : Nat → Nat) (hn : n ≤ 20) (hst : st < n) (hwd : ∀ o, o < n → ∃ w, 1 ≤ w ∧ w ≤ 9 ∧ f2 o = nI w) (hcl : ∀ o, o < n → ∃ v, v ≤ 5 ∧ f3 o = nI v) (hsm : ∀ o, o < n → ∃ v, v ≤ 1 ∧ f4 o = nI v) (hpe : ∀ o, o < n → ∃ v, v ≤ 99 ∧ f5 o = nI v) (hS : xPad Ss cs z ov) (hd : d ≤ st) (hpr : ∀ o, 1 ≤ o → o < n → f1 o = nI (pr o) ∧ pr o < o) (hm : n ≤ st + m), xMv l yX7_tell wsX7_tell { frames := m + 3, cells := 0, slots := 0, locals := 40 * m + 200 } D q [.ref h0, .int (nI st), .int (nI d), .ref i0] [sW q h0 h1 h2 h3 h4 h5 f1 f2 f3 f4 f5 (nI n), pW q i0 i1 cs (nI z) ov] (fun gw => ∃ (cs2 : Nat → Int32), ∃ (z2 : Nat), ∃ (ov2 : Int32), gw = [sW q h0 h1 h2 h3 h4 h5 f1 f2 f3 f4 f5 (nI n), pW q i0 i1 cs2 (nI z2) ov2] ∧ (xPad (Ss ++ (x_ws f2 f3 f4 f5 st ++ x_tt (x_ws f2 f3 f4 f5) pr n st st)) cs2 z2 ov2))) (h0 : Nat) (h1 : Nat) (h2 : Nat) (h3 : Nat) (h4 : Nat) (h5 : Nat) (i0 : Nat) (i1 : Nat) (f1 : Nat → Int32) (f2 : Nat → Int32) (f3 : Nat → Int32) (f4 : Nat → Int32) (f5 : Nat → Int32) (cs : Nat → Int32) (n : Nat) (st : Nat) (z : Nat) (ov : Int32) (Ss : List Nat) (d : Nat) (pr : Nat → Nat) (hn : n ≤ 20) (hst : st < n) (hwd : ∀ o, o < n → ∃ w, 1 ≤ w ∧ w ≤ 9 ∧ f2 o = nI w) (hcl : ∀ o, o < n → ∃ v, v ≤ 5 ∧ f3 o = nI v) (hsm : ∀ o, o < n → ∃ v, v ≤ 1 ∧ f4 o = nI v) (hpe : ∀ o, o < n → ∃ v, v ≤ 99 ∧ f5 o = nI v) (hS : xPad Ss cs z ov) (hd : d ≤ st) (hpr : ∀ o, 1 ≤ o → o < n → f1 o = nI (pr o) ∧ pr o < o) (hm : n ≤ st + (m + 1)) : xMv l yX7_tell wsX7_tell { frames := (m + 1) + 3, cells := 0, slots := 0, locals := 40 * ((m + 1)) + 200 } D q [.ref h0, .int (nI st), .int (nI d), .ref i0] [sW q h0 h1 h2 h3 h4 h5 f1 f2 f3 f4 f5 (nI n), pW q i0 i1 cs (nI z) ov] (fun gw => ∃ (cs2 : Nat → Int32), ∃ (z2 : Nat), ∃ (ov2 : Int32), gw = [sW q h0 h1 h2 h3 h4 h5 f1 f2 f3 f4 f5 (nI n), pW q i0 i1 cs2 (nI z2) ov2] ∧ (xPad (Ss ++ (x_ws f2 f3 f4 f5 st ++ x_tt (x_ws f2 f3 f4 f5) pr n st st)) cs2 z2 ov2)) := by
  refine xMv_of (cc := cX7_tell) (maxL := 6) (by decide) rfl (Nat.le_of_ble_eq_true rfl) ?_
  intro p9 e9 s9 m9 a9 below meth c9 A9 Z9 ls H locs F hini X hl hret
  have hx := F.1.1
  have hb := F.1.2.1
  have in_X5 : ∀ w ∈ wsX50, w ∈ wsX7_tell := by decide +kernel
  have mw_0 : Cond.initialized RX5 ∈ wsX7_tell := by decide +kernel
  have mw_1 : Cond.initialized RX7 ∈ wsX7_tell := by decide +kernel
  have mw_2 : Cond.fieldLink RX7 98 "HatWinds$Streets" "number" "I" ∈ wsX7_tell := by decide +kernel
  have mw_3 : Cond.initialized RX3 ∈ wsX7_tell := by decide +kernel
  have mw_4 : Cond.fieldLink RX7 165 "HatWinds$Streets" "from" "[I" ∈ wsX7_tell := by decide +kernel
  have hl : lv_has ls 6 [(0, .ref h0), (1, .int (nI st)), (2, .int (nI d)), (3, .ref i0)] := hl
  refine lv_iload_n hx hb dX7_tell_0 rfl (lv_at hl 2 rfl) ?_
  refine lv_bipush (v := 20) hx hb dX7_tell_1 (by decide) ?_
  refine lv_icmp_ge (tgt := 14) hx hb dX7_tell_3 (by decide) (fun c_3 => ?_) (fun c_3 => ?_)
  · exfalso
    have c_3 : 20 ≤ d := (nI_leI (a := 20) (b := d) (by omega) (by omega)).mp c_3
    omega
  have c_3 : d < 20 := Nat.not_le.mp (fun h => c_3 ((nI_leI (a := 20) (b := d) (by omega) (by omega)).mpr h))
  refine lv_aload_n hx hb dX7_tell_6 rfl (lv_at hl 0 rfl) ?_
  refine lv_iload_n hx hb dX7_tell_7 rfl (lv_at hl 1 rfl) ?_
  refine x_cVi F X (gc := [sW q h0 h1 h2 h3 h4 h5 f1 f2 f3 f4 f5 (nI n)]) (gr := [pW q i0 i1 cs (nI z) ov]) (xp_idx (n := 2) [0, 1] (by decide +kernel) rfl rfl) (c_X5_has l D q h0 h1 h2 h3 h4 h5 n f1 f2 f3 f4 f5 (nI st) (by first | assumption | omega)) (cwV 1 F.1.2.2.2.2 gX7_tell_X5_has rfl rfl rfl (by decide +kernel) ⟨by dsimp only; omega, by dsimp only; omega⟩) rfl rfl (r0 := 0) (ci := 5) (T := TX5) (N := 6) rfl rfl hl.1 ⟨Nat.le_of_ble_eq_true rfl, Nat.le_of_ble_eq_true rfl⟩ (Nat.le_of_ble_eq_true rfl) dX7_tell_8 (fun r_8 g1 H locs hp X => ?_)
  obtain ⟨rfl, hz⟩ := hp
  have X : xS D A9 s9 [sW q h0 h1 h2 h3 h4 h5 f1 f2 f3 f4 f5 (nI n), pW q i0 i1 cs (nI z) ov] H locs := X
  rcases hz with ⟨rfl, b_8⟩ | ⟨rfl, b_8⟩
  · refine lv_if_ne (tgt := 15) hx hb dX7_tell_11 (by decide) (fun _ => ?_) (fun h => absurd h (by decide))
    refine lv_aload_n hx hb dX7_tell_15 rfl (lv_at hl 0 rfl) ?_
    refine lv_iload_n hx hb dX7_tell_16 rfl (lv_at hl 1 rfl) ?_
    refine lv_aload_n hx hb dX7_tell_17 rfl (lv_at hl 3 rfl) ?_
    refine x_cSv F X (gc := [sW q h0 h1 h2 h3 h4 h5 f1 f2 f3 f4 f5 (nI n), pW q i0 i1 cs (nI z) ov]) (gr := []) (xp_idx (n := 2) [0, 1] (by decide +kernel) rfl rfl) (c_X7_tellAlone l D q h0 h1 h2 h3 h4 h5 i0 i1 f1 f2 f3 f4 f5 cs n st z ov Ss (by first | assumption | omega) (by first | assumption | omega) (by first | assumption | omega) (by first | assumption | omega) (by first | assumption | omega) (by first | assumption | omega) (by first | assumption | omega)) (va_cwS 3 F.1.2.2.2.2 gX7_tell_X7_tellAlone rfl rfl rfl (by decide +kernel) ⟨by dsimp only; omega, by dsimp only; omega⟩) rfl rfl hl.1 ⟨Nat.le_of_ble_eq_true rfl, Nat.le_of_ble_eq_true rfl⟩ (Nat.le_of_ble_eq_true rfl) dX7_tell_18 (fun g1 H locs hp X => ?_)
    obtain ⟨cs2_18, z2_18, ov2_18, rfl, hS7⟩ := hp
    have X : xS D A9 s9 [sW q h0 h1 h2 h3 h4 h5 f1 f2 f3 f4 f5 (nI n), pW q i0 i1 cs2_18 (nI z2_18) ov2_18] H locs := X
    refine lv_iconst (v := 0) hx hb dX7_tell_21 (by decide) ?_
    refine lv_istore (lv' := [(4, .int 0), (0, .ref h0), (1, .int (nI st)), (2, .int (nI d)), (3, .ref i0)]) hx hb dX7_tell_22 hl (by decide) rfl (fun ls hl => ?_)
    refine lv_iload_n hx hb dX7_tell_24 rfl (lv_at hl 2 rfl) ?_
    refine lv_iconst (v := 1) hx hb dX7_tell_25 (by decide) ?_
    refine lv_iadd hx hb dX7_tell_26 ?_
    refine x_i (y := (nI (st + 1))) (nI_add st 1) ?_
    refine lv_istore (lv' := [(5, .int (nI (st + 1))), (4, .int 0), (0, .ref h0), (1, .int (nI st)), (2, .int (nI d)), (3, .ref i0)]) hx hb dX7_tell_27 hl (by decide) rfl (fun ls hl => ?_)
    have L_29 : ∀ (nn : Nat) (b j io z1 : Nat) (cs1 : Nat → Int32) (ov1 : Int32) (S1 : List Nat) (H : Heap) (locs : List Loc) (ls : Array Slot), xS D A9 s9 [sW q h0 h1 h2 h3 h4 h5 f1 f2 f3 f4 f5 (nI n), pW q i0 i1 cs1 (nI z1) ov1] H locs → lv_has ls 6 [(5, .int (nI b)), (4, .int (nI io)), (0, .ref h0), (1, .int (nI st)), (2, .int (nI d)), (3, .ref i0)] → (n < b + nn) → (b ≤ n) → (j < b) → (st ≤ j) → (∀ i, j < i → i < b → pr i ≠ st) → ((io = 0 ∧ j = st) ∨ (io = 1 ∧ j ≠ st)) → (xPad S1 cs1 z1 ov1) → (S1 ++ x_tt (x_ws f2 f3 f4 f5) pr n st j = Ss ++ (x_ws f2 f3 f4 f5 st ++ x_tt (x_ws f2 f3 f4 f5) pr n st st)) → W p9 l e9 { frames := (m + 1) + 3, cells := 0, slots := 0, locals := 40 * ((m + 1)) + 200 } s9 m9 a9 below meth c9 H locs 0 0 Z9 (F0 m9 29 ls []) := by
      intro nn
      induction nn with
      | zero => intro b j io z1 cs1 ov1 S1 H locs ls X hl hfuel hbn hjb hkj hlow hio hS1 hU; exact absurd hfuel (by omega)
      | succ nn ih_29 =>
        intro b j io z1 cs1 ov1 S1 H locs ls X hl hfuel hbn hjb hkj hlow hio hS1 hU
        refine lv_iload hx hb dX7_tell_29 (lv_at hl 0 rfl) ?_
        refine lv_aload_n hx hb dX7_tell_31 rfl (lv_at hl 2 rfl) ?_
        refine x_get F X (v := .int (nI n)) (C := RX5) (T := TX5) (N := 6) (ci := 5) in_X5 0 rfl rfl 5 (by decide) mw_2 rfl dX7_tell_32 ?_
        refine lv_icmp_ge (tgt := 84) hx hb dX7_tell_35 (by decide) (fun c_35 => ?_) (fun c_35 => ?_)
        · have c_35 : n ≤ b := (nI_leI (a := n) (b := b) (by omega) (by omega)).mp c_35
          obtain rfl : n = b := by omega
          have hnb := x_nb_is (pr := pr) (n := n) (k := st) (j := j) (o := n) hjb (Nat.le_refl n) (fun h => absurd h (Nat.lt_irrefl n)) hlow
          rw [x_tt_n (x_ws f2 f3 f4 f5) pr hjb (by omega)] at hU
          refine lv_iload hx hb dX7_tell_84 (lv_at hl 1 rfl) ?_
          refine lv_if_eq (tgt := 95) hx hb dX7_tell_86 (by decide) (fun c_86 => ?_) (fun c_86 => ?_)
          · have c_86 : io = 0 := (nI_eq (a := io) (b := 0) (by omega) (by omega)).mp c_86
            refine hret _ _ _ _ _ ?_ X dX7_tell_95
            rw [if_pos (by omega), List.append_nil] at hU
            rw [← hU]
            exact ⟨_, _, _, rfl, hS1⟩
          · have c_86 : ¬ (io = 0) := fun h => c_86 ((nI_eq (a := io) (b := 0) (by omega) (by omega)).mpr h)
            refine lv_aload_n hx hb dX7_tell_89 rfl (lv_at hl 5 rfl) ?_
            refine lv_bipush (v := 41) hx hb dX7_tell_90 (by decide) ?_
            refine x_cVv F X (gc := [pW q i0 i1 cs1 (nI z1) ov1]) (gr := [sW q h0 h1 h2 h3 h4 h5 f1 f2 f3 f4 f5 (nI n)]) (xp_idx (n := 2) [1, 0] (by decide +kernel) rfl rfl) (c_X3_add l D q i0 i1 cs1 z1 ov1 41 S1 (by first | assumption | omega) (by assumption)) (cwV 1 F.1.2.2.2.2 gX7_tell_X3_add rfl rfl rfl (by decide +kernel) ⟨by dsimp only; omega, by dsimp only; omega⟩) rfl rfl (r0 := 0) (ci := 3) (T := TX3) (N := 3) rfl rfl hl.1 ⟨Nat.le_of_ble_eq_true rfl, Nat.le_of_ble_eq_true rfl⟩ (Nat.le_of_ble_eq_true rfl) dX7_tell_92 (fun g1 H locs hp X => ?_)
            obtain ⟨cs2_92, k2_92, ov2_92, rfl, hS9⟩ := hp
            have X := X.perm (gs' := [sW q h0 h1 h2 h3 h4 h5 f1 f2 f3 f4 f5 (nI n), pW q i0 i1 cs2_92 (nI k2_92) ov2_92]) (xp_idx (n := 2) [1, 0] (by decide +kernel) rfl rfl)
            refine hret _ _ _ _ _ ?_ X dX7_tell_95
            rw [if_neg (by omega)] at hU
            rw [← hU]
            exact ⟨_, _, _, rfl, hS9⟩
        · have c_35 : b < n := Nat.not_le.mp (fun h => c_35 ((nI_leI (a := n) (b := b) (by omega) (by omega)).mpr h))
          have hpb := (hpr b (by omega) (by omega)).2
          refine lv_aload_n hx hb dX7_tell_38 rfl (lv_at hl 2 rfl) ?_
          refine x_get F X (v := .ref h1) (C := RX5) (T := TX5) (N := 6) (ci := 5) in_X5 0 rfl rfl 0 (by decide) mw_4 rfl dX7_tell_39 ?_
          refine lv_iload hx hb dX7_tell_42 (lv_at hl 0 rfl) ?_
          refine x_iald F X (v := (f1 b)) (n := 20) (f := f1) 1 rfl (vp_in_nI (by omega) (by omega)) (x_cl (by omega)) dX7_tell_44 ?_
          refine x_i (y := (nI (pr b))) ((hpr b (by omega) (by omega)).1) ?_
          refine lv_iload_n hx hb dX7_tell_45 rfl (lv_at hl 3 rfl) ?_
          refine lv_icmp_ne (tgt := 78) hx hb dX7_tell_46 (by decide) (fun c_46 => ?_) (fun c_46 => ?_)
          · have c_46 : ¬ ((pr b) = st) := fun h => c_46 ((nI_eq (a := (pr b)) (b := st) (by omega) (by omega)).mpr h)
            refine lv_iinc (v := (nI (b + 1))) (lv' := [(5, .int (nI (b + 1))), (4, .int (nI io)), (0, .ref h0), (1, .int (nI st)), (2, .int (nI d)), (3, .ref i0)]) hx hb dX7_tell_78 hl (k := 0) rfl (nI_add b 1) (by decide) rfl (fun ls hl => ?_)
            refine lv_goto (tgt := 29) hx hb dX7_tell_81 (by decide) ?_
            exact ih_29 (b + 1) j io _ _ _ S1 _ _ _ X (lv_sub hl [0, 1, 2, 3, 4, 5] rfl) (by omega) (by omega) (by omega) (by omega) (by
                intro i h1 h2
                by_cases e : i = b
                · rw [e]; exact c_46
                · exact hlow i h1 (by omega)) (by omega) (by assumption) (by exact hU)
          · have c_46 : (pr b) = st := (nI_eq (a := (pr b)) (b := st) (by omega) (by omega)).mp c_46
            have hnb := x_nb_is (pr := pr) (n := n) (k := st) (j := j) (o := b) hjb (by omega) (fun _ => c_46) hlow
            rw [x_tt_s (x_ws f2 f3 f4 f5) pr (by omega) (by omega), hnb] at hU
            refine lv_aload_n hx hb dX7_tell_49 rfl (lv_at hl 5 rfl) ?_
            refine lv_iload hx hb dX7_tell_50 (lv_at hl 1 rfl) ?_
            refine lv_if_eq (tgt := 60) hx hb dX7_tell_52 (by decide) (fun c_52 => ?_) (fun c_52 => ?_)
            · have c_52 : io = 0 := (nI_eq (a := io) (b := 0) (by omega) (by omega)).mp c_52
              refine lv_bipush (v := 40) hx hb dX7_tell_60 (by decide) ?_
              refine x_cVv F X (gc := [pW q i0 i1 cs1 (nI z1) ov1]) (gr := [sW q h0 h1 h2 h3 h4 h5 f1 f2 f3 f4 f5 (nI n)]) (xp_idx (n := 2) [1, 0] (by decide +kernel) rfl rfl) (c_X3_add l D q i0 i1 cs1 z1 ov1 40 S1 (by first | assumption | omega) (by assumption)) (cwV 1 F.1.2.2.2.2 gX7_tell_X3_add rfl rfl rfl (by decide +kernel) ⟨by dsimp only; omega, by dsimp only; omega⟩) rfl rfl (r0 := 0) (ci := 3) (T := TX3) (N := 3) rfl rfl hl.1 ⟨Nat.le_of_ble_eq_true rfl, Nat.le_of_ble_eq_true rfl⟩ (Nat.le_of_ble_eq_true rfl) dX7_tell_62 (fun g1 H locs hp X => ?_)
              obtain ⟨cs2_62, k2_62, ov2_62, rfl, hS9⟩ := hp
              have X := X.perm (gs' := [sW q h0 h1 h2 h3 h4 h5 f1 f2 f3 f4 f5 (nI n), pW q i0 i1 cs2_62 (nI k2_62) ov2_62]) (xp_idx (n := 2) [1, 0] (by decide +kernel) rfl rfl)
              refine lv_iconst (v := 1) hx hb dX7_tell_65 (by decide) ?_
              refine lv_istore (lv' := [(4, .int 1), (5, .int (nI b)), (0, .ref h0), (1, .int (nI st)), (2, .int (nI d)), (3, .ref i0)]) hx hb dX7_tell_66 hl (by decide) rfl (fun ls hl => ?_)
              refine lv_aload_n hx hb dX7_tell_68 rfl (lv_at hl 2 rfl) ?_
              refine lv_iload hx hb dX7_tell_69 (lv_at hl 1 rfl) ?_
              refine lv_iload_n hx hb dX7_tell_71 rfl (lv_at hl 4 rfl) ?_
              refine lv_iconst (v := 1) hx hb dX7_tell_72 (by decide) ?_
              refine lv_iadd hx hb dX7_tell_73 ?_
              refine x_i (y := (nI (d + 1))) (nI_add d 1) ?_
              refine lv_aload_n hx hb dX7_tell_74 rfl (lv_at hl 5 rfl) ?_
              refine x_cSv F X (gc := [sW q h0 h1 h2 h3 h4 h5 f1 f2 f3 f4 f5 (nI n), pW q i0 i1 cs2_62 (nI k2_62) ov2_62]) (gr := []) (xp_idx (n := 2) [0, 1] (by decide +kernel) rfl rfl) (IH h0 h1 h2 h3 h4 h5 i0 i1 f1 f2 f3 f4 f5 cs2_62 n b k2_62 ov2_62 (S1 ++ [40]) (d + 1) pr (by first | assumption | omega) (by first | assumption | omega) (by first | assumption | omega) (by first | assumption | omega) (by first | assumption | omega) (by first | assumption | omega) (by first | assumption | omega) (by first | assumption | omega) (by first | assumption | omega) (by omega)) (va_cwS 4 F.1.2.2.2.2 gX7_tell_X7_tell rfl rfl rfl (by decide +kernel) ⟨by dsimp only; omega, by dsimp only; omega⟩) rfl rfl hl.1 ⟨Nat.le_of_ble_eq_true rfl, Nat.le_of_ble_eq_true rfl⟩ (Nat.le_of_ble_eq_true rfl) dX7_tell_75 (fun g1 H locs hp X => ?_)
              obtain ⟨cs2_75, z2_75, ov2_75, rfl, hS8⟩ := hp
              have X : xS D A9 s9 [sW q h0 h1 h2 h3 h4 h5 f1 f2 f3 f4 f5 (nI n), pW q i0 i1 cs2_75 (nI z2_75) ov2_75] H locs := X
              refine lv_iinc (v := (nI (b + 1))) (lv' := [(5, .int (nI (b + 1))), (4, .int 1), (0, .ref h0), (1, .int (nI st)), (2, .int (nI d)), (3, .ref i0)]) hx hb dX7_tell_78 hl (k := 1) rfl (nI_add b 1) (by decide) rfl (fun ls hl => ?_)
              refine lv_goto (tgt := 29) hx hb dX7_tell_81 (by decide) ?_
              exact ih_29 (b + 1) b 1 _ _ _ ((S1 ++ [40]) ++ (x_ws f2 f3 f4 f5 b ++ x_tt (x_ws f2 f3 f4 f5) pr n b b)) _ _ _ X (lv_sub hl [0, 1, 2, 3, 4, 5] rfl) (by omega) (by omega) (by omega) (by omega) (by intro i h1 h2; omega) (by omega) (by assumption) (by
                  rw [← hU, if_pos (by omega)]
                  simp only [List.append_assoc, List.cons_append, List.singleton_append, List.nil_append])
            · have c_52 : ¬ (io = 0) := fun h => c_52 ((nI_eq (a := io) (b := 0) (by omega) (by omega)).mpr h)
              refine lv_bipush (v := 44) hx hb dX7_tell_55 (by decide) ?_
              refine lv_goto (tgt := 62) hx hb dX7_tell_57 (by decide) ?_
              refine x_cVv F X (gc := [pW q i0 i1 cs1 (nI z1) ov1]) (gr := [sW q h0 h1 h2 h3 h4 h5 f1 f2 f3 f4 f5 (nI n)]) (xp_idx (n := 2) [1, 0] (by decide +kernel) rfl rfl) (c_X3_add l D q i0 i1 cs1 z1 ov1 44 S1 (by first | assumption | omega) (by assumption)) (cwV 1 F.1.2.2.2.2 gX7_tell_X3_add rfl rfl rfl (by decide +kernel) ⟨by dsimp only; omega, by dsimp only; omega⟩) rfl rfl (r0 := 0) (ci := 3) (T := TX3) (N := 3) rfl rfl hl.1 ⟨Nat.le_of_ble_eq_true rfl, Nat.le_of_ble_eq_true rfl⟩ (Nat.le_of_ble_eq_true rfl) dX7_tell_62 (fun g1 H locs hp X => ?_)
              obtain ⟨cs2_62, k2_62, ov2_62, rfl, hS9⟩ := hp
              have X := X.perm (gs' := [sW q h0 h1 h2 h3 h4 h5 f1 f2 f3 f4 f5 (nI n), pW q i0 i1 cs2_62 (nI k2_62) ov2_62]) (xp_idx (n := 2) [1, 0] (by decide +kernel) rfl rfl)
              refine lv_iconst (v := 1) hx hb dX7_tell_65 (by decide) ?_
              refine lv_istore (lv' := [(4, .int 1), (5, .int (nI b)), (0, .ref h0), (1, .int (nI st)), (2, .int (nI d)), (3, .ref i0)]) hx hb dX7_tell_66 hl (by decide) rfl (fun ls hl => ?_)
              refine lv_aload_n hx hb dX7_tell_68 rfl (lv_at hl 2 rfl) ?_
              refine lv_iload hx hb dX7_tell_69 (lv_at hl 1 rfl) ?_
              refine lv_iload_n hx hb dX7_tell_71 rfl (lv_at hl 4 rfl) ?_
              refine lv_iconst (v := 1) hx hb dX7_tell_72 (by decide) ?_
              refine lv_iadd hx hb dX7_tell_73 ?_
              refine x_i (y := (nI (d + 1))) (nI_add d 1) ?_
              refine lv_aload_n hx hb dX7_tell_74 rfl (lv_at hl 5 rfl) ?_
              refine x_cSv F X (gc := [sW q h0 h1 h2 h3 h4 h5 f1 f2 f3 f4 f5 (nI n), pW q i0 i1 cs2_62 (nI k2_62) ov2_62]) (gr := []) (xp_idx (n := 2) [0, 1] (by decide +kernel) rfl rfl) (IH h0 h1 h2 h3 h4 h5 i0 i1 f1 f2 f3 f4 f5 cs2_62 n b k2_62 ov2_62 (S1 ++ [44]) (d + 1) pr (by first | assumption | omega) (by first | assumption | omega) (by first | assumption | omega) (by first | assumption | omega) (by first | assumption | omega) (by first | assumption | omega) (by first | assumption | omega) (by first | assumption | omega) (by first | assumption | omega) (by omega)) (va_cwS 4 F.1.2.2.2.2 gX7_tell_X7_tell rfl rfl rfl (by decide +kernel) ⟨by dsimp only; omega, by dsimp only; omega⟩) rfl rfl hl.1 ⟨Nat.le_of_ble_eq_true rfl, Nat.le_of_ble_eq_true rfl⟩ (Nat.le_of_ble_eq_true rfl) dX7_tell_75 (fun g1 H locs hp X => ?_)
              obtain ⟨cs2_75, z2_75, ov2_75, rfl, hS8⟩ := hp
              have X : xS D A9 s9 [sW q h0 h1 h2 h3 h4 h5 f1 f2 f3 f4 f5 (nI n), pW q i0 i1 cs2_75 (nI z2_75) ov2_75] H locs := X
              refine lv_iinc (v := (nI (b + 1))) (lv' := [(5, .int (nI (b + 1))), (4, .int 1), (0, .ref h0), (1, .int (nI st)), (2, .int (nI d)), (3, .ref i0)]) hx hb dX7_tell_78 hl (k := 1) rfl (nI_add b 1) (by decide) rfl (fun ls hl => ?_)
              refine lv_goto (tgt := 29) hx hb dX7_tell_81 (by decide) ?_
              exact ih_29 (b + 1) b 1 _ _ _ ((S1 ++ [44]) ++ (x_ws f2 f3 f4 f5 b ++ x_tt (x_ws f2 f3 f4 f5) pr n b b)) _ _ _ X (lv_sub hl [0, 1, 2, 3, 4, 5] rfl) (by omega) (by omega) (by omega) (by omega) (by intro i h1 h2; omega) (by omega) (by assumption) (by
                  rw [← hU, if_neg (by omega)]
                  simp only [List.append_assoc, List.cons_append, List.singleton_append, List.nil_append])
    exact L_29 (n + 1) (st + 1) st 0 _ _ _ (Ss ++ x_ws f2 f3 f4 f5 st) _ _ _ X (lv_sub hl [0, 1, 2, 3, 4, 5] rfl) (by omega) (by omega) (by omega) (by omega) (by intro i h1 h2; omega) (by omega) (by assumption) (by rw [List.append_assoc])
  · refine lv_if_ne (tgt := 15) hx hb dX7_tell_11 (by decide) (fun h => absurd (by decide) h) (fun _ => ?_)
    exact hret _ _ _ _ _ (by exact absurd ⟨st, hst, rfl⟩ b_8) X dX7_tell_14

theorem c_X7_tell (l : Launch) (D : va_G) (q : xQ) : ∀ (m : Nat), ∀ (h0 : Nat) (h1 : Nat) (h2 : Nat) (h3 : Nat) (h4 : Nat) (h5 : Nat) (i0 : Nat) (i1 : Nat) (f1 : Nat → Int32) (f2 : Nat → Int32) (f3 : Nat → Int32) (f4 : Nat → Int32) (f5 : Nat → Int32) (cs : Nat → Int32) (n : Nat) (st : Nat) (z : Nat) (ov : Int32) (Ss : List Nat) (d : Nat) (pr : Nat → Nat) (hn : n ≤ 20) (hst : st < n) (hwd : ∀ o, o < n → ∃ w, 1 ≤ w ∧ w ≤ 9 ∧ f2 o = nI w) (hcl : ∀ o, o < n → ∃ v, v ≤ 5 ∧ f3 o = nI v) (hsm : ∀ o, o < n → ∃ v, v ≤ 1 ∧ f4 o = nI v) (hpe : ∀ o, o < n → ∃ v, v ≤ 99 ∧ f5 o = nI v) (hS : xPad Ss cs z ov) (hd : d ≤ st) (hpr : ∀ o, 1 ≤ o → o < n → f1 o = nI (pr o) ∧ pr o < o) (hm : n ≤ st + m), xMv l yX7_tell wsX7_tell { frames := m + 3, cells := 0, slots := 0, locals := 40 * m + 200 } D q [.ref h0, .int (nI st), .int (nI d), .ref i0] [sW q h0 h1 h2 h3 h4 h5 f1 f2 f3 f4 f5 (nI n), pW q i0 i1 cs (nI z) ov] (fun gw => ∃ (cs2 : Nat → Int32), ∃ (z2 : Nat), ∃ (ov2 : Int32), gw = [sW q h0 h1 h2 h3 h4 h5 f1 f2 f3 f4 f5 (nI n), pW q i0 i1 cs2 (nI z2) ov2] ∧ (xPad (Ss ++ (x_ws f2 f3 f4 f5 st ++ x_tt (x_ws f2 f3 f4 f5) pr n st st)) cs2 z2 ov2))
  | 0 => fun _ _ _ _ _ _ _ _ _ _ _ _ _ _ _ _ _ _ _ _ _ hn hst _ _ _ _ _ _ _ hm => absurd hm (by omega)
  | m + 1 => c_X7_tell_s l D q m (c_X7_tell l D q m)
