set_option maxHeartbeats 1000000 in
set_option maxRecDepth 100000 in
theorem c_X8_wind (l : Launch) (D : va_G) (q : xQ) (b0 : Nat) (b1 : Nat) (b2 : Nat) (b3 : Nat) (b4 : Nat) (b5 : Nat) (b6 : Nat) (b7 : Nat) (b8 : Nat) (s : Nat → Int32) (p : Nat → Int32) (sl : Nat → Int32) (sv : Nat → Int32) (pd : Nat → Int32) (fo : Nat → Int32) (to : Nat → Int32) (ou : Nat → Int32) (kn : Nat) (ln : Int32) (mn : Int32) (la : Int32) (op : Int32) (wr : Int32) (f : Int32) (hk6 : kn ≤ 6) : xMi l yX8_wind wsX8_wind { frames := 1, cells := 0, slots := 0, locals := 22 } D q [.ref b0, .int f] [mW q b0 b1 b2 b3 b4 b5 b6 b7 b8 s p sl sv pd fo to ou (nI kn) ln mn la op wr] (fun r gw => ∃ (s2 : Nat → Int32), ∃ (p2 : Nat → Int32), ∃ (kn2 : Nat), gw = [mW q b0 b1 b2 b3 b4 b5 b6 b7 b8 s2 p2 sl sv pd fo to ou (nI kn2) ln mn la op wr] ∧ (xCh (0 ≤ f ∧ f ≤ 200) r (s 4) (-2) s (upd s 4 f) s2 kn p p2 kn2)) := by
  refine xMi_of (cc := cX8_wind) (maxL := 3) (rt := .int) (by decide) rfl (Nat.le_of_ble_eq_true rfl) (fun _ _ _ => rfl) ?_
  intro p9 e9 s9 m9 a9 below meth c9 A9 Z9 ls H locs F X hl hret
  have hx := F.1.1
  have hb := F.1.2.1
  have in_X8 : ∀ w ∈ wsX80, w ∈ wsX8_wind := by decide +kernel
  have mw_0 : Cond.initialized RX8 ∈ wsX8_wind := by decide +kernel
  have mw_1 : Cond.fieldLink RX8 7 "HatWindsModel" "s" "[I" ∈ wsX8_wind := by decide +kernel
  have hl : lv_has ls 3 [(0, .ref b0), (1, .int f)] := hl
  refine lv_iload_n hx hb dX8_wind_0 rfl (lv_at hl 1 rfl) ?_
  refine lv_iconst (v := 0) hx hb dX8_wind_1 (by decide) ?_
  refine lv_sipush (v := 200) hx hb dX8_wind_2 (by decide) ?_
  refine x_cSi F X (gc := []) (gr := [mW q b0 b1 b2 b3 b4 b5 b6 b7 b8 s p sl sv pd fo to ou (nI kn) ln mn la op wr]) (xp_idx (n := 1) [0] (by decide +kernel) rfl rfl) (c_X8_in l D q f 0 200 ) (va_cwS 3 F.1.2.2.2.2 gX8_wind_X8_in rfl rfl rfl (by decide +kernel) ⟨Nat.le_of_ble_eq_true rfl, Nat.le_of_ble_eq_true rfl⟩) rfl rfl hl.1 ⟨Nat.le_of_ble_eq_true rfl, Nat.le_of_ble_eq_true rfl⟩ (Nat.le_of_ble_eq_true rfl) dX8_wind_5 (fun r_5 g1 H locs hp X => ?_)
  obtain ⟨rfl, hz⟩ := hp
  have X : xS D A9 s9 [mW q b0 b1 b2 b3 b4 b5 b6 b7 b8 s p sl sv pd fo to ou (nI kn) ln mn la op wr] H locs := X
  rcases hz with ⟨rfl, b_5⟩ | ⟨rfl, b_5⟩
  · refine lv_if_ne (tgt := 14) hx hb dX8_wind_8 (by decide) (fun _ => ?_) (fun h => absurd h (by decide))
    refine lv_aload_n hx hb dX8_wind_14 rfl (lv_at hl 0 rfl) ?_
    refine x_cVv F X (gc := [mW q b0 b1 b2 b3 b4 b5 b6 b7 b8 s p sl sv pd fo to ou (nI kn) ln mn la op wr]) (gr := []) (xp_idx (n := 1) [0] (by decide +kernel) rfl rfl) (c_X8_remembers l D q b0 b1 b2 b3 b4 b5 b6 b7 b8 s p sl sv pd fo to ou kn ln mn la op wr (by first | assumption | omega)) (cwV 0 F.1.2.2.2.2 gX8_wind_X8_remembers rfl rfl rfl (by decide +kernel) ⟨Nat.le_of_ble_eq_true rfl, Nat.le_of_ble_eq_true rfl⟩) rfl rfl (r0 := 0) (ci := 8) (T := TX8) (N := 14) rfl rfl hl.1 ⟨Nat.le_of_ble_eq_true rfl, Nat.le_of_ble_eq_true rfl⟩ (Nat.le_of_ble_eq_true rfl) dX8_wind_15 (fun g1 H locs hp X => ?_)
    obtain ⟨p3, kn3, rfl, hk3, hp3⟩ := hp
    have X : xS D A9 s9 [mW q b0 b1 b2 b3 b4 b5 b6 b7 b8 s p3 sl sv pd fo to ou (nI kn3) ln mn la op wr] H locs := X
    refine lv_aload_n hx hb dX8_wind_18 rfl (lv_at hl 0 rfl) ?_
    refine x_get F X (v := .ref b1) (C := RX8) (T := TX8) (N := 14) (ci := 8) in_X8 0 rfl rfl 0 (by decide) mw_1 rfl dX8_wind_19 ?_
    refine lv_iconst (v := 4) hx hb dX8_wind_22 (by decide) ?_
    refine x_iald F X (v := (s 4)) (n := 133) (f := s) 1 rfl (show vp_in (nI 4) _ from vp_in_nI (by omega) (by omega)) rfl dX8_wind_23 ?_
    refine lv_istore_n (lv' := [(2, .int (s 4)), (0, .ref b0), (1, .int f)]) hx hb dX8_wind_24 rfl hl (by decide) rfl (fun ls hl => ?_)
    refine lv_aload_n hx hb dX8_wind_25 rfl (lv_at hl 1 rfl) ?_
    refine x_get F X (v := .ref b1) (C := RX8) (T := TX8) (N := 14) (ci := 8) in_X8 0 rfl rfl 0 (by decide) mw_1 rfl dX8_wind_26 ?_
    refine lv_iconst (v := 4) hx hb dX8_wind_29 (by decide) ?_
    refine lv_iload_n hx hb dX8_wind_30 rfl (lv_at hl 2 rfl) ?_
    refine x_iast F X (gs' := [mW q b0 b1 b2 b3 b4 b5 b6 b7 b8 (upd s 4 f) p3 sl sv pd fo to ou (nI kn3) ln mn la op wr]) (n := 133) (f := s) (k := 4) 1 rfl (show vp_in (nI 4) _ from vp_in_nI (by omega) (by omega)) rfl dX8_wind_31 rfl (fun H locs X => ?_)
    refine lv_iload_n hx hb dX8_wind_32 rfl (lv_at hl 0 rfl) ?_
    exact hret _ _ _ _ _ _ (by exact ⟨_, _, _, rfl, Or.inl ⟨b_5, rfl, rfl, hk3, hp3⟩⟩) X dX8_wind_33
  · refine lv_if_ne (tgt := 14) hx hb dX8_wind_8 (by decide) (fun h => absurd (by decide) h) (fun _ => ?_)
    refine lv_bipush (v := (-2)) hx hb dX8_wind_11 (by decide) ?_
    exact hret _ _ _ _ _ _ (by exact ⟨_, _, _, rfl, Or.inr ⟨b_5, rfl, rfl, rfl, rfl⟩⟩) X dX8_wind_13

set_option maxHeartbeats 1000000 in
set_option maxRecDepth 100000 in
theorem c_X8_set (l : Launch) (D : va_G) (q : xQ) (b0 : Nat) (b1 : Nat) (b2 : Nat) (b3 : Nat) (b4 : Nat) (b5 : Nat) (b6 : Nat) (b7 : Nat) (b8 : Nat) (s : Nat → Int32) (p : Nat → Int32) (sl : Nat → Int32) (sv : Nat → Int32) (pd : Nat → Int32) (fo : Nat → Int32) (to : Nat → Int32) (ou : Nat → Int32) (kn : Nat) (ln : Int32) (mn : Int32) (la : Int32) (op : Int32) (wr : Int32) (a : Int32) (v : Int32) (hk6 : kn ≤ 6) : xMi l yX8_set wsX8_set { frames := 2, cells := 0, slots := 0, locals := 43 } D q [.ref b0, .int a, .int v] [mW q b0 b1 b2 b3 b4 b5 b6 b7 b8 s p sl sv pd fo to ou (nI kn) ln mn la op wr] (fun r gw => ∃ (s2 : Nat → Int32), ∃ (p2 : Nat → Int32), ∃ (kn2 : Nat), gw = [mW q b0 b1 b2 b3 b4 b5 b6 b7 b8 s2 p2 sl sv pd fo to ou (nI kn2) ln mn la op wr] ∧ (xCh (x_cs a v) r (s a.toNatClampNeg) (-2) s (upd s a.toNatClampNeg v) s2 kn p p2 kn2)) := by
  refine xMi_of (cc := cX8_set) (maxL := 4) (rt := .int) (by decide) rfl (Nat.le_of_ble_eq_true rfl) (fun _ _ _ => rfl) ?_
  intro p9 e9 s9 m9 a9 below meth c9 A9 Z9 ls H locs F X hl hret
  have hx := F.1.1
  have hb := F.1.2.1
  have in_X8 : ∀ w ∈ wsX80, w ∈ wsX8_set := by decide +kernel
  have mw_0 : Cond.initialized RX8 ∈ wsX8_set := by decide +kernel
  have mw_1 : Cond.fieldLink RX8 7 "HatWindsModel" "s" "[I" ∈ wsX8_set := by decide +kernel
  have hl : lv_has ls 4 [(0, .ref b0), (1, .int a), (2, .int v)] := hl
  refine lv_iload_n hx hb dX8_set_0 rfl (lv_at hl 1 rfl) ?_
  refine lv_iload_n hx hb dX8_set_1 rfl (lv_at hl 2 rfl) ?_
  refine x_cSi F X (gc := []) (gr := [mW q b0 b1 b2 b3 b4 b5 b6 b7 b8 s p sl sv pd fo to ou (nI kn) ln mn la op wr]) (xp_idx (n := 1) [0] (by decide +kernel) rfl rfl) (c_X8_canSet l D q a v ) (va_cwS 2 F.1.2.2.2.2 gX8_set_X8_canSet rfl rfl rfl (by decide +kernel) ⟨Nat.le_of_ble_eq_true rfl, Nat.le_of_ble_eq_true rfl⟩) rfl rfl hl.1 ⟨Nat.le_of_ble_eq_true rfl, Nat.le_of_ble_eq_true rfl⟩ (Nat.le_of_ble_eq_true rfl) dX8_set_2 (fun r_2 g1 H locs hp X => ?_)
  obtain ⟨rfl, hz⟩ := hp
  have X : xS D A9 s9 [mW q b0 b1 b2 b3 b4 b5 b6 b7 b8 s p sl sv pd fo to ou (nI kn) ln mn la op wr] H locs := X
  rcases hz with ⟨rfl, b_2⟩ | ⟨rfl, b_2⟩
  · refine lv_if_ne (tgt := 11) hx hb dX8_set_5 (by decide) (fun _ => ?_) (fun h => absurd h (by decide))
    obtain ⟨i, hi, ei⟩ := x_cs_in b_2
    refine lv_aload_n hx hb dX8_set_11 rfl (lv_at hl 0 rfl) ?_
    refine x_cVv F X (gc := [mW q b0 b1 b2 b3 b4 b5 b6 b7 b8 s p sl sv pd fo to ou (nI kn) ln mn la op wr]) (gr := []) (xp_idx (n := 1) [0] (by decide +kernel) rfl rfl) (c_X8_remembers l D q b0 b1 b2 b3 b4 b5 b6 b7 b8 s p sl sv pd fo to ou kn ln mn la op wr (by first | assumption | omega)) (cwV 0 F.1.2.2.2.2 gX8_set_X8_remembers rfl rfl rfl (by decide +kernel) ⟨Nat.le_of_ble_eq_true rfl, Nat.le_of_ble_eq_true rfl⟩) rfl rfl (r0 := 0) (ci := 8) (T := TX8) (N := 14) rfl rfl hl.1 ⟨Nat.le_of_ble_eq_true rfl, Nat.le_of_ble_eq_true rfl⟩ (Nat.le_of_ble_eq_true rfl) dX8_set_12 (fun g1 H locs hp X => ?_)
    obtain ⟨p3, kn3, rfl, hk3, hp3⟩ := hp
    have X : xS D A9 s9 [mW q b0 b1 b2 b3 b4 b5 b6 b7 b8 s p3 sl sv pd fo to ou (nI kn3) ln mn la op wr] H locs := X
    refine lv_aload_n hx hb dX8_set_15 rfl (lv_at hl 0 rfl) ?_
    refine x_get F X (v := .ref b1) (C := RX8) (T := TX8) (N := 14) (ci := 8) in_X8 0 rfl rfl 0 (by decide) mw_1 rfl dX8_set_16 ?_
    refine lv_iload_n hx hb dX8_set_19 rfl (lv_at hl 1 rfl) ?_
    refine x_i (y := (nI i)) (ei) ?_
    refine x_iald F X (v := (s i)) (n := 133) (f := s) 1 rfl (vp_in_nI (by omega) (by omega)) (x_cl (by omega)) dX8_set_20 ?_
    refine lv_istore_n (lv' := [(3, .int (s i)), (0, .ref b0), (1, .int a), (2, .int v)]) hx hb dX8_set_21 rfl hl (by decide) rfl (fun ls hl => ?_)
    refine lv_aload_n hx hb dX8_set_22 rfl (lv_at hl 1 rfl) ?_
    refine x_get F X (v := .ref b1) (C := RX8) (T := TX8) (N := 14) (ci := 8) in_X8 0 rfl rfl 0 (by decide) mw_1 rfl dX8_set_23 ?_
    refine lv_iload_n hx hb dX8_set_26 rfl (lv_at hl 2 rfl) ?_
    refine x_i (y := (nI i)) (ei) ?_
    refine lv_iload_n hx hb dX8_set_27 rfl (lv_at hl 3 rfl) ?_
    refine x_iast F X (gs' := [mW q b0 b1 b2 b3 b4 b5 b6 b7 b8 (upd s i v) p3 sl sv pd fo to ou (nI kn3) ln mn la op wr]) (n := 133) (f := s) (k := i) 1 rfl (vp_in_nI (by omega) (by omega)) (nI_clamp (by omega)) dX8_set_28 rfl (fun H locs X => ?_)
    refine lv_iload_n hx hb dX8_set_29 rfl (lv_at hl 0 rfl) ?_
    refine hret _ _ _ _ _ _ ?_ X dX8_set_30
    rw [show a = nI i from ei, nI_clamp (by omega)]
    rw [show a = nI i from ei] at b_2
    exact ⟨_, _, _, rfl, Or.inl ⟨b_2, rfl, rfl, hk3, hp3⟩⟩
  · refine lv_if_ne (tgt := 11) hx hb dX8_set_5 (by decide) (fun h => absurd (by decide) h) (fun _ => ?_)
    refine lv_bipush (v := (-2)) hx hb dX8_set_8 (by decide) ?_
    exact hret _ _ _ _ _ _ (by exact ⟨_, _, _, rfl, Or.inr ⟨b_2, rfl, rfl, rfl, rfl⟩⟩) X dX8_set_10

set_option maxHeartbeats 1000000 in
set_option maxRecDepth 100000 in
theorem c_X8_street (l : Launch) (D : va_G) (q : xQ) (b0 : Nat) (b1 : Nat) (b2 : Nat) (b3 : Nat) (b4 : Nat) (b5 : Nat) (b6 : Nat) (b7 : Nat) (b8 : Nat) (s : Nat → Int32) (p : Nat → Int32) (sl : Nat → Int32) (sv : Nat → Int32) (pd : Nat → Int32) (fo : Nat → Int32) (to : Nat → Int32) (ou : Nat → Int32) (kn : Nat) (ln : Int32) (mn : Int32) (la : Int32) (op : Int32) (wr : Int32) (n : Nat) (pr : Nat → Nat) (st : Int32) (w : Int32) (hok : x_ok s n pr) (hk6 : kn ≤ 6) : xMi l yX8_street wsX8_street { frames := 3, cells := 0, slots := 0, locals := 66 } D q [.ref b0, .int st, .int w] [mW q b0 b1 b2 b3 b4 b5 b6 b7 b8 s p sl sv pd fo to ou (nI kn) ln mn la op wr] (fun r gw => ∃ (s2 : Nat → Int32), ∃ (p2 : Nat → Int32), ∃ (kn2 : Nat), gw = [mW q b0 b1 b2 b3 b4 b5 b6 b7 b8 s2 p2 sl sv pd fo to ou (nI kn2) ln mn la op wr] ∧ (xCh (xIx st n ∧ (1 ≤ w ∧ w ≤ 9) ∧ n < 20 ∧ x_ct (x_tF s) st n ≠ 4) r (nI n) (x_stE n st w) s (x_addS s n st w) s2 kn p p2 kn2)) := by
  refine xMi_of (cc := cX8_street) (maxL := 4) (rt := .int) (by decide) rfl (Nat.le_of_ble_eq_true rfl) (fun _ _ _ => rfl) ?_
  intro p9 e9 s9 m9 a9 below meth c9 A9 Z9 ls H locs F X hl hret
  have hx := F.1.1
  have hb := F.1.2.1
  have in_X8 : ∀ w ∈ wsX80, w ∈ wsX8_street := by decide +kernel
  have mw_0 : Cond.initialized RX8 ∈ wsX8_street := by decide +kernel
  have mw_1 : Cond.fieldLink RX8 7 "HatWindsModel" "s" "[I" ∈ wsX8_street := by decide +kernel
  have hl : lv_has ls 4 [(0, .ref b0), (1, .int st), (2, .int w)] := hl
  have hok0 := hok
  obtain ⟨hn, hn1, hs5, hs33, hpr, hwd, hcl, hsm, hpe, hst, hle, hhr, hcn⟩ := hok0
  refine lv_aload_n hx hb dX8_street_0 rfl (lv_at hl 0 rfl) ?_
  refine lv_iload_n hx hb dX8_street_1 rfl (lv_at hl 1 rfl) ?_
  refine x_cVi F X (gc := [mW q b0 b1 b2 b3 b4 b5 b6 b7 b8 s p sl sv pd fo to ou (nI kn) ln mn la op wr]) (gr := []) (xp_idx (n := 1) [0] (by decide +kernel) rfl rfl) (c_X8_isStreet l D q b0 b1 b2 b3 b4 b5 b6 b7 b8 s p sl sv pd fo to ou (nI kn) ln mn la op wr n st (by first | assumption | omega) (by first | assumption | omega) (by first | assumption | omega)) (cwV 1 F.1.2.2.2.2 gX8_street_X8_isStreet rfl rfl rfl (by decide +kernel) ⟨Nat.le_of_ble_eq_true rfl, Nat.le_of_ble_eq_true rfl⟩) rfl rfl (r0 := 0) (ci := 8) (T := TX8) (N := 14) rfl rfl hl.1 ⟨Nat.le_of_ble_eq_true rfl, Nat.le_of_ble_eq_true rfl⟩ (Nat.le_of_ble_eq_true rfl) dX8_street_2 (fun r_2 g1 H locs hp X => ?_)
  obtain ⟨rfl, hz⟩ := hp
  have X : xS D A9 s9 [mW q b0 b1 b2 b3 b4 b5 b6 b7 b8 s p sl sv pd fo to ou (nI kn) ln mn la op wr] H locs := X
  rcases hz with ⟨rfl, b_2⟩ | ⟨rfl, b_2⟩
  · refine lv_if_ne (tgt := 10) hx hb dX8_street_5 (by decide) (fun _ => ?_) (fun h => absurd h (by decide))
    have b_2c := b_2
    obtain ⟨k, hk, ek⟩ := b_2c
    have hctn := x_ct_le (x_tF s) (nI k) n
    refine lv_iload_n hx hb dX8_street_10 rfl (lv_at hl 2 rfl) ?_
    refine lv_iconst (v := 1) hx hb dX8_street_11 (by decide) ?_
    refine lv_bipush (v := 9) hx hb dX8_street_12 (by decide) ?_
    refine x_cSi F X (gc := []) (gr := [mW q b0 b1 b2 b3 b4 b5 b6 b7 b8 s p sl sv pd fo to ou (nI kn) ln mn la op wr]) (xp_idx (n := 1) [0] (by decide +kernel) rfl rfl) (c_X8_in l D q w 1 9 ) (va_cwS 3 F.1.2.2.2.2 gX8_street_X8_in rfl rfl rfl (by decide +kernel) ⟨Nat.le_of_ble_eq_true rfl, Nat.le_of_ble_eq_true rfl⟩) rfl rfl hl.1 ⟨Nat.le_of_ble_eq_true rfl, Nat.le_of_ble_eq_true rfl⟩ (Nat.le_of_ble_eq_true rfl) dX8_street_14 (fun r_14 g1 H locs hp X => ?_)
    obtain ⟨rfl, hz⟩ := hp
    have X : xS D A9 s9 [mW q b0 b1 b2 b3 b4 b5 b6 b7 b8 s p sl sv pd fo to ou (nI kn) ln mn la op wr] H locs := X
    rcases hz with ⟨rfl, b_14⟩ | ⟨rfl, b_14⟩
    · refine lv_if_ne (tgt := 23) hx hb dX8_street_17 (by decide) (fun _ => ?_) (fun h => absurd h (by decide))
      refine lv_aload_n hx hb dX8_street_23 rfl (lv_at hl 0 rfl) ?_
      refine x_get F X (v := .ref b1) (C := RX8) (T := TX8) (N := 14) (ci := 8) in_X8 0 rfl rfl 0 (by decide) mw_1 rfl dX8_street_24 ?_
      refine lv_iconst (v := 5) hx hb dX8_street_27 (by decide) ?_
      refine x_iald F X (v := (s 5)) (n := 133) (f := s) 1 rfl (show vp_in (nI 5) _ from vp_in_nI (by omega) (by omega)) rfl dX8_street_28 ?_
      refine x_i (y := (nI n)) (hs5) ?_
      refine lv_bipush (v := 20) hx hb dX8_street_29 (by decide) ?_
      refine lv_icmp_eq (tgt := 43) hx hb dX8_street_31 (by decide) (fun c_31 => ?_) (fun c_31 => ?_)
      · have c_31 : n = 20 := (nI_eq (a := n) (b := 20) (by omega) (by omega)).mp c_31
        refine lv_bipush (v := (-4)) hx hb dX8_street_43 (by decide) ?_
        exact hret _ _ _ _ _ _ (by exact ⟨_, _, _, rfl, Or.inr ⟨fun h => by have := h.2.2.1; omega, (x_stE_3 (by omega) b_2 b_14).symm, rfl, rfl, rfl⟩⟩) X dX8_street_45
      · have c_31 : ¬ (n = 20) := fun h => c_31 ((nI_eq (a := n) (b := 20) (by omega) (by omega)).mpr h)
        refine lv_aload_n hx hb dX8_street_34 rfl (lv_at hl 0 rfl) ?_
        refine lv_iload_n hx hb dX8_street_35 rfl (lv_at hl 1 rfl) ?_
        refine x_i (y := (nI k)) (ek) ?_
        refine x_cVi F X (gc := [mW q b0 b1 b2 b3 b4 b5 b6 b7 b8 s p sl sv pd fo to ou (nI kn) ln mn la op wr]) (gr := []) (xp_idx (n := 1) [0] (by decide +kernel) rfl rfl) (c_X8_branches l D q b0 b1 b2 b3 b4 b5 b6 b7 b8 s p sl sv pd fo to ou (nI kn) ln mn la op wr n pr k (by first | assumption | omega) (by first | assumption | omega)) (cwV 1 F.1.2.2.2.2 gX8_street_X8_branches rfl rfl rfl (by decide +kernel) ⟨Nat.le_of_ble_eq_true rfl, Nat.le_of_ble_eq_true rfl⟩) rfl rfl (r0 := 0) (ci := 8) (T := TX8) (N := 14) rfl rfl hl.1 ⟨Nat.le_of_ble_eq_true rfl, Nat.le_of_ble_eq_true rfl⟩ (Nat.le_of_ble_eq_true rfl) dX8_street_36 (fun r_36 g1 H locs hp X => ?_)
        obtain ⟨rfl, rfl⟩ := hp
        have X : xS D A9 s9 [mW q b0 b1 b2 b3 b4 b5 b6 b7 b8 s p sl sv pd fo to ou (nI kn) ln mn la op wr] H locs := X
        refine lv_iconst (v := 4) hx hb dX8_street_39 (by decide) ?_
        refine lv_icmp_ne (tgt := 46) hx hb dX8_street_40 (by decide) (fun c_40 => ?_) (fun c_40 => ?_)
        · have c_40 : ¬ (x_ct (x_tF s) (nI k) n = 4) := fun h => c_40 ((nI_eq (a := x_ct (x_tF s) (nI k) n) (b := 4) (by omega) (by omega)).mpr h)
          refine lv_aload_n hx hb dX8_street_46 rfl (lv_at hl 0 rfl) ?_
          refine x_cVv F X (gc := [mW q b0 b1 b2 b3 b4 b5 b6 b7 b8 s p sl sv pd fo to ou (nI kn) ln mn la op wr]) (gr := []) (xp_idx (n := 1) [0] (by decide +kernel) rfl rfl) (c_X8_remembers l D q b0 b1 b2 b3 b4 b5 b6 b7 b8 s p sl sv pd fo to ou kn ln mn la op wr (by first | assumption | omega)) (cwV 0 F.1.2.2.2.2 gX8_street_X8_remembers rfl rfl rfl (by decide +kernel) ⟨Nat.le_of_ble_eq_true rfl, Nat.le_of_ble_eq_true rfl⟩) rfl rfl (r0 := 0) (ci := 8) (T := TX8) (N := 14) rfl rfl hl.1 ⟨Nat.le_of_ble_eq_true rfl, Nat.le_of_ble_eq_true rfl⟩ (Nat.le_of_ble_eq_true rfl) dX8_street_47 (fun g1 H locs hp X => ?_)
          obtain ⟨p3, kn3, rfl, hk3, hp3⟩ := hp
          have X : xS D A9 s9 [mW q b0 b1 b2 b3 b4 b5 b6 b7 b8 s p3 sl sv pd fo to ou (nI kn3) ln mn la op wr] H locs := X
          refine lv_aload_n hx hb dX8_street_50 rfl (lv_at hl 0 rfl) ?_
          refine x_get F X (v := .ref b1) (C := RX8) (T := TX8) (N := 14) (ci := 8) in_X8 0 rfl rfl 0 (by decide) mw_1 rfl dX8_street_51 ?_
          refine lv_iconst (v := 5) hx hb dX8_street_54 (by decide) ?_
          refine x_iald F X (v := (s 5)) (n := 133) (f := s) 1 rfl (show vp_in (nI 5) _ from vp_in_nI (by omega) (by omega)) rfl dX8_street_55 ?_
          refine x_i (y := (nI n)) (hs5) ?_
          refine lv_istore_n (lv' := [(3, .int (nI n)), (0, .ref b0), (1, .int st), (2, .int w)]) hx hb dX8_street_56 rfl hl (by decide) rfl (fun ls hl => ?_)
          refine lv_aload_n hx hb dX8_street_57 rfl (lv_at hl 1 rfl) ?_
          refine x_get F X (v := .ref b1) (C := RX8) (T := TX8) (N := 14) (ci := 8) in_X8 0 rfl rfl 0 (by decide) mw_1 rfl dX8_street_58 ?_
          refine lv_iload_n hx hb dX8_street_61 rfl (lv_at hl 0 rfl) ?_
          refine lv_iconst (v := 0) hx hb dX8_street_62 (by decide) ?_
          refine x_cSi F X (gc := []) (gr := [mW q b0 b1 b2 b3 b4 b5 b6 b7 b8 s p3 sl sv pd fo to ou (nI kn3) ln mn la op wr]) (xp_idx (n := 1) [0] (by decide +kernel) rfl rfl) (c_X8_at l D q n 0 (by first | assumption | omega) (by first | assumption | omega)) (va_cwS 2 F.1.2.2.2.2 gX8_street_X8_at rfl rfl rfl (by decide +kernel) ⟨Nat.le_of_ble_eq_true rfl, Nat.le_of_ble_eq_true rfl⟩) rfl rfl hl.1 ⟨Nat.le_of_ble_eq_true rfl, Nat.le_of_ble_eq_true rfl⟩ (Nat.le_of_ble_eq_true rfl) dX8_street_63 (fun r_63 g1 H locs hp X => ?_)
          obtain ⟨rfl, rfl⟩ := hp
          have X : xS D A9 s9 [mW q b0 b1 b2 b3 b4 b5 b6 b7 b8 s p3 sl sv pd fo to ou (nI kn3) ln mn la op wr] H locs := X
          refine lv_iload_n hx hb dX8_street_66 rfl (lv_at hl 2 rfl) ?_
          refine x_iast F X (gs' := [mW q b0 b1 b2 b3 b4 b5 b6 b7 b8 (upd s (33 + 5 * n + 0) st) p3 sl sv pd fo to ou (nI kn3) ln mn la op wr]) (n := 133) (f := s) (k := (33 + 5 * n + 0)) 1 rfl (vp_in_nI (by omega) (by omega)) (nI_clamp (by omega)) dX8_street_67 rfl (fun H locs X => ?_)
          refine lv_aload_n hx hb dX8_street_68 rfl (lv_at hl 1 rfl) ?_
          refine x_get F X (v := .ref b1) (C := RX8) (T := TX8) (N := 14) (ci := 8) in_X8 0 rfl rfl 0 (by decide) mw_1 rfl dX8_street_69 ?_
          refine lv_iload_n hx hb dX8_street_72 rfl (lv_at hl 0 rfl) ?_
          refine lv_iconst (v := 1) hx hb dX8_street_73 (by decide) ?_
          refine x_cSi F X (gc := []) (gr := [mW q b0 b1 b2 b3 b4 b5 b6 b7 b8 (upd s (33 + 5 * n + 0) st) p3 sl sv pd fo to ou (nI kn3) ln mn la op wr]) (xp_idx (n := 1) [0] (by decide +kernel) rfl rfl) (c_X8_at l D q n 1 (by first | assumption | omega) (by first | assumption | omega)) (va_cwS 2 F.1.2.2.2.2 gX8_street_X8_at rfl rfl rfl (by decide +kernel) ⟨Nat.le_of_ble_eq_true rfl, Nat.le_of_ble_eq_true rfl⟩) rfl rfl hl.1 ⟨Nat.le_of_ble_eq_true rfl, Nat.le_of_ble_eq_true rfl⟩ (Nat.le_of_ble_eq_true rfl) dX8_street_74 (fun r_74 g1 H locs hp X => ?_)
          obtain ⟨rfl, rfl⟩ := hp
          have X : xS D A9 s9 [mW q b0 b1 b2 b3 b4 b5 b6 b7 b8 (upd s (33 + 5 * n + 0) st) p3 sl sv pd fo to ou (nI kn3) ln mn la op wr] H locs := X
          refine lv_iload_n hx hb dX8_street_77 rfl (lv_at hl 3 rfl) ?_
          refine x_iast F X (gs' := [mW q b0 b1 b2 b3 b4 b5 b6 b7 b8 (upd (upd s (33 + 5 * n + 0) st) (33 + 5 * n + 1) w) p3 sl sv pd fo to ou (nI kn3) ln mn la op wr]) (n := 133) (f := (upd s (33 + 5 * n + 0) st)) (k := (33 + 5 * n + 1)) 1 rfl (vp_in_nI (by omega) (by omega)) (nI_clamp (by omega)) dX8_street_78 rfl (fun H locs X => ?_)
          refine lv_aload_n hx hb dX8_street_79 rfl (lv_at hl 1 rfl) ?_
          refine x_get F X (v := .ref b1) (C := RX8) (T := TX8) (N := 14) (ci := 8) in_X8 0 rfl rfl 0 (by decide) mw_1 rfl dX8_street_80 ?_
          refine lv_iload_n hx hb dX8_street_83 rfl (lv_at hl 0 rfl) ?_
          refine lv_iconst (v := 2) hx hb dX8_street_84 (by decide) ?_
          refine x_cSi F X (gc := []) (gr := [mW q b0 b1 b2 b3 b4 b5 b6 b7 b8 (upd (upd s (33 + 5 * n + 0) st) (33 + 5 * n + 1) w) p3 sl sv pd fo to ou (nI kn3) ln mn la op wr]) (xp_idx (n := 1) [0] (by decide +kernel) rfl rfl) (c_X8_at l D q n 2 (by first | assumption | omega) (by first | assumption | omega)) (va_cwS 2 F.1.2.2.2.2 gX8_street_X8_at rfl rfl rfl (by decide +kernel) ⟨Nat.le_of_ble_eq_true rfl, Nat.le_of_ble_eq_true rfl⟩) rfl rfl hl.1 ⟨Nat.le_of_ble_eq_true rfl, Nat.le_of_ble_eq_true rfl⟩ (Nat.le_of_ble_eq_true rfl) dX8_street_85 (fun r_85 g1 H locs hp X => ?_)
          obtain ⟨rfl, rfl⟩ := hp
          have X : xS D A9 s9 [mW q b0 b1 b2 b3 b4 b5 b6 b7 b8 (upd (upd s (33 + 5 * n + 0) st) (33 + 5 * n + 1) w) p3 sl sv pd fo to ou (nI kn3) ln mn la op wr] H locs := X
          refine lv_iconst (v := 0) hx hb dX8_street_88 (by decide) ?_
          refine x_iast F X (gs' := [mW q b0 b1 b2 b3 b4 b5 b6 b7 b8 (upd (upd (upd s (33 + 5 * n + 0) st) (33 + 5 * n + 1) w) (33 + 5 * n + 2) 0) p3 sl sv pd fo to ou (nI kn3) ln mn la op wr]) (n := 133) (f := (upd (upd s (33 + 5 * n + 0) st) (33 + 5 * n + 1) w)) (k := (33 + 5 * n + 2)) 1 rfl (vp_in_nI (by omega) (by omega)) (nI_clamp (by omega)) dX8_street_89 rfl (fun H locs X => ?_)
          refine lv_aload_n hx hb dX8_street_90 rfl (lv_at hl 1 rfl) ?_
          refine x_get F X (v := .ref b1) (C := RX8) (T := TX8) (N := 14) (ci := 8) in_X8 0 rfl rfl 0 (by decide) mw_1 rfl dX8_street_91 ?_
          refine lv_iload_n hx hb dX8_street_94 rfl (lv_at hl 0 rfl) ?_
          refine lv_iconst (v := 3) hx hb dX8_street_95 (by decide) ?_
          refine x_cSi F X (gc := []) (gr := [mW q b0 b1 b2 b3 b4 b5 b6 b7 b8 (upd (upd (upd s (33 + 5 * n + 0) st) (33 + 5 * n + 1) w) (33 + 5 * n + 2) 0) p3 sl sv pd fo to ou (nI kn3) ln mn la op wr]) (xp_idx (n := 1) [0] (by decide +kernel) rfl rfl) (c_X8_at l D q n 3 (by first | assumption | omega) (by first | assumption | omega)) (va_cwS 2 F.1.2.2.2.2 gX8_street_X8_at rfl rfl rfl (by decide +kernel) ⟨Nat.le_of_ble_eq_true rfl, Nat.le_of_ble_eq_true rfl⟩) rfl rfl hl.1 ⟨Nat.le_of_ble_eq_true rfl, Nat.le_of_ble_eq_true rfl⟩ (Nat.le_of_ble_eq_true rfl) dX8_street_96 (fun r_96 g1 H locs hp X => ?_)
          obtain ⟨rfl, rfl⟩ := hp
          have X : xS D A9 s9 [mW q b0 b1 b2 b3 b4 b5 b6 b7 b8 (upd (upd (upd s (33 + 5 * n + 0) st) (33 + 5 * n + 1) w) (33 + 5 * n + 2) 0) p3 sl sv pd fo to ou (nI kn3) ln mn la op wr] H locs := X
          refine lv_iconst (v := 0) hx hb dX8_street_99 (by decide) ?_
          refine x_iast F X (gs' := [mW q b0 b1 b2 b3 b4 b5 b6 b7 b8 (upd (upd (upd (upd s (33 + 5 * n + 0) st) (33 + 5 * n + 1) w) (33 + 5 * n + 2) 0) (33 + 5 * n + 3) 0) p3 sl sv pd fo to ou (nI kn3) ln mn la op wr]) (n := 133) (f := (upd (upd (upd s (33 + 5 * n + 0) st) (33 + 5 * n + 1) w) (33 + 5 * n + 2) 0)) (k := (33 + 5 * n + 3)) 1 rfl (vp_in_nI (by omega) (by omega)) (nI_clamp (by omega)) dX8_street_100 rfl (fun H locs X => ?_)
          refine lv_aload_n hx hb dX8_street_101 rfl (lv_at hl 1 rfl) ?_
          refine x_get F X (v := .ref b1) (C := RX8) (T := TX8) (N := 14) (ci := 8) in_X8 0 rfl rfl 0 (by decide) mw_1 rfl dX8_street_102 ?_
          refine lv_iload_n hx hb dX8_street_105 rfl (lv_at hl 0 rfl) ?_
          refine lv_iconst (v := 4) hx hb dX8_street_106 (by decide) ?_
          refine x_cSi F X (gc := []) (gr := [mW q b0 b1 b2 b3 b4 b5 b6 b7 b8 (upd (upd (upd (upd s (33 + 5 * n + 0) st) (33 + 5 * n + 1) w) (33 + 5 * n + 2) 0) (33 + 5 * n + 3) 0) p3 sl sv pd fo to ou (nI kn3) ln mn la op wr]) (xp_idx (n := 1) [0] (by decide +kernel) rfl rfl) (c_X8_at l D q n 4 (by first | assumption | omega) (by first | assumption | omega)) (va_cwS 2 F.1.2.2.2.2 gX8_street_X8_at rfl rfl rfl (by decide +kernel) ⟨Nat.le_of_ble_eq_true rfl, Nat.le_of_ble_eq_true rfl⟩) rfl rfl hl.1 ⟨Nat.le_of_ble_eq_true rfl, Nat.le_of_ble_eq_true rfl⟩ (Nat.le_of_ble_eq_true rfl) dX8_street_107 (fun r_107 g1 H locs hp X => ?_)
          obtain ⟨rfl, rfl⟩ := hp
          have X : xS D A9 s9 [mW q b0 b1 b2 b3 b4 b5 b6 b7 b8 (upd (upd (upd (upd s (33 + 5 * n + 0) st) (33 + 5 * n + 1) w) (33 + 5 * n + 2) 0) (33 + 5 * n + 3) 0) p3 sl sv pd fo to ou (nI kn3) ln mn la op wr] H locs := X
          refine lv_iconst (v := 0) hx hb dX8_street_110 (by decide) ?_
          refine x_iast F X (gs' := [mW q b0 b1 b2 b3 b4 b5 b6 b7 b8 (upd (upd (upd (upd (upd s (33 + 5 * n + 0) st) (33 + 5 * n + 1) w) (33 + 5 * n + 2) 0) (33 + 5 * n + 3) 0) (33 + 5 * n + 4) 0) p3 sl sv pd fo to ou (nI kn3) ln mn la op wr]) (n := 133) (f := (upd (upd (upd (upd s (33 + 5 * n + 0) st) (33 + 5 * n + 1) w) (33 + 5 * n + 2) 0) (33 + 5 * n + 3) 0)) (k := (33 + 5 * n + 4)) 1 rfl (vp_in_nI (by omega) (by omega)) (nI_clamp (by omega)) dX8_street_111 rfl (fun H locs X => ?_)
          refine lv_aload_n hx hb dX8_street_112 rfl (lv_at hl 1 rfl) ?_
          refine x_get F X (v := .ref b1) (C := RX8) (T := TX8) (N := 14) (ci := 8) in_X8 0 rfl rfl 0 (by decide) mw_1 rfl dX8_street_113 ?_
          refine lv_iconst (v := 5) hx hb dX8_street_116 (by decide) ?_
          refine lv_dup2_11 hx hb dX8_street_117 rfl rfl ?_
          refine x_iald F X (v := ((upd (upd (upd (upd (upd s (33 + 5 * n + 0) st) (33 + 5 * n + 1) w) (33 + 5 * n + 2) 0) (33 + 5 * n + 3) 0) (33 + 5 * n + 4) 0) 5)) (n := 133) (f := (upd (upd (upd (upd (upd s (33 + 5 * n + 0) st) (33 + 5 * n + 1) w) (33 + 5 * n + 2) 0) (33 + 5 * n + 3) 0) (33 + 5 * n + 4) 0)) 1 rfl (show vp_in (nI 5) _ from vp_in_nI (by omega) (by omega)) rfl dX8_street_118 ?_
          refine x_i (y := (nI n)) (x_s5 hs5 (by omega)) ?_
          refine lv_iconst (v := 1) hx hb dX8_street_119 (by decide) ?_
          refine lv_iadd hx hb dX8_street_120 ?_
          refine x_i (y := (nI (n + 1))) (nI_add n 1) ?_
          refine x_iast F X (gs' := [mW q b0 b1 b2 b3 b4 b5 b6 b7 b8 (upd (upd (upd (upd (upd (upd s (33 + 5 * n + 0) st) (33 + 5 * n + 1) w) (33 + 5 * n + 2) 0) (33 + 5 * n + 3) 0) (33 + 5 * n + 4) 0) 5 (nI (n + 1))) p3 sl sv pd fo to ou (nI kn3) ln mn la op wr]) (n := 133) (f := (upd (upd (upd (upd (upd s (33 + 5 * n + 0) st) (33 + 5 * n + 1) w) (33 + 5 * n + 2) 0) (33 + 5 * n + 3) 0) (33 + 5 * n + 4) 0)) (k := 5) 1 rfl (show vp_in (nI 5) _ from vp_in_nI (by omega) (by omega)) rfl dX8_street_121 rfl (fun H locs X => ?_)
          refine lv_iload_n hx hb dX8_street_122 rfl (lv_at hl 0 rfl) ?_
          exact hret _ _ _ _ _ _ (by exact ⟨_, _, _, rfl, Or.inl ⟨⟨b_2, b_14, by omega, by rw [ek]; exact c_40⟩, rfl, rfl, hk3, hp3⟩⟩) X dX8_street_123
        · have c_40 : x_ct (x_tF s) (nI k) n = 4 := (nI_eq (a := x_ct (x_tF s) (nI k) n) (b := 4) (by omega) (by omega)).mp c_40
          refine lv_bipush (v := (-4)) hx hb dX8_street_43 (by decide) ?_
          exact hret _ _ _ _ _ _ (by exact ⟨_, _, _, rfl, Or.inr ⟨fun h => h.2.2.2 (by rw [ek]; exact c_40), (x_stE_3 (by omega) b_2 b_14).symm, rfl, rfl, rfl⟩⟩) X dX8_street_45
    · refine lv_if_ne (tgt := 23) hx hb dX8_street_17 (by decide) (fun h => absurd (by decide) h) (fun _ => ?_)
      refine lv_bipush (v := (-2)) hx hb dX8_street_20 (by decide) ?_
      exact hret _ _ _ _ _ _ (by exact ⟨_, _, _, rfl, Or.inr ⟨fun h => b_14 h.2.1, (x_stE_2 (by omega) b_2 b_14).symm, rfl, rfl, rfl⟩⟩) X dX8_street_22
  · refine lv_if_ne (tgt := 10) hx hb dX8_street_5 (by decide) (fun h => absurd (by decide) h) (fun _ => ?_)
    refine lv_iconst (v := (-1)) hx hb dX8_street_8 (by decide) ?_
    exact hret _ _ _ _ _ _ (by exact ⟨_, _, _, rfl, Or.inr ⟨fun h => b_2 h.1, (x_stE_1 (by omega) b_2).symm, rfl, rfl, rfl⟩⟩) X dX8_street_9

set_option maxHeartbeats 1000000 in
set_option maxRecDepth 100000 in
theorem c_X8_change (l : Launch) (D : va_G) (q : xQ) (b0 : Nat) (b1 : Nat) (b2 : Nat) (b3 : Nat) (b4 : Nat) (b5 : Nat) (b6 : Nat) (b7 : Nat) (b8 : Nat) (s : Nat → Int32) (p : Nat → Int32) (sl : Nat → Int32) (sv : Nat → Int32) (pd : Nat → Int32) (fo : Nat → Int32) (to : Nat → Int32) (ou : Nat → Int32) (kn : Nat) (ln : Int32) (mn : Int32) (la : Int32) (op : Int32) (wr : Int32) (n : Nat) (st : Int32) (a : Int32) (v : Int32) (hs5 : s 5 = nI n) (hn : n ≤ 20) (hn1 : 1 ≤ n) (hk6 : kn ≤ 6) : xMi l yX8_change wsX8_change { frames := 2, cells := 0, slots := 0, locals := 43 } D q [.ref b0, .int st, .int a, .int v] [mW q b0 b1 b2 b3 b4 b5 b6 b7 b8 s p sl sv pd fo to ou (nI kn) ln mn la op wr] (fun r gw => ∃ (s2 : Nat → Int32), ∃ (p2 : Nat → Int32), ∃ (kn2 : Nat), gw = [mW q b0 b1 b2 b3 b4 b5 b6 b7 b8 s2 p2 sl sv pd fo to ou (nI kn2) ln mn la op wr] ∧ (xCh (xIx st n ∧ x_cc a v) r (s (33 + 5 * st.toNatClampNeg + x_kp a.toNatClampNeg)) (if ¬ st < 0 ∧ st < nI n then -2 else -1) s (upd s (33 + 5 * st.toNatClampNeg + x_kp a.toNatClampNeg) v) s2 kn p p2 kn2)) := by
  refine xMi_of (cc := cX8_change) (maxL := 5) (rt := .int) (by decide) rfl (Nat.le_of_ble_eq_true rfl) (fun _ _ _ => rfl) ?_
  intro p9 e9 s9 m9 a9 below meth c9 A9 Z9 ls H locs F X hl hret
  have hx := F.1.1
  have hb := F.1.2.1
  have in_X8 : ∀ w ∈ wsX80, w ∈ wsX8_change := by decide +kernel
  have mw_0 : Cond.initialized RX8 ∈ wsX8_change := by decide +kernel
  have mw_1 : Cond.fieldLink RX8 7 "HatWindsModel" "s" "[I" ∈ wsX8_change := by decide +kernel
  have hl : lv_has ls 5 [(0, .ref b0), (1, .int st), (2, .int a), (3, .int v)] := hl
  refine lv_aload_n hx hb dX8_change_0 rfl (lv_at hl 0 rfl) ?_
  refine lv_iload_n hx hb dX8_change_1 rfl (lv_at hl 1 rfl) ?_
  refine x_cVi F X (gc := [mW q b0 b1 b2 b3 b4 b5 b6 b7 b8 s p sl sv pd fo to ou (nI kn) ln mn la op wr]) (gr := []) (xp_idx (n := 1) [0] (by decide +kernel) rfl rfl) (c_X8_isStreet l D q b0 b1 b2 b3 b4 b5 b6 b7 b8 s p sl sv pd fo to ou (nI kn) ln mn la op wr n st (by first | assumption | omega) (by first | assumption | omega) (by first | assumption | omega)) (cwV 1 F.1.2.2.2.2 gX8_change_X8_isStreet rfl rfl rfl (by decide +kernel) ⟨Nat.le_of_ble_eq_true rfl, Nat.le_of_ble_eq_true rfl⟩) rfl rfl (r0 := 0) (ci := 8) (T := TX8) (N := 14) rfl rfl hl.1 ⟨Nat.le_of_ble_eq_true rfl, Nat.le_of_ble_eq_true rfl⟩ (Nat.le_of_ble_eq_true rfl) dX8_change_2 (fun r_2 g1 H locs hp X => ?_)
  obtain ⟨rfl, hz⟩ := hp
  have X : xS D A9 s9 [mW q b0 b1 b2 b3 b4 b5 b6 b7 b8 s p sl sv pd fo to ou (nI kn) ln mn la op wr] H locs := X
  rcases hz with ⟨rfl, b_2⟩ | ⟨rfl, b_2⟩
  · refine lv_if_ne (tgt := 10) hx hb dX8_change_5 (by decide) (fun _ => ?_) (fun h => absurd h (by decide))
    have b_2c := b_2
    obtain ⟨k, hk, ek⟩ := b_2c
    refine lv_iload_n hx hb dX8_change_10 rfl (lv_at hl 2 rfl) ?_
    refine lv_iload_n hx hb dX8_change_11 rfl (lv_at hl 3 rfl) ?_
    refine x_cSi F X (gc := []) (gr := [mW q b0 b1 b2 b3 b4 b5 b6 b7 b8 s p sl sv pd fo to ou (nI kn) ln mn la op wr]) (xp_idx (n := 1) [0] (by decide +kernel) rfl rfl) (c_X8_canChange l D q a v ) (va_cwS 2 F.1.2.2.2.2 gX8_change_X8_canChange rfl rfl rfl (by decide +kernel) ⟨Nat.le_of_ble_eq_true rfl, Nat.le_of_ble_eq_true rfl⟩) rfl rfl hl.1 ⟨Nat.le_of_ble_eq_true rfl, Nat.le_of_ble_eq_true rfl⟩ (Nat.le_of_ble_eq_true rfl) dX8_change_12 (fun r_12 g1 H locs hp X => ?_)
    obtain ⟨rfl, hz⟩ := hp
    have X : xS D A9 s9 [mW q b0 b1 b2 b3 b4 b5 b6 b7 b8 s p sl sv pd fo to ou (nI kn) ln mn la op wr] H locs := X
    rcases hz with ⟨rfl, b_12⟩ | ⟨rfl, b_12⟩
    · refine lv_if_ne (tgt := 21) hx hb dX8_change_15 (by decide) (fun _ => ?_) (fun h => absurd h (by decide))
      obtain ⟨w, hw, ew, -⟩ := x_cc_in b_12
      have hkp := x_kp_le w
      refine lv_aload_n hx hb dX8_change_21 rfl (lv_at hl 0 rfl) ?_
      refine x_cVv F X (gc := [mW q b0 b1 b2 b3 b4 b5 b6 b7 b8 s p sl sv pd fo to ou (nI kn) ln mn la op wr]) (gr := []) (xp_idx (n := 1) [0] (by decide +kernel) rfl rfl) (c_X8_remembers l D q b0 b1 b2 b3 b4 b5 b6 b7 b8 s p sl sv pd fo to ou kn ln mn la op wr (by first | assumption | omega)) (cwV 0 F.1.2.2.2.2 gX8_change_X8_remembers rfl rfl rfl (by decide +kernel) ⟨Nat.le_of_ble_eq_true rfl, Nat.le_of_ble_eq_true rfl⟩) rfl rfl (r0 := 0) (ci := 8) (T := TX8) (N := 14) rfl rfl hl.1 ⟨Nat.le_of_ble_eq_true rfl, Nat.le_of_ble_eq_true rfl⟩ (Nat.le_of_ble_eq_true rfl) dX8_change_22 (fun g1 H locs hp X => ?_)
      obtain ⟨p3, kn3, rfl, hk3, hp3⟩ := hp
      have X : xS D A9 s9 [mW q b0 b1 b2 b3 b4 b5 b6 b7 b8 s p3 sl sv pd fo to ou (nI kn3) ln mn la op wr] H locs := X
      refine lv_aload_n hx hb dX8_change_25 rfl (lv_at hl 0 rfl) ?_
      refine lv_iload_n hx hb dX8_change_26 rfl (lv_at hl 1 rfl) ?_
      refine x_i (y := (nI k)) (ek) ?_
      refine lv_iload_n hx hb dX8_change_27 rfl (lv_at hl 2 rfl) ?_
      refine x_i (y := (nI w)) (ew) ?_
      refine x_cSi F X (gc := []) (gr := [mW q b0 b1 b2 b3 b4 b5 b6 b7 b8 s p3 sl sv pd fo to ou (nI kn3) ln mn la op wr]) (xp_idx (n := 1) [0] (by decide +kernel) rfl rfl) (c_X8_kept l D q w (by first | assumption | omega)) (va_cwS 1 F.1.2.2.2.2 gX8_change_X8_kept rfl rfl rfl (by decide +kernel) ⟨Nat.le_of_ble_eq_true rfl, Nat.le_of_ble_eq_true rfl⟩) rfl rfl hl.1 ⟨Nat.le_of_ble_eq_true rfl, Nat.le_of_ble_eq_true rfl⟩ (Nat.le_of_ble_eq_true rfl) dX8_change_28 (fun r_28 g1 H locs hp X => ?_)
      obtain ⟨rfl, rfl⟩ := hp
      have X : xS D A9 s9 [mW q b0 b1 b2 b3 b4 b5 b6 b7 b8 s p3 sl sv pd fo to ou (nI kn3) ln mn la op wr] H locs := X
      refine x_cVi F X (gc := [mW q b0 b1 b2 b3 b4 b5 b6 b7 b8 s p3 sl sv pd fo to ou (nI kn3) ln mn la op wr]) (gr := []) (xp_idx (n := 1) [0] (by decide +kernel) rfl rfl) (c_X8_its l D q b0 b1 b2 b3 b4 b5 b6 b7 b8 s p3 sl sv pd fo to ou (nI kn3) ln mn la op wr k (x_kp w) (by first | assumption | omega) (by first | assumption | omega)) (cwV 2 F.1.2.2.2.2 gX8_change_X8_its rfl rfl rfl (by decide +kernel) ⟨Nat.le_of_ble_eq_true rfl, Nat.le_of_ble_eq_true rfl⟩) rfl rfl (r0 := 0) (ci := 8) (T := TX8) (N := 14) rfl rfl hl.1 ⟨Nat.le_of_ble_eq_true rfl, Nat.le_of_ble_eq_true rfl⟩ (Nat.le_of_ble_eq_true rfl) dX8_change_31 (fun r_31 g1 H locs hp X => ?_)
      obtain ⟨rfl, rfl⟩ := hp
      have X : xS D A9 s9 [mW q b0 b1 b2 b3 b4 b5 b6 b7 b8 s p3 sl sv pd fo to ou (nI kn3) ln mn la op wr] H locs := X
      refine lv_istore (lv' := [(4, .int (s (33 + 5 * k + (x_kp w)))), (0, .ref b0), (1, .int st), (2, .int a), (3, .int v)]) hx hb dX8_change_34 hl (by decide) rfl (fun ls hl => ?_)
      refine lv_aload_n hx hb dX8_change_36 rfl (lv_at hl 1 rfl) ?_
      refine x_get F X (v := .ref b1) (C := RX8) (T := TX8) (N := 14) (ci := 8) in_X8 0 rfl rfl 0 (by decide) mw_1 rfl dX8_change_37 ?_
      refine lv_iload_n hx hb dX8_change_40 rfl (lv_at hl 2 rfl) ?_
      refine x_i (y := (nI k)) (ek) ?_
      refine lv_iload_n hx hb dX8_change_41 rfl (lv_at hl 3 rfl) ?_
      refine x_i (y := (nI w)) (ew) ?_
      refine x_cSi F X (gc := []) (gr := [mW q b0 b1 b2 b3 b4 b5 b6 b7 b8 s p3 sl sv pd fo to ou (nI kn3) ln mn la op wr]) (xp_idx (n := 1) [0] (by decide +kernel) rfl rfl) (c_X8_kept l D q w (by first | assumption | omega)) (va_cwS 1 F.1.2.2.2.2 gX8_change_X8_kept rfl rfl rfl (by decide +kernel) ⟨Nat.le_of_ble_eq_true rfl, Nat.le_of_ble_eq_true rfl⟩) rfl rfl hl.1 ⟨Nat.le_of_ble_eq_true rfl, Nat.le_of_ble_eq_true rfl⟩ (Nat.le_of_ble_eq_true rfl) dX8_change_42 (fun r_42 g1 H locs hp X => ?_)
      obtain ⟨rfl, rfl⟩ := hp
      have X : xS D A9 s9 [mW q b0 b1 b2 b3 b4 b5 b6 b7 b8 s p3 sl sv pd fo to ou (nI kn3) ln mn la op wr] H locs := X
      refine x_cSi F X (gc := []) (gr := [mW q b0 b1 b2 b3 b4 b5 b6 b7 b8 s p3 sl sv pd fo to ou (nI kn3) ln mn la op wr]) (xp_idx (n := 1) [0] (by decide +kernel) rfl rfl) (c_X8_at l D q k (x_kp w) (by first | assumption | omega) (by first | assumption | omega)) (va_cwS 2 F.1.2.2.2.2 gX8_change_X8_at rfl rfl rfl (by decide +kernel) ⟨Nat.le_of_ble_eq_true rfl, Nat.le_of_ble_eq_true rfl⟩) rfl rfl hl.1 ⟨Nat.le_of_ble_eq_true rfl, Nat.le_of_ble_eq_true rfl⟩ (Nat.le_of_ble_eq_true rfl) dX8_change_45 (fun r_45 g1 H locs hp X => ?_)
      obtain ⟨rfl, rfl⟩ := hp
      have X : xS D A9 s9 [mW q b0 b1 b2 b3 b4 b5 b6 b7 b8 s p3 sl sv pd fo to ou (nI kn3) ln mn la op wr] H locs := X
      refine lv_iload_n hx hb dX8_change_48 rfl (lv_at hl 4 rfl) ?_
      refine x_iast F X (gs' := [mW q b0 b1 b2 b3 b4 b5 b6 b7 b8 (upd s (33 + 5 * k + (x_kp w)) v) p3 sl sv pd fo to ou (nI kn3) ln mn la op wr]) (n := 133) (f := s) (k := (33 + 5 * k + (x_kp w))) 1 rfl (vp_in_nI (by omega) (by omega)) (nI_clamp (by omega)) dX8_change_49 rfl (fun H locs X => ?_)
      refine lv_iload hx hb dX8_change_50 (lv_at hl 0 rfl) ?_
      refine hret _ _ _ _ _ _ ?_ X dX8_change_52
      rw [show st = nI k from ek, show a = nI w from ew, nI_clamp (by omega), nI_clamp (by omega)]
      rw [show st = nI k from ek] at b_2
      rw [show a = nI w from ew] at b_12
      exact ⟨_, _, _, rfl, Or.inl ⟨⟨b_2, b_12⟩, rfl, rfl, hk3, hp3⟩⟩
    · refine lv_if_ne (tgt := 21) hx hb dX8_change_15 (by decide) (fun h => absurd (by decide) h) (fun _ => ?_)
      refine lv_bipush (v := (-2)) hx hb dX8_change_18 (by decide) ?_
      exact hret _ _ _ _ _ _ (by exact ⟨_, _, _, rfl, Or.inr ⟨fun h => b_12 h.2, (if_pos ((x_ix (by omega)).mpr b_2)).symm, rfl, rfl, rfl⟩⟩) X dX8_change_20
  · refine lv_if_ne (tgt := 10) hx hb dX8_change_5 (by decide) (fun h => absurd (by decide) h) (fun _ => ?_)
    refine lv_iconst (v := (-1)) hx hb dX8_change_8 (by decide) ?_
    exact hret _ _ _ _ _ _ (by exact ⟨_, _, _, rfl, Or.inr ⟨fun h => b_2 h.1, (if_neg (fun h => b_2 ((x_ix (by omega)).mp h))).symm, rfl, rfl, rfl⟩⟩) X dX8_change_9

set_option maxHeartbeats 1000000 in
set_option maxRecDepth 100000 in
theorem c_X8_anHour (l : Launch) (D : va_G) (q : xQ) (b0 : Nat) (b1 : Nat) (b2 : Nat) (b3 : Nat) (b4 : Nat) (b5 : Nat) (b6 : Nat) (b7 : Nat) (b8 : Nat) (s : Nat → Int32) (p : Nat → Int32) (sl : Nat → Int32) (sv : Nat → Int32) (pd : Nat → Int32) (fo : Nat → Int32) (to : Nat → Int32) (ou : Nat → Int32) (kn : Nat) (ln : Int32) (mn : Int32) (la : Int32) (op : Int32) (wr : Int32) (n : Nat) (pr : Nat → Nat) (hok : x_ok s n pr) : xMi l yX8_anHour wsX8_anHour { frames := 5, cells := 0, slots := 0, locals := 115 } D q [.ref b0] [mW q b0 b1 b2 b3 b4 b5 b6 b7 b8 s p sl sv pd fo to ou (nI kn) ln mn la op wr] (fun r gw => ∃ (fo2 : Nat → Int32), gw = [mW q b0 b1 b2 b3 b4 b5 b6 b7 b8 (x_hour s (x_hb s pr n (s 4)) (x_wh s pr n)) p sl sv pd fo2 to ou (nI kn) ln mn la op wr] ∧ r = x_hb s pr n (s 4)) := by
  refine xMi_of (cc := cX8_anHour) (maxL := 5) (rt := .int) (by decide) rfl (Nat.le_of_ble_eq_true rfl) (fun _ _ _ => rfl) ?_
  intro p9 e9 s9 m9 a9 below meth c9 A9 Z9 ls H locs F X hl hret
  have hx := F.1.1
  have hb := F.1.2.1
  have in_X8 : ∀ w ∈ wsX80, w ∈ wsX8_anHour := by decide +kernel
  have mw_0 : Cond.fieldLink RX8 7 "HatWindsModel" "s" "[I" ∈ wsX8_anHour := by decide +kernel
  have mw_1 : Cond.initialized RX8 ∈ wsX8_anHour := by decide +kernel
  have hl : lv_has ls 5 [(0, .ref b0)] := hl
  have hok0 := hok
  obtain ⟨hn, hn1, hs5, hs33, hpr, hwd, hcl, hsm, hpe, hst, hle, hhr, hcn⟩ := hok0
  refine lv_aload_n hx hb dX8_anHour_0 rfl (lv_at hl 0 rfl) ?_
  refine lv_aload_n hx hb dX8_anHour_1 rfl (lv_at hl 0 rfl) ?_
  refine x_get F X (v := .ref b1) (C := RX8) (T := TX8) (N := 14) (ci := 8) in_X8 0 rfl rfl 0 (by decide) mw_0 rfl dX8_anHour_2 ?_
  refine lv_iconst (v := 4) hx hb dX8_anHour_5 (by decide) ?_
  refine x_iald F X (v := (s 4)) (n := 133) (f := s) 1 rfl (show vp_in (nI 4) _ from vp_in_nI (by omega) (by omega)) rfl dX8_anHour_6 ?_
  refine x_cVi F X (gc := [mW q b0 b1 b2 b3 b4 b5 b6 b7 b8 s p sl sv pd fo to ou (nI kn) ln mn la op wr]) (gr := []) (xp_idx (n := 1) [0] (by decide +kernel) rfl rfl) (c_X8_hatsBy l D q b0 b1 b2 b3 b4 b5 b6 b7 b8 s p sl sv pd fo to ou (nI kn) ln mn la op wr n pr (s 4) (by first | assumption | omega)) (cwV 1 F.1.2.2.2.2 gX8_anHour_X8_hatsBy rfl rfl rfl (by decide +kernel) ⟨Nat.le_of_ble_eq_true rfl, Nat.le_of_ble_eq_true rfl⟩) rfl rfl (r0 := 0) (ci := 8) (T := TX8) (N := 14) rfl rfl hl.1 ⟨Nat.le_of_ble_eq_true rfl, Nat.le_of_ble_eq_true rfl⟩ (Nat.le_of_ble_eq_true rfl) dX8_anHour_7 (fun r_7 g1 H locs hp X => ?_)
  obtain ⟨fo2, rfl, rfl, hfo2⟩ := hp
  have X : xS D A9 s9 [mW q b0 b1 b2 b3 b4 b5 b6 b7 b8 s p sl sv pd fo2 to ou (nI kn) ln mn la op wr] H locs := X
  refine lv_istore_n (lv' := [(1, .int (x_hb s pr n (s 4))), (0, .ref b0)]) hx hb dX8_anHour_10 rfl hl (by decide) rfl (fun ls hl => ?_)
  refine lv_iconst (v := 0) hx hb dX8_anHour_11 (by decide) ?_
  refine lv_istore_n (lv' := [(2, .int 0), (1, .int (x_hb s pr n (s 4))), (0, .ref b0)]) hx hb dX8_anHour_12 rfl hl (by decide) rfl (fun ls hl => ?_)
  refine lv_bipush (v := (-6)) hx hb dX8_anHour_13 (by decide) ?_
  refine lv_istore_n (lv' := [(3, .int (-6)), (2, .int 0), (1, .int (x_hb s pr n (s 4))), (0, .ref b0)]) hx hb dX8_anHour_15 rfl hl (by decide) rfl (fun ls hl => ?_)
  refine lv_iconst (v := 0) hx hb dX8_anHour_16 (by decide) ?_
  refine lv_istore (lv' := [(4, .int 0), (3, .int (-6)), (2, .int 0), (1, .int (x_hb s pr n (s 4))), (0, .ref b0)]) hx hb dX8_anHour_17 hl (by decide) rfl (fun ls hl => ?_)
  have L_19 : ∀ (nn : Nat) (j : Nat) (mo wh : Int32) (H : Heap) (locs : List Loc) (ls : Array Slot), xS D A9 s9 [mW q b0 b1 b2 b3 b4 b5 b6 b7 b8 s p sl sv pd fo2 to ou (nI kn) ln mn la op wr] H locs → lv_has ls 5 [(4, .int (nI j)), (3, .int wh), (2, .int mo), (1, .int (x_hb s pr n (s 4))), (0, .ref b0)] → (n < j + nn) → (j ≤ n) → (x_wo (x_hc s fo2) j = (wh, mo)) → W p9 l e9 { frames := 5, cells := 0, slots := 0, locals := 115 } s9 m9 a9 below meth c9 H locs 0 0 Z9 (F0 m9 19 ls []) := by
    intro nn
    induction nn with
    | zero => intro j mo wh H locs ls X hl hfuel hj hf; exact absurd hfuel (by omega)
    | succ nn ih_19 =>
      intro j mo wh H locs ls X hl hfuel hj hf
      refine lv_iload hx hb dX8_anHour_19 (lv_at hl 0 rfl) ?_
      refine lv_aload_n hx hb dX8_anHour_21 rfl (lv_at hl 4 rfl) ?_
      refine x_get F X (v := .ref b1) (C := RX8) (T := TX8) (N := 14) (ci := 8) in_X8 0 rfl rfl 0 (by decide) mw_0 rfl dX8_anHour_22 ?_
      refine lv_iconst (v := 5) hx hb dX8_anHour_25 (by decide) ?_
      refine x_iald F X (v := (s 5)) (n := 133) (f := s) 1 rfl (show vp_in (nI 5) _ from vp_in_nI (by omega) (by omega)) rfl dX8_anHour_26 ?_
      refine x_i (y := (nI n)) (hs5) ?_
      refine lv_icmp_ge (tgt := 74) hx hb dX8_anHour_27 (by decide) (fun c_27 => ?_) (fun c_27 => ?_)
      · have c_27 : n ≤ j := (nI_leI (a := n) (b := j) (by omega) (by omega)).mp c_27
        have ejn : j = n := by omega
        rw [ejn] at hf
        refine lv_bipush (v := 23) hx hb dX8_anHour_74 (by decide) ?_
        refine lv_istore (lv' := [(4, .int 23), (3, .int wh), (2, .int mo), (1, .int (x_hb s pr n (s 4))), (0, .ref b0)]) hx hb dX8_anHour_76 hl (by decide) rfl (fun ls hl => ?_)
        have L_78 : ∀ (nn : Nat) (k : Nat) (w : Nat → Int32) (H : Heap) (locs : List Loc) (ls : Array Slot), xS D A9 s9 [mW q b0 b1 b2 b3 b4 b5 b6 b7 b8 w p sl sv pd fo2 to ou (nI kn) ln mn la op wr] H locs → lv_has ls 5 [(4, .int (nI k)), (3, .int wh), (2, .int mo), (1, .int (x_hb s pr n (s 4))), (0, .ref b0)] → (k < nn) → (k ≤ 23) → (2 ≤ k) → (w = x_sft s k) → W p9 l e9 { frames := 5, cells := 0, slots := 0, locals := 115 } s9 m9 a9 below meth c9 H locs 0 0 Z9 (F0 m9 78 ls []) := by
          intro nn
          induction nn with
          | zero => intro k w H locs ls X hl hfuel hk hk2 hw; exact absurd hfuel (by omega)
          | succ nn ih_78 =>
            intro k w H locs ls X hl hfuel hk hk2 hw
            refine lv_iload hx hb dX8_anHour_78 (lv_at hl 0 rfl) ?_
            refine lv_iconst (v := 3) hx hb dX8_anHour_80 (by decide) ?_
            refine lv_icmp_lt (tgt := 112) hx hb dX8_anHour_81 (by decide) (fun c_81 => ?_) (fun c_81 => ?_)
            · have c_81 : k < 3 := (nI_ltI (a := k) (b := 3) (by omega) (by omega)).mp c_81
              refine lv_aload_n hx hb dX8_anHour_112 rfl (lv_at hl 4 rfl) ?_
              refine x_get F X (v := .ref b1) (C := RX8) (T := TX8) (N := 14) (ci := 8) in_X8 0 rfl rfl 0 (by decide) mw_0 rfl dX8_anHour_113 ?_
              refine lv_bipush (v := 9) hx hb dX8_anHour_116 (by decide) ?_
              refine lv_aload_n hx hb dX8_anHour_118 rfl (lv_at hl 4 rfl) ?_
              refine x_get F X (v := .ref b1) (C := RX8) (T := TX8) (N := 14) (ci := 8) in_X8 0 rfl rfl 0 (by decide) mw_0 rfl dX8_anHour_119 ?_
              refine lv_iconst (v := 4) hx hb dX8_anHour_122 (by decide) ?_
              refine x_iald F X (v := (w 4)) (n := 133) (f := w) 1 rfl (show vp_in (nI 4) _ from vp_in_nI (by omega) (by omega)) rfl dX8_anHour_123 ?_
              refine x_iast F X (gs' := [mW q b0 b1 b2 b3 b4 b5 b6 b7 b8 (upd w 9 (w 4)) p sl sv pd fo2 to ou (nI kn) ln mn la op wr]) (n := 133) (f := w) (k := 9) 1 rfl (show vp_in (nI 9) _ from vp_in_nI (by omega) (by omega)) rfl dX8_anHour_124 rfl (fun H locs X => ?_)
              refine lv_aload_n hx hb dX8_anHour_125 rfl (lv_at hl 4 rfl) ?_
              refine x_get F X (v := .ref b1) (C := RX8) (T := TX8) (N := 14) (ci := 8) in_X8 0 rfl rfl 0 (by decide) mw_0 rfl dX8_anHour_126 ?_
              refine lv_bipush (v := 10) hx hb dX8_anHour_129 (by decide) ?_
              refine lv_iload_n hx hb dX8_anHour_131 rfl (lv_at hl 3 rfl) ?_
              refine x_iast F X (gs' := [mW q b0 b1 b2 b3 b4 b5 b6 b7 b8 (upd (upd w 9 (w 4)) 10 (x_hb s pr n (s 4))) p sl sv pd fo2 to ou (nI kn) ln mn la op wr]) (n := 133) (f := (upd w 9 (w 4))) (k := 10) 1 rfl (show vp_in (nI 10) _ from vp_in_nI (by omega) (by omega)) rfl dX8_anHour_132 rfl (fun H locs X => ?_)
              refine lv_aload_n hx hb dX8_anHour_133 rfl (lv_at hl 4 rfl) ?_
              refine x_get F X (v := .ref b1) (C := RX8) (T := TX8) (N := 14) (ci := 8) in_X8 0 rfl rfl 0 (by decide) mw_0 rfl dX8_anHour_134 ?_
              refine lv_bipush (v := 11) hx hb dX8_anHour_137 (by decide) ?_
              refine lv_iload_n hx hb dX8_anHour_139 rfl (lv_at hl 1 rfl) ?_
              refine x_iast F X (gs' := [mW q b0 b1 b2 b3 b4 b5 b6 b7 b8 (upd (upd (upd w 9 (w 4)) 10 (x_hb s pr n (s 4))) 11 wh) p sl sv pd fo2 to ou (nI kn) ln mn la op wr]) (n := 133) (f := (upd (upd w 9 (w 4)) 10 (x_hb s pr n (s 4)))) (k := 11) 1 rfl (show vp_in (nI 11) _ from vp_in_nI (by omega) (by omega)) rfl dX8_anHour_140 rfl (fun H locs X => ?_)
              refine lv_aload_n hx hb dX8_anHour_141 rfl (lv_at hl 4 rfl) ?_
              refine x_get F X (v := .ref b1) (C := RX8) (T := TX8) (N := 14) (ci := 8) in_X8 0 rfl rfl 0 (by decide) mw_0 rfl dX8_anHour_142 ?_
              refine lv_bipush (v := 8) hx hb dX8_anHour_145 (by decide) ?_
              refine lv_dup2_11 hx hb dX8_anHour_147 rfl rfl ?_
              refine x_iald F X (v := ((upd (upd (upd w 9 (w 4)) 10 (x_hb s pr n (s 4))) 11 wh) 8)) (n := 133) (f := (upd (upd (upd w 9 (w 4)) 10 (x_hb s pr n (s 4))) 11 wh)) 1 rfl (show vp_in (nI 8) _ from vp_in_nI (by omega) (by omega)) rfl dX8_anHour_148 ?_
              refine lv_aload_n hx hb dX8_anHour_149 rfl (lv_at hl 4 rfl) ?_
              refine x_get F X (v := .ref b1) (C := RX8) (T := TX8) (N := 14) (ci := 8) in_X8 0 rfl rfl 0 (by decide) mw_0 rfl dX8_anHour_150 ?_
              refine lv_bipush (v := 8) hx hb dX8_anHour_153 (by decide) ?_
              refine x_iald F X (v := ((upd (upd (upd w 9 (w 4)) 10 (x_hb s pr n (s 4))) 11 wh) 8)) (n := 133) (f := (upd (upd (upd w 9 (w 4)) 10 (x_hb s pr n (s 4))) 11 wh)) 1 rfl (show vp_in (nI 8) _ from vp_in_nI (by omega) (by omega)) rfl dX8_anHour_155 ?_
              refine lv_bipush (v := 8) hx hb dX8_anHour_156 (by decide) ?_
              refine lv_icmp_ge (tgt := 165) hx hb dX8_anHour_158 (by decide) (fun c_158 => ?_) (fun c_158 => ?_)
              · refine lv_iconst (v := 0) hx hb dX8_anHour_165 (by decide) ?_
                refine lv_iadd hx hb dX8_anHour_166 ?_
                refine x_iast F X (gs' := [mW q b0 b1 b2 b3 b4 b5 b6 b7 b8 (upd (upd (upd (upd w 9 (w 4)) 10 (x_hb s pr n (s 4))) 11 wh) 8 (((upd (upd (upd w 9 (w 4)) 10 (x_hb s pr n (s 4))) 11 wh) 8) + 0)) p sl sv pd fo2 to ou (nI kn) ln mn la op wr]) (n := 133) (f := (upd (upd (upd w 9 (w 4)) 10 (x_hb s pr n (s 4))) 11 wh)) (k := 8) 1 rfl (show vp_in (nI 8) _ from vp_in_nI (by omega) (by omega)) rfl dX8_anHour_167 rfl (fun H locs X => ?_)
                refine lv_aload_n hx hb dX8_anHour_168 rfl (lv_at hl 4 rfl) ?_
                refine x_get F X (v := .ref b1) (C := RX8) (T := TX8) (N := 14) (ci := 8) in_X8 0 rfl rfl 0 (by decide) mw_0 rfl dX8_anHour_169 ?_
                refine lv_bipush (v := 6) hx hb dX8_anHour_172 (by decide) ?_
                refine lv_dup2_11 hx hb dX8_anHour_174 rfl rfl ?_
                refine x_iald F X (v := ((upd (upd (upd (upd w 9 (w 4)) 10 (x_hb s pr n (s 4))) 11 wh) 8 (((upd (upd (upd w 9 (w 4)) 10 (x_hb s pr n (s 4))) 11 wh) 8) + 0)) 6)) (n := 133) (f := (upd (upd (upd (upd w 9 (w 4)) 10 (x_hb s pr n (s 4))) 11 wh) 8 (((upd (upd (upd w 9 (w 4)) 10 (x_hb s pr n (s 4))) 11 wh) 8) + 0))) 1 rfl (show vp_in (nI 6) _ from vp_in_nI (by omega) (by omega)) rfl dX8_anHour_175 ?_
                refine lv_iconst (v := 1) hx hb dX8_anHour_176 (by decide) ?_
                refine lv_iadd hx hb dX8_anHour_177 ?_
                refine x_iast F X (gs' := [mW q b0 b1 b2 b3 b4 b5 b6 b7 b8 (upd (upd (upd (upd (upd w 9 (w 4)) 10 (x_hb s pr n (s 4))) 11 wh) 8 (((upd (upd (upd w 9 (w 4)) 10 (x_hb s pr n (s 4))) 11 wh) 8) + 0)) 6 (((upd (upd (upd (upd w 9 (w 4)) 10 (x_hb s pr n (s 4))) 11 wh) 8 (((upd (upd (upd w 9 (w 4)) 10 (x_hb s pr n (s 4))) 11 wh) 8) + 0)) 6) + 1)) p sl sv pd fo2 to ou (nI kn) ln mn la op wr]) (n := 133) (f := (upd (upd (upd (upd w 9 (w 4)) 10 (x_hb s pr n (s 4))) 11 wh) 8 (((upd (upd (upd w 9 (w 4)) 10 (x_hb s pr n (s 4))) 11 wh) 8) + 0))) (k := 6) 1 rfl (show vp_in (nI 6) _ from vp_in_nI (by omega) (by omega)) rfl dX8_anHour_178 rfl (fun H locs X => ?_)
                refine lv_aload_n hx hb dX8_anHour_179 rfl (lv_at hl 4 rfl) ?_
                refine x_get F X (v := .ref b1) (C := RX8) (T := TX8) (N := 14) (ci := 8) in_X8 0 rfl rfl 0 (by decide) mw_0 rfl dX8_anHour_180 ?_
                refine lv_bipush (v := 7) hx hb dX8_anHour_183 (by decide) ?_
                refine lv_dup2_11 hx hb dX8_anHour_185 rfl rfl ?_
                refine x_iald F X (v := ((upd (upd (upd (upd (upd w 9 (w 4)) 10 (x_hb s pr n (s 4))) 11 wh) 8 (((upd (upd (upd w 9 (w 4)) 10 (x_hb s pr n (s 4))) 11 wh) 8) + 0)) 6 (((upd (upd (upd (upd w 9 (w 4)) 10 (x_hb s pr n (s 4))) 11 wh) 8 (((upd (upd (upd w 9 (w 4)) 10 (x_hb s pr n (s 4))) 11 wh) 8) + 0)) 6) + 1)) 7)) (n := 133) (f := (upd (upd (upd (upd (upd w 9 (w 4)) 10 (x_hb s pr n (s 4))) 11 wh) 8 (((upd (upd (upd w 9 (w 4)) 10 (x_hb s pr n (s 4))) 11 wh) 8) + 0)) 6 (((upd (upd (upd (upd w 9 (w 4)) 10 (x_hb s pr n (s 4))) 11 wh) 8 (((upd (upd (upd w 9 (w 4)) 10 (x_hb s pr n (s 4))) 11 wh) 8) + 0)) 6) + 1))) 1 rfl (show vp_in (nI 7) _ from vp_in_nI (by omega) (by omega)) rfl dX8_anHour_186 ?_
                refine lv_iload_n hx hb dX8_anHour_187 rfl (lv_at hl 3 rfl) ?_
                refine lv_iadd hx hb dX8_anHour_188 ?_
                refine x_iast F X (gs' := [mW q b0 b1 b2 b3 b4 b5 b6 b7 b8 (upd (upd (upd (upd (upd (upd w 9 (w 4)) 10 (x_hb s pr n (s 4))) 11 wh) 8 (((upd (upd (upd w 9 (w 4)) 10 (x_hb s pr n (s 4))) 11 wh) 8) + 0)) 6 (((upd (upd (upd (upd w 9 (w 4)) 10 (x_hb s pr n (s 4))) 11 wh) 8 (((upd (upd (upd w 9 (w 4)) 10 (x_hb s pr n (s 4))) 11 wh) 8) + 0)) 6) + 1)) 7 (((upd (upd (upd (upd (upd w 9 (w 4)) 10 (x_hb s pr n (s 4))) 11 wh) 8 (((upd (upd (upd w 9 (w 4)) 10 (x_hb s pr n (s 4))) 11 wh) 8) + 0)) 6 (((upd (upd (upd (upd w 9 (w 4)) 10 (x_hb s pr n (s 4))) 11 wh) 8 (((upd (upd (upd w 9 (w 4)) 10 (x_hb s pr n (s 4))) 11 wh) 8) + 0)) 6) + 1)) 7) + (x_hb s pr n (s 4)))) p sl sv pd fo2 to ou (nI kn) ln mn la op wr]) (n := 133) (f := (upd (upd (upd (upd (upd w 9 (w 4)) 10 (x_hb s pr n (s 4))) 11 wh) 8 (((upd (upd (upd w 9 (w 4)) 10 (x_hb s pr n (s 4))) 11 wh) 8) + 0)) 6 (((upd (upd (upd (upd w 9 (w 4)) 10 (x_hb s pr n (s 4))) 11 wh) 8 (((upd (upd (upd w 9 (w 4)) 10 (x_hb s pr n (s 4))) 11 wh) 8) + 0)) 6) + 1))) (k := 7) 1 rfl (show vp_in (nI 7) _ from vp_in_nI (by omega) (by omega)) rfl dX8_anHour_189 rfl (fun H locs X => ?_)
                refine lv_iload_n hx hb dX8_anHour_190 rfl (lv_at hl 3 rfl) ?_
                refine hret _ _ _ _ _ _ ?_ X dX8_anHour_191
                obtain rfl : k = 2 := by omega
                subst hw
                have ewh : wh = x_wh s pr n := by
                  unfold x_wh
                  rw [x_wo_cong (h := x_hc s fo2) (fun z hz => by unfold x_hc; rw [hfo2 z hz]), hf]
                subst ewh
                exact ⟨_, by rw [← x_hour_eq _ (by first | exact (if_pos (Int32.not_le.mp c_158)).symm | exact (if_neg (Int32.not_lt.mpr c_158)).symm)]; rfl, rfl⟩
              · refine lv_iconst (v := 1) hx hb dX8_anHour_161 (by decide) ?_
                refine lv_goto (tgt := 166) hx hb dX8_anHour_162 (by decide) ?_
                refine lv_iadd hx hb dX8_anHour_166 ?_
                refine x_iast F X (gs' := [mW q b0 b1 b2 b3 b4 b5 b6 b7 b8 (upd (upd (upd (upd w 9 (w 4)) 10 (x_hb s pr n (s 4))) 11 wh) 8 (((upd (upd (upd w 9 (w 4)) 10 (x_hb s pr n (s 4))) 11 wh) 8) + 1)) p sl sv pd fo2 to ou (nI kn) ln mn la op wr]) (n := 133) (f := (upd (upd (upd w 9 (w 4)) 10 (x_hb s pr n (s 4))) 11 wh)) (k := 8) 1 rfl (show vp_in (nI 8) _ from vp_in_nI (by omega) (by omega)) rfl dX8_anHour_167 rfl (fun H locs X => ?_)
                refine lv_aload_n hx hb dX8_anHour_168 rfl (lv_at hl 4 rfl) ?_
                refine x_get F X (v := .ref b1) (C := RX8) (T := TX8) (N := 14) (ci := 8) in_X8 0 rfl rfl 0 (by decide) mw_0 rfl dX8_anHour_169 ?_
                refine lv_bipush (v := 6) hx hb dX8_anHour_172 (by decide) ?_
                refine lv_dup2_11 hx hb dX8_anHour_174 rfl rfl ?_
                refine x_iald F X (v := ((upd (upd (upd (upd w 9 (w 4)) 10 (x_hb s pr n (s 4))) 11 wh) 8 (((upd (upd (upd w 9 (w 4)) 10 (x_hb s pr n (s 4))) 11 wh) 8) + 1)) 6)) (n := 133) (f := (upd (upd (upd (upd w 9 (w 4)) 10 (x_hb s pr n (s 4))) 11 wh) 8 (((upd (upd (upd w 9 (w 4)) 10 (x_hb s pr n (s 4))) 11 wh) 8) + 1))) 1 rfl (show vp_in (nI 6) _ from vp_in_nI (by omega) (by omega)) rfl dX8_anHour_175 ?_
                refine lv_iconst (v := 1) hx hb dX8_anHour_176 (by decide) ?_
                refine lv_iadd hx hb dX8_anHour_177 ?_
                refine x_iast F X (gs' := [mW q b0 b1 b2 b3 b4 b5 b6 b7 b8 (upd (upd (upd (upd (upd w 9 (w 4)) 10 (x_hb s pr n (s 4))) 11 wh) 8 (((upd (upd (upd w 9 (w 4)) 10 (x_hb s pr n (s 4))) 11 wh) 8) + 1)) 6 (((upd (upd (upd (upd w 9 (w 4)) 10 (x_hb s pr n (s 4))) 11 wh) 8 (((upd (upd (upd w 9 (w 4)) 10 (x_hb s pr n (s 4))) 11 wh) 8) + 1)) 6) + 1)) p sl sv pd fo2 to ou (nI kn) ln mn la op wr]) (n := 133) (f := (upd (upd (upd (upd w 9 (w 4)) 10 (x_hb s pr n (s 4))) 11 wh) 8 (((upd (upd (upd w 9 (w 4)) 10 (x_hb s pr n (s 4))) 11 wh) 8) + 1))) (k := 6) 1 rfl (show vp_in (nI 6) _ from vp_in_nI (by omega) (by omega)) rfl dX8_anHour_178 rfl (fun H locs X => ?_)
                refine lv_aload_n hx hb dX8_anHour_179 rfl (lv_at hl 4 rfl) ?_
                refine x_get F X (v := .ref b1) (C := RX8) (T := TX8) (N := 14) (ci := 8) in_X8 0 rfl rfl 0 (by decide) mw_0 rfl dX8_anHour_180 ?_
                refine lv_bipush (v := 7) hx hb dX8_anHour_183 (by decide) ?_
                refine lv_dup2_11 hx hb dX8_anHour_185 rfl rfl ?_
                refine x_iald F X (v := ((upd (upd (upd (upd (upd w 9 (w 4)) 10 (x_hb s pr n (s 4))) 11 wh) 8 (((upd (upd (upd w 9 (w 4)) 10 (x_hb s pr n (s 4))) 11 wh) 8) + 1)) 6 (((upd (upd (upd (upd w 9 (w 4)) 10 (x_hb s pr n (s 4))) 11 wh) 8 (((upd (upd (upd w 9 (w 4)) 10 (x_hb s pr n (s 4))) 11 wh) 8) + 1)) 6) + 1)) 7)) (n := 133) (f := (upd (upd (upd (upd (upd w 9 (w 4)) 10 (x_hb s pr n (s 4))) 11 wh) 8 (((upd (upd (upd w 9 (w 4)) 10 (x_hb s pr n (s 4))) 11 wh) 8) + 1)) 6 (((upd (upd (upd (upd w 9 (w 4)) 10 (x_hb s pr n (s 4))) 11 wh) 8 (((upd (upd (upd w 9 (w 4)) 10 (x_hb s pr n (s 4))) 11 wh) 8) + 1)) 6) + 1))) 1 rfl (show vp_in (nI 7) _ from vp_in_nI (by omega) (by omega)) rfl dX8_anHour_186 ?_
                refine lv_iload_n hx hb dX8_anHour_187 rfl (lv_at hl 3 rfl) ?_
                refine lv_iadd hx hb dX8_anHour_188 ?_
                refine x_iast F X (gs' := [mW q b0 b1 b2 b3 b4 b5 b6 b7 b8 (upd (upd (upd (upd (upd (upd w 9 (w 4)) 10 (x_hb s pr n (s 4))) 11 wh) 8 (((upd (upd (upd w 9 (w 4)) 10 (x_hb s pr n (s 4))) 11 wh) 8) + 1)) 6 (((upd (upd (upd (upd w 9 (w 4)) 10 (x_hb s pr n (s 4))) 11 wh) 8 (((upd (upd (upd w 9 (w 4)) 10 (x_hb s pr n (s 4))) 11 wh) 8) + 1)) 6) + 1)) 7 (((upd (upd (upd (upd (upd w 9 (w 4)) 10 (x_hb s pr n (s 4))) 11 wh) 8 (((upd (upd (upd w 9 (w 4)) 10 (x_hb s pr n (s 4))) 11 wh) 8) + 1)) 6 (((upd (upd (upd (upd w 9 (w 4)) 10 (x_hb s pr n (s 4))) 11 wh) 8 (((upd (upd (upd w 9 (w 4)) 10 (x_hb s pr n (s 4))) 11 wh) 8) + 1)) 6) + 1)) 7) + (x_hb s pr n (s 4)))) p sl sv pd fo2 to ou (nI kn) ln mn la op wr]) (n := 133) (f := (upd (upd (upd (upd (upd w 9 (w 4)) 10 (x_hb s pr n (s 4))) 11 wh) 8 (((upd (upd (upd w 9 (w 4)) 10 (x_hb s pr n (s 4))) 11 wh) 8) + 1)) 6 (((upd (upd (upd (upd w 9 (w 4)) 10 (x_hb s pr n (s 4))) 11 wh) 8 (((upd (upd (upd w 9 (w 4)) 10 (x_hb s pr n (s 4))) 11 wh) 8) + 1)) 6) + 1))) (k := 7) 1 rfl (show vp_in (nI 7) _ from vp_in_nI (by omega) (by omega)) rfl dX8_anHour_189 rfl (fun H locs X => ?_)
                refine lv_iload_n hx hb dX8_anHour_190 rfl (lv_at hl 3 rfl) ?_
                refine hret _ _ _ _ _ _ ?_ X dX8_anHour_191
                obtain rfl : k = 2 := by omega
                subst hw
                have ewh : wh = x_wh s pr n := by
                  unfold x_wh
                  rw [x_wo_cong (h := x_hc s fo2) (fun z hz => by unfold x_hc; rw [hfo2 z hz]), hf]
                subst ewh
                exact ⟨_, by rw [← x_hour_eq _ (by first | exact (if_pos (Int32.not_le.mp c_158)).symm | exact (if_neg (Int32.not_lt.mpr c_158)).symm)]; rfl, rfl⟩
            · have c_81 : 3 ≤ k := Nat.not_lt.mp (fun h => c_81 ((nI_ltI (a := k) (b := 3) (by omega) (by omega)).mpr h))
              refine lv_aload_n hx hb dX8_anHour_84 rfl (lv_at hl 4 rfl) ?_
              refine x_get F X (v := .ref b1) (C := RX8) (T := TX8) (N := 14) (ci := 8) in_X8 0 rfl rfl 0 (by decide) mw_0 rfl dX8_anHour_85 ?_
              refine lv_bipush (v := 9) hx hb dX8_anHour_88 (by decide) ?_
              refine lv_iload hx hb dX8_anHour_90 (lv_at hl 0 rfl) ?_
              refine lv_iadd hx hb dX8_anHour_92 ?_
              refine x_i (y := (nI (9 + k))) (nI_add 9 k) ?_
              refine lv_aload_n hx hb dX8_anHour_93 rfl (lv_at hl 4 rfl) ?_
              refine x_get F X (v := .ref b1) (C := RX8) (T := TX8) (N := 14) (ci := 8) in_X8 0 rfl rfl 0 (by decide) mw_0 rfl dX8_anHour_94 ?_
              refine lv_bipush (v := 9) hx hb dX8_anHour_97 (by decide) ?_
              refine lv_iload hx hb dX8_anHour_99 (lv_at hl 0 rfl) ?_
              refine lv_iadd hx hb dX8_anHour_101 ?_
              refine x_i (y := (nI (9 + k))) (nI_add 9 k) ?_
              refine lv_iconst (v := 3) hx hb dX8_anHour_102 (by decide) ?_
              refine lv_isub hx hb dX8_anHour_103 ?_
              refine x_i (y := (nI ((9 + k) - 3))) (pk_sub (a := (9 + k)) (b := 3) (by omega)) ?_
              refine x_iald F X (v := (w ((9 + k) - 3))) (n := 133) (f := w) 1 rfl (vp_in_nI (by omega) (by omega)) (x_cl (by omega)) dX8_anHour_104 ?_
              refine x_iast F X (gs' := [mW q b0 b1 b2 b3 b4 b5 b6 b7 b8 (upd w (9 + k) (w ((9 + k) - 3))) p sl sv pd fo2 to ou (nI kn) ln mn la op wr]) (n := 133) (f := w) (k := (9 + k)) 1 rfl (vp_in_nI (by omega) (by omega)) (nI_clamp (by omega)) dX8_anHour_105 rfl (fun H locs X => ?_)
              refine lv_iinc (v := (nI (k - 1))) (lv' := [(4, .int (nI (k - 1))), (3, .int wh), (2, .int mo), (1, .int (x_hb s pr n (s 4))), (0, .ref b0)]) hx hb dX8_anHour_106 hl (k := 0) rfl (x_dec k (by omega)) (by decide) rfl (fun ls hl => ?_)
              refine lv_goto (tgt := 78) hx hb dX8_anHour_109 (by decide) ?_
              exact ih_78 (k - 1) _ _ _ _ X (lv_sub hl [0, 1, 2, 3, 4] rfl) (by omega) (by omega) (by omega) (by rw [hw]; exact x_sft_s s (by omega) hk)
        exact L_78 (24) 23 s _ _ _ X (lv_sub hl [0, 1, 2, 3, 4] rfl) (by omega) (by omega) (by omega) (by exact (x_sft_0 s).symm)
      · have c_27 : j < n := Nat.not_le.mp (fun h => c_27 ((nI_leI (a := n) (b := j) (by omega) (by omega)).mpr h))
        refine lv_aload_n hx hb dX8_anHour_30 rfl (lv_at hl 4 rfl) ?_
        refine lv_iload hx hb dX8_anHour_31 (lv_at hl 0 rfl) ?_
        refine x_cVi F X (gc := [mW q b0 b1 b2 b3 b4 b5 b6 b7 b8 s p sl sv pd fo2 to ou (nI kn) ln mn la op wr]) (gr := []) (xp_idx (n := 1) [0] (by decide +kernel) rfl rfl) (c_X8_hatsOf l D q b0 b1 b2 b3 b4 b5 b6 b7 b8 s p sl sv pd fo2 to ou (nI kn) ln mn la op wr j (by first | assumption | omega)) (cwV 1 F.1.2.2.2.2 gX8_anHour_X8_hatsOf rfl rfl rfl (by decide +kernel) ⟨Nat.le_of_ble_eq_true rfl, Nat.le_of_ble_eq_true rfl⟩) rfl rfl (r0 := 0) (ci := 8) (T := TX8) (N := 14) rfl rfl hl.1 ⟨Nat.le_of_ble_eq_true rfl, Nat.le_of_ble_eq_true rfl⟩ (Nat.le_of_ble_eq_true rfl) dX8_anHour_33 (fun r_33 g1 H locs hp X => ?_)
        obtain ⟨rfl, rfl⟩ := hp
        have X : xS D A9 s9 [mW q b0 b1 b2 b3 b4 b5 b6 b7 b8 s p sl sv pd fo2 to ou (nI kn) ln mn la op wr] H locs := X
        refine lv_iload_n hx hb dX8_anHour_36 rfl (lv_at hl 2 rfl) ?_
        refine lv_icmp_le (tgt := 45) hx hb dX8_anHour_37 (by decide) (fun c_37 => ?_) (fun c_37 => ?_)
        · refine lv_iload_n hx hb dX8_anHour_45 rfl (lv_at hl 1 rfl) ?_
          refine lv_istore_n (lv' := [(3, .int wh), (4, .int (nI j)), (2, .int mo), (1, .int (x_hb s pr n (s 4))), (0, .ref b0)]) hx hb dX8_anHour_46 rfl hl (by decide) rfl (fun ls hl => ?_)
          refine lv_aload_n hx hb dX8_anHour_47 rfl (lv_at hl 4 rfl) ?_
          refine lv_iload hx hb dX8_anHour_48 (lv_at hl 1 rfl) ?_
          refine x_cVi F X (gc := [mW q b0 b1 b2 b3 b4 b5 b6 b7 b8 s p sl sv pd fo2 to ou (nI kn) ln mn la op wr]) (gr := []) (xp_idx (n := 1) [0] (by decide +kernel) rfl rfl) (c_X8_hatsOf l D q b0 b1 b2 b3 b4 b5 b6 b7 b8 s p sl sv pd fo2 to ou (nI kn) ln mn la op wr j (by first | assumption | omega)) (cwV 1 F.1.2.2.2.2 gX8_anHour_X8_hatsOf rfl rfl rfl (by decide +kernel) ⟨Nat.le_of_ble_eq_true rfl, Nat.le_of_ble_eq_true rfl⟩) rfl rfl (r0 := 0) (ci := 8) (T := TX8) (N := 14) rfl rfl hl.1 ⟨Nat.le_of_ble_eq_true rfl, Nat.le_of_ble_eq_true rfl⟩ (Nat.le_of_ble_eq_true rfl) dX8_anHour_50 (fun r_50 g1 H locs hp X => ?_)
          obtain ⟨rfl, rfl⟩ := hp
          have X : xS D A9 s9 [mW q b0 b1 b2 b3 b4 b5 b6 b7 b8 s p sl sv pd fo2 to ou (nI kn) ln mn la op wr] H locs := X
          refine lv_iload_n hx hb dX8_anHour_53 rfl (lv_at hl 2 rfl) ?_
          refine lv_icmp_le (tgt := 66) hx hb dX8_anHour_54 (by decide) (fun c_54 => ?_) (fun c_54 => ?_)
          rotate_left
          · exfalso
            exact c_54 c_37
          refine lv_iload_n hx hb dX8_anHour_66 rfl (lv_at hl 2 rfl) ?_
          refine lv_istore_n (lv' := [(2, .int mo), (3, .int wh), (4, .int (nI j)), (1, .int (x_hb s pr n (s 4))), (0, .ref b0)]) hx hb dX8_anHour_67 rfl hl (by decide) rfl (fun ls hl => ?_)
          refine lv_iinc (v := (nI (j + 1))) (lv' := [(4, .int (nI (j + 1))), (2, .int mo), (3, .int wh), (1, .int (x_hb s pr n (s 4))), (0, .ref b0)]) hx hb dX8_anHour_68 hl (k := 2) rfl (nI_add j 1) (by decide) rfl (fun ls hl => ?_)
          refine lv_goto (tgt := 19) hx hb dX8_anHour_71 (by decide) ?_
          exact ih_19 (j + 1) _ _ _ _ _ X (lv_sub hl [0, 2, 1, 3, 4] rfl) (by omega) (by omega) (by rw [x_wo, hf]; exact if_neg (Int32.not_lt.mpr c_37))
        · refine lv_iload hx hb dX8_anHour_40 (lv_at hl 0 rfl) ?_
          refine lv_goto (tgt := 46) hx hb dX8_anHour_42 (by decide) ?_
          refine lv_istore_n (lv' := [(3, .int (nI j)), (4, .int (nI j)), (2, .int mo), (1, .int (x_hb s pr n (s 4))), (0, .ref b0)]) hx hb dX8_anHour_46 rfl hl (by decide) rfl (fun ls hl => ?_)
          refine lv_aload_n hx hb dX8_anHour_47 rfl (lv_at hl 4 rfl) ?_
          refine lv_iload hx hb dX8_anHour_48 (lv_at hl 1 rfl) ?_
          refine x_cVi F X (gc := [mW q b0 b1 b2 b3 b4 b5 b6 b7 b8 s p sl sv pd fo2 to ou (nI kn) ln mn la op wr]) (gr := []) (xp_idx (n := 1) [0] (by decide +kernel) rfl rfl) (c_X8_hatsOf l D q b0 b1 b2 b3 b4 b5 b6 b7 b8 s p sl sv pd fo2 to ou (nI kn) ln mn la op wr j (by first | assumption | omega)) (cwV 1 F.1.2.2.2.2 gX8_anHour_X8_hatsOf rfl rfl rfl (by decide +kernel) ⟨Nat.le_of_ble_eq_true rfl, Nat.le_of_ble_eq_true rfl⟩) rfl rfl (r0 := 0) (ci := 8) (T := TX8) (N := 14) rfl rfl hl.1 ⟨Nat.le_of_ble_eq_true rfl, Nat.le_of_ble_eq_true rfl⟩ (Nat.le_of_ble_eq_true rfl) dX8_anHour_50 (fun r_50 g1 H locs hp X => ?_)
          obtain ⟨rfl, rfl⟩ := hp
          have X : xS D A9 s9 [mW q b0 b1 b2 b3 b4 b5 b6 b7 b8 s p sl sv pd fo2 to ou (nI kn) ln mn la op wr] H locs := X
          refine lv_iload_n hx hb dX8_anHour_53 rfl (lv_at hl 2 rfl) ?_
          refine lv_icmp_le (tgt := 66) hx hb dX8_anHour_54 (by decide) (fun c_54 => ?_) (fun c_54 => ?_)
          · exfalso
            exact c_37 c_54
          refine lv_aload_n hx hb dX8_anHour_57 rfl (lv_at hl 4 rfl) ?_
          refine lv_iload hx hb dX8_anHour_58 (lv_at hl 1 rfl) ?_
          refine x_cVi F X (gc := [mW q b0 b1 b2 b3 b4 b5 b6 b7 b8 s p sl sv pd fo2 to ou (nI kn) ln mn la op wr]) (gr := []) (xp_idx (n := 1) [0] (by decide +kernel) rfl rfl) (c_X8_hatsOf l D q b0 b1 b2 b3 b4 b5 b6 b7 b8 s p sl sv pd fo2 to ou (nI kn) ln mn la op wr j (by first | assumption | omega)) (cwV 1 F.1.2.2.2.2 gX8_anHour_X8_hatsOf rfl rfl rfl (by decide +kernel) ⟨Nat.le_of_ble_eq_true rfl, Nat.le_of_ble_eq_true rfl⟩) rfl rfl (r0 := 0) (ci := 8) (T := TX8) (N := 14) rfl rfl hl.1 ⟨Nat.le_of_ble_eq_true rfl, Nat.le_of_ble_eq_true rfl⟩ (Nat.le_of_ble_eq_true rfl) dX8_anHour_60 (fun r_60 g1 H locs hp X => ?_)
          obtain ⟨rfl, rfl⟩ := hp
          have X : xS D A9 s9 [mW q b0 b1 b2 b3 b4 b5 b6 b7 b8 s p sl sv pd fo2 to ou (nI kn) ln mn la op wr] H locs := X
          refine lv_goto (tgt := 67) hx hb dX8_anHour_63 (by decide) ?_
          refine lv_istore_n (lv' := [(2, .int (x_hc s fo2 j)), (3, .int (nI j)), (4, .int (nI j)), (1, .int (x_hb s pr n (s 4))), (0, .ref b0)]) hx hb dX8_anHour_67 rfl hl (by decide) rfl (fun ls hl => ?_)
          refine lv_iinc (v := (nI (j + 1))) (lv' := [(4, .int (nI (j + 1))), (2, .int (x_hc s fo2 j)), (3, .int (nI j)), (1, .int (x_hb s pr n (s 4))), (0, .ref b0)]) hx hb dX8_anHour_68 hl (k := 2) rfl (nI_add j 1) (by decide) rfl (fun ls hl => ?_)
          refine lv_goto (tgt := 19) hx hb dX8_anHour_71 (by decide) ?_
          exact ih_19 (j + 1) _ _ _ _ _ X (lv_sub hl [0, 2, 1, 3, 4] rfl) (by omega) (by omega) (by rw [x_wo, hf]; exact if_pos (Int32.not_le.mp c_37))
  exact L_19 (n + 1) 0 _ _ _ _ _ X (lv_sub hl [0, 1, 2, 3, 4] rfl) (by omega) (by omega) (by rfl)

