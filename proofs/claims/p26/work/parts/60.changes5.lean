set_option maxHeartbeats 1000000 in
set_option maxRecDepth 100000 in
theorem c_X7_setY (l : Launch) (D : va_G) (q : xQ) (x0 : Nat) (xa : Nat) (xs : Nat) (xf : Nat) (xp : Nat) (xd : Nat) (xr : Nat) (z0 : Nat) (z1 : Nat) (o : Nat) (n : Nat) (z : Nat) (ad : Nat → Option Nat) (t0 : Nat) (t1 : Nat) (u0 : Nat) (u1 : Nat) (u2 : Nat) (u3 : Nat) (h0 : Nat) (h1 : Nat) (h2 : Nat) (h3 : Nat) (h4 : Nat) (h5 : Nat) (r0 : Nat → Int32) (f1 : Nat → Int32) (f2 : Nat → Int32) (f3 : Nat → Int32) (f4 : Nat → Int32) (f5 : Nat → Int32) (g1 : Nat → Int32) (g2 : Nat → Int32) (g3 : Nat → Int32) (fc : Int32) (nb : Int32) (ps : Int32) (lo : Int32) (v0 : Nat) (v1 : Nat) (y0 : Nat) (y1 : Nat) (y2 : Nat) (y3 : Nat) (i0 : Nat) (i1 : Nat) (i2 : Nat) (i3 : Nat) (i4 : Nat) (i5 : Nat) (s0 : Nat → Int32) (e1 : Nat → Int32) (e2 : Nat → Int32) (e3 : Nat → Int32) (e4 : Nat → Int32) (e5 : Nat → Int32) (k1 : Nat → Int32) (k2 : Nat → Int32) (k3 : Nat → Int32) (gc : Int32) (mb : Int32) (qs : Int32) (mo : Int32) (i : Nat) (v : Int32) (ho : o < 6) (hn6 : n ≤ 6) (hz : z = (o + n) % 6) (had : ad z = some t0) (hi : i < 4) (hv : xZv 1 i ≤ v ∧ v ≤ xZv 2 i) : xMi l yX7_set wsX7_set { frames := 5, cells := 0, slots := 0, locals := 124 } D q [.ref x0, .int (nI i), .int v] [xoW q x0 v0 xa z0 xs xf xp xd xr, hiW q z0 z1 ad (nI o) (nI n), twW q t0 t1 h0 u0 r0 fc, sW q h0 h1 h2 h3 h4 h5 f1 f2 f3 f4 f5 nb, hW q u0 u1 u2 u3 g1 g2 g3 ps lo, twW q v0 v1 i0 y0 s0 gc, sW q i0 i1 i2 i3 i4 i5 e1 e2 e3 e4 e5 mb, hW q y0 y1 y2 y3 k1 k2 k3 qs mo] (fun r gw => ∃ (ol2 : Nat), ∃ (ln2 : Nat), gw = [xoW q x0 v0 xa z0 xs xf xp xd xr, hiW q z0 z1 ad (nI ol2) (nI ln2), twW q t0 t1 h0 u0 (va_cpy s0 r0 0 0 4) gc, sW q h0 h1 h2 h3 h4 h5 (va_cpy e1 f1 0 0 20) (va_cpy e2 f2 0 0 20) (va_cpy e3 f3 0 0 20) (va_cpy e4 f4 0 0 20) (va_cpy e5 f5 0 0 20) mb, hW q u0 u1 u2 u3 (va_cpy k1 g1 0 0 8) (va_cpy k2 g2 0 0 8) (va_cpy k3 g3 0 0 8) qs mo, twW q v0 v1 i0 y0 (upd s0 i v) gc, sW q i0 i1 i2 i3 i4 i5 e1 e2 e3 e4 e5 mb, hW q y0 y1 y2 y3 k1 k2 k3 qs mo] ∧ r = s0 i ∧ (ln2 = min (n + 1) 6 ∧ ol2 = if n = 6 then (o + 1) % 6 else o)) := by
  refine xMi_of (cc := cX7_set) (maxL := 4) (rt := .int) (by decide) rfl (Nat.le_of_ble_eq_true rfl) (fun _ _ _ => rfl) ?_
  intro p9 e9 s9 m9 a9 below meth c9 A9 Z9 ls H locs F X hl hret
  have hx := F.1.1
  have hb := F.1.2.1
  have in_X7 : ∀ w ∈ wsX70, w ∈ wsX7_set := by decide +kernel
  have in_X6 : ∀ w ∈ wsX60, w ∈ wsX7_set := by decide +kernel
  have mw_0 : Cond.fieldLink RX7 55 "HatWinds" "FIRST_SETTINGS" "[I" ∈ wsX7_set := by decide +kernel
  have mw_1 : Cond.initialized RX7 ∈ wsX7_set := by decide +kernel
  have mw_2 : Cond.fieldLink RX7 63 "HatWinds" "LEAST_SETTINGS" "[I" ∈ wsX7_set := by decide +kernel
  have mw_3 : Cond.fieldLink RX7 66 "HatWinds" "MOST_SETTINGS" "[I" ∈ wsX7_set := by decide +kernel
  have mw_4 : Cond.fieldLink RX7 26 "HatWinds" "history" "LHatWinds$History;" ∈ wsX7_set := by decide +kernel
  have mw_5 : Cond.fieldLink RX7 10 "HatWinds" "town" "LHatWinds$Town;" ∈ wsX7_set := by decide +kernel
  have mw_6 : Cond.initialized RX1 ∈ wsX7_set := by decide +kernel
  have mw_7 : Cond.fieldLink RX7 77 "HatWinds$Town" "settings" "[I" ∈ wsX7_set := by decide +kernel
  have hl : lv_has ls 4 [(0, .ref x0), (1, .int (nI i)), (2, .int v)] := hl
  refine lv_iload_n hx hb dX7_set_0 rfl (lv_at hl 1 rfl) ?_
  refine x_gets F X 0 (by decide) mw_0 dX7_set_1 (fun u_1 hu_1 => ?_)
  refine x_tlen F X hu_1 dX7_set_4 ?_
  refine x_cSi F X (gc := []) (gr := [xoW q x0 v0 xa z0 xs xf xp xd xr, hiW q z0 z1 ad (nI o) (nI n), twW q t0 t1 h0 u0 r0 fc, sW q h0 h1 h2 h3 h4 h5 f1 f2 f3 f4 f5 nb, hW q u0 u1 u2 u3 g1 g2 g3 ps lo, twW q v0 v1 i0 y0 s0 gc, sW q i0 i1 i2 i3 i4 i5 e1 e2 e3 e4 e5 mb, hW q y0 y1 y2 y3 k1 k2 k3 qs mo]) (xp_idx (n := 8) [0, 1, 2, 3, 4, 5, 6, 7] (by decide +kernel) rfl rfl) (c_X7_isIndexOf l D q (nI i) 4 ) (va_cwS 2 F.1.2.2.2.2 gX7_set_X7_isIndexOf rfl rfl rfl (by decide +kernel) ⟨Nat.le_of_ble_eq_true rfl, Nat.le_of_ble_eq_true rfl⟩) rfl rfl hl.1 ⟨Nat.le_of_ble_eq_true rfl, Nat.le_of_ble_eq_true rfl⟩ (Nat.le_of_ble_eq_true rfl) dX7_set_5 (fun r_5 g1 H locs hp X => ?_)
  obtain ⟨rfl, hz⟩ := hp
  have X : xS D A9 s9 [xoW q x0 v0 xa z0 xs xf xp xd xr, hiW q z0 z1 ad (nI o) (nI n), twW q t0 t1 h0 u0 r0 fc, sW q h0 h1 h2 h3 h4 h5 f1 f2 f3 f4 f5 nb, hW q u0 u1 u2 u3 g1 g2 g3 ps lo, twW q v0 v1 i0 y0 s0 gc, sW q i0 i1 i2 i3 i4 i5 e1 e2 e3 e4 e5 mb, hW q y0 y1 y2 y3 k1 k2 k3 qs mo] H locs := X
  rcases hz with ⟨rfl, b_5⟩ | ⟨rfl, b_5⟩
  · refine lv_if_ne (tgt := 14) hx hb dX7_set_8 (by decide) (fun _ => ?_) (fun h => absurd h (by decide))
    refine lv_iload_n hx hb dX7_set_14 rfl (lv_at hl 2 rfl) ?_
    refine x_gets F X 1 (by decide) mw_2 dX7_set_15 (fun u_15 hu_15 => ?_)
    refine lv_iload_n hx hb dX7_set_18 rfl (lv_at hl 1 rfl) ?_
    refine x_tld F X hu_15 (v := (xZv 1 i)) (vp_in_nI (by omega) (by omega)) (congrArg (xZv 1) (nI_clamp (by omega))) dX7_set_19 ?_
    refine x_gets F X 2 (by decide) mw_3 dX7_set_20 (fun u_20 hu_20 => ?_)
    refine lv_iload_n hx hb dX7_set_23 rfl (lv_at hl 1 rfl) ?_
    refine x_tld F X hu_20 (v := (xZv 2 i)) (vp_in_nI (by omega) (by omega)) (congrArg (xZv 2) (nI_clamp (by omega))) dX7_set_24 ?_
    refine x_cSi F X (gc := []) (gr := [xoW q x0 v0 xa z0 xs xf xp xd xr, hiW q z0 z1 ad (nI o) (nI n), twW q t0 t1 h0 u0 r0 fc, sW q h0 h1 h2 h3 h4 h5 f1 f2 f3 f4 f5 nb, hW q u0 u1 u2 u3 g1 g2 g3 ps lo, twW q v0 v1 i0 y0 s0 gc, sW q i0 i1 i2 i3 i4 i5 e1 e2 e3 e4 e5 mb, hW q y0 y1 y2 y3 k1 k2 k3 qs mo]) (xp_idx (n := 8) [0, 1, 2, 3, 4, 5, 6, 7] (by decide +kernel) rfl rfl) (c_X7_isWithin l D q v (xZv 1 i) (xZv 2 i) ) (va_cwS 3 F.1.2.2.2.2 gX7_set_X7_isWithin rfl rfl rfl (by decide +kernel) ⟨Nat.le_of_ble_eq_true rfl, Nat.le_of_ble_eq_true rfl⟩) rfl rfl hl.1 ⟨Nat.le_of_ble_eq_true rfl, Nat.le_of_ble_eq_true rfl⟩ (Nat.le_of_ble_eq_true rfl) dX7_set_25 (fun r_25 g1 H locs hp X => ?_)
    obtain ⟨rfl, hz⟩ := hp
    have X : xS D A9 s9 [xoW q x0 v0 xa z0 xs xf xp xd xr, hiW q z0 z1 ad (nI o) (nI n), twW q t0 t1 h0 u0 r0 fc, sW q h0 h1 h2 h3 h4 h5 f1 f2 f3 f4 f5 nb, hW q u0 u1 u2 u3 g1 g2 g3 ps lo, twW q v0 v1 i0 y0 s0 gc, sW q i0 i1 i2 i3 i4 i5 e1 e2 e3 e4 e5 mb, hW q y0 y1 y2 y3 k1 k2 k3 qs mo] H locs := X
    rcases hz with ⟨rfl, b_25⟩ | ⟨rfl, b_25⟩
    · refine lv_if_ne (tgt := 34) hx hb dX7_set_28 (by decide) (fun _ => ?_) (fun h => absurd h (by decide))
      refine lv_aload_n hx hb dX7_set_34 rfl (lv_at hl 0 rfl) ?_
      refine x_get F X (v := .ref z0) (C := RX7) (T := TX7) (N := 8) (ci := 7) in_X7 0 rfl rfl 2 (by decide) mw_4 rfl dX7_set_35 ?_
      refine lv_aload_n hx hb dX7_set_38 rfl (lv_at hl 0 rfl) ?_
      refine x_get F X (v := .ref v0) (C := RX7) (T := TX7) (N := 8) (ci := 7) in_X7 0 rfl rfl 0 (by decide) mw_5 rfl dX7_set_39 ?_
      refine x_cVv F X (gc := [hiW q z0 z1 ad (nI o) (nI n), twW q t0 t1 h0 u0 r0 fc, sW q h0 h1 h2 h3 h4 h5 f1 f2 f3 f4 f5 nb, hW q u0 u1 u2 u3 g1 g2 g3 ps lo, twW q v0 v1 i0 y0 s0 gc, sW q i0 i1 i2 i3 i4 i5 e1 e2 e3 e4 e5 mb, hW q y0 y1 y2 y3 k1 k2 k3 qs mo]) (gr := [xoW q x0 v0 xa z0 xs xf xp xd xr]) (xp_idx (n := 8) [1, 2, 3, 4, 5, 6, 7, 0] (by decide +kernel) rfl rfl) (c_X1_keep l D q z0 z1 o n z ad t0 t1 u0 u1 u2 u3 h0 h1 h2 h3 h4 h5 r0 f1 f2 f3 f4 f5 g1 g2 g3 fc nb ps lo v0 v1 y0 y1 y2 y3 i0 i1 i2 i3 i4 i5 s0 e1 e2 e3 e4 e5 k1 k2 k3 gc mb qs mo (by first | assumption | omega) (by first | assumption | omega) (by first | assumption | omega) (by first | assumption | omega)) (cwV 1 F.1.2.2.2.2 gX7_set_X1_keep rfl rfl rfl (by decide +kernel) ⟨Nat.le_of_ble_eq_true rfl, Nat.le_of_ble_eq_true rfl⟩) rfl rfl (r0 := 0) (ci := 1) (T := TX1) (N := 3) rfl rfl hl.1 ⟨Nat.le_of_ble_eq_true rfl, Nat.le_of_ble_eq_true rfl⟩ (Nat.le_of_ble_eq_true rfl) dX7_set_42 (fun g1 H locs hp X => ?_)
      obtain ⟨ol9, ln9, rfl, hke9⟩ := hp
      have X := X.perm (gs' := [xoW q x0 v0 xa z0 xs xf xp xd xr, hiW q z0 z1 ad (nI ol9) (nI ln9), twW q t0 t1 h0 u0 (va_cpy s0 r0 0 0 4) gc, sW q h0 h1 h2 h3 h4 h5 (va_cpy e1 f1 0 0 20) (va_cpy e2 f2 0 0 20) (va_cpy e3 f3 0 0 20) (va_cpy e4 f4 0 0 20) (va_cpy e5 f5 0 0 20) mb, hW q u0 u1 u2 u3 (va_cpy k1 g1 0 0 8) (va_cpy k2 g2 0 0 8) (va_cpy k3 g3 0 0 8) qs mo, twW q v0 v1 i0 y0 s0 gc, sW q i0 i1 i2 i3 i4 i5 e1 e2 e3 e4 e5 mb, hW q y0 y1 y2 y3 k1 k2 k3 qs mo]) (xp_idx (n := 8) [7, 0, 1, 2, 3, 4, 5, 6] (by decide +kernel) rfl rfl)
      refine lv_aload_n hx hb dX7_set_45 rfl (lv_at hl 0 rfl) ?_
      refine x_get F X (v := .ref v0) (C := RX7) (T := TX7) (N := 8) (ci := 7) in_X7 0 rfl rfl 0 (by decide) mw_5 rfl dX7_set_46 ?_
      refine x_get F X (v := .ref v1) (C := RX6) (T := TX6) (N := 4) (ci := 6) in_X6 15 rfl rfl 0 (by decide) mw_7 rfl dX7_set_49 ?_
      refine lv_iload_n hx hb dX7_set_52 rfl (lv_at hl 1 rfl) ?_
      refine x_iald F X (v := (s0 i)) (n := 4) (f := s0) 16 rfl (vp_in_nI (by omega) (by omega)) (x_cl (by omega)) dX7_set_53 ?_
      refine lv_istore_n (lv' := [(3, .int (s0 i)), (0, .ref x0), (1, .int (nI i)), (2, .int v)]) hx hb dX7_set_54 rfl hl (by decide) rfl (fun ls hl => ?_)
      refine lv_aload_n hx hb dX7_set_55 rfl (lv_at hl 1 rfl) ?_
      refine x_get F X (v := .ref v0) (C := RX7) (T := TX7) (N := 8) (ci := 7) in_X7 0 rfl rfl 0 (by decide) mw_5 rfl dX7_set_56 ?_
      refine x_get F X (v := .ref v1) (C := RX6) (T := TX6) (N := 4) (ci := 6) in_X6 15 rfl rfl 0 (by decide) mw_7 rfl dX7_set_59 ?_
      refine lv_iload_n hx hb dX7_set_62 rfl (lv_at hl 2 rfl) ?_
      refine lv_iload_n hx hb dX7_set_63 rfl (lv_at hl 3 rfl) ?_
      refine x_iast F X (gs' := [xoW q x0 v0 xa z0 xs xf xp xd xr, hiW q z0 z1 ad (nI ol9) (nI ln9), twW q t0 t1 h0 u0 (va_cpy s0 r0 0 0 4) gc, sW q h0 h1 h2 h3 h4 h5 (va_cpy e1 f1 0 0 20) (va_cpy e2 f2 0 0 20) (va_cpy e3 f3 0 0 20) (va_cpy e4 f4 0 0 20) (va_cpy e5 f5 0 0 20) mb, hW q u0 u1 u2 u3 (va_cpy k1 g1 0 0 8) (va_cpy k2 g2 0 0 8) (va_cpy k3 g3 0 0 8) qs mo, twW q v0 v1 i0 y0 (upd s0 i v) gc, sW q i0 i1 i2 i3 i4 i5 e1 e2 e3 e4 e5 mb, hW q y0 y1 y2 y3 k1 k2 k3 qs mo]) (n := 4) (f := s0) (k := i) 16 rfl (vp_in_nI (by omega) (by omega)) (nI_clamp (by omega)) dX7_set_64 rfl (fun H locs X => ?_)
      refine lv_iload_n hx hb dX7_set_65 rfl (lv_at hl 0 rfl) ?_
      exact hret _ _ _ _ _ _ (by exact ⟨_, _, rfl, rfl, hke9⟩) X dX7_set_66
    · refine lv_if_ne (tgt := 34) hx hb dX7_set_28 (by decide) (fun h => absurd (by decide) h) (fun _ => ?_)
      exact absurd hv b_25
  · refine lv_if_ne (tgt := 14) hx hb dX7_set_8 (by decide) (fun h => absurd (by decide) h) (fun _ => ?_)
    exact absurd ⟨nI_pos (by omega), nI_lt (b := 4) hi (by omega)⟩ b_5

set_option maxHeartbeats 1000000 in
set_option maxRecDepth 100000 in
theorem c_X7_setN1 (l : Launch) (D : va_G) (q : xQ) (x0 : Nat) (xt : Nat) (xa : Nat) (xh : Nat) (xs : Nat) (xf : Nat) (xp : Nat) (xd : Nat) (xr : Nat) (a : Int32) (v : Int32) (ha : ¬ (¬ a < 0 ∧ a < 4)) : xMi l yX7_set wsX7_set { frames := 5, cells := 0, slots := 0, locals := 124 } D q [.ref x0, .int a, .int v] [xoW q x0 xt xa xh xs xf xp xd xr] (fun r gw => gw = [xoW q x0 xt xa xh xs xf xp xd xr] ∧ r = -2) := by
  refine xMi_of (cc := cX7_set) (maxL := 4) (rt := .int) (by decide) rfl (Nat.le_of_ble_eq_true rfl) (fun _ _ _ => rfl) ?_
  intro p9 e9 s9 m9 a9 below meth c9 A9 Z9 ls H locs F X hl hret
  have hx := F.1.1
  have hb := F.1.2.1
  have mw_0 : Cond.fieldLink RX7 55 "HatWinds" "FIRST_SETTINGS" "[I" ∈ wsX7_set := by decide +kernel
  have mw_1 : Cond.initialized RX7 ∈ wsX7_set := by decide +kernel
  have hl : lv_has ls 4 [(0, .ref x0), (1, .int a), (2, .int v)] := hl
  refine lv_iload_n hx hb dX7_set_0 rfl (lv_at hl 1 rfl) ?_
  refine x_gets F X 0 (by decide) mw_0 dX7_set_1 (fun u_1 hu_1 => ?_)
  refine x_tlen F X hu_1 dX7_set_4 ?_
  refine x_cSi F X (gc := []) (gr := [xoW q x0 xt xa xh xs xf xp xd xr]) (xp_idx (n := 1) [0] (by decide +kernel) rfl rfl) (c_X7_isIndexOf l D q a 4 ) (va_cwS 2 F.1.2.2.2.2 gX7_set_X7_isIndexOf rfl rfl rfl (by decide +kernel) ⟨Nat.le_of_ble_eq_true rfl, Nat.le_of_ble_eq_true rfl⟩) rfl rfl hl.1 ⟨Nat.le_of_ble_eq_true rfl, Nat.le_of_ble_eq_true rfl⟩ (Nat.le_of_ble_eq_true rfl) dX7_set_5 (fun r_5 g1 H locs hp X => ?_)
  obtain ⟨rfl, hz⟩ := hp
  have X : xS D A9 s9 [xoW q x0 xt xa xh xs xf xp xd xr] H locs := X
  rcases hz with ⟨rfl, b_5⟩ | ⟨rfl, b_5⟩
  · refine lv_if_ne (tgt := 14) hx hb dX7_set_8 (by decide) (fun _ => ?_) (fun h => absurd h (by decide))
    exact absurd b_5 ha
  · refine lv_if_ne (tgt := 14) hx hb dX7_set_8 (by decide) (fun h => absurd (by decide) h) (fun _ => ?_)
    refine lv_bipush (v := (-2)) hx hb dX7_set_11 (by decide) ?_
    exact hret _ _ _ _ _ _ (by exact ⟨rfl, rfl⟩) X dX7_set_13

set_option maxHeartbeats 1000000 in
set_option maxRecDepth 100000 in
theorem c_X7_setN2 (l : Launch) (D : va_G) (q : xQ) (x0 : Nat) (xt : Nat) (xa : Nat) (xh : Nat) (xs : Nat) (xf : Nat) (xp : Nat) (xd : Nat) (xr : Nat) (i : Nat) (v : Int32) (hi : i < 4) (hv : ¬ (xZv 1 i ≤ v ∧ v ≤ xZv 2 i)) : xMi l yX7_set wsX7_set { frames := 5, cells := 0, slots := 0, locals := 124 } D q [.ref x0, .int (nI i), .int v] [xoW q x0 xt xa xh xs xf xp xd xr] (fun r gw => gw = [xoW q x0 xt xa xh xs xf xp xd xr] ∧ r = -2) := by
  refine xMi_of (cc := cX7_set) (maxL := 4) (rt := .int) (by decide) rfl (Nat.le_of_ble_eq_true rfl) (fun _ _ _ => rfl) ?_
  intro p9 e9 s9 m9 a9 below meth c9 A9 Z9 ls H locs F X hl hret
  have hx := F.1.1
  have hb := F.1.2.1
  have mw_0 : Cond.fieldLink RX7 55 "HatWinds" "FIRST_SETTINGS" "[I" ∈ wsX7_set := by decide +kernel
  have mw_1 : Cond.initialized RX7 ∈ wsX7_set := by decide +kernel
  have mw_2 : Cond.fieldLink RX7 63 "HatWinds" "LEAST_SETTINGS" "[I" ∈ wsX7_set := by decide +kernel
  have mw_3 : Cond.fieldLink RX7 66 "HatWinds" "MOST_SETTINGS" "[I" ∈ wsX7_set := by decide +kernel
  have hl : lv_has ls 4 [(0, .ref x0), (1, .int (nI i)), (2, .int v)] := hl
  refine lv_iload_n hx hb dX7_set_0 rfl (lv_at hl 1 rfl) ?_
  refine x_gets F X 0 (by decide) mw_0 dX7_set_1 (fun u_1 hu_1 => ?_)
  refine x_tlen F X hu_1 dX7_set_4 ?_
  refine x_cSi F X (gc := []) (gr := [xoW q x0 xt xa xh xs xf xp xd xr]) (xp_idx (n := 1) [0] (by decide +kernel) rfl rfl) (c_X7_isIndexOf l D q (nI i) 4 ) (va_cwS 2 F.1.2.2.2.2 gX7_set_X7_isIndexOf rfl rfl rfl (by decide +kernel) ⟨Nat.le_of_ble_eq_true rfl, Nat.le_of_ble_eq_true rfl⟩) rfl rfl hl.1 ⟨Nat.le_of_ble_eq_true rfl, Nat.le_of_ble_eq_true rfl⟩ (Nat.le_of_ble_eq_true rfl) dX7_set_5 (fun r_5 g1 H locs hp X => ?_)
  obtain ⟨rfl, hz⟩ := hp
  have X : xS D A9 s9 [xoW q x0 xt xa xh xs xf xp xd xr] H locs := X
  rcases hz with ⟨rfl, b_5⟩ | ⟨rfl, b_5⟩
  · refine lv_if_ne (tgt := 14) hx hb dX7_set_8 (by decide) (fun _ => ?_) (fun h => absurd h (by decide))
    refine lv_iload_n hx hb dX7_set_14 rfl (lv_at hl 2 rfl) ?_
    refine x_gets F X 1 (by decide) mw_2 dX7_set_15 (fun u_15 hu_15 => ?_)
    refine lv_iload_n hx hb dX7_set_18 rfl (lv_at hl 1 rfl) ?_
    refine x_tld F X hu_15 (v := (xZv 1 i)) (vp_in_nI (by omega) (by omega)) (congrArg (xZv 1) (nI_clamp (by omega))) dX7_set_19 ?_
    refine x_gets F X 2 (by decide) mw_3 dX7_set_20 (fun u_20 hu_20 => ?_)
    refine lv_iload_n hx hb dX7_set_23 rfl (lv_at hl 1 rfl) ?_
    refine x_tld F X hu_20 (v := (xZv 2 i)) (vp_in_nI (by omega) (by omega)) (congrArg (xZv 2) (nI_clamp (by omega))) dX7_set_24 ?_
    refine x_cSi F X (gc := []) (gr := [xoW q x0 xt xa xh xs xf xp xd xr]) (xp_idx (n := 1) [0] (by decide +kernel) rfl rfl) (c_X7_isWithin l D q v (xZv 1 i) (xZv 2 i) ) (va_cwS 3 F.1.2.2.2.2 gX7_set_X7_isWithin rfl rfl rfl (by decide +kernel) ⟨Nat.le_of_ble_eq_true rfl, Nat.le_of_ble_eq_true rfl⟩) rfl rfl hl.1 ⟨Nat.le_of_ble_eq_true rfl, Nat.le_of_ble_eq_true rfl⟩ (Nat.le_of_ble_eq_true rfl) dX7_set_25 (fun r_25 g1 H locs hp X => ?_)
    obtain ⟨rfl, hz⟩ := hp
    have X : xS D A9 s9 [xoW q x0 xt xa xh xs xf xp xd xr] H locs := X
    rcases hz with ⟨rfl, b_25⟩ | ⟨rfl, b_25⟩
    · refine lv_if_ne (tgt := 34) hx hb dX7_set_28 (by decide) (fun _ => ?_) (fun h => absurd h (by decide))
      exact absurd b_25 hv
    · refine lv_if_ne (tgt := 34) hx hb dX7_set_28 (by decide) (fun h => absurd (by decide) h) (fun _ => ?_)
      refine lv_bipush (v := (-2)) hx hb dX7_set_31 (by decide) ?_
      exact hret _ _ _ _ _ _ (by exact ⟨rfl, rfl⟩) X dX7_set_33
  · refine lv_if_ne (tgt := 14) hx hb dX7_set_8 (by decide) (fun h => absurd (by decide) h) (fun _ => ?_)
    exact absurd ⟨nI_pos (by omega), nI_lt (b := 4) hi (by omega)⟩ b_5
