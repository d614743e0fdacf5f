set_option maxHeartbeats 1000000 in
set_option maxRecDepth 100000 in
theorem c_X7_windY (l : Launch) (D : va_G) (q : xQ) (x0 : Nat) (xa : Nat) (xs : Nat) (xf : Nat) (xp : Nat) (xd : Nat) (xr : Nat) (z0 : Nat) (z1 : Nat) (o : Nat) (n : Nat) (z : Nat) (ad : Nat → Option Nat) (t0 : Nat) (t1 : Nat) (u0 : Nat) (u1 : Nat) (u2 : Nat) (u3 : Nat) (h0 : Nat) (h1 : Nat) (h2 : Nat) (h3 : Nat) (h4 : Nat) (h5 : Nat) (r0 : Nat → Int32) (f1 : Nat → Int32) (f2 : Nat → Int32) (f3 : Nat → Int32) (f4 : Nat → Int32) (f5 : Nat → Int32) (g1 : Nat → Int32) (g2 : Nat → Int32) (g3 : Nat → Int32) (fc : Int32) (nb : Int32) (ps : Int32) (lo : Int32) (v0 : Nat) (v1 : Nat) (y0 : Nat) (y1 : Nat) (y2 : Nat) (y3 : Nat) (i0 : Nat) (i1 : Nat) (i2 : Nat) (i3 : Nat) (i4 : Nat) (i5 : Nat) (s0 : Nat → Int32) (e1 : Nat → Int32) (e2 : Nat → Int32) (e3 : Nat → Int32) (e4 : Nat → Int32) (e5 : Nat → Int32) (k1 : Nat → Int32) (k2 : Nat → Int32) (k3 : Nat → Int32) (gc : Int32) (mb : Int32) (qs : Int32) (mo : Int32) (f : Int32) (ho : o < 6) (hn6 : n ≤ 6) (hz : z = (o + n) % 6) (had : ad z = some t0) (hf : 0 ≤ f ∧ f ≤ 200) : xMi l yX7_wind wsX7_wind { frames := 5, cells := 0, slots := 0, locals := 124 } D q [.ref x0, .int f] [xoW q x0 v0 xa z0 xs xf xp xd xr, hiW q z0 z1 ad (nI o) (nI n), twW q t0 t1 h0 u0 r0 fc, sW q h0 h1 h2 h3 h4 h5 f1 f2 f3 f4 f5 nb, hW q u0 u1 u2 u3 g1 g2 g3 ps lo, twW q v0 v1 i0 y0 s0 gc, sW q i0 i1 i2 i3 i4 i5 e1 e2 e3 e4 e5 mb, hW q y0 y1 y2 y3 k1 k2 k3 qs mo] (fun r gw => ∃ (ol2 : Nat), ∃ (ln2 : Nat), gw = [xoW q x0 v0 xa z0 xs xf xp xd xr, hiW q z0 z1 ad (nI ol2) (nI ln2), twW q t0 t1 h0 u0 (va_cpy s0 r0 0 0 4) gc, sW q h0 h1 h2 h3 h4 h5 (va_cpy e1 f1 0 0 20) (va_cpy e2 f2 0 0 20) (va_cpy e3 f3 0 0 20) (va_cpy e4 f4 0 0 20) (va_cpy e5 f5 0 0 20) mb, hW q u0 u1 u2 u3 (va_cpy k1 g1 0 0 8) (va_cpy k2 g2 0 0 8) (va_cpy k3 g3 0 0 8) qs mo, twW q v0 v1 i0 y0 s0 f, sW q i0 i1 i2 i3 i4 i5 e1 e2 e3 e4 e5 mb, hW q y0 y1 y2 y3 k1 k2 k3 qs mo] ∧ r = gc ∧ (ln2 = min (n + 1) 6 ∧ ol2 = if n = 6 then (o + 1) % 6 else o)) := by
  refine xMi_of (cc := cX7_wind) (maxL := 3) (rt := .int) (by decide) rfl (Nat.le_of_ble_eq_true rfl) (fun _ _ _ => rfl) ?_
  intro p9 e9 s9 m9 a9 below meth c9 A9 Z9 ls H locs F X hl hret
  have hx := F.1.1
  have hb := F.1.2.1
  have in_X7 : ∀ w ∈ wsX70, w ∈ wsX7_wind := by decide +kernel
  have in_X6 : ∀ w ∈ wsX60, w ∈ wsX7_wind := by decide +kernel
  have mw_0 : Cond.initialized RX7 ∈ wsX7_wind := by decide +kernel
  have mw_1 : Cond.fieldLink RX7 26 "HatWinds" "history" "LHatWinds$History;" ∈ wsX7_wind := by decide +kernel
  have mw_2 : Cond.fieldLink RX7 10 "HatWinds" "town" "LHatWinds$Town;" ∈ wsX7_wind := by decide +kernel
  have mw_3 : Cond.initialized RX1 ∈ wsX7_wind := by decide +kernel
  have mw_4 : Cond.fieldLink RX7 126 "HatWinds$Town" "force" "I" ∈ wsX7_wind := by decide +kernel
  have hl : lv_has ls 3 [(0, .ref x0), (1, .int f)] := hl
  refine lv_iload_n hx hb dX7_wind_0 rfl (lv_at hl 1 rfl) ?_
  refine x_cSi F X (gc := []) (gr := [xoW q x0 v0 xa z0 xs xf xp xd xr, hiW q z0 z1 ad (nI o) (nI n), twW q t0 t1 h0 u0 r0 fc, sW q h0 h1 h2 h3 h4 h5 f1 f2 f3 f4 f5 nb, hW q u0 u1 u2 u3 g1 g2 g3 ps lo, twW q v0 v1 i0 y0 s0 gc, sW q i0 i1 i2 i3 i4 i5 e1 e2 e3 e4 e5 mb, hW q y0 y1 y2 y3 k1 k2 k3 qs mo]) (xp_idx (n := 8) [0, 1, 2, 3, 4, 5, 6, 7] (by decide +kernel) rfl rfl) (c_X7_isForce l D q f ) (va_cwS 1 F.1.2.2.2.2 gX7_wind_X7_isForce rfl rfl rfl (by decide +kernel) ⟨Nat.le_of_ble_eq_true rfl, Nat.le_of_ble_eq_true rfl⟩) rfl rfl hl.1 ⟨Nat.le_of_ble_eq_true rfl, Nat.le_of_ble_eq_true rfl⟩ (Nat.le_of_ble_eq_true rfl) dX7_wind_1 (fun r_1 g1 H locs hp X => ?_)
  obtain ⟨rfl, hz⟩ := hp
  have X : xS D A9 s9 [xoW q x0 v0 xa z0 xs xf xp xd xr, hiW q z0 z1 ad (nI o) (nI n), twW q t0 t1 h0 u0 r0 fc, sW q h0 h1 h2 h3 h4 h5 f1 f2 f3 f4 f5 nb, hW q u0 u1 u2 u3 g1 g2 g3 ps lo, twW q v0 v1 i0 y0 s0 gc, sW q i0 i1 i2 i3 i4 i5 e1 e2 e3 e4 e5 mb, hW q y0 y1 y2 y3 k1 k2 k3 qs mo] H locs := X
  rcases hz with ⟨rfl, b_1⟩ | ⟨rfl, b_1⟩
  · refine lv_if_ne (tgt := 10) hx hb dX7_wind_4 (by decide) (fun _ => ?_) (fun h => absurd h (by decide))
    refine lv_aload_n hx hb dX7_wind_10 rfl (lv_at hl 0 rfl) ?_
    refine x_get F X (v := .ref z0) (C := RX7) (T := TX7) (N := 8) (ci := 7) in_X7 0 rfl rfl 2 (by decide) mw_1 rfl dX7_wind_11 ?_
    refine lv_aload_n hx hb dX7_wind_14 rfl (lv_at hl 0 rfl) ?_
    refine x_get F X (v := .ref v0) (C := RX7) (T := TX7) (N := 8) (ci := 7) in_X7 0 rfl rfl 0 (by decide) mw_2 rfl dX7_wind_15 ?_
    refine x_cVv F X (gc := [hiW q z0 z1 ad (nI o) (nI n), twW q t0 t1 h0 u0 r0 fc, sW q h0 h1 h2 h3 h4 h5 f1 f2 f3 f4 f5 nb, hW q u0 u1 u2 u3 g1 g2 g3 ps lo, twW q v0 v1 i0 y0 s0 gc, sW q i0 i1 i2 i3 i4 i5 e1 e2 e3 e4 e5 mb, hW q y0 y1 y2 y3 k1 k2 k3 qs mo]) (gr := [xoW q x0 v0 xa z0 xs xf xp xd xr]) (xp_idx (n := 8) [1, 2, 3, 4, 5, 6, 7, 0] (by decide +kernel) rfl rfl) (c_X1_keep l D q z0 z1 o n z ad t0 t1 u0 u1 u2 u3 h0 h1 h2 h3 h4 h5 r0 f1 f2 f3 f4 f5 g1 g2 g3 fc nb ps lo v0 v1 y0 y1 y2 y3 i0 i1 i2 i3 i4 i5 s0 e1 e2 e3 e4 e5 k1 k2 k3 gc mb qs mo (by first | assumption | omega) (by first | assumption | omega) (by first | assumption | omega) (by first | assumption | omega)) (cwV 1 F.1.2.2.2.2 gX7_wind_X1_keep rfl rfl rfl (by decide +kernel) ⟨Nat.le_of_ble_eq_true rfl, Nat.le_of_ble_eq_true rfl⟩) rfl rfl (r0 := 0) (ci := 1) (T := TX1) (N := 3) rfl rfl hl.1 ⟨Nat.le_of_ble_eq_true rfl, Nat.le_of_ble_eq_true rfl⟩ (Nat.le_of_ble_eq_true rfl) dX7_wind_18 (fun g1 H locs hp X => ?_)
    obtain ⟨ol9, ln9, rfl, hke9⟩ := hp
    have X := X.perm (gs' := [xoW q x0 v0 xa z0 xs xf xp xd xr, hiW q z0 z1 ad (nI ol9) (nI ln9), twW q t0 t1 h0 u0 (va_cpy s0 r0 0 0 4) gc, sW q h0 h1 h2 h3 h4 h5 (va_cpy e1 f1 0 0 20) (va_cpy e2 f2 0 0 20) (va_cpy e3 f3 0 0 20) (va_cpy e4 f4 0 0 20) (va_cpy e5 f5 0 0 20) mb, hW q u0 u1 u2 u3 (va_cpy k1 g1 0 0 8) (va_cpy k2 g2 0 0 8) (va_cpy k3 g3 0 0 8) qs mo, twW q v0 v1 i0 y0 s0 gc, sW q i0 i1 i2 i3 i4 i5 e1 e2 e3 e4 e5 mb, hW q y0 y1 y2 y3 k1 k2 k3 qs mo]) (xp_idx (n := 8) [7, 0, 1, 2, 3, 4, 5, 6] (by decide +kernel) rfl rfl)
    refine lv_aload_n hx hb dX7_wind_21 rfl (lv_at hl 0 rfl) ?_
    refine x_get F X (v := .ref v0) (C := RX7) (T := TX7) (N := 8) (ci := 7) in_X7 0 rfl rfl 0 (by decide) mw_2 rfl dX7_wind_22 ?_
    refine x_get F X (v := .int gc) (C := RX6) (T := TX6) (N := 4) (ci := 6) in_X6 15 rfl rfl 3 (by decide) mw_4 rfl dX7_wind_25 ?_
    refine lv_istore_n (lv' := [(2, .int gc), (0, .ref x0), (1, .int f)]) hx hb dX7_wind_28 rfl hl (by decide) rfl (fun ls hl => ?_)
    refine lv_aload_n hx hb dX7_wind_29 rfl (lv_at hl 1 rfl) ?_
    refine x_get F X (v := .ref v0) (C := RX7) (T := TX7) (N := 8) (ci := 7) in_X7 0 rfl rfl 0 (by decide) mw_2 rfl dX7_wind_30 ?_
    refine lv_iload_n hx hb dX7_wind_33 rfl (lv_at hl 2 rfl) ?_
    refine x_put F X (gs' := [xoW q x0 v0 xa z0 xs xf xp xd xr, hiW q z0 z1 ad (nI ol9) (nI ln9), twW q t0 t1 h0 u0 (va_cpy s0 r0 0 0 4) gc, sW q h0 h1 h2 h3 h4 h5 (va_cpy e1 f1 0 0 20) (va_cpy e2 f2 0 0 20) (va_cpy e3 f3 0 0 20) (va_cpy e4 f4 0 0 20) (va_cpy e5 f5 0 0 20) mb, hW q u0 u1 u2 u3 (va_cpy k1 g1 0 0 8) (va_cpy k2 g2 0 0 8) (va_cpy k3 g3 0 0 8) qs mo, twW q v0 v1 i0 y0 s0 f, sW q i0 i1 i2 i3 i4 i5 e1 e2 e3 e4 e5 mb, hW q y0 y1 y2 y3 k1 k2 k3 qs mo]) (v := .int f) (C := RX6) (T := TX6) (N := 4) (ci := 6) in_X6 tyX6 tyX6_ok nmX6 15 rfl rfl 3 (by decide) mw_4 rfl rfl rfl (Nat.le_of_ble_eq_true rfl) dX7_wind_34 rfl (fun H locs X => ?_)
    refine lv_iload_n hx hb dX7_wind_37 rfl (lv_at hl 0 rfl) ?_
    exact hret _ _ _ _ _ _ (by exact ⟨_, _, rfl, rfl, hke9⟩) X dX7_wind_38
  · refine lv_if_ne (tgt := 10) hx hb dX7_wind_4 (by decide) (fun h => absurd (by decide) h) (fun _ => ?_)
    exact absurd ((x_rng (a := 0) (b := 200) (by omega) (by omega)).mp hf) (fun h => b_1 (h.imp fun k z => ⟨z.2.1, z.2.2⟩))

set_option maxHeartbeats 1000000 in
set_option maxRecDepth 100000 in
theorem c_X7_windN (l : Launch) (D : va_G) (q : xQ) (x0 : Nat) (xt : Nat) (xa : Nat) (xh : Nat) (xs : Nat) (xf : Nat) (xp : Nat) (xd : Nat) (xr : Nat) (f : Int32) (hf : ¬ (0 ≤ f ∧ f ≤ 200)) : xMi l yX7_wind wsX7_wind { frames := 5, cells := 0, slots := 0, locals := 124 } D q [.ref x0, .int f] [xoW q x0 xt xa xh xs xf xp xd xr] (fun r gw => gw = [xoW q x0 xt xa xh xs xf xp xd xr] ∧ r = -2) := by
  refine xMi_of (cc := cX7_wind) (maxL := 3) (rt := .int) (by decide) rfl (Nat.le_of_ble_eq_true rfl) (fun _ _ _ => rfl) ?_
  intro p9 e9 s9 m9 a9 below meth c9 A9 Z9 ls H locs F X hl hret
  have hx := F.1.1
  have hb := F.1.2.1
  have mw_0 : Cond.initialized RX7 ∈ wsX7_wind := by decide +kernel
  have hl : lv_has ls 3 [(0, .ref x0), (1, .int f)] := hl
  refine lv_iload_n hx hb dX7_wind_0 rfl (lv_at hl 1 rfl) ?_
  refine x_cSi F X (gc := []) (gr := [xoW q x0 xt xa xh xs xf xp xd xr]) (xp_idx (n := 1) [0] (by decide +kernel) rfl rfl) (c_X7_isForce l D q f ) (va_cwS 1 F.1.2.2.2.2 gX7_wind_X7_isForce rfl rfl rfl (by decide +kernel) ⟨Nat.le_of_ble_eq_true rfl, Nat.le_of_ble_eq_true rfl⟩) rfl rfl hl.1 ⟨Nat.le_of_ble_eq_true rfl, Nat.le_of_ble_eq_true rfl⟩ (Nat.le_of_ble_eq_true rfl) dX7_wind_1 (fun r_1 g1 H locs hp X => ?_)
  obtain ⟨rfl, hz⟩ := hp
  have X : xS D A9 s9 [xoW q x0 xt xa xh xs xf xp xd xr] H locs := X
  rcases hz with ⟨rfl, b_1⟩ | ⟨rfl, b_1⟩
  · refine lv_if_ne (tgt := 10) hx hb dX7_wind_4 (by decide) (fun _ => ?_) (fun h => absurd h (by decide))
    exact absurd ((x_rng (a := 0) (b := 200) (by omega) (by omega)).mpr (b_1.imp fun k z => ⟨Nat.zero_le k, z⟩)) hf
  · refine lv_if_ne (tgt := 10) hx hb dX7_wind_4 (by decide) (fun h => absurd (by decide) h) (fun _ => ?_)
    refine lv_bipush (v := (-2)) hx hb dX7_wind_7 (by decide) ?_
    exact hret _ _ _ _ _ _ (by exact ⟨rfl, rfl⟩) X dX7_wind_9

set_option maxHeartbeats 1000000 in
set_option maxRecDepth 100000 in
theorem c_X7_streetY (l : Launch) (D : va_G) (q : xQ) (x0 : Nat) (xa : Nat) (xs : Nat) (xf : Nat) (xp : Nat) (xd : Nat) (xr : Nat) (z0 : Nat) (z1 : Nat) (o : Nat) (n : Nat) (z : Nat) (ad : Nat → Option Nat) (t0 : Nat) (t1 : Nat) (u0 : Nat) (u1 : Nat) (u2 : Nat) (u3 : Nat) (h0 : Nat) (h1 : Nat) (h2 : Nat) (h3 : Nat) (h4 : Nat) (h5 : Nat) (r0 : Nat → Int32) (f1 : Nat → Int32) (f2 : Nat → Int32) (f3 : Nat → Int32) (f4 : Nat → Int32) (f5 : Nat → Int32) (g1 : Nat → Int32) (g2 : Nat → Int32) (g3 : Nat → Int32) (fc : Int32) (nb : Int32) (ps : Int32) (lo : Int32) (v0 : Nat) (v1 : Nat) (y0 : Nat) (y1 : Nat) (y2 : Nat) (y3 : Nat) (i0 : Nat) (i1 : Nat) (i2 : Nat) (i3 : Nat) (i4 : Nat) (i5 : Nat) (s0 : Nat → Int32) (e1 : Nat → Int32) (e2 : Nat → Int32) (e3 : Nat → Int32) (e4 : Nat → Int32) (e5 : Nat → Int32) (k1 : Nat → Int32) (k2 : Nat → Int32) (k3 : Nat → Int32) (gc : Int32) (qs : Int32) (mo : Int32) (m : Nat) (k : Nat) (w : Int32) (ho : o < 6) (hn6 : n ≤ 6) (hz : z = (o + n) % 6) (had : ad z = some t0) (hk : k < m) (hm : m < 20) (hw : 1 ≤ w ∧ w ≤ 9) (hct : x_ct e1 (nI k) m < 4) : xMi l yX7_street wsX7_street { frames := 5, cells := 0, slots := 0, locals := 124 } D q [.ref x0, .int (nI k), .int w] [xoW q x0 v0 xa z0 xs xf xp xd xr, hiW q z0 z1 ad (nI o) (nI n), twW q t0 t1 h0 u0 r0 fc, sW q h0 h1 h2 h3 h4 h5 f1 f2 f3 f4 f5 nb, hW q u0 u1 u2 u3 g1 g2 g3 ps lo, twW q v0 v1 i0 y0 s0 gc, sW q i0 i1 i2 i3 i4 i5 e1 e2 e3 e4 e5 (nI m), hW q y0 y1 y2 y3 k1 k2 k3 qs mo] (fun r gw => ∃ (ol2 : Nat), ∃ (ln2 : Nat), gw = [xoW q x0 v0 xa z0 xs xf xp xd xr, hiW q z0 z1 ad (nI ol2) (nI ln2), twW q t0 t1 h0 u0 (va_cpy s0 r0 0 0 4) gc, sW q h0 h1 h2 h3 h4 h5 (va_cpy e1 f1 0 0 20) (va_cpy e2 f2 0 0 20) (va_cpy e3 f3 0 0 20) (va_cpy e4 f4 0 0 20) (va_cpy e5 f5 0 0 20) (nI m), hW q u0 u1 u2 u3 (va_cpy k1 g1 0 0 8) (va_cpy k2 g2 0 0 8) (va_cpy k3 g3 0 0 8) qs mo, twW q v0 v1 i0 y0 s0 gc, sW q i0 i1 i2 i3 i4 i5 (upd e1 m (nI k)) (upd e2 m w) (upd e3 m 0) (upd e4 m 0) (upd e5 m 0) (nI (m + 1)), hW q y0 y1 y2 y3 k1 k2 k3 qs mo] ∧ r = nI m ∧ (ln2 = min (n + 1) 6 ∧ ol2 = if n = 6 then (o + 1) % 6 else o)) := by
  refine xMi_of (cc := cX7_street) (maxL := 3) (rt := .int) (by decide) rfl (Nat.le_of_ble_eq_true rfl) (fun _ _ _ => rfl) ?_
  intro p9 e9 s9 m9 a9 below meth c9 A9 Z9 ls H locs F X hl hret
  have hx := F.1.1
  have hb := F.1.2.1
  have in_X7 : ∀ w ∈ wsX70, w ∈ wsX7_street := by decide +kernel
  have in_X6 : ∀ w ∈ wsX60, w ∈ wsX7_street := by decide +kernel
  have mw_0 : Cond.fieldLink RX7 10 "HatWinds" "town" "LHatWinds$Town;" ∈ wsX7_street := by decide +kernel
  have mw_1 : Cond.fieldLink RX7 84 "HatWinds$Town" "streets" "LHatWinds$Streets;" ∈ wsX7_street := by decide +kernel
  have mw_2 : Cond.initialized RX5 ∈ wsX7_street := by decide +kernel
  have mw_3 : Cond.initialized RX7 ∈ wsX7_street := by decide +kernel
  have mw_4 : Cond.fieldLink RX7 26 "HatWinds" "history" "LHatWinds$History;" ∈ wsX7_street := by decide +kernel
  have mw_5 : Cond.initialized RX1 ∈ wsX7_street := by decide +kernel
  have hl : lv_has ls 3 [(0, .ref x0), (1, .int (nI k)), (2, .int w)] := hl
  refine lv_aload_n hx hb dX7_street_0 rfl (lv_at hl 0 rfl) ?_
  refine x_get F X (v := .ref v0) (C := RX7) (T := TX7) (N := 8) (ci := 7) in_X7 0 rfl rfl 0 (by decide) mw_0 rfl dX7_street_1 ?_
  refine x_get F X (v := .ref i0) (C := RX6) (T := TX6) (N := 4) (ci := 6) in_X6 15 rfl rfl 1 (by decide) mw_1 rfl dX7_street_4 ?_
  refine lv_iload_n hx hb dX7_street_7 rfl (lv_at hl 1 rfl) ?_
  refine x_cVi F X (gc := [sW q i0 i1 i2 i3 i4 i5 e1 e2 e3 e4 e5 (nI m)]) (gr := [xoW q x0 v0 xa z0 xs xf xp xd xr, hiW q z0 z1 ad (nI o) (nI n), twW q t0 t1 h0 u0 r0 fc, sW q h0 h1 h2 h3 h4 h5 f1 f2 f3 f4 f5 nb, hW q u0 u1 u2 u3 g1 g2 g3 ps lo, twW q v0 v1 i0 y0 s0 gc, hW q y0 y1 y2 y3 k1 k2 k3 qs mo]) (xp_idx (n := 8) [6, 0, 1, 2, 3, 4, 5, 7] (by decide +kernel) rfl rfl) (c_X5_has l D q i0 i1 i2 i3 i4 i5 m e1 e2 e3 e4 e5 (nI k) (by first | assumption | omega)) (cwV 1 F.1.2.2.2.2 gX7_street_X5_has rfl rfl rfl (by decide +kernel) ⟨Nat.le_of_ble_eq_true rfl, Nat.le_of_ble_eq_true rfl⟩) rfl rfl (r0 := 0) (ci := 5) (T := TX5) (N := 6) rfl rfl hl.1 ⟨Nat.le_of_ble_eq_true rfl, Nat.le_of_ble_eq_true rfl⟩ (Nat.le_of_ble_eq_true rfl) dX7_street_8 (fun r_8 g1 H locs hp X => ?_)
  obtain ⟨rfl, hz⟩ := hp
  have X := X.perm (gs' := [xoW q x0 v0 xa z0 xs xf xp xd xr, hiW q z0 z1 ad (nI o) (nI n), twW q t0 t1 h0 u0 r0 fc, sW q h0 h1 h2 h3 h4 h5 f1 f2 f3 f4 f5 nb, hW q u0 u1 u2 u3 g1 g2 g3 ps lo, twW q v0 v1 i0 y0 s0 gc, sW q i0 i1 i2 i3 i4 i5 e1 e2 e3 e4 e5 (nI m), hW q y0 y1 y2 y3 k1 k2 k3 qs mo]) (xp_idx (n := 8) [1, 2, 3, 4, 5, 6, 0, 7] (by decide +kernel) rfl rfl)
  rcases hz with ⟨rfl, b_8⟩ | ⟨rfl, b_8⟩
  · refine lv_if_ne (tgt := 16) hx hb dX7_street_11 (by decide) (fun _ => ?_) (fun h => absurd h (by decide))
    refine lv_iload_n hx hb dX7_street_16 rfl (lv_at hl 2 rfl) ?_
    refine lv_iconst (v := 1) hx hb dX7_street_17 (by decide) ?_
    refine lv_bipush (v := 9) hx hb dX7_street_18 (by decide) ?_
    refine x_cSi F X (gc := []) (gr := [xoW q x0 v0 xa z0 xs xf xp xd xr, hiW q z0 z1 ad (nI o) (nI n), twW q t0 t1 h0 u0 r0 fc, sW q h0 h1 h2 h3 h4 h5 f1 f2 f3 f4 f5 nb, hW q u0 u1 u2 u3 g1 g2 g3 ps lo, twW q v0 v1 i0 y0 s0 gc, sW q i0 i1 i2 i3 i4 i5 e1 e2 e3 e4 e5 (nI m), hW q y0 y1 y2 y3 k1 k2 k3 qs mo]) (xp_idx (n := 8) [0, 1, 2, 3, 4, 5, 6, 7] (by decide +kernel) rfl rfl) (c_X7_isWithin l D q w 1 9 ) (va_cwS 3 F.1.2.2.2.2 gX7_street_X7_isWithin rfl rfl rfl (by decide +kernel) ⟨Nat.le_of_ble_eq_true rfl, Nat.le_of_ble_eq_true rfl⟩) rfl rfl hl.1 ⟨Nat.le_of_ble_eq_true rfl, Nat.le_of_ble_eq_true rfl⟩ (Nat.le_of_ble_eq_true rfl) dX7_street_20 (fun r_20 g1 H locs hp X => ?_)
    obtain ⟨rfl, hz⟩ := hp
    have X : xS D A9 s9 [xoW q x0 v0 xa z0 xs xf xp xd xr, hiW q z0 z1 ad (nI o) (nI n), twW q t0 t1 h0 u0 r0 fc, sW q h0 h1 h2 h3 h4 h5 f1 f2 f3 f4 f5 nb, hW q u0 u1 u2 u3 g1 g2 g3 ps lo, twW q v0 v1 i0 y0 s0 gc, sW q i0 i1 i2 i3 i4 i5 e1 e2 e3 e4 e5 (nI m), hW q y0 y1 y2 y3 k1 k2 k3 qs mo] H locs := X
    rcases hz with ⟨rfl, b_20⟩ | ⟨rfl, b_20⟩
    · refine lv_if_ne (tgt := 29) hx hb dX7_street_23 (by decide) (fun _ => ?_) (fun h => absurd h (by decide))
      refine lv_aload_n hx hb dX7_street_29 rfl (lv_at hl 0 rfl) ?_
      refine x_get F X (v := .ref v0) (C := RX7) (T := TX7) (N := 8) (ci := 7) in_X7 0 rfl rfl 0 (by decide) mw_0 rfl dX7_street_30 ?_
      refine x_get F X (v := .ref i0) (C := RX6) (T := TX6) (N := 4) (ci := 6) in_X6 15 rfl rfl 1 (by decide) mw_1 rfl dX7_street_33 ?_
      refine lv_iload_n hx hb dX7_street_36 rfl (lv_at hl 1 rfl) ?_
      refine x_cVi F X (gc := [sW q i0 i1 i2 i3 i4 i5 e1 e2 e3 e4 e5 (nI m)]) (gr := [xoW q x0 v0 xa z0 xs xf xp xd xr, hiW q z0 z1 ad (nI o) (nI n), twW q t0 t1 h0 u0 r0 fc, sW q h0 h1 h2 h3 h4 h5 f1 f2 f3 f4 f5 nb, hW q u0 u1 u2 u3 g1 g2 g3 ps lo, twW q v0 v1 i0 y0 s0 gc, hW q y0 y1 y2 y3 k1 k2 k3 qs mo]) (xp_idx (n := 8) [6, 0, 1, 2, 3, 4, 5, 7] (by decide +kernel) rfl rfl) (c_X5_hasRoomOff l D q i0 i1 i2 i3 i4 i5 m e1 e2 e3 e4 e5 (nI k) (by first | assumption | omega)) (cwV 1 F.1.2.2.2.2 gX7_street_X5_hasRoomOff rfl rfl rfl (by decide +kernel) ⟨Nat.le_of_ble_eq_true rfl, Nat.le_of_ble_eq_true rfl⟩) rfl rfl (r0 := 0) (ci := 5) (T := TX5) (N := 6) rfl rfl hl.1 ⟨Nat.le_of_ble_eq_true rfl, Nat.le_of_ble_eq_true rfl⟩ (Nat.le_of_ble_eq_true rfl) dX7_street_37 (fun r_37 g1 H locs hp X => ?_)
      obtain ⟨rfl, hz⟩ := hp
      have X := X.perm (gs' := [xoW q x0 v0 xa z0 xs xf xp xd xr, hiW q z0 z1 ad (nI o) (nI n), twW q t0 t1 h0 u0 r0 fc, sW q h0 h1 h2 h3 h4 h5 f1 f2 f3 f4 f5 nb, hW q u0 u1 u2 u3 g1 g2 g3 ps lo, twW q v0 v1 i0 y0 s0 gc, sW q i0 i1 i2 i3 i4 i5 e1 e2 e3 e4 e5 (nI m), hW q y0 y1 y2 y3 k1 k2 k3 qs mo]) (xp_idx (n := 8) [1, 2, 3, 4, 5, 6, 0, 7] (by decide +kernel) rfl rfl)
      rcases hz with ⟨rfl, b_37⟩ | ⟨rfl, b_37⟩
      · refine lv_if_ne (tgt := 46) hx hb dX7_street_40 (by decide) (fun _ => ?_) (fun h => absurd h (by decide))
        refine lv_aload_n hx hb dX7_street_46 rfl (lv_at hl 0 rfl) ?_
        refine x_get F X (v := .ref z0) (C := RX7) (T := TX7) (N := 8) (ci := 7) in_X7 0 rfl rfl 2 (by decide) mw_4 rfl dX7_street_47 ?_
        refine lv_aload_n hx hb dX7_street_50 rfl (lv_at hl 0 rfl) ?_
        refine x_get F X (v := .ref v0) (C := RX7) (T := TX7) (N := 8) (ci := 7) in_X7 0 rfl rfl 0 (by decide) mw_0 rfl dX7_street_51 ?_
        refine x_cVv F X (gc := [hiW q z0 z1 ad (nI o) (nI n), twW q t0 t1 h0 u0 r0 fc, sW q h0 h1 h2 h3 h4 h5 f1 f2 f3 f4 f5 nb, hW q u0 u1 u2 u3 g1 g2 g3 ps lo, twW q v0 v1 i0 y0 s0 gc, sW q i0 i1 i2 i3 i4 i5 e1 e2 e3 e4 e5 (nI m), hW q y0 y1 y2 y3 k1 k2 k3 qs mo]) (gr := [xoW q x0 v0 xa z0 xs xf xp xd xr]) (xp_idx (n := 8) [1, 2, 3, 4, 5, 6, 7, 0] (by decide +kernel) rfl rfl) (c_X1_keep l D q z0 z1 o n z ad t0 t1 u0 u1 u2 u3 h0 h1 h2 h3 h4 h5 r0 f1 f2 f3 f4 f5 g1 g2 g3 fc nb ps lo v0 v1 y0 y1 y2 y3 i0 i1 i2 i3 i4 i5 s0 e1 e2 e3 e4 e5 k1 k2 k3 gc (nI m) qs mo (by first | assumption | omega) (by first | assumption | omega) (by first | assumption | omega) (by first | assumption | omega)) (cwV 1 F.1.2.2.2.2 gX7_street_X1_keep rfl rfl rfl (by decide +kernel) ⟨Nat.le_of_ble_eq_true rfl, Nat.le_of_ble_eq_true rfl⟩) rfl rfl (r0 := 0) (ci := 1) (T := TX1) (N := 3) rfl rfl hl.1 ⟨Nat.le_of_ble_eq_true rfl, Nat.le_of_ble_eq_true rfl⟩ (Nat.le_of_ble_eq_true rfl) dX7_street_54 (fun g1 H locs hp X => ?_)
        obtain ⟨ol9, ln9, rfl, hke9⟩ := hp
        have X := X.perm (gs' := [xoW q x0 v0 xa z0 xs xf xp xd xr, hiW q z0 z1 ad (nI ol9) (nI ln9), twW q t0 t1 h0 u0 (va_cpy s0 r0 0 0 4) gc, sW q h0 h1 h2 h3 h4 h5 (va_cpy e1 f1 0 0 20) (va_cpy e2 f2 0 0 20) (va_cpy e3 f3 0 0 20) (va_cpy e4 f4 0 0 20) (va_cpy e5 f5 0 0 20) (nI m), hW q u0 u1 u2 u3 (va_cpy k1 g1 0 0 8) (va_cpy k2 g2 0 0 8) (va_cpy k3 g3 0 0 8) qs mo, twW q v0 v1 i0 y0 s0 gc, sW q i0 i1 i2 i3 i4 i5 e1 e2 e3 e4 e5 (nI m), hW q y0 y1 y2 y3 k1 k2 k3 qs mo]) (xp_idx (n := 8) [7, 0, 1, 2, 3, 4, 5, 6] (by decide +kernel) rfl rfl)
        refine lv_aload_n hx hb dX7_street_57 rfl (lv_at hl 0 rfl) ?_
        refine x_get F X (v := .ref v0) (C := RX7) (T := TX7) (N := 8) (ci := 7) in_X7 0 rfl rfl 0 (by decide) mw_0 rfl dX7_street_58 ?_
        refine x_get F X (v := .ref i0) (C := RX6) (T := TX6) (N := 4) (ci := 6) in_X6 15 rfl rfl 1 (by decide) mw_1 rfl dX7_street_61 ?_
        refine lv_iload_n hx hb dX7_street_64 rfl (lv_at hl 1 rfl) ?_
        refine lv_iload_n hx hb dX7_street_65 rfl (lv_at hl 2 rfl) ?_
        refine x_cVi F X (gc := [sW q i0 i1 i2 i3 i4 i5 e1 e2 e3 e4 e5 (nI m)]) (gr := [xoW q x0 v0 xa z0 xs xf xp xd xr, hiW q z0 z1 ad (nI ol9) (nI ln9), twW q t0 t1 h0 u0 (va_cpy s0 r0 0 0 4) gc, sW q h0 h1 h2 h3 h4 h5 (va_cpy e1 f1 0 0 20) (va_cpy e2 f2 0 0 20) (va_cpy e3 f3 0 0 20) (va_cpy e4 f4 0 0 20) (va_cpy e5 f5 0 0 20) (nI m), hW q u0 u1 u2 u3 (va_cpy k1 g1 0 0 8) (va_cpy k2 g2 0 0 8) (va_cpy k3 g3 0 0 8) qs mo, twW q v0 v1 i0 y0 s0 gc, hW q y0 y1 y2 y3 k1 k2 k3 qs mo]) (xp_idx (n := 8) [6, 0, 1, 2, 3, 4, 5, 7] (by decide +kernel) rfl rfl) (c_X5_add l D q i0 i1 i2 i3 i4 i5 m e1 e2 e3 e4 e5 (nI k) w (by first | assumption | omega)) (cwV 2 F.1.2.2.2.2 gX7_street_X5_add rfl rfl rfl (by decide +kernel) ⟨Nat.le_of_ble_eq_true rfl, Nat.le_of_ble_eq_true rfl⟩) rfl rfl (r0 := 0) (ci := 5) (T := TX5) (N := 6) rfl rfl hl.1 ⟨Nat.le_of_ble_eq_true rfl, Nat.le_of_ble_eq_true rfl⟩ (Nat.le_of_ble_eq_true rfl) dX7_street_66 (fun r_66 g1 H locs hp X => ?_)
        obtain ⟨rfl, rfl⟩ := hp
        have X := X.perm (gs' := [xoW q x0 v0 xa z0 xs xf xp xd xr, hiW q z0 z1 ad (nI ol9) (nI ln9), twW q t0 t1 h0 u0 (va_cpy s0 r0 0 0 4) gc, sW q h0 h1 h2 h3 h4 h5 (va_cpy e1 f1 0 0 20) (va_cpy e2 f2 0 0 20) (va_cpy e3 f3 0 0 20) (va_cpy e4 f4 0 0 20) (va_cpy e5 f5 0 0 20) (nI m), hW q u0 u1 u2 u3 (va_cpy k1 g1 0 0 8) (va_cpy k2 g2 0 0 8) (va_cpy k3 g3 0 0 8) qs mo, twW q v0 v1 i0 y0 s0 gc, sW q i0 i1 i2 i3 i4 i5 (upd e1 m (nI k)) (upd e2 m w) (upd e3 m 0) (upd e4 m 0) (upd e5 m 0) (nI (m + 1)), hW q y0 y1 y2 y3 k1 k2 k3 qs mo]) (xp_idx (n := 8) [1, 2, 3, 4, 5, 6, 0, 7] (by decide +kernel) rfl rfl)
        exact hret _ _ _ _ _ _ (by exact ⟨_, _, rfl, rfl, hke9⟩) X dX7_street_69
      · refine lv_if_ne (tgt := 46) hx hb dX7_street_40 (by decide) (fun h => absurd (by decide) h) (fun _ => ?_)
        exact absurd ⟨hm, by rw [x_bc_orf e1 (nI k) (by omega)]; exact nI_lt (b := 4) hct (by omega)⟩ b_37
    · refine lv_if_ne (tgt := 29) hx hb dX7_street_23 (by decide) (fun h => absurd (by decide) h) (fun _ => ?_)
      exact absurd hw b_20
  · refine lv_if_ne (tgt := 16) hx hb dX7_street_11 (by decide) (fun h => absurd (by decide) h) (fun _ => ?_)
    exact absurd ⟨k, hk, rfl⟩ b_8
