set_option maxHeartbeats 1000000 in
set_option maxRecDepth 100000 in
theorem c_X7_restoreY (l : Launch) (D : va_G) (q : xQ) (x0 : Nat) (xa : Nat) (b0 : Nat) (b1 : Nat) (xp : Nat) (xd : Nat) (xr : Nat) (ae : Nat → Option Nat) (fi : Nat → Int32) (z0 : Nat) (z1 : Nat) (o : Nat) (n : Nat) (z : Nat) (ad : Nat → Option Nat) (t0 : Nat) (t1 : Nat) (u0 : Nat) (u1 : Nat) (u2 : Nat) (u3 : Nat) (h0 : Nat) (h1 : Nat) (h2 : Nat) (h3 : Nat) (h4 : Nat) (h5 : Nat) (r0 : Nat → Int32) (f1 : Nat → Int32) (f2 : Nat → Int32) (f3 : Nat → Int32) (f4 : Nat → Int32) (f5 : Nat → Int32) (g1 : Nat → Int32) (g2 : Nat → Int32) (g3 : Nat → Int32) (fc : Int32) (nb : Int32) (ps : Int32) (lo : Int32) (v0 : Nat) (v1 : Nat) (y0 : Nat) (y1 : Nat) (y2 : Nat) (y3 : Nat) (i0 : Nat) (i1 : Nat) (i2 : Nat) (i3 : Nat) (i4 : Nat) (i5 : Nat) (s0 : Nat → Int32) (e1 : Nat → Int32) (e2 : Nat → Int32) (e3 : Nat → Int32) (e4 : Nat → Int32) (e5 : Nat → Int32) (k1 : Nat → Int32) (k2 : Nat → Int32) (k3 : Nat → Int32) (gc : Int32) (mb : Int32) (qs : Int32) (mo : Int32) (c0 : Nat) (c1 : Nat) (d0 : Nat) (d1 : Nat) (d2 : Nat) (d3 : Nat) (j0 : Nat) (j1 : Nat) (j2 : Nat) (j3 : Nat) (j4 : Nat) (j5 : Nat) (a0 : Nat → Int32) (a1 : Nat → Int32) (a2 : Nat → Int32) (a3 : Nat → Int32) (a4 : Nat → Int32) (a5 : Nat → Int32) (l1 : Nat → Int32) (l2 : Nat → Int32) (l3 : Nat → Int32) (ga : Int32) (qa : Int32) (la : Int32) (m : Nat) (i : Nat) (ho : o < 6) (hn6 : n ≤ 6) (hz : z = (o + n) % 6) (had : ad z = some t0) (hi : i < 2) (hae : ae i = some c0) (hfi : ¬ fi i = 0) : xMi l yX7_restore wsX7_restore { frames := 5, cells := 0, slots := 0, locals := 124 } D q [.ref x0, .int (nI i)] [xoW q x0 v0 xa z0 b0 b1 xp xd xr, hiW q z0 z1 ad (nI o) (nI n), twW q t0 t1 h0 u0 r0 fc, sW q h0 h1 h2 h3 h4 h5 f1 f2 f3 f4 f5 nb, hW q u0 u1 u2 u3 g1 g2 g3 ps lo, twW q v0 v1 i0 y0 s0 gc, sW q i0 i1 i2 i3 i4 i5 e1 e2 e3 e4 e5 mb, hW q y0 y1 y2 y3 k1 k2 k3 qs mo, slW q b0 ae, fiW q b1 fi, twW q c0 c1 j0 d0 a0 ga, sW q j0 j1 j2 j3 j4 j5 a1 a2 a3 a4 a5 (nI m), hW q d0 d1 d2 d3 l1 l2 l3 qa la] (fun r gw => ∃ (ol2 : Nat), ∃ (ln2 : Nat), gw = [xoW q x0 v0 xa z0 b0 b1 xp xd xr, hiW q z0 z1 ad (nI ol2) (nI ln2), twW q t0 t1 h0 u0 (va_cpy s0 r0 0 0 4) gc, sW q h0 h1 h2 h3 h4 h5 (va_cpy e1 f1 0 0 20) (va_cpy e2 f2 0 0 20) (va_cpy e3 f3 0 0 20) (va_cpy e4 f4 0 0 20) (va_cpy e5 f5 0 0 20) mb, hW q u0 u1 u2 u3 (va_cpy k1 g1 0 0 8) (va_cpy k2 g2 0 0 8) (va_cpy k3 g3 0 0 8) qs mo, twW q v0 v1 i0 y0 (va_cpy a0 s0 0 0 4) ga, sW q i0 i1 i2 i3 i4 i5 (va_cpy a1 e1 0 0 20) (va_cpy a2 e2 0 0 20) (va_cpy a3 e3 0 0 20) (va_cpy a4 e4 0 0 20) (va_cpy a5 e5 0 0 20) (nI m), hW q y0 y1 y2 y3 (va_cpy l1 k1 0 0 8) (va_cpy l2 k2 0 0 8) (va_cpy l3 k3 0 0 8) qa la, slW q b0 ae, fiW q b1 fi, twW q c0 c1 j0 d0 a0 ga, sW q j0 j1 j2 j3 j4 j5 a1 a2 a3 a4 a5 (nI m), hW q d0 d1 d2 d3 l1 l2 l3 qa la] ∧ r = nI m ∧ (ln2 = min (n + 1) 6 ∧ ol2 = if n = 6 then (o + 1) % 6 else o)) := by
  refine xMi_of (cc := cX7_restore) (maxL := 2) (rt := .int) (by decide) rfl (Nat.le_of_ble_eq_true rfl) (fun _ _ _ => rfl) ?_
  intro p9 e9 s9 m9 a9 below meth c9 A9 Z9 ls H locs F X hl hret
  have hx := F.1.1
  have hb := F.1.2.1
  have in_X7 : ∀ w ∈ wsX70, w ∈ wsX7_restore := by decide +kernel
  have in_X6 : ∀ w ∈ wsX60, w ∈ wsX7_restore := by decide +kernel
  have in_X5 : ∀ w ∈ wsX50, w ∈ wsX7_restore := by decide +kernel
  have mw_0 : Cond.initialized RX7 ∈ wsX7_restore := by decide +kernel
  have mw_1 : Cond.fieldLink RX7 34 "HatWinds" "filled" "[Z" ∈ wsX7_restore := by decide +kernel
  have mw_2 : Cond.fieldLink RX7 26 "HatWinds" "history" "LHatWinds$History;" ∈ wsX7_restore := by decide +kernel
  have mw_3 : Cond.fieldLink RX7 10 "HatWinds" "town" "LHatWinds$Town;" ∈ wsX7_restore := by decide +kernel
  have mw_4 : Cond.initialized RX1 ∈ wsX7_restore := by decide +kernel
  have mw_5 : Cond.fieldLink RX7 30 "HatWinds" "slots" "[LHatWinds$Town;" ∈ wsX7_restore := by decide +kernel
  have mw_6 : Cond.initialized RX6 ∈ wsX7_restore := by decide +kernel
  have mw_7 : Cond.fieldLink RX7 84 "HatWinds$Town" "streets" "LHatWinds$Streets;" ∈ wsX7_restore := by decide +kernel
  have mw_8 : Cond.fieldLink RX7 98 "HatWinds$Streets" "number" "I" ∈ wsX7_restore := by decide +kernel
  have hl : lv_has ls 2 [(0, .ref x0), (1, .int (nI i))] := hl
  refine lv_iload_n hx hb dX7_restore_0 rfl (lv_at hl 1 rfl) ?_
  refine lv_iconst (v := 2) hx hb dX7_restore_1 (by decide) ?_
  refine x_cSi F X (gc := []) (gr := [xoW q x0 v0 xa z0 b0 b1 xp xd xr, hiW q z0 z1 ad (nI o) (nI n), twW q t0 t1 h0 u0 r0 fc, sW q h0 h1 h2 h3 h4 h5 f1 f2 f3 f4 f5 nb, hW q u0 u1 u2 u3 g1 g2 g3 ps lo, twW q v0 v1 i0 y0 s0 gc, sW q i0 i1 i2 i3 i4 i5 e1 e2 e3 e4 e5 mb, hW q y0 y1 y2 y3 k1 k2 k3 qs mo, slW q b0 ae, fiW q b1 fi, twW q c0 c1 j0 d0 a0 ga, sW q j0 j1 j2 j3 j4 j5 a1 a2 a3 a4 a5 (nI m), hW q d0 d1 d2 d3 l1 l2 l3 qa la]) (xp_idx (n := 13) [0, 1, 2, 3, 4, 5, 6, 7, 8, 9, 10, 11, 12] (by decide +kernel) rfl rfl) (c_X7_isIndexOf l D q (nI i) 2 ) (va_cwS 2 F.1.2.2.2.2 gX7_restore_X7_isIndexOf rfl rfl rfl (by decide +kernel) ⟨Nat.le_of_ble_eq_true rfl, Nat.le_of_ble_eq_true rfl⟩) rfl rfl hl.1 ⟨Nat.le_of_ble_eq_true rfl, Nat.le_of_ble_eq_true rfl⟩ (Nat.le_of_ble_eq_true rfl) dX7_restore_2 (fun r_2 g1 H locs hp X => ?_)
  obtain ⟨rfl, hz⟩ := hp
  have X : xS D A9 s9 [xoW q x0 v0 xa z0 b0 b1 xp xd xr, hiW q z0 z1 ad (nI o) (nI n), twW q t0 t1 h0 u0 r0 fc, sW q h0 h1 h2 h3 h4 h5 f1 f2 f3 f4 f5 nb, hW q u0 u1 u2 u3 g1 g2 g3 ps lo, twW q v0 v1 i0 y0 s0 gc, sW q i0 i1 i2 i3 i4 i5 e1 e2 e3 e4 e5 mb, hW q y0 y1 y2 y3 k1 k2 k3 qs mo, slW q b0 ae, fiW q b1 fi, twW q c0 c1 j0 d0 a0 ga, sW q j0 j1 j2 j3 j4 j5 a1 a2 a3 a4 a5 (nI m), hW q d0 d1 d2 d3 l1 l2 l3 qa la] H locs := X
  rcases hz with ⟨rfl, b_2⟩ | ⟨rfl, b_2⟩
  · refine lv_if_ne (tgt := 11) hx hb dX7_restore_5 (by decide) (fun _ => ?_) (fun h => absurd h (by decide))
    refine lv_aload_n hx hb dX7_restore_11 rfl (lv_at hl 0 rfl) ?_
    refine x_get F X (v := .ref b1) (C := RX7) (T := TX7) (N := 8) (ci := 7) in_X7 0 rfl rfl 4 (by decide) mw_1 rfl dX7_restore_12 ?_
    refine lv_iload_n hx hb dX7_restore_15 rfl (lv_at hl 1 rfl) ?_
    refine x_zald F X (v := (fi i)) (n := 2) (f := fi) 28 rfl (vp_in_nI (by omega) (by omega)) (x_cl (by omega)) dX7_restore_16 ?_
    refine lv_if_ne (tgt := 23) hx hb dX7_restore_17 (by decide) (fun c_17 => ?_) (fun c_17 => ?_)
    rotate_left
    · exfalso
      exact hfi c_17
    refine lv_aload_n hx hb dX7_restore_23 rfl (lv_at hl 0 rfl) ?_
    refine x_get F X (v := .ref z0) (C := RX7) (T := TX7) (N := 8) (ci := 7) in_X7 0 rfl rfl 2 (by decide) mw_2 rfl dX7_restore_24 ?_
    refine lv_aload_n hx hb dX7_restore_27 rfl (lv_at hl 0 rfl) ?_
    refine x_get F X (v := .ref v0) (C := RX7) (T := TX7) (N := 8) (ci := 7) in_X7 0 rfl rfl 0 (by decide) mw_3 rfl dX7_restore_28 ?_
    refine x_cVv F X (gc := [hiW q z0 z1 ad (nI o) (nI n), twW q t0 t1 h0 u0 r0 fc, sW q h0 h1 h2 h3 h4 h5 f1 f2 f3 f4 f5 nb, hW q u0 u1 u2 u3 g1 g2 g3 ps lo, twW q v0 v1 i0 y0 s0 gc, sW q i0 i1 i2 i3 i4 i5 e1 e2 e3 e4 e5 mb, hW q y0 y1 y2 y3 k1 k2 k3 qs mo]) (gr := [xoW q x0 v0 xa z0 b0 b1 xp xd xr, slW q b0 ae, fiW q b1 fi, twW q c0 c1 j0 d0 a0 ga, sW q j0 j1 j2 j3 j4 j5 a1 a2 a3 a4 a5 (nI m), hW q d0 d1 d2 d3 l1 l2 l3 qa la]) (xp_idx (n := 13) [1, 2, 3, 4, 5, 6, 7, 0, 8, 9, 10, 11, 12] (by decide +kernel) rfl rfl) (c_X1_keep l D q z0 z1 o n z ad t0 t1 u0 u1 u2 u3 h0 h1 h2 h3 h4 h5 r0 f1 f2 f3 f4 f5 g1 g2 g3 fc nb ps lo v0 v1 y0 y1 y2 y3 i0 i1 i2 i3 i4 i5 s0 e1 e2 e3 e4 e5 k1 k2 k3 gc mb qs mo (by first | assumption | omega) (by first | assumption | omega) (by first | assumption | omega) (by first | assumption | omega)) (cwV 1 F.1.2.2.2.2 gX7_restore_X1_keep rfl rfl rfl (by decide +kernel) ⟨Nat.le_of_ble_eq_true rfl, Nat.le_of_ble_eq_true rfl⟩) rfl rfl (r0 := 0) (ci := 1) (T := TX1) (N := 3) rfl rfl hl.1 ⟨Nat.le_of_ble_eq_true rfl, Nat.le_of_ble_eq_true rfl⟩ (Nat.le_of_ble_eq_true rfl) dX7_restore_31 (fun g1 H locs hp X => ?_)
    obtain ⟨ol9, ln9, rfl, hke9⟩ := hp
    have X := X.perm (gs' := [xoW q x0 v0 xa z0 b0 b1 xp xd xr, hiW q z0 z1 ad (nI ol9) (nI ln9), twW q t0 t1 h0 u0 (va_cpy s0 r0 0 0 4) gc, sW q h0 h1 h2 h3 h4 h5 (va_cpy e1 f1 0 0 20) (va_cpy e2 f2 0 0 20) (va_cpy e3 f3 0 0 20) (va_cpy e4 f4 0 0 20) (va_cpy e5 f5 0 0 20) mb, hW q u0 u1 u2 u3 (va_cpy k1 g1 0 0 8) (va_cpy k2 g2 0 0 8) (va_cpy k3 g3 0 0 8) qs mo, twW q v0 v1 i0 y0 s0 gc, sW q i0 i1 i2 i3 i4 i5 e1 e2 e3 e4 e5 mb, hW q y0 y1 y2 y3 k1 k2 k3 qs mo, slW q b0 ae, fiW q b1 fi, twW q c0 c1 j0 d0 a0 ga, sW q j0 j1 j2 j3 j4 j5 a1 a2 a3 a4 a5 (nI m), hW q d0 d1 d2 d3 l1 l2 l3 qa la]) (xp_idx (n := 13) [7, 0, 1, 2, 3, 4, 5, 6, 8, 9, 10, 11, 12] (by decide +kernel) rfl rfl)
    refine lv_aload_n hx hb dX7_restore_34 rfl (lv_at hl 0 rfl) ?_
    refine x_get F X (v := .ref v0) (C := RX7) (T := TX7) (N := 8) (ci := 7) in_X7 0 rfl rfl 0 (by decide) mw_3 rfl dX7_restore_35 ?_
    refine lv_aload_n hx hb dX7_restore_38 rfl (lv_at hl 0 rfl) ?_
    refine x_get F X (v := .ref b0) (C := RX7) (T := TX7) (N := 8) (ci := 7) in_X7 0 rfl rfl 3 (by decide) mw_5 rfl dX7_restore_39 ?_
    refine lv_iload_n hx hb dX7_restore_42 rfl (lv_at hl 1 rfl) ?_
    refine x_aald F X (v := c0) (n := 2) (f := ae) 27 rfl (vp_in_nI (by omega) (by omega)) (by exact (congrArg ae (nI_clamp (by omega))).trans hae) dX7_restore_43 ?_
    refine x_cVv F X (gc := [twW q v0 v1 i0 y0 s0 gc, sW q i0 i1 i2 i3 i4 i5 e1 e2 e3 e4 e5 mb, hW q y0 y1 y2 y3 k1 k2 k3 qs mo, twW q c0 c1 j0 d0 a0 ga, sW q j0 j1 j2 j3 j4 j5 a1 a2 a3 a4 a5 (nI m), hW q d0 d1 d2 d3 l1 l2 l3 qa la]) (gr := [xoW q x0 v0 xa z0 b0 b1 xp xd xr, hiW q z0 z1 ad (nI ol9) (nI ln9), twW q t0 t1 h0 u0 (va_cpy s0 r0 0 0 4) gc, sW q h0 h1 h2 h3 h4 h5 (va_cpy e1 f1 0 0 20) (va_cpy e2 f2 0 0 20) (va_cpy e3 f3 0 0 20) (va_cpy e4 f4 0 0 20) (va_cpy e5 f5 0 0 20) mb, hW q u0 u1 u2 u3 (va_cpy k1 g1 0 0 8) (va_cpy k2 g2 0 0 8) (va_cpy k3 g3 0 0 8) qs mo, slW q b0 ae, fiW q b1 fi]) (xp_idx (n := 13) [5, 6, 7, 10, 11, 12, 0, 1, 2, 3, 4, 8, 9] (by decide +kernel) rfl rfl) (c_X6_copy l D q v0 v1 y0 y1 y2 y3 i0 i1 i2 i3 i4 i5 s0 e1 e2 e3 e4 e5 k1 k2 k3 gc mb qs mo c0 c1 d0 d1 d2 d3 j0 j1 j2 j3 j4 j5 a0 a1 a2 a3 a4 a5 l1 l2 l3 ga (nI m) qa la ) (cwV 1 F.1.2.2.2.2 gX7_restore_X6_copy rfl rfl rfl (by decide +kernel) ⟨Nat.le_of_ble_eq_true rfl, Nat.le_of_ble_eq_true rfl⟩) rfl rfl (r0 := 0) (ci := 6) (T := TX6) (N := 4) rfl rfl hl.1 ⟨Nat.le_of_ble_eq_true rfl, Nat.le_of_ble_eq_true rfl⟩ (Nat.le_of_ble_eq_true rfl) dX7_restore_44 (fun g1 H locs hp X => ?_)
    subst hp
    have X := X.perm (gs' := [xoW q x0 v0 xa z0 b0 b1 xp xd xr, hiW q z0 z1 ad (nI ol9) (nI ln9), twW q t0 t1 h0 u0 (va_cpy s0 r0 0 0 4) gc, sW q h0 h1 h2 h3 h4 h5 (va_cpy e1 f1 0 0 20) (va_cpy e2 f2 0 0 20) (va_cpy e3 f3 0 0 20) (va_cpy e4 f4 0 0 20) (va_cpy e5 f5 0 0 20) mb, hW q u0 u1 u2 u3 (va_cpy k1 g1 0 0 8) (va_cpy k2 g2 0 0 8) (va_cpy k3 g3 0 0 8) qs mo, twW q v0 v1 i0 y0 (va_cpy a0 s0 0 0 4) ga, sW q i0 i1 i2 i3 i4 i5 (va_cpy a1 e1 0 0 20) (va_cpy a2 e2 0 0 20) (va_cpy a3 e3 0 0 20) (va_cpy a4 e4 0 0 20) (va_cpy a5 e5 0 0 20) (nI m), hW q y0 y1 y2 y3 (va_cpy l1 k1 0 0 8) (va_cpy l2 k2 0 0 8) (va_cpy l3 k3 0 0 8) qa la, slW q b0 ae, fiW q b1 fi, twW q c0 c1 j0 d0 a0 ga, sW q j0 j1 j2 j3 j4 j5 a1 a2 a3 a4 a5 (nI m), hW q d0 d1 d2 d3 l1 l2 l3 qa la]) (xp_idx (n := 13) [6, 7, 8, 9, 10, 0, 1, 2, 11, 12, 3, 4, 5] (by decide +kernel) rfl rfl)
    refine lv_aload_n hx hb dX7_restore_47 rfl (lv_at hl 0 rfl) ?_
    refine x_get F X (v := .ref v0) (C := RX7) (T := TX7) (N := 8) (ci := 7) in_X7 0 rfl rfl 0 (by decide) mw_3 rfl dX7_restore_48 ?_
    refine x_get F X (v := .ref i0) (C := RX6) (T := TX6) (N := 4) (ci := 6) in_X6 15 rfl rfl 1 (by decide) mw_7 rfl dX7_restore_51 ?_
    refine x_get F X (v := .int (nI m)) (C := RX5) (T := TX5) (N := 6) (ci := 5) in_X5 17 rfl rfl 5 (by decide) mw_8 rfl dX7_restore_54 ?_
    exact hret _ _ _ _ _ _ (by exact ⟨_, _, rfl, rfl, hke9⟩) X dX7_restore_57
  · refine lv_if_ne (tgt := 11) hx hb dX7_restore_5 (by decide) (fun h => absurd (by decide) h) (fun _ => ?_)
    exact absurd ⟨nI_pos (by omega), nI_lt (b := 2) hi (by omega)⟩ b_2

set_option maxHeartbeats 1000000 in
set_option maxRecDepth 100000 in
theorem c_X7_restoreN1 (l : Launch) (D : va_G) (q : xQ) (x0 : Nat) (xt : Nat) (xa : Nat) (xh : Nat) (xs : Nat) (xf : Nat) (xp : Nat) (xd : Nat) (xr : Nat) (v : Int32) (hv : ¬ (¬ v < 0 ∧ v < 2)) : xMi l yX7_restore wsX7_restore { frames := 5, cells := 0, slots := 0, locals := 124 } D q [.ref x0, .int v] [xoW q x0 xt xa xh xs xf xp xd xr] (fun r gw => gw = [xoW q x0 xt xa xh xs xf xp xd xr] ∧ r = -2) := by
  refine xMi_of (cc := cX7_restore) (maxL := 2) (rt := .int) (by decide) rfl (Nat.le_of_ble_eq_true rfl) (fun _ _ _ => rfl) ?_
  intro p9 e9 s9 m9 a9 below meth c9 A9 Z9 ls H locs F X hl hret
  have hx := F.1.1
  have hb := F.1.2.1
  have mw_0 : Cond.initialized RX7 ∈ wsX7_restore := by decide +kernel
  have hl : lv_has ls 2 [(0, .ref x0), (1, .int v)] := hl
  refine lv_iload_n hx hb dX7_restore_0 rfl (lv_at hl 1 rfl) ?_
  refine lv_iconst (v := 2) hx hb dX7_restore_1 (by decide) ?_
  refine x_cSi F X (gc := []) (gr := [xoW q x0 xt xa xh xs xf xp xd xr]) (xp_idx (n := 1) [0] (by decide +kernel) rfl rfl) (c_X7_isIndexOf l D q v 2 ) (va_cwS 2 F.1.2.2.2.2 gX7_restore_X7_isIndexOf rfl rfl rfl (by decide +kernel) ⟨Nat.le_of_ble_eq_true rfl, Nat.le_of_ble_eq_true rfl⟩) rfl rfl hl.1 ⟨Nat.le_of_ble_eq_true rfl, Nat.le_of_ble_eq_true rfl⟩ (Nat.le_of_ble_eq_true rfl) dX7_restore_2 (fun r_2 g1 H locs hp X => ?_)
  obtain ⟨rfl, hz⟩ := hp
  have X : xS D A9 s9 [xoW q x0 xt xa xh xs xf xp xd xr] H locs := X
  rcases hz with ⟨rfl, b_2⟩ | ⟨rfl, b_2⟩
  · refine lv_if_ne (tgt := 11) hx hb dX7_restore_5 (by decide) (fun _ => ?_) (fun h => absurd h (by decide))
    exact absurd b_2 hv
  · refine lv_if_ne (tgt := 11) hx hb dX7_restore_5 (by decide) (fun h => absurd (by decide) h) (fun _ => ?_)
    refine lv_bipush (v := (-2)) hx hb dX7_restore_8 (by decide) ?_
    exact hret _ _ _ _ _ _ (by exact ⟨rfl, rfl⟩) X dX7_restore_10

set_option maxHeartbeats 1000000 in
set_option maxRecDepth 100000 in
theorem c_X7_restoreN2 (l : Launch) (D : va_G) (q : xQ) (x0 : Nat) (xt : Nat) (xa : Nat) (xh : Nat) (xs : Nat) (xf : Nat) (xp : Nat) (xd : Nat) (xr : Nat) (i : Nat) (fi : Nat → Int32) (hi : i < 2) (hfi : fi i = 0) : xMi l yX7_restore wsX7_restore { frames := 5, cells := 0, slots := 0, locals := 124 } D q [.ref x0, .int (nI i)] [xoW q x0 xt xa xh xs xf xp xd xr, fiW q xf fi] (fun r gw => gw = [xoW q x0 xt xa xh xs xf xp xd xr, fiW q xf fi] ∧ r = -5) := by
  refine xMi_of (cc := cX7_restore) (maxL := 2) (rt := .int) (by decide) rfl (Nat.le_of_ble_eq_true rfl) (fun _ _ _ => rfl) ?_
  intro p9 e9 s9 m9 a9 below meth c9 A9 Z9 ls H locs F X hl hret
  have hx := F.1.1
  have hb := F.1.2.1
  have in_X7 : ∀ w ∈ wsX70, w ∈ wsX7_restore := by decide +kernel
  have mw_0 : Cond.initialized RX7 ∈ wsX7_restore := by decide +kernel
  have mw_1 : Cond.fieldLink RX7 34 "HatWinds" "filled" "[Z" ∈ wsX7_restore := by decide +kernel
  have hl : lv_has ls 2 [(0, .ref x0), (1, .int (nI i))] := hl
  refine lv_iload_n hx hb dX7_restore_0 rfl (lv_at hl 1 rfl) ?_
  refine lv_iconst (v := 2) hx hb dX7_restore_1 (by decide) ?_
  refine x_cSi F X (gc := []) (gr := [xoW q x0 xt xa xh xs xf xp xd xr, fiW q xf fi]) (xp_idx (n := 2) [0, 1] (by decide +kernel) rfl rfl) (c_X7_isIndexOf l D q (nI i) 2 ) (va_cwS 2 F.1.2.2.2.2 gX7_restore_X7_isIndexOf rfl rfl rfl (by decide +kernel) ⟨Nat.le_of_ble_eq_true rfl, Nat.le_of_ble_eq_true rfl⟩) rfl rfl hl.1 ⟨Nat.le_of_ble_eq_true rfl, Nat.le_of_ble_eq_true rfl⟩ (Nat.le_of_ble_eq_true rfl) dX7_restore_2 (fun r_2 g1 H locs hp X => ?_)
  obtain ⟨rfl, hz⟩ := hp
  have X : xS D A9 s9 [xoW q x0 xt xa xh xs xf xp xd xr, fiW q xf fi] H locs := X
  rcases hz with ⟨rfl, b_2⟩ | ⟨rfl, b_2⟩
  · refine lv_if_ne (tgt := 11) hx hb dX7_restore_5 (by decide) (fun _ => ?_) (fun h => absurd h (by decide))
    refine lv_aload_n hx hb dX7_restore_11 rfl (lv_at hl 0 rfl) ?_
    refine x_get F X (v := .ref xf) (C := RX7) (T := TX7) (N := 8) (ci := 7) in_X7 0 rfl rfl 4 (by decide) mw_1 rfl dX7_restore_12 ?_
    refine lv_iload_n hx hb dX7_restore_15 rfl (lv_at hl 1 rfl) ?_
    refine x_zald F X (v := (fi i)) (n := 2) (f := fi) 1 rfl (vp_in_nI (by omega) (by omega)) (x_cl (by omega)) dX7_restore_16 ?_
    refine lv_if_ne (tgt := 23) hx hb dX7_restore_17 (by decide) (fun c_17 => ?_) (fun c_17 => ?_)
    · exact absurd hfi c_17
    · refine lv_bipush (v := (-5)) hx hb dX7_restore_20 (by decide) ?_
      exact hret _ _ _ _ _ _ (by exact ⟨rfl, rfl⟩) X dX7_restore_22
  · refine lv_if_ne (tgt := 11) hx hb dX7_restore_5 (by decide) (fun h => absurd (by decide) h) (fun _ => ?_)
    exact absurd ⟨nI_pos (by omega), nI_lt (b := 2) hi (by omega)⟩ b_2

