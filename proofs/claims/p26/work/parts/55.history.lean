set_option maxHeartbeats 1000000 in
set_option maxRecDepth 100000 in
theorem c_X1_keep (l : Launch) (D : va_G) (q : xQ) (z0 : Nat) (z1 : Nat) (o : Nat) (n : Nat) (z : Nat) (ad : Nat → Option Nat) (t0 : Nat) (t1 : Nat) (u0 : Nat) (u1 : Nat) (u2 : Nat) (u3 : Nat) (h0 : Nat) (h1 : Nat) (h2 : Nat) (h3 : Nat) (h4 : Nat) (h5 : Nat) (r0 : Nat → Int32) (f1 : Nat → Int32) (f2 : Nat → Int32) (f3 : Nat → Int32) (f4 : Nat → Int32) (f5 : Nat → Int32) (g1 : Nat → Int32) (g2 : Nat → Int32) (g3 : Nat → Int32) (fc : Int32) (nb : Int32) (ps : Int32) (lo : Int32) (v0 : Nat) (v1 : Nat) (y0 : Nat) (y1 : Nat) (y2 : Nat) (y3 : Nat) (i0 : Nat) (i1 : Nat) (i2 : Nat) (i3 : Nat) (i4 : Nat) (i5 : Nat) (s0 : Nat → Int32) (e1 : Nat → Int32) (e2 : Nat → Int32) (e3 : Nat → Int32) (e4 : Nat → Int32) (e5 : Nat → Int32) (k1 : Nat → Int32) (k2 : Nat → Int32) (k3 : Nat → Int32) (gc : Int32) (mb : Int32) (qs : Int32) (mo : Int32) (ho : o < 6) (hn6 : n ≤ 6) (hz : z = (o + n) % 6) (had : ad z = some t0) : xMv l yX1_keep wsX1_keep { frames := 4, cells := 0, slots := 0, locals := 103 } D q [.ref z0, .ref v0] [hiW q z0 z1 ad (nI o) (nI n), twW q t0 t1 h0 u0 r0 fc, sW q h0 h1 h2 h3 h4 h5 f1 f2 f3 f4 f5 nb, hW q u0 u1 u2 u3 g1 g2 g3 ps lo, twW q v0 v1 i0 y0 s0 gc, sW q i0 i1 i2 i3 i4 i5 e1 e2 e3 e4 e5 mb, hW q y0 y1 y2 y3 k1 k2 k3 qs mo] (fun gw => ∃ (ol2 : Nat), ∃ (ln2 : Nat), gw = [hiW q z0 z1 ad (nI ol2) (nI ln2), twW q t0 t1 h0 u0 (va_cpy s0 r0 0 0 4) gc, sW q h0 h1 h2 h3 h4 h5 (va_cpy e1 f1 0 0 20) (va_cpy e2 f2 0 0 20) (va_cpy e3 f3 0 0 20) (va_cpy e4 f4 0 0 20) (va_cpy e5 f5 0 0 20) mb, hW q u0 u1 u2 u3 (va_cpy k1 g1 0 0 8) (va_cpy k2 g2 0 0 8) (va_cpy k3 g3 0 0 8) qs mo, twW q v0 v1 i0 y0 s0 gc, sW q i0 i1 i2 i3 i4 i5 e1 e2 e3 e4 e5 mb, hW q y0 y1 y2 y3 k1 k2 k3 qs mo] ∧ (ln2 = min (n + 1) 6 ∧ ol2 = if n = 6 then (o + 1) % 6 else o)) := by
  refine xMv_of (cc := cX1_keep) (maxL := 2) (by decide) rfl (Nat.le_of_ble_eq_true rfl) ?_
  intro p9 e9 s9 m9 a9 below meth c9 A9 Z9 ls H locs F hini X hl hret
  have hx := F.1.1
  have hb := F.1.2.1
  have in_X1 : ∀ w ∈ wsX10, w ∈ wsX1_keep := by decide +kernel
  have mw_0 : Cond.fieldLink RX1 21 "HatWinds$History" "length" "I" ∈ wsX1_keep := by decide +kernel
  have mw_1 : Cond.fieldLink RX1 11 "HatWinds$History" "states" "[LHatWinds$Town;" ∈ wsX1_keep := by decide +kernel
  have mw_2 : Cond.fieldLink RX1 17 "HatWinds$History" "oldest" "I" ∈ wsX1_keep := by decide +kernel
  have mw_3 : Cond.initialized RX6 ∈ wsX1_keep := by decide +kernel
  have hl : lv_has ls 2 [(0, .ref z0), (1, .ref v0)] := hl
  refine lv_aload_n hx hb dX1_keep_0 rfl (lv_at hl 0 rfl) ?_
  refine x_get F X (v := .int (nI n)) (C := RX1) (T := TX1) (N := 3) (ci := 1) in_X1 0 rfl rfl 2 (by decide) mw_0 rfl dX1_keep_1 ?_
  refine lv_bipush (v := 6) hx hb dX1_keep_4 (by decide) ?_
  refine lv_icmp_ne (tgt := 32) hx hb dX1_keep_6 (by decide) (fun c_6 => ?_) (fun c_6 => ?_)
  · have c_6 : ¬ (n = 6) := fun h => c_6 ((nI_eq (a := n) (b := 6) (by omega) (by omega)).mpr h)
    refine lv_aload_n hx hb dX1_keep_32 rfl (lv_at hl 0 rfl) ?_
    refine x_get F X (v := .ref z1) (C := RX1) (T := TX1) (N := 3) (ci := 1) in_X1 0 rfl rfl 0 (by decide) mw_1 rfl dX1_keep_33 ?_
    refine lv_aload_n hx hb dX1_keep_36 rfl (lv_at hl 0 rfl) ?_
    refine x_get F X (v := .int (nI o)) (C := RX1) (T := TX1) (N := 3) (ci := 1) in_X1 0 rfl rfl 1 (by decide) mw_2 rfl dX1_keep_37 ?_
    refine lv_aload_n hx hb dX1_keep_40 rfl (lv_at hl 0 rfl) ?_
    refine x_get F X (v := .int (nI n)) (C := RX1) (T := TX1) (N := 3) (ci := 1) in_X1 0 rfl rfl 2 (by decide) mw_0 rfl dX1_keep_41 ?_
    refine lv_iadd hx hb dX1_keep_44 ?_
    refine x_i (y := (nI (o + n))) (nI_add o n) ?_
    refine lv_bipush (v := 6) hx hb dX1_keep_45 (by decide) ?_
    refine lv_irem hx hb dX1_keep_47 (by decide) ?_
    refine x_i (y := (nI ((o + n) % 6))) (pk_rem (a := (o + n)) (d := 6) (by omega) (by omega) (by omega)) ?_
    refine x_aald F X (v := t0) (n := 6) (f := ad) 1 rfl (vp_in_nI (by omega) (by omega)) (by exact (congrArg ad ((nI_clamp (by omega)).trans (show _ = z by omega))).trans had) dX1_keep_48 ?_
    refine lv_aload_n hx hb dX1_keep_49 rfl (lv_at hl 1 rfl) ?_
    refine x_cVv F X (gc := [twW q t0 t1 h0 u0 r0 fc, sW q h0 h1 h2 h3 h4 h5 f1 f2 f3 f4 f5 nb, hW q u0 u1 u2 u3 g1 g2 g3 ps lo, twW q v0 v1 i0 y0 s0 gc, sW q i0 i1 i2 i3 i4 i5 e1 e2 e3 e4 e5 mb, hW q y0 y1 y2 y3 k1 k2 k3 qs mo]) (gr := [hiW q z0 z1 ad (nI o) (nI n)]) (xp_idx (n := 7) [1, 2, 3, 4, 5, 6, 0] (by decide +kernel) rfl rfl) (c_X6_copy l D q t0 t1 u0 u1 u2 u3 h0 h1 h2 h3 h4 h5 r0 f1 f2 f3 f4 f5 g1 g2 g3 fc nb ps lo v0 v1 y0 y1 y2 y3 i0 i1 i2 i3 i4 i5 s0 e1 e2 e3 e4 e5 k1 k2 k3 gc mb qs mo ) (cwV 1 F.1.2.2.2.2 gX1_keep_X6_copy rfl rfl rfl (by decide +kernel) ⟨Nat.le_of_ble_eq_true rfl, Nat.le_of_ble_eq_true rfl⟩) rfl rfl (r0 := 0) (ci := 6) (T := TX6) (N := 4) rfl rfl hl.1 ⟨Nat.le_of_ble_eq_true rfl, Nat.le_of_ble_eq_true rfl⟩ (Nat.le_of_ble_eq_true rfl) dX1_keep_50 (fun g1 H locs hp X => ?_)
    subst hp
    have X := X.perm (gs' := [hiW q z0 z1 ad (nI o) (nI n), twW q t0 t1 h0 u0 (va_cpy s0 r0 0 0 4) gc, sW q h0 h1 h2 h3 h4 h5 (va_cpy e1 f1 0 0 20) (va_cpy e2 f2 0 0 20) (va_cpy e3 f3 0 0 20) (va_cpy e4 f4 0 0 20) (va_cpy e5 f5 0 0 20) mb, hW q u0 u1 u2 u3 (va_cpy k1 g1 0 0 8) (va_cpy k2 g2 0 0 8) (va_cpy k3 g3 0 0 8) qs mo, twW q v0 v1 i0 y0 s0 gc, sW q i0 i1 i2 i3 i4 i5 e1 e2 e3 e4 e5 mb, hW q y0 y1 y2 y3 k1 k2 k3 qs mo]) (xp_idx (n := 7) [6, 0, 1, 2, 3, 4, 5] (by decide +kernel) rfl rfl)
    refine lv_aload_n hx hb dX1_keep_53 rfl (lv_at hl 0 rfl) ?_
    refine lv_dup hx hb dX1_keep_54 rfl ?_
    refine x_get F X (v := .int (nI n)) (C := RX1) (T := TX1) (N := 3) (ci := 1) in_X1 0 rfl rfl 2 (by decide) mw_0 rfl dX1_keep_55 ?_
    refine lv_iconst (v := 1) hx hb dX1_keep_58 (by decide) ?_
    refine lv_iadd hx hb dX1_keep_59 ?_
    refine x_i (y := (nI (n + 1))) (nI_add n 1) ?_
    refine x_put F X (gs' := [hiW q z0 z1 ad (nI o) (nI (n + 1)), twW q t0 t1 h0 u0 (va_cpy s0 r0 0 0 4) gc, sW q h0 h1 h2 h3 h4 h5 (va_cpy e1 f1 0 0 20) (va_cpy e2 f2 0 0 20) (va_cpy e3 f3 0 0 20) (va_cpy e4 f4 0 0 20) (va_cpy e5 f5 0 0 20) mb, hW q u0 u1 u2 u3 (va_cpy k1 g1 0 0 8) (va_cpy k2 g2 0 0 8) (va_cpy k3 g3 0 0 8) qs mo, twW q v0 v1 i0 y0 s0 gc, sW q i0 i1 i2 i3 i4 i5 e1 e2 e3 e4 e5 mb, hW q y0 y1 y2 y3 k1 k2 k3 qs mo]) (v := .int (nI (n + 1))) (C := RX1) (T := TX1) (N := 3) (ci := 1) in_X1 tyX1 tyX1_ok nmX1 0 rfl rfl 2 (by decide) mw_0 rfl rfl rfl (Nat.le_of_ble_eq_true rfl) dX1_keep_60 rfl (fun H locs X => ?_)
    exact hret _ _ _ _ _ (by exact ⟨_, _, rfl, by omega, (if_neg (by omega)).symm⟩) X dX1_keep_63
  · have c_6 : n = 6 := (nI_eq (a := n) (b := 6) (by omega) (by omega)).mp c_6
    refine lv_aload_n hx hb dX1_keep_9 rfl (lv_at hl 0 rfl) ?_
    refine lv_aload_n hx hb dX1_keep_10 rfl (lv_at hl 0 rfl) ?_
    refine x_get F X (v := .int (nI o)) (C := RX1) (T := TX1) (N := 3) (ci := 1) in_X1 0 rfl rfl 1 (by decide) mw_2 rfl dX1_keep_11 ?_
    refine lv_iconst (v := 1) hx hb dX1_keep_14 (by decide) ?_
    refine lv_iadd hx hb dX1_keep_15 ?_
    refine x_i (y := (nI (o + 1))) (nI_add o 1) ?_
    refine lv_bipush (v := 6) hx hb dX1_keep_16 (by decide) ?_
    refine lv_irem hx hb dX1_keep_18 (by decide) ?_
    refine x_i (y := (nI ((o + 1) % 6))) (pk_rem (a := (o + 1)) (d := 6) (by omega) (by omega) (by omega)) ?_
    refine x_put F X (gs' := [hiW q z0 z1 ad (nI ((o + 1) % 6)) (nI n), twW q t0 t1 h0 u0 r0 fc, sW q h0 h1 h2 h3 h4 h5 f1 f2 f3 f4 f5 nb, hW q u0 u1 u2 u3 g1 g2 g3 ps lo, twW q v0 v1 i0 y0 s0 gc, sW q i0 i1 i2 i3 i4 i5 e1 e2 e3 e4 e5 mb, hW q y0 y1 y2 y3 k1 k2 k3 qs mo]) (v := .int (nI ((o + 1) % 6))) (C := RX1) (T := TX1) (N := 3) (ci := 1) in_X1 tyX1 tyX1_ok nmX1 0 rfl rfl 1 (by decide) mw_2 rfl rfl rfl (Nat.le_of_ble_eq_true rfl) dX1_keep_19 rfl (fun H locs X => ?_)
    refine lv_aload_n hx hb dX1_keep_22 rfl (lv_at hl 0 rfl) ?_
    refine lv_dup hx hb dX1_keep_23 rfl ?_
    refine x_get F X (v := .int (nI n)) (C := RX1) (T := TX1) (N := 3) (ci := 1) in_X1 0 rfl rfl 2 (by decide) mw_0 rfl dX1_keep_24 ?_
    refine lv_iconst (v := 1) hx hb dX1_keep_27 (by decide) ?_
    refine lv_isub hx hb dX1_keep_28 ?_
    refine x_i (y := (nI (n - 1))) (pk_sub (a := n) (b := 1) (by omega)) ?_
    refine x_put F X (gs' := [hiW q z0 z1 ad (nI ((o + 1) % 6)) (nI (n - 1)), twW q t0 t1 h0 u0 r0 fc, sW q h0 h1 h2 h3 h4 h5 f1 f2 f3 f4 f5 nb, hW q u0 u1 u2 u3 g1 g2 g3 ps lo, twW q v0 v1 i0 y0 s0 gc, sW q i0 i1 i2 i3 i4 i5 e1 e2 e3 e4 e5 mb, hW q y0 y1 y2 y3 k1 k2 k3 qs mo]) (v := .int (nI (n - 1))) (C := RX1) (T := TX1) (N := 3) (ci := 1) in_X1 tyX1 tyX1_ok nmX1 0 rfl rfl 2 (by decide) mw_0 rfl rfl rfl (Nat.le_of_ble_eq_true rfl) dX1_keep_29 rfl (fun H locs X => ?_)
    refine lv_aload_n hx hb dX1_keep_32 rfl (lv_at hl 0 rfl) ?_
    refine x_get F X (v := .ref z1) (C := RX1) (T := TX1) (N := 3) (ci := 1) in_X1 0 rfl rfl 0 (by decide) mw_1 rfl dX1_keep_33 ?_
    refine lv_aload_n hx hb dX1_keep_36 rfl (lv_at hl 0 rfl) ?_
    refine x_get F X (v := .int (nI ((o + 1) % 6))) (C := RX1) (T := TX1) (N := 3) (ci := 1) in_X1 0 rfl rfl 1 (by decide) mw_2 rfl dX1_keep_37 ?_
    refine lv_aload_n hx hb dX1_keep_40 rfl (lv_at hl 0 rfl) ?_
    refine x_get F X (v := .int (nI (n - 1))) (C := RX1) (T := TX1) (N := 3) (ci := 1) in_X1 0 rfl rfl 2 (by decide) mw_0 rfl dX1_keep_41 ?_
    refine lv_iadd hx hb dX1_keep_44 ?_
    refine x_i (y := (nI ((o + 1) % 6 + (n - 1)))) (nI_add ((o + 1) % 6) (n - 1)) ?_
    refine lv_bipush (v := 6) hx hb dX1_keep_45 (by decide) ?_
    refine lv_irem hx hb dX1_keep_47 (by decide) ?_
    refine x_i (y := (nI (((o + 1) % 6 + (n - 1)) % 6))) (pk_rem (a := ((o + 1) % 6 + (n - 1))) (d := 6) (by omega) (by omega) (by omega)) ?_
    refine x_aald F X (v := t0) (n := 6) (f := ad) 1 rfl (vp_in_nI (by omega) (by omega)) (by exact (congrArg ad ((nI_clamp (by omega)).trans (show _ = z by omega))).trans had) dX1_keep_48 ?_
    refine lv_aload_n hx hb dX1_keep_49 rfl (lv_at hl 1 rfl) ?_
    refine x_cVv F X (gc := [twW q t0 t1 h0 u0 r0 fc, sW q h0 h1 h2 h3 h4 h5 f1 f2 f3 f4 f5 nb, hW q u0 u1 u2 u3 g1 g2 g3 ps lo, twW q v0 v1 i0 y0 s0 gc, sW q i0 i1 i2 i3 i4 i5 e1 e2 e3 e4 e5 mb, hW q y0 y1 y2 y3 k1 k2 k3 qs mo]) (gr := [hiW q z0 z1 ad (nI ((o + 1) % 6)) (nI (n - 1))]) (xp_idx (n := 7) [1, 2, 3, 4, 5, 6, 0] (by decide +kernel) rfl rfl) (c_X6_copy l D q t0 t1 u0 u1 u2 u3 h0 h1 h2 h3 h4 h5 r0 f1 f2 f3 f4 f5 g1 g2 g3 fc nb ps lo v0 v1 y0 y1 y2 y3 i0 i1 i2 i3 i4 i5 s0 e1 e2 e3 e4 e5 k1 k2 k3 gc mb qs mo ) (cwV 1 F.1.2.2.2.2 gX1_keep_X6_copy rfl rfl rfl (by decide +kernel) ⟨Nat.le_of_ble_eq_true rfl, Nat.le_of_ble_eq_true rfl⟩) rfl rfl (r0 := 0) (ci := 6) (T := TX6) (N := 4) rfl rfl hl.1 ⟨Nat.le_of_ble_eq_true rfl, Nat.le_of_ble_eq_true rfl⟩ (Nat.le_of_ble_eq_true rfl) dX1_keep_50 (fun g1 H locs hp X => ?_)
    subst hp
    have X := X.perm (gs' := [hiW q z0 z1 ad (nI ((o + 1) % 6)) (nI (n - 1)), twW q t0 t1 h0 u0 (va_cpy s0 r0 0 0 4) gc, sW q h0 h1 h2 h3 h4 h5 (va_cpy e1 f1 0 0 20) (va_cpy e2 f2 0 0 20) (va_cpy e3 f3 0 0 20) (va_cpy e4 f4 0 0 20) (va_cpy e5 f5 0 0 20) mb, hW q u0 u1 u2 u3 (va_cpy k1 g1 0 0 8) (va_cpy k2 g2 0 0 8) (va_cpy k3 g3 0 0 8) qs mo, twW q v0 v1 i0 y0 s0 gc, sW q i0 i1 i2 i3 i4 i5 e1 e2 e3 e4 e5 mb, hW q y0 y1 y2 y3 k1 k2 k3 qs mo]) (xp_idx (n := 7) [6, 0, 1, 2, 3, 4, 5] (by decide +kernel) rfl rfl)
    refine lv_aload_n hx hb dX1_keep_53 rfl (lv_at hl 0 rfl) ?_
    refine lv_dup hx hb dX1_keep_54 rfl ?_
    refine x_get F X (v := .int (nI (n - 1))) (C := RX1) (T := TX1) (N := 3) (ci := 1) in_X1 0 rfl rfl 2 (by decide) mw_0 rfl dX1_keep_55 ?_
    refine lv_iconst (v := 1) hx hb dX1_keep_58 (by decide) ?_
    refine lv_iadd hx hb dX1_keep_59 ?_
    refine x_i (y := (nI (n - 1 + 1))) (nI_add (n - 1) 1) ?_
    refine x_put F X (gs' := [hiW q z0 z1 ad (nI ((o + 1) % 6)) (nI (n - 1 + 1)), twW q t0 t1 h0 u0 (va_cpy s0 r0 0 0 4) gc, sW q h0 h1 h2 h3 h4 h5 (va_cpy e1 f1 0 0 20) (va_cpy e2 f2 0 0 20) (va_cpy e3 f3 0 0 20) (va_cpy e4 f4 0 0 20) (va_cpy e5 f5 0 0 20) mb, hW q u0 u1 u2 u3 (va_cpy k1 g1 0 0 8) (va_cpy k2 g2 0 0 8) (va_cpy k3 g3 0 0 8) qs mo, twW q v0 v1 i0 y0 s0 gc, sW q i0 i1 i2 i3 i4 i5 e1 e2 e3 e4 e5 mb, hW q y0 y1 y2 y3 k1 k2 k3 qs mo]) (v := .int (nI (n - 1 + 1))) (C := RX1) (T := TX1) (N := 3) (ci := 1) in_X1 tyX1 tyX1_ok nmX1 0 rfl rfl 2 (by decide) mw_0 rfl rfl rfl (Nat.le_of_ble_eq_true rfl) dX1_keep_60 rfl (fun H locs X => ?_)
    exact hret _ _ _ _ _ (by exact ⟨_, _, rfl, by omega, (if_pos (by omega)).symm⟩) X dX1_keep_63

set_option maxHeartbeats 1000000 in
set_option maxRecDepth 100000 in
theorem c_X1_takeBack (l : Launch) (D : va_G) (q : xQ) (z0 : Nat) (z1 : Nat) (o : Nat) (n : Nat) (z : Nat) (ad : Nat → Option Nat) (t0 : Nat) (t1 : Nat) (u0 : Nat) (u1 : Nat) (u2 : Nat) (u3 : Nat) (h0 : Nat) (h1 : Nat) (h2 : Nat) (h3 : Nat) (h4 : Nat) (h5 : Nat) (r0 : Nat → Int32) (f1 : Nat → Int32) (f2 : Nat → Int32) (f3 : Nat → Int32) (f4 : Nat → Int32) (f5 : Nat → Int32) (g1 : Nat → Int32) (g2 : Nat → Int32) (g3 : Nat → Int32) (fc : Int32) (nb : Int32) (ps : Int32) (lo : Int32) (v0 : Nat) (v1 : Nat) (y0 : Nat) (y1 : Nat) (y2 : Nat) (y3 : Nat) (i0 : Nat) (i1 : Nat) (i2 : Nat) (i3 : Nat) (i4 : Nat) (i5 : Nat) (s0 : Nat → Int32) (e1 : Nat → Int32) (e2 : Nat → Int32) (e3 : Nat → Int32) (e4 : Nat → Int32) (e5 : Nat → Int32) (k1 : Nat → Int32) (k2 : Nat → Int32) (k3 : Nat → Int32) (gc : Int32) (mb : Int32) (qs : Int32) (mo : Int32) (ho : o < 6) (hn6 : n ≤ 6) (hn1 : 1 ≤ n) (hz : z = (o + (n - 1)) % 6) (had : ad z = some v0) : xMv l yX1_takeBack wsX1_takeBack { frames := 4, cells := 0, slots := 0, locals := 103 } D q [.ref z0, .ref t0] [hiW q z0 z1 ad (nI o) (nI n), twW q t0 t1 h0 u0 r0 fc, sW q h0 h1 h2 h3 h4 h5 f1 f2 f3 f4 f5 nb, hW q u0 u1 u2 u3 g1 g2 g3 ps lo, twW q v0 v1 i0 y0 s0 gc, sW q i0 i1 i2 i3 i4 i5 e1 e2 e3 e4 e5 mb, hW q y0 y1 y2 y3 k1 k2 k3 qs mo] (fun gw => gw = [hiW q z0 z1 ad (nI o) (nI (n - 1)), twW q t0 t1 h0 u0 (va_cpy s0 r0 0 0 4) gc, sW q h0 h1 h2 h3 h4 h5 (va_cpy e1 f1 0 0 20) (va_cpy e2 f2 0 0 20) (va_cpy e3 f3 0 0 20) (va_cpy e4 f4 0 0 20) (va_cpy e5 f5 0 0 20) mb, hW q u0 u1 u2 u3 (va_cpy k1 g1 0 0 8) (va_cpy k2 g2 0 0 8) (va_cpy k3 g3 0 0 8) qs mo, twW q v0 v1 i0 y0 s0 gc, sW q i0 i1 i2 i3 i4 i5 e1 e2 e3 e4 e5 mb, hW q y0 y1 y2 y3 k1 k2 k3 qs mo]) := by
  refine xMv_of (cc := cX1_takeBack) (maxL := 2) (by decide) rfl (Nat.le_of_ble_eq_true rfl) ?_
  intro p9 e9 s9 m9 a9 below meth c9 A9 Z9 ls H locs F hini X hl hret
  have hx := F.1.1
  have hb := F.1.2.1
  have in_X1 : ∀ w ∈ wsX10, w ∈ wsX1_takeBack := by decide +kernel
  have mw_0 : Cond.fieldLink RX1 21 "HatWinds$History" "length" "I" ∈ wsX1_takeBack := by decide +kernel
  have mw_1 : Cond.fieldLink RX1 11 "HatWinds$History" "states" "[LHatWinds$Town;" ∈ wsX1_takeBack := by decide +kernel
  have mw_2 : Cond.fieldLink RX1 17 "HatWinds$History" "oldest" "I" ∈ wsX1_takeBack := by decide +kernel
  have mw_3 : Cond.initialized RX6 ∈ wsX1_takeBack := by decide +kernel
  have hl : lv_has ls 2 [(0, .ref z0), (1, .ref t0)] := hl
  refine lv_aload_n hx hb dX1_takeBack_0 rfl (lv_at hl 0 rfl) ?_
  refine x_get F X (v := .int (nI n)) (C := RX1) (T := TX1) (N := 3) (ci := 1) in_X1 0 rfl rfl 2 (by decide) mw_0 rfl dX1_takeBack_1 ?_
  refine lv_if_le (tgt := 38) hx hb dX1_takeBack_4 (by decide) (fun c_4 => ?_) (fun c_4 => ?_)
  · exfalso
    have c_4 : n ≤ 0 := (nI_leI (a := n) (b := 0) (by omega) (by omega)).mp c_4
    omega
  have c_4 : 0 < n := Nat.not_le.mp (fun h => c_4 ((nI_leI (a := n) (b := 0) (by omega) (by omega)).mpr h))
  refine lv_aload_n hx hb dX1_takeBack_7 rfl (lv_at hl 0 rfl) ?_
  refine lv_dup hx hb dX1_takeBack_8 rfl ?_
  refine x_get F X (v := .int (nI n)) (C := RX1) (T := TX1) (N := 3) (ci := 1) in_X1 0 rfl rfl 2 (by decide) mw_0 rfl dX1_takeBack_9 ?_
  refine lv_iconst (v := 1) hx hb dX1_takeBack_12 (by decide) ?_
  refine lv_isub hx hb dX1_takeBack_13 ?_
  refine x_i (y := (nI (n - 1))) (pk_sub (a := n) (b := 1) (by omega)) ?_
  refine x_put F X (gs' := [hiW q z0 z1 ad (nI o) (nI (n - 1)), twW q t0 t1 h0 u0 r0 fc, sW q h0 h1 h2 h3 h4 h5 f1 f2 f3 f4 f5 nb, hW q u0 u1 u2 u3 g1 g2 g3 ps lo, twW q v0 v1 i0 y0 s0 gc, sW q i0 i1 i2 i3 i4 i5 e1 e2 e3 e4 e5 mb, hW q y0 y1 y2 y3 k1 k2 k3 qs mo]) (v := .int (nI (n - 1))) (C := RX1) (T := TX1) (N := 3) (ci := 1) in_X1 tyX1 tyX1_ok nmX1 0 rfl rfl 2 (by decide) mw_0 rfl rfl rfl (Nat.le_of_ble_eq_true rfl) dX1_takeBack_14 rfl (fun H locs X => ?_)
  refine lv_aload_n hx hb dX1_takeBack_17 rfl (lv_at hl 1 rfl) ?_
  refine lv_aload_n hx hb dX1_takeBack_18 rfl (lv_at hl 0 rfl) ?_
  refine x_get F X (v := .ref z1) (C := RX1) (T := TX1) (N := 3) (ci := 1) in_X1 0 rfl rfl 0 (by decide) mw_1 rfl dX1_takeBack_19 ?_
  refine lv_aload_n hx hb dX1_takeBack_22 rfl (lv_at hl 0 rfl) ?_
  refine x_get F X (v := .int (nI o)) (C := RX1) (T := TX1) (N := 3) (ci := 1) in_X1 0 rfl rfl 1 (by decide) mw_2 rfl dX1_takeBack_23 ?_
  refine lv_aload_n hx hb dX1_takeBack_26 rfl (lv_at hl 0 rfl) ?_
  refine x_get F X (v := .int (nI (n - 1))) (C := RX1) (T := TX1) (N := 3) (ci := 1) in_X1 0 rfl rfl 2 (by decide) mw_0 rfl dX1_takeBack_27 ?_
  refine lv_iadd hx hb dX1_takeBack_30 ?_
  refine x_i (y := (nI (o + (n - 1)))) (nI_add o (n - 1)) ?_
  refine lv_bipush (v := 6) hx hb dX1_takeBack_31 (by decide) ?_
  refine lv_irem hx hb dX1_takeBack_33 (by decide) ?_
  refine x_i (y := (nI ((o + (n - 1)) % 6))) (pk_rem (a := (o + (n - 1))) (d := 6) (by omega) (by omega) (by omega)) ?_
  refine x_aald F X (v := v0) (n := 6) (f := ad) 1 rfl (vp_in_nI (by omega) (by omega)) (by exact (congrArg ad ((nI_clamp (by omega)).trans (show _ = z by omega))).trans had) dX1_takeBack_34 ?_
  refine x_cVv F X (gc := [twW q t0 t1 h0 u0 r0 fc, sW q h0 h1 h2 h3 h4 h5 f1 f2 f3 f4 f5 nb, hW q u0 u1 u2 u3 g1 g2 g3 ps lo, twW q v0 v1 i0 y0 s0 gc, sW q i0 i1 i2 i3 i4 i5 e1 e2 e3 e4 e5 mb, hW q y0 y1 y2 y3 k1 k2 k3 qs mo]) (gr := [hiW q z0 z1 ad (nI o) (nI (n - 1))]) (xp_idx (n := 7) [1, 2, 3, 4, 5, 6, 0] (by decide +kernel) rfl rfl) (c_X6_copy l D q t0 t1 u0 u1 u2 u3 h0 h1 h2 h3 h4 h5 r0 f1 f2 f3 f4 f5 g1 g2 g3 fc nb ps lo v0 v1 y0 y1 y2 y3 i0 i1 i2 i3 i4 i5 s0 e1 e2 e3 e4 e5 k1 k2 k3 gc mb qs mo ) (cwV 1 F.1.2.2.2.2 gX1_takeBack_X6_copy rfl rfl rfl (by decide +kernel) ⟨Nat.le_of_ble_eq_true rfl, Nat.le_of_ble_eq_true rfl⟩) rfl rfl (r0 := 0) (ci := 6) (T := TX6) (N := 4) rfl rfl hl.1 ⟨Nat.le_of_ble_eq_true rfl, Nat.le_of_ble_eq_true rfl⟩ (Nat.le_of_ble_eq_true rfl) dX1_takeBack_35 (fun g1 H locs hp X => ?_)
  subst hp
  have X := X.perm (gs' := [hiW q z0 z1 ad (nI o) (nI (n - 1)), twW q t0 t1 h0 u0 (va_cpy s0 r0 0 0 4) gc, sW q h0 h1 h2 h3 h4 h5 (va_cpy e1 f1 0 0 20) (va_cpy e2 f2 0 0 20) (va_cpy e3 f3 0 0 20) (va_cpy e4 f4 0 0 20) (va_cpy e5 f5 0 0 20) mb, hW q u0 u1 u2 u3 (va_cpy k1 g1 0 0 8) (va_cpy k2 g2 0 0 8) (va_cpy k3 g3 0 0 8) qs mo, twW q v0 v1 i0 y0 s0 gc, sW q i0 i1 i2 i3 i4 i5 e1 e2 e3 e4 e5 mb, hW q y0 y1 y2 y3 k1 k2 k3 qs mo]) (xp_idx (n := 7) [6, 0, 1, 2, 3, 4, 5] (by decide +kernel) rfl rfl)
  exact hret _ _ _ _ _ (by exact rfl) X dX1_takeBack_38
