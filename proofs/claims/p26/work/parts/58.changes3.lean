

set_option maxHeartbeats 1000000 in
set_option maxRecDepth 100000 in
theorem c_X7_undoN (l : Launch) (D : va_G) (q : xQ) (x0 : Nat) (xt : Nat) (xa : Nat) (xh : Nat) (xs : Nat) (xf : Nat) (xp : Nat) (xd : Nat) (xr : Nat) (h1 : Nat) (ad : Nat → Option Nat) (ol : Int32) : xMi l yX7_undo wsX7_undo { frames := 5, cells := 0, slots := 0, locals := 124 } D q [.ref x0] [xoW q x0 xt xa xh xs xf xp xd xr, hiW q xh h1 ad ol 0] (fun r gw => gw = [xoW q x0 xt xa xh xs xf xp xd xr, hiW q xh h1 ad ol 0] ∧ r = -5) := by
  refine xMi_of (cc := cX7_undo) (maxL := 1) (rt := .int) (by decide) rfl (Nat.le_of_ble_eq_true rfl) (fun _ _ _ => rfl) ?_
  intro p9 e9 s9 m9 a9 below meth c9 A9 Z9 ls H locs F X hl hret
  have hx := F.1.1
  have hb := F.1.2.1
  have in_X7 : ∀ w ∈ wsX70, w ∈ wsX7_undo := by decide +kernel
  have in_X1 : ∀ w ∈ wsX10, w ∈ wsX7_undo := by decide +kernel
  have mw_0 : Cond.fieldLink RX7 26 "HatWinds" "history" "LHatWinds$History;" ∈ wsX7_undo := by decide +kernel
  have mw_1 : Cond.fieldLink RX7 237 "HatWinds$History" "length" "I" ∈ wsX7_undo := by decide +kernel
  have hl : lv_has ls 1 [(0, .ref x0)] := hl
  refine lv_aload_n hx hb dX7_undo_0 rfl (lv_at hl 0 rfl) ?_
  refine x_get F X (v := .ref xh) (C := RX7) (T := TX7) (N := 8) (ci := 7) in_X7 0 rfl rfl 2 (by decide) mw_0 rfl dX7_undo_1 ?_
  refine x_get F X (v := .int 0) (C := RX1) (T := TX1) (N := 3) (ci := 1) in_X1 1 rfl rfl 2 (by decide) mw_1 rfl dX7_undo_4 ?_
  refine lv_if_ne (tgt := 13) hx hb dX7_undo_7 (by decide) (fun h => absurd (by decide) h) (fun _ => ?_)
  refine lv_bipush (v := (-5)) hx hb dX7_undo_10 (by decide) ?_
  exact hret _ _ _ _ _ _ (by exact ⟨rfl, rfl⟩) X dX7_undo_12

set_option maxHeartbeats 1000000 in
set_option maxRecDepth 100000 in
theorem c_X7_undoY (l : Launch) (D : va_G) (q : xQ) (x0 : Nat) (xa : Nat) (xs : Nat) (xf : Nat) (xp : Nat) (xd : Nat) (xr : Nat) (z0 : Nat) (z1 : Nat) (o : Nat) (n : Nat) (z : Nat) (ad : Nat → Option Nat) (t0 : Nat) (t1 : Nat) (u0 : Nat) (u1 : Nat) (u2 : Nat) (u3 : Nat) (h0 : Nat) (h1 : Nat) (h2 : Nat) (h3 : Nat) (h4 : Nat) (h5 : Nat) (r0 : Nat → Int32) (f1 : Nat → Int32) (f2 : Nat → Int32) (f3 : Nat → Int32) (f4 : Nat → Int32) (f5 : Nat → Int32) (g1 : Nat → Int32) (g2 : Nat → Int32) (g3 : Nat → Int32) (fc : Int32) (nb : Int32) (ps : Int32) (lo : Int32) (v0 : Nat) (v1 : Nat) (y0 : Nat) (y1 : Nat) (y2 : Nat) (y3 : Nat) (i0 : Nat) (i1 : Nat) (i2 : Nat) (i3 : Nat) (i4 : Nat) (i5 : Nat) (s0 : Nat → Int32) (e1 : Nat → Int32) (e2 : Nat → Int32) (e3 : Nat → Int32) (e4 : Nat → Int32) (e5 : Nat → Int32) (k1 : Nat → Int32) (k2 : Nat → Int32) (k3 : Nat → Int32) (gc : Int32) (mb : Int32) (qs : Int32) (mo : Int32) (ho : o < 6) (hn6 : n ≤ 6) (hn1 : 1 ≤ n) (hz : z = (o + (n - 1)) % 6) (had : ad z = some v0) : xMi l yX7_undo wsX7_undo { frames := 5, cells := 0, slots := 0, locals := 124 } D q [.ref x0] [xoW q x0 t0 xa z0 xs xf xp xd xr, hiW q z0 z1 ad (nI o) (nI n), twW q t0 t1 h0 u0 r0 fc, sW q h0 h1 h2 h3 h4 h5 f1 f2 f3 f4 f5 nb, hW q u0 u1 u2 u3 g1 g2 g3 ps lo, twW q v0 v1 i0 y0 s0 gc, sW q i0 i1 i2 i3 i4 i5 e1 e2 e3 e4 e5 mb, hW q y0 y1 y2 y3 k1 k2 k3 qs mo] (fun r gw => gw = [xoW q x0 t0 xa z0 xs xf xp xd xr, hiW q z0 z1 ad (nI o) (nI (n - 1)), twW q t0 t1 h0 u0 (va_cpy s0 r0 0 0 4) gc, sW q h0 h1 h2 h3 h4 h5 (va_cpy e1 f1 0 0 20) (va_cpy e2 f2 0 0 20) (va_cpy e3 f3 0 0 20) (va_cpy e4 f4 0 0 20) (va_cpy e5 f5 0 0 20) mb, hW q u0 u1 u2 u3 (va_cpy k1 g1 0 0 8) (va_cpy k2 g2 0 0 8) (va_cpy k3 g3 0 0 8) qs mo, twW q v0 v1 i0 y0 s0 gc, sW q i0 i1 i2 i3 i4 i5 e1 e2 e3 e4 e5 mb, hW q y0 y1 y2 y3 k1 k2 k3 qs mo] ∧ r = nI (n - 1)) := by
  refine xMi_of (cc := cX7_undo) (maxL := 1) (rt := .int) (by decide) rfl (Nat.le_of_ble_eq_true rfl) (fun _ _ _ => rfl) ?_
  intro p9 e9 s9 m9 a9 below meth c9 A9 Z9 ls H locs F X hl hret
  have hx := F.1.1
  have hb := F.1.2.1
  have in_X7 : ∀ w ∈ wsX70, w ∈ wsX7_undo := by decide +kernel
  have in_X1 : ∀ w ∈ wsX10, w ∈ wsX7_undo := by decide +kernel
  have mw_0 : Cond.fieldLink RX7 26 "HatWinds" "history" "LHatWinds$History;" ∈ wsX7_undo := by decide +kernel
  have mw_1 : Cond.fieldLink RX7 237 "HatWinds$History" "length" "I" ∈ wsX7_undo := by decide +kernel
  have mw_2 : Cond.fieldLink RX7 10 "HatWinds" "town" "LHatWinds$Town;" ∈ wsX7_undo := by decide +kernel
  have mw_3 : Cond.initialized RX1 ∈ wsX7_undo := by decide +kernel
  have hl : lv_has ls 1 [(0, .ref x0)] := hl
  refine lv_aload_n hx hb dX7_undo_0 rfl (lv_at hl 0 rfl) ?_
  refine x_get F X (v := .ref z0) (C := RX7) (T := TX7) (N := 8) (ci := 7) in_X7 0 rfl rfl 2 (by decide) mw_0 rfl dX7_undo_1 ?_
  refine x_get F X (v := .int (nI n)) (C := RX1) (T := TX1) (N := 3) (ci := 1) in_X1 1 rfl rfl 2 (by decide) mw_1 rfl dX7_undo_4 ?_
  refine lv_if_ne (tgt := 13) hx hb dX7_undo_7 (by decide) (fun c_7 => ?_) (fun c_7 => ?_)
  rotate_left
  · exfalso
    have c_7 : n = 0 := (nI_eq (a := n) (b := 0) (by omega) (by omega)).mp c_7
    omega
  have c_7 : ¬ (n = 0) := fun h => c_7 ((nI_eq (a := n) (b := 0) (by omega) (by omega)).mpr h)
  refine lv_aload_n hx hb dX7_undo_13 rfl (lv_at hl 0 rfl) ?_
  refine x_get F X (v := .ref z0) (C := RX7) (T := TX7) (N := 8) (ci := 7) in_X7 0 rfl rfl 2 (by decide) mw_0 rfl dX7_undo_14 ?_
  refine lv_aload_n hx hb dX7_undo_17 rfl (lv_at hl 0 rfl) ?_
  refine x_get F X (v := .ref t0) (C := RX7) (T := TX7) (N := 8) (ci := 7) in_X7 0 rfl rfl 0 (by decide) mw_2 rfl dX7_undo_18 ?_
  refine x_cVv F X (gc := [hiW q z0 z1 ad (nI o) (nI n), twW q t0 t1 h0 u0 r0 fc, sW q h0 h1 h2 h3 h4 h5 f1 f2 f3 f4 f5 nb, hW q u0 u1 u2 u3 g1 g2 g3 ps lo, twW q v0 v1 i0 y0 s0 gc, sW q i0 i1 i2 i3 i4 i5 e1 e2 e3 e4 e5 mb, hW q y0 y1 y2 y3 k1 k2 k3 qs mo]) (gr := [xoW q x0 t0 xa z0 xs xf xp xd xr]) (xp_idx (n := 8) [1, 2, 3, 4, 5, 6, 7, 0] (by decide +kernel) rfl rfl) (c_X1_takeBack l D q z0 z1 o n z ad t0 t1 u0 u1 u2 u3 h0 h1 h2 h3 h4 h5 r0 f1 f2 f3 f4 f5 g1 g2 g3 fc nb ps lo v0 v1 y0 y1 y2 y3 i0 i1 i2 i3 i4 i5 s0 e1 e2 e3 e4 e5 k1 k2 k3 gc mb qs mo (by first | assumption | omega) (by first | assumption | omega) (by first | assumption | omega) (by first | assumption | omega) (by first | assumption | omega)) (cwV 1 F.1.2.2.2.2 gX7_undo_X1_takeBack rfl rfl rfl (by decide +kernel) ⟨Nat.le_of_ble_eq_true rfl, Nat.le_of_ble_eq_true rfl⟩) rfl rfl (r0 := 0) (ci := 1) (T := TX1) (N := 3) rfl rfl hl.1 ⟨Nat.le_of_ble_eq_true rfl, Nat.le_of_ble_eq_true rfl⟩ (Nat.le_of_ble_eq_true rfl) dX7_undo_21 (fun g1 H locs hp X => ?_)
  subst hp
  have X := X.perm (gs' := [xoW q x0 t0 xa z0 xs xf xp xd xr, hiW q z0 z1 ad (nI o) (nI (n - 1)), twW q t0 t1 h0 u0 (va_cpy s0 r0 0 0 4) gc, sW q h0 h1 h2 h3 h4 h5 (va_cpy e1 f1 0 0 20) (va_cpy e2 f2 0 0 20) (va_cpy e3 f3 0 0 20) (va_cpy e4 f4 0 0 20) (va_cpy e5 f5 0 0 20) mb, hW q u0 u1 u2 u3 (va_cpy k1 g1 0 0 8) (va_cpy k2 g2 0 0 8) (va_cpy k3 g3 0 0 8) qs mo, twW q v0 v1 i0 y0 s0 gc, sW q i0 i1 i2 i3 i4 i5 e1 e2 e3 e4 e5 mb, hW q y0 y1 y2 y3 k1 k2 k3 qs mo]) (xp_idx (n := 8) [7, 0, 1, 2, 3, 4, 5, 6] (by decide +kernel) rfl rfl)
  refine lv_aload_n hx hb dX7_undo_24 rfl (lv_at hl 0 rfl) ?_
  refine x_get F X (v := .ref z0) (C := RX7) (T := TX7) (N := 8) (ci := 7) in_X7 0 rfl rfl 2 (by decide) mw_0 rfl dX7_undo_25 ?_
  refine x_get F X (v := .int (nI (n - 1))) (C := RX1) (T := TX1) (N := 3) (ci := 1) in_X1 1 rfl rfl 2 (by decide) mw_1 rfl dX7_undo_28 ?_
  exact hret _ _ _ _ _ _ (by exact ⟨rfl, rfl⟩) X dX7_undo_31
