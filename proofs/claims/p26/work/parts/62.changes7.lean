set_option maxHeartbeats 1000000 in
set_option maxRecDepth 100000 in
theorem c_X7_changeY0 (l : Launch) (D : va_G) (q : xQ) (x0 : Nat) (xa : Nat) (xs : Nat) (xf : Nat) (xp : Nat) (xd : Nat) (xr : Nat) (z0 : Nat) (z1 : Nat) (o : Nat) (n : Nat) (z : Nat) (ad : Nat → Option Nat) (t0 : Nat) (t1 : Nat) (u0 : Nat) (u1 : Nat) (u2 : Nat) (u3 : Nat) (h0 : Nat) (h1 : Nat) (h2 : Nat) (h3 : Nat) (h4 : Nat) (h5 : Nat) (r0 : Nat → Int32) (f1 : Nat → Int32) (f2 : Nat → Int32) (f3 : Nat → Int32) (f4 : Nat → Int32) (f5 : Nat → Int32) (g1 : Nat → Int32) (g2 : Nat → Int32) (g3 : Nat → Int32) (fc : Int32) (nb : Int32) (ps : Int32) (lo : Int32) (v0 : Nat) (v1 : Nat) (y0 : Nat) (y1 : Nat) (y2 : Nat) (y3 : Nat) (i0 : Nat) (i1 : Nat) (i2 : Nat) (i3 : Nat) (i4 : Nat) (i5 : Nat) (s0 : Nat → Int32) (e1 : Nat → Int32) (e2 : Nat → Int32) (e3 : Nat → Int32) (e4 : Nat → Int32) (e5 : Nat → Int32) (k1 : Nat → Int32) (k2 : Nat → Int32) (k3 : Nat → Int32) (gc : Int32) (qs : Int32) (mo : Int32) (m : Nat) (k : Nat) (v : Int32) (ho : o < 6) (hn6 : n ≤ 6) (hz : z = (o + n) % 6) (had : ad z = some t0) (hk : k < m) (hm : m ≤ 20) (hv : xZv 3 0 ≤ v ∧ v ≤ xZv 4 0) : xMi l yX7_change wsX7_change { frames := 5, cells := 0, slots := 0, locals := 124 } D q [.ref x0, .int (nI k), .int 0, .int v] [xoW q x0 v0 xa z0 xs xf xp xd xr, hiW q z0 z1 ad (nI o) (nI n), twW q t0 t1 h0 u0 r0 fc, sW q h0 h1 h2 h3 h4 h5 f1 f2 f3 f4 f5 nb, hW q u0 u1 u2 u3 g1 g2 g3 ps lo, twW q v0 v1 i0 y0 s0 gc, sW q i0 i1 i2 i3 i4 i5 e1 e2 e3 e4 e5 (nI m), hW q y0 y1 y2 y3 k1 k2 k3 qs mo] (fun r gw => ∃ (ol2 : Nat), ∃ (ln2 : Nat), gw = [xoW q x0 v0 xa z0 xs xf xp xd xr, hiW q z0 z1 ad (nI ol2) (nI ln2), twW q t0 t1 h0 u0 (va_cpy s0 r0 0 0 4) gc, sW q h0 h1 h2 h3 h4 h5 (va_cpy e1 f1 0 0 20) (va_cpy e2 f2 0 0 20) (va_cpy e3 f3 0 0 20) (va_cpy e4 f4 0 0 20) (va_cpy e5 f5 0 0 20) (nI m), hW q u0 u1 u2 u3 (va_cpy k1 g1 0 0 8) (va_cpy k2 g2 0 0 8) (va_cpy k3 g3 0 0 8) qs mo, twW q v0 v1 i0 y0 s0 gc, sW q i0 i1 i2 i3 i4 i5 e1 e2 (upd e3 k v) e4 e5 (nI m), hW q y0 y1 y2 y3 k1 k2 k3 qs mo] ∧ r = e3 k ∧ (ln2 = min (n + 1) 6 ∧ ol2 = if n = 6 then (o + 1) % 6 else o)) := by
  refine xMi_of (cc := cX7_change) (maxL := 6) (rt := .int) (by decide) rfl (Nat.le_of_ble_eq_true rfl) (fun _ _ _ => rfl) ?_
  intro p9 e9 s9 m9 a9 below meth c9 A9 Z9 ls H locs F X hl hret
  have hx := F.1.1
  have hb := F.1.2.1
  have in_X7 : ∀ w ∈ wsX70, w ∈ wsX7_change := by decide +kernel
  have in_X6 : ∀ w ∈ wsX60, w ∈ wsX7_change := by decide +kernel
  have mw_0 : Cond.fieldLink RX7 10 "HatWinds" "town" "LHatWinds$Town;" ∈ wsX7_change := by decide +kernel
  have mw_1 : Cond.fieldLink RX7 84 "HatWinds$Town" "streets" "LHatWinds$Streets;" ∈ wsX7_change := by decide +kernel
  have mw_2 : Cond.initialized RX5 ∈ wsX7_change := by decide +kernel
  have mw_3 : Cond.fieldLink RX7 113 "HatWinds" "LEAST_OF_STREET" "[I" ∈ wsX7_change := by decide +kernel
  have mw_4 : Cond.initialized RX7 ∈ wsX7_change := by decide +kernel
  have mw_5 : Cond.fieldLink RX7 116 "HatWinds" "MOST_OF_STREET" "[I" ∈ wsX7_change := by decide +kernel
  have mw_6 : Cond.fieldLink RX7 26 "HatWinds" "history" "LHatWinds$History;" ∈ wsX7_change := by decide +kernel
  have mw_7 : Cond.initialized RX1 ∈ wsX7_change := by decide +kernel
  have hl : lv_has ls 6 [(0, .ref x0), (1, .int (nI k)), (2, .int 0), (3, .int v)] := hl
  refine lv_aload_n hx hb dX7_change_0 rfl (lv_at hl 0 rfl) ?_
  refine x_get F X (v := .ref v0) (C := RX7) (T := TX7) (N := 8) (ci := 7) in_X7 0 rfl rfl 0 (by decide) mw_0 rfl dX7_change_1 ?_
  refine x_get F X (v := .ref i0) (C := RX6) (T := TX6) (N := 4) (ci := 6) in_X6 15 rfl rfl 1 (by decide) mw_1 rfl dX7_change_4 ?_
  refine lv_iload_n hx hb dX7_change_7 rfl (lv_at hl 1 rfl) ?_
  refine x_cVi F X (gc := [sW q i0 i1 i2 i3 i4 i5 e1 e2 e3 e4 e5 (nI m)]) (gr := [xoW q x0 v0 xa z0 xs xf xp xd xr, hiW q z0 z1 ad (nI o) (nI n), twW q t0 t1 h0 u0 r0 fc, sW q h0 h1 h2 h3 h4 h5 f1 f2 f3 f4 f5 nb, hW q u0 u1 u2 u3 g1 g2 g3 ps lo, twW q v0 v1 i0 y0 s0 gc, hW q y0 y1 y2 y3 k1 k2 k3 qs mo]) (xp_idx (n := 8) [6, 0, 1, 2, 3, 4, 5, 7] (by decide +kernel) rfl rfl) (c_X5_has l D q i0 i1 i2 i3 i4 i5 m e1 e2 e3 e4 e5 (nI k) (by first | assumption | omega)) (cwV 1 F.1.2.2.2.2 gX7_change_X5_has rfl rfl rfl (by decide +kernel) ⟨Nat.le_of_ble_eq_true rfl, Nat.le_of_ble_eq_true rfl⟩) rfl rfl (r0 := 0) (ci := 5) (T := TX5) (N := 6) rfl rfl hl.1 ⟨Nat.le_of_ble_eq_true rfl, Nat.le_of_ble_eq_true rfl⟩ (Nat.le_of_ble_eq_true rfl) dX7_change_8 (fun r_8 g1 H locs hp X => ?_)
  obtain ⟨rfl, hz⟩ := hp
  have X := X.perm (gs' := [xoW q x0 v0 xa z0 xs xf xp xd xr, hiW q z0 z1 ad (nI o) (nI n), twW q t0 t1 h0 u0 r0 fc, sW q h0 h1 h2 h3 h4 h5 f1 f2 f3 f4 f5 nb, hW q u0 u1 u2 u3 g1 g2 g3 ps lo, twW q v0 v1 i0 y0 s0 gc, sW q i0 i1 i2 i3 i4 i5 e1 e2 e3 e4 e5 (nI m), hW q y0 y1 y2 y3 k1 k2 k3 qs mo]) (xp_idx (n := 8) [1, 2, 3, 4, 5, 6, 0, 7] (by decide +kernel) rfl rfl)
  rcases hz with ⟨rfl, b_8⟩ | ⟨rfl, b_8⟩
  · refine lv_if_ne (tgt := 16) hx hb dX7_change_11 (by decide) (fun _ => ?_) (fun h => absurd h (by decide))
    refine lv_iload_n hx hb dX7_change_16 rfl (lv_at hl 2 rfl) ?_
    refine x_gets F X 3 (by decide) mw_3 dX7_change_17 (fun u_17 hu_17 => ?_)
    refine x_tlen F X hu_17 dX7_change_20 ?_
    refine x_cSi F X (gc := []) (gr := [xoW q x0 v0 xa z0 xs xf xp xd xr, hiW q z0 z1 ad (nI o) (nI n), twW q t0 t1 h0 u0 r0 fc, sW q h0 h1 h2 h3 h4 h5 f1 f2 f3 f4 f5 nb, hW q u0 u1 u2 u3 g1 g2 g3 ps lo, twW q v0 v1 i0 y0 s0 gc, sW q i0 i1 i2 i3 i4 i5 e1 e2 e3 e4 e5 (nI m), hW q y0 y1 y2 y3 k1 k2 k3 qs mo]) (xp_idx (n := 8) [0, 1, 2, 3, 4, 5, 6, 7] (by decide +kernel) rfl rfl) (c_X7_isIndexOf l D q 0 4 ) (va_cwS 2 F.1.2.2.2.2 gX7_change_X7_isIndexOf rfl rfl rfl (by decide +kernel) ⟨Nat.le_of_ble_eq_true rfl, Nat.le_of_ble_eq_true rfl⟩) rfl rfl hl.1 ⟨Nat.le_of_ble_eq_true rfl, Nat.le_of_ble_eq_true rfl⟩ (Nat.le_of_ble_eq_true rfl) dX7_change_21 (fun r_21 g1 H locs hp X => ?_)
    obtain ⟨rfl, hz⟩ := hp
    have X : xS D A9 s9 [xoW q x0 v0 xa z0 xs xf xp xd xr, hiW q z0 z1 ad (nI o) (nI n), twW q t0 t1 h0 u0 r0 fc, sW q h0 h1 h2 h3 h4 h5 f1 f2 f3 f4 f5 nb, hW q u0 u1 u2 u3 g1 g2 g3 ps lo, twW q v0 v1 i0 y0 s0 gc, sW q i0 i1 i2 i3 i4 i5 e1 e2 e3 e4 e5 (nI m), hW q y0 y1 y2 y3 k1 k2 k3 qs mo] H locs := X
    rcases hz with ⟨rfl, b_21⟩ | ⟨rfl, b_21⟩
    · refine lv_if_ne (tgt := 30) hx hb dX7_change_24 (by decide) (fun _ => ?_) (fun h => absurd h (by decide))
      refine lv_iload_n hx hb dX7_change_30 rfl (lv_at hl 3 rfl) ?_
      refine x_gets F X 3 (by decide) mw_3 dX7_change_31 (fun u_31 hu_31 => ?_)
      refine lv_iload_n hx hb dX7_change_34 rfl (lv_at hl 2 rfl) ?_
      refine x_tld F X hu_31 (v := (xZv 3 0)) (show vp_in (nI 0) _ from vp_in_nI (by omega) (by omega)) rfl dX7_change_35 ?_
      refine x_gets F X 4 (by decide) mw_5 dX7_change_36 (fun u_36 hu_36 => ?_)
      refine lv_iload_n hx hb dX7_change_39 rfl (lv_at hl 2 rfl) ?_
      refine x_tld F X hu_36 (v := (xZv 4 0)) (show vp_in (nI 0) _ from vp_in_nI (by omega) (by omega)) rfl dX7_change_40 ?_
      refine x_cSi F X (gc := []) (gr := [xoW q x0 v0 xa z0 xs xf xp xd xr, hiW q z0 z1 ad (nI o) (nI n), twW q t0 t1 h0 u0 r0 fc, sW q h0 h1 h2 h3 h4 h5 f1 f2 f3 f4 f5 nb, hW q u0 u1 u2 u3 g1 g2 g3 ps lo, twW q v0 v1 i0 y0 s0 gc, sW q i0 i1 i2 i3 i4 i5 e1 e2 e3 e4 e5 (nI m), hW q y0 y1 y2 y3 k1 k2 k3 qs mo]) (xp_idx (n := 8) [0, 1, 2, 3, 4, 5, 6, 7] (by decide +kernel) rfl rfl) (c_X7_isWithin l D q v (xZv 3 0) (xZv 4 0) ) (va_cwS 3 F.1.2.2.2.2 gX7_change_X7_isWithin rfl rfl rfl (by decide +kernel) ⟨Nat.le_of_ble_eq_true rfl, Nat.le_of_ble_eq_true rfl⟩) rfl rfl hl.1 ⟨Nat.le_of_ble_eq_true rfl, Nat.le_of_ble_eq_true rfl⟩ (Nat.le_of_ble_eq_true rfl) dX7_change_41 (fun r_41 g1 H locs hp X => ?_)
      obtain ⟨rfl, hz⟩ := hp
      have X : xS D A9 s9 [xoW q x0 v0 xa z0 xs xf xp xd xr, hiW q z0 z1 ad (nI o) (nI n), twW q t0 t1 h0 u0 r0 fc, sW q h0 h1 h2 h3 h4 h5 f1 f2 f3 f4 f5 nb, hW q u0 u1 u2 u3 g1 g2 g3 ps lo, twW q v0 v1 i0 y0 s0 gc, sW q i0 i1 i2 i3 i4 i5 e1 e2 e3 e4 e5 (nI m), hW q y0 y1 y2 y3 k1 k2 k3 qs mo] H locs := X
      rcases hz with ⟨rfl, b_41⟩ | ⟨rfl, b_41⟩
      · refine lv_if_ne (tgt := 50) hx hb dX7_change_44 (by decide) (fun _ => ?_) (fun h => absurd h (by decide))
        refine lv_aload_n hx hb dX7_change_50 rfl (lv_at hl 0 rfl) ?_
        refine x_get F X (v := .ref z0) (C := RX7) (T := TX7) (N := 8) (ci := 7) in_X7 0 rfl rfl 2 (by decide) mw_6 rfl dX7_change_51 ?_
        refine lv_aload_n hx hb dX7_change_54 rfl (lv_at hl 0 rfl) ?_
        refine x_get F X (v := .ref v0) (C := RX7) (T := TX7) (N := 8) (ci := 7) in_X7 0 rfl rfl 0 (by decide) mw_0 rfl dX7_change_55 ?_
        refine x_cVv F X (gc := [hiW q z0 z1 ad (nI o) (nI n), twW q t0 t1 h0 u0 r0 fc, sW q h0 h1 h2 h3 h4 h5 f1 f2 f3 f4 f5 nb, hW q u0 u1 u2 u3 g1 g2 g3 ps lo, twW q v0 v1 i0 y0 s0 gc, sW q i0 i1 i2 i3 i4 i5 e1 e2 e3 e4 e5 (nI m), hW q y0 y1 y2 y3 k1 k2 k3 qs mo]) (gr := [xoW q x0 v0 xa z0 xs xf xp xd xr]) (xp_idx (n := 8) [1, 2, 3, 4, 5, 6, 7, 0] (by decide +kernel) rfl rfl) (c_X1_keep l D q z0 z1 o n z ad t0 t1 u0 u1 u2 u3 h0 h1 h2 h3 h4 h5 r0 f1 f2 f3 f4 f5 g1 g2 g3 fc nb ps lo v0 v1 y0 y1 y2 y3 i0 i1 i2 i3 i4 i5 s0 e1 e2 e3 e4 e5 k1 k2 k3 gc (nI m) qs mo (by first | assumption | omega) (by first | assumption | omega) (by first | assumption | omega) (by first | assumption | omega)) (cwV 1 F.1.2.2.2.2 gX7_change_X1_keep rfl rfl rfl (by decide +kernel) ⟨Nat.le_of_ble_eq_true rfl, Nat.le_of_ble_eq_true rfl⟩) rfl rfl (r0 := 0) (ci := 1) (T := TX1) (N := 3) rfl rfl hl.1 ⟨Nat.le_of_ble_eq_true rfl, Nat.le_of_ble_eq_true rfl⟩ (Nat.le_of_ble_eq_true rfl) dX7_change_58 (fun g1 H locs hp X => ?_)
        obtain ⟨ol9, ln9, rfl, hke9⟩ := hp
        have X := X.perm (gs' := [xoW q x0 v0 xa z0 xs xf xp xd xr, hiW q z0 z1 ad (nI ol9) (nI ln9), twW q t0 t1 h0 u0 (va_cpy s0 r0 0 0 4) gc, sW q h0 h1 h2 h3 h4 h5 (va_cpy e1 f1 0 0 20) (va_cpy e2 f2 0 0 20) (va_cpy e3 f3 0 0 20) (va_cpy e4 f4 0 0 20) (va_cpy e5 f5 0 0 20) (nI m), hW q u0 u1 u2 u3 (va_cpy k1 g1 0 0 8) (va_cpy k2 g2 0 0 8) (va_cpy k3 g3 0 0 8) qs mo, twW q v0 v1 i0 y0 s0 gc, sW q i0 i1 i2 i3 i4 i5 e1 e2 e3 e4 e5 (nI m), hW q y0 y1 y2 y3 k1 k2 k3 qs mo]) (xp_idx (n := 8) [7, 0, 1, 2, 3, 4, 5, 6] (by decide +kernel) rfl rfl)
        refine lv_aload_n hx hb dX7_change_61 rfl (lv_at hl 0 rfl) ?_
        refine x_get F X (v := .ref v0) (C := RX7) (T := TX7) (N := 8) (ci := 7) in_X7 0 rfl rfl 0 (by decide) mw_0 rfl dX7_change_62 ?_
        refine x_get F X (v := .ref i0) (C := RX6) (T := TX6) (N := 4) (ci := 6) in_X6 15 rfl rfl 1 (by decide) mw_1 rfl dX7_change_65 ?_
        refine lv_iload_n hx hb dX7_change_68 rfl (lv_at hl 2 rfl) ?_
        refine x_cVr F X (gc := [sW q i0 i1 i2 i3 i4 i5 e1 e2 e3 e4 e5 (nI m)]) (gr := [xoW q x0 v0 xa z0 xs xf xp xd xr, hiW q z0 z1 ad (nI ol9) (nI ln9), twW q t0 t1 h0 u0 (va_cpy s0 r0 0 0 4) gc, sW q h0 h1 h2 h3 h4 h5 (va_cpy e1 f1 0 0 20) (va_cpy e2 f2 0 0 20) (va_cpy e3 f3 0 0 20) (va_cpy e4 f4 0 0 20) (va_cpy e5 f5 0 0 20) (nI m), hW q u0 u1 u2 u3 (va_cpy k1 g1 0 0 8) (va_cpy k2 g2 0 0 8) (va_cpy k3 g3 0 0 8) qs mo, twW q v0 v1 i0 y0 s0 gc, hW q y0 y1 y2 y3 k1 k2 k3 qs mo]) (xp_idx (n := 8) [6, 0, 1, 2, 3, 4, 5, 7] (by decide +kernel) rfl rfl) (c_X5_changeable_0 l D q i0 i1 i2 i3 i4 i5 m e1 e2 e3 e4 e5 ) (cwV 1 F.1.2.2.2.2 gX7_change_X5_changeable rfl rfl rfl (by decide +kernel) ⟨Nat.le_of_ble_eq_true rfl, Nat.le_of_ble_eq_true rfl⟩) rfl rfl (r0 := 0) (ci := 5) (T := TX5) (N := 6) rfl rfl hl.1 ⟨Nat.le_of_ble_eq_true rfl, Nat.le_of_ble_eq_true rfl⟩ (Nat.le_of_ble_eq_true rfl) dX7_change_69 (fun r_69 g1 H locs hp X => ?_)
        obtain ⟨rfl, hr9⟩ := hp
        obtain rfl := hr9.symm
        have X := X.perm (gs' := [xoW q x0 v0 xa z0 xs xf xp xd xr, hiW q z0 z1 ad (nI ol9) (nI ln9), twW q t0 t1 h0 u0 (va_cpy s0 r0 0 0 4) gc, sW q h0 h1 h2 h3 h4 h5 (va_cpy e1 f1 0 0 20) (va_cpy e2 f2 0 0 20) (va_cpy e3 f3 0 0 20) (va_cpy e4 f4 0 0 20) (va_cpy e5 f5 0 0 20) (nI m), hW q u0 u1 u2 u3 (va_cpy k1 g1 0 0 8) (va_cpy k2 g2 0 0 8) (va_cpy k3 g3 0 0 8) qs mo, twW q v0 v1 i0 y0 s0 gc, sW q i0 i1 i2 i3 i4 i5 e1 e2 e3 e4 e5 (nI m), hW q y0 y1 y2 y3 k1 k2 k3 qs mo]) (xp_idx (n := 8) [1, 2, 3, 4, 5, 6, 0, 7] (by decide +kernel) rfl rfl)
        refine lv_astore (lv' := [(4, .ref i3), (0, .ref x0), (1, .int (nI k)), (2, .int 0), (3, .int v)]) hx hb dX7_change_72 hl (by decide) rfl (fun ls hl => ?_)
        refine lv_aload hx hb dX7_change_74 (lv_at hl 0 rfl) ?_
        refine lv_iload_n hx hb dX7_change_76 rfl (lv_at hl 2 rfl) ?_
        refine x_iald F X (v := (e3 k)) (n := 20) (f := e3) 20 rfl (vp_in_nI (by omega) (by omega)) (x_cl (by omega)) dX7_change_77 ?_
        refine lv_istore (lv' := [(5, .int (e3 k)), (4, .ref i3), (0, .ref x0), (1, .int (nI k)), (2, .int 0), (3, .int v)]) hx hb dX7_change_78 hl (by decide) rfl (fun ls hl => ?_)
        refine lv_aload hx hb dX7_change_80 (lv_at hl 1 rfl) ?_
        refine lv_iload_n hx hb dX7_change_82 rfl (lv_at hl 3 rfl) ?_
        refine lv_iload_n hx hb dX7_change_83 rfl (lv_at hl 5 rfl) ?_
        refine x_iast F X (gs' := [xoW q x0 v0 xa z0 xs xf xp xd xr, hiW q z0 z1 ad (nI ol9) (nI ln9), twW q t0 t1 h0 u0 (va_cpy s0 r0 0 0 4) gc, sW q h0 h1 h2 h3 h4 h5 (va_cpy e1 f1 0 0 20) (va_cpy e2 f2 0 0 20) (va_cpy e3 f3 0 0 20) (va_cpy e4 f4 0 0 20) (va_cpy e5 f5 0 0 20) (nI m), hW q u0 u1 u2 u3 (va_cpy k1 g1 0 0 8) (va_cpy k2 g2 0 0 8) (va_cpy k3 g3 0 0 8) qs mo, twW q v0 v1 i0 y0 s0 gc, sW q i0 i1 i2 i3 i4 i5 e1 e2 (upd e3 k v) e4 e5 (nI m), hW q y0 y1 y2 y3 k1 k2 k3 qs mo]) (n := 20) (f := e3) (k := k) 20 rfl (vp_in_nI (by omega) (by omega)) (nI_clamp (by omega)) dX7_change_84 rfl (fun H locs X => ?_)
        refine lv_iload hx hb dX7_change_85 (lv_at hl 0 rfl) ?_
        exact hret _ _ _ _ _ _ (by exact ⟨_, _, rfl, rfl, hke9⟩) X dX7_change_87
      · refine lv_if_ne (tgt := 50) hx hb dX7_change_44 (by decide) (fun h => absurd (by decide) h) (fun _ => ?_)
        exact absurd hv b_41
    · refine lv_if_ne (tgt := 30) hx hb dX7_change_24 (by decide) (fun h => absurd (by decide) h) (fun _ => ?_)
      exact absurd ⟨by decide, by decide⟩ b_21
  · refine lv_if_ne (tgt := 16) hx hb dX7_change_11 (by decide) (fun h => absurd (by decide) h) (fun _ => ?_)
    exact absurd ⟨k, hk, rfl⟩ b_8

set_option maxHeartbeats 1000000 in
set_option maxRecDepth 100000 in
theorem c_X7_changeY1 (l : Launch) (D : va_G) (q : xQ) (x0 : Nat) (xa : Nat) (xs : Nat) (xf : Nat) (xp : Nat) (xd : Nat) (xr : Nat) (z0 : Nat) (z1 : Nat) (o : Nat) (n : Nat) (z : Nat) (ad : Nat → Option Nat) (t0 : Nat) (t1 : Nat) (u0 : Nat) (u1 : Nat) (u2 : Nat) (u3 : Nat) (h0 : Nat) (h1 : Nat) (h2 : Nat) (h3 : Nat) (h4 : Nat) (h5 : Nat) (r0 : Nat → Int32) (f1 : Nat → Int32) (f2 : Nat → Int32) (f3 : Nat → Int32) (f4 : Nat → Int32) (f5 : Nat → Int32) (g1 : Nat → Int32) (g2 : Nat → Int32) (g3 : Nat → Int32) (fc : Int32) (nb : Int32) (ps : Int32) (lo : Int32) (v0 : Nat) (v1 : Nat) (y0 : Nat) (y1 : Nat) (y2 : Nat) (y3 : Nat) (i0 : Nat) (i1 : Nat) (i2 : Nat) (i3 : Nat) (i4 : Nat) (i5 : Nat) (s0 : Nat → Int32) (e1 : Nat → Int32) (e2 : Nat → Int32) (e3 : Nat → Int32) (e4 : Nat → Int32) (e5 : Nat → Int32) (k1 : Nat → Int32) (k2 : Nat → Int32) (k3 : Nat → Int32) (gc : Int32) (qs : Int32) (mo : Int32) (m : Nat) (k : Nat) (v : Int32) (ho : o < 6) (hn6 : n ≤ 6) (hz : z = (o + n) % 6) (had : ad z = some t0) (hk : k < m) (hm : m ≤ 20) (hv : xZv 3 1 ≤ v ∧ v ≤ xZv 4 1) : xMi l yX7_change wsX7_change { frames := 5, cells := 0, slots := 0, locals := 124 } D q [.ref x0, .int (nI k), .int 1, .int v] [xoW q x0 v0 xa z0 xs xf xp xd xr, hiW q z0 z1 ad (nI o) (nI n), twW q t0 t1 h0 u0 r0 fc, sW q h0 h1 h2 h3 h4 h5 f1 f2 f3 f4 f5 nb, hW q u0 u1 u2 u3 g1 g2 g3 ps lo, twW q v0 v1 i0 y0 s0 gc, sW q i0 i1 i2 i3 i4 i5 e1 e2 e3 e4 e5 (nI m), hW q y0 y1 y2 y3 k1 k2 k3 qs mo] (fun r gw => ∃ (ol2 : Nat), ∃ (ln2 : Nat), gw = [xoW q x0 v0 xa z0 xs xf xp xd xr, hiW q z0 z1 ad (nI ol2) (nI ln2), twW q t0 t1 h0 u0 (va_cpy s0 r0 0 0 4) gc, sW q h0 h1 h2 h3 h4 h5 (va_cpy e1 f1 0 0 20) (va_cpy e2 f2 0 0 20) (va_cpy e3 f3 0 0 20) (va_cpy e4 f4 0 0 20) (va_cpy e5 f5 0 0 20) (nI m), hW q u0 u1 u2 u3 (va_cpy k1 g1 0 0 8) (va_cpy k2 g2 0 0 8) (va_cpy k3 g3 0 0 8) qs mo, twW q v0 v1 i0 y0 s0 gc, sW q i0 i1 i2 i3 i4 i5 e1 e2 e3 (upd e4 k v) e5 (nI m), hW q y0 y1 y2 y3 k1 k2 k3 qs mo] ∧ r = e4 k ∧ (ln2 = min (n + 1) 6 ∧ ol2 = if n = 6 then (o + 1) % 6 else o)) := by
  refine xMi_of (cc := cX7_change) (maxL := 6) (rt := .int) (by decide) rfl (Nat.le_of_ble_eq_true rfl) (fun _ _ _ => rfl) ?_
  intro p9 e9 s9 m9 a9 below meth c9 A9 Z9 ls H locs F X hl hret
  have hx := F.1.1
  have hb := F.1.2.1
  have in_X7 : ∀ w ∈ wsX70, w ∈ wsX7_change := by decide +kernel
  have in_X6 : ∀ w ∈ wsX60, w ∈ wsX7_change := by decide +kernel
  have mw_0 : Cond.fieldLink RX7 10 "HatWinds" "town" "LHatWinds$Town;" ∈ wsX7_change := by decide +kernel
  have mw_1 : Cond.fieldLink RX7 84 "HatWinds$Town" "streets" "LHatWinds$Streets;" ∈ wsX7_change := by decide +kernel
  have mw_2 : Cond.initialized RX5 ∈ wsX7_change := by decide +kernel
  have mw_3 : Cond.fieldLink RX7 113 "HatWinds" "LEAST_OF_STREET" "[I" ∈ wsX7_change := by decide +kernel
  have mw_4 : Cond.initialized RX7 ∈ wsX7_change := by decide +kernel
  have mw_5 : Cond.fieldLink RX7 116 "HatWinds" "MOST_OF_STREET" "[I" ∈ wsX7_change := by decide +kernel
  have mw_6 : Cond.fieldLink RX7 26 "HatWinds" "history" "LHatWinds$History;" ∈ wsX7_change := by decide +kernel
  have mw_7 : Cond.initialized RX1 ∈ wsX7_change := by decide +kernel
  have hl : lv_has ls 6 [(0, .ref x0), (1, .int (nI k)), (2, .int 1), (3, .int v)] := hl
  refine lv_aload_n hx hb dX7_change_0 rfl (lv_at hl 0 rfl) ?_
  refine x_get F X (v := .ref v0) (C := RX7) (T := TX7) (N := 8) (ci := 7) in_X7 0 rfl rfl 0 (by decide) mw_0 rfl dX7_change_1 ?_
  refine x_get F X (v := .ref i0) (C := RX6) (T := TX6) (N := 4) (ci := 6) in_X6 15 rfl rfl 1 (by decide) mw_1 rfl dX7_change_4 ?_
  refine lv_iload_n hx hb dX7_change_7 rfl (lv_at hl 1 rfl) ?_
  refine x_cVi F X (gc := [sW q i0 i1 i2 i3 i4 i5 e1 e2 e3 e4 e5 (nI m)]) (gr := [xoW q x0 v0 xa z0 xs xf xp xd xr, hiW q z0 z1 ad (nI o) (nI n), twW q t0 t1 h0 u0 r0 fc, sW q h0 h1 h2 h3 h4 h5 f1 f2 f3 f4 f5 nb, hW q u0 u1 u2 u3 g1 g2 g3 ps lo, twW q v0 v1 i0 y0 s0 gc, hW q y0 y1 y2 y3 k1 k2 k3 qs mo]) (xp_idx (n := 8) [6, 0, 1, 2, 3, 4, 5, 7] (by decide +kernel) rfl rfl) (c_X5_has l D q i0 i1 i2 i3 i4 i5 m e1 e2 e3 e4 e5 (nI k) (by first | assumption | omega)) (cwV 1 F.1.2.2.2.2 gX7_change_X5_has rfl rfl rfl (by decide +kernel) ⟨Nat.le_of_ble_eq_true rfl, Nat.le_of_ble_eq_true rfl⟩) rfl rfl (r0 := 0) (ci := 5) (T := TX5) (N := 6) rfl rfl hl.1 ⟨Nat.le_of_ble_eq_true rfl, Nat.le_of_ble_eq_true rfl⟩ (Nat.le_of_ble_eq_true rfl) dX7_change_8 (fun r_8 g1 H locs hp X => ?_)
  obtain ⟨rfl, hz⟩ := hp
  have X := X.perm (gs' := [xoW q x0 v0 xa z0 xs xf xp xd xr, hiW q z0 z1 ad (nI o) (nI n), twW q t0 t1 h0 u0 r0 fc, sW q h0 h1 h2 h3 h4 h5 f1 f2 f3 f4 f5 nb, hW q u0 u1 u2 u3 g1 g2 g3 ps lo, twW q v0 v1 i0 y0 s0 gc, sW q i0 i1 i2 i3 i4 i5 e1 e2 e3 e4 e5 (nI m), hW q y0 y1 y2 y3 k1 k2 k3 qs mo]) (xp_idx (n := 8) [1, 2, 3, 4, 5, 6, 0, 7] (by decide +kernel) rfl rfl)
  rcases hz with ⟨rfl, b_8⟩ | ⟨rfl, b_8⟩
  · refine lv_if_ne (tgt := 16) hx hb dX7_change_11 (by decide) (fun _ => ?_) (fun h => absurd h (by decide))
    refine lv_iload_n hx hb dX7_change_16 rfl (lv_at hl 2 rfl) ?_
    refine x_gets F X 3 (by decide) mw_3 dX7_change_17 (fun u_17 hu_17 => ?_)
    refine x_tlen F X hu_17 dX7_change_20 ?_
    refine x_cSi F X (gc := []) (gr := [xoW q x0 v0 xa z0 xs xf xp xd xr, hiW q z0 z1 ad (nI o) (nI n), twW q t0 t1 h0 u0 r0 fc, sW q h0 h1 h2 h3 h4 h5 f1 f2 f3 f4 f5 nb, hW q u0 u1 u2 u3 g1 g2 g3 ps lo, twW q v0 v1 i0 y0 s0 gc, sW q i0 i1 i2 i3 i4 i5 e1 e2 e3 e4 e5 (nI m), hW q y0 y1 y2 y3 k1 k2 k3 qs mo]) (xp_idx (n := 8) [0, 1, 2, 3, 4, 5, 6, 7] (by decide +kernel) rfl rfl) (c_X7_isIndexOf l D q 1 4 ) (va_cwS 2 F.1.2.2.2.2 gX7_change_X7_isIndexOf rfl rfl rfl (by decide +kernel) ⟨Nat.le_of_ble_eq_true rfl, Nat.le_of_ble_eq_true rfl⟩) rfl rfl hl.1 ⟨Nat.le_of_ble_eq_true rfl, Nat.le_of_ble_eq_true rfl⟩ (Nat.le_of_ble_eq_true rfl) dX7_change_21 (fun r_21 g1 H locs hp X => ?_)
    obtain ⟨rfl, hz⟩ := hp
    have X : xS D A9 s9 [xoW q x0 v0 xa z0 xs xf xp xd xr, hiW q z0 z1 ad (nI o) (nI n), twW q t0 t1 h0 u0 r0 fc, sW q h0 h1 h2 h3 h4 h5 f1 f2 f3 f4 f5 nb, hW q u0 u1 u2 u3 g1 g2 g3 ps lo, twW q v0 v1 i0 y0 s0 gc, sW q i0 i1 i2 i3 i4 i5 e1 e2 e3 e4 e5 (nI m), hW q y0 y1 y2 y3 k1 k2 k3 qs mo] H locs := X
    rcases hz with ⟨rfl, b_21⟩ | ⟨rfl, b_21⟩
    · refine lv_if_ne (tgt := 30) hx hb dX7_change_24 (by decide) (fun _ => ?_) (fun h => absurd h (by decide))
      refine lv_iload_n hx hb dX7_change_30 rfl (lv_at hl 3 rfl) ?_
      refine x_gets F X 3 (by decide) mw_3 dX7_change_31 (fun u_31 hu_31 => ?_)
      refine lv_iload_n hx hb dX7_change_34 rfl (lv_at hl 2 rfl) ?_
      refine x_tld F X hu_31 (v := (xZv 3 1)) (show vp_in (nI 1) _ from vp_in_nI (by omega) (by omega)) rfl dX7_change_35 ?_
      refine x_gets F X 4 (by decide) mw_5 dX7_change_36 (fun u_36 hu_36 => ?_)
      refine lv_iload_n hx hb dX7_change_39 rfl (lv_at hl 2 rfl) ?_
      refine x_tld F X hu_36 (v := (xZv 4 1)) (show vp_in (nI 1) _ from vp_in_nI (by omega) (by omega)) rfl dX7_change_40 ?_
      refine x_cSi F X (gc := []) (gr := [xoW q x0 v0 xa z0 xs xf xp xd xr, hiW q z0 z1 ad (nI o) (nI n), twW q t0 t1 h0 u0 r0 fc, sW q h0 h1 h2 h3 h4 h5 f1 f2 f3 f4 f5 nb, hW q u0 u1 u2 u3 g1 g2 g3 ps lo, twW q v0 v1 i0 y0 s0 gc, sW q i0 i1 i2 i3 i4 i5 e1 e2 e3 e4 e5 (nI m), hW q y0 y1 y2 y3 k1 k2 k3 qs mo]) (xp_idx (n := 8) [0, 1, 2, 3, 4, 5, 6, 7] (by decide +kernel) rfl rfl) (c_X7_isWithin l D q v (xZv 3 1) (xZv 4 1) ) (va_cwS 3 F.1.2.2.2.2 gX7_change_X7_isWithin rfl rfl rfl (by decide +kernel) ⟨Nat.le_of_ble_eq_true rfl, Nat.le_of_ble_eq_true rfl⟩) rfl rfl hl.1 ⟨Nat.le_of_ble_eq_true rfl, Nat.le_of_ble_eq_true rfl⟩ (Nat.le_of_ble_eq_true rfl) dX7_change_41 (fun r_41 g1 H locs hp X => ?_)
      obtain ⟨rfl, hz⟩ := hp
      have X : xS D A9 s9 [xoW q x0 v0 xa z0 xs xf xp xd xr, hiW q z0 z1 ad (nI o) (nI n), twW q t0 t1 h0 u0 r0 fc, sW q h0 h1 h2 h3 h4 h5 f1 f2 f3 f4 f5 nb, hW q u0 u1 u2 u3 g1 g2 g3 ps lo, twW q v0 v1 i0 y0 s0 gc, sW q i0 i1 i2 i3 i4 i5 e1 e2 e3 e4 e5 (nI m), hW q y0 y1 y2 y3 k1 k2 k3 qs mo] H locs := X
      rcases hz with ⟨rfl, b_41⟩ | ⟨rfl, b_41⟩
      · refine lv_if_ne (tgt := 50) hx hb dX7_change_44 (by decide) (fun _ => ?_) (fun h => absurd h (by decide))
        refine lv_aload_n hx hb dX7_change_50 rfl (lv_at hl 0 rfl) ?_
        refine x_get F X (v := .ref z0) (C := RX7) (T := TX7) (N := 8) (ci := 7) in_X7 0 rfl rfl 2 (by decide) mw_6 rfl dX7_change_51 ?_
        refine lv_aload_n hx hb dX7_change_54 rfl (lv_at hl 0 rfl) ?_
        refine x_get F X (v := .ref v0) (C := RX7) (T := TX7) (N := 8) (ci := 7) in_X7 0 rfl rfl 0 (by decide) mw_0 rfl dX7_change_55 ?_
        refine x_cVv F X (gc := [hiW q z0 z1 ad (nI o) (nI n), twW q t0 t1 h0 u0 r0 fc, sW q h0 h1 h2 h3 h4 h5 f1 f2 f3 f4 f5 nb, hW q u0 u1 u2 u3 g1 g2 g3 ps lo, twW q v0 v1 i0 y0 s0 gc, sW q i0 i1 i2 i3 i4 i5 e1 e2 e3 e4 e5 (nI m), hW q y0 y1 y2 y3 k1 k2 k3 qs mo]) (gr := [xoW q x0 v0 xa z0 xs xf xp xd xr]) (xp_idx (n := 8) [1, 2, 3, 4, 5, 6, 7, 0] (by decide +kernel) rfl rfl) (c_X1_keep l D q z0 z1 o n z ad t0 t1 u0 u1 u2 u3 h0 h1 h2 h3 h4 h5 r0 f1 f2 f3 f4 f5 g1 g2 g3 fc nb ps lo v0 v1 y0 y1 y2 y3 i0 i1 i2 i3 i4 i5 s0 e1 e2 e3 e4 e5 k1 k2 k3 gc (nI m) qs mo (by first | assumption | omega) (by first | assumption | omega) (by first | assumption | omega) (by first | assumption | omega)) (cwV 1 F.1.2.2.2.2 gX7_change_X1_keep rfl rfl rfl (by decide +kernel) ⟨Nat.le_of_ble_eq_true rfl, Nat.le_of_ble_eq_true rfl⟩) rfl rfl (r0 := 0) (ci := 1) (T := TX1) (N := 3) rfl rfl hl.1 ⟨Nat.le_of_ble_eq_true rfl, Nat.le_of_ble_eq_true rfl⟩ (Nat.le_of_ble_eq_true rfl) dX7_change_58 (fun g1 H locs hp X => ?_)
        obtain ⟨ol9, ln9, rfl, hke9⟩ := hp
        have X := X.perm (gs' := [xoW q x0 v0 xa z0 xs xf xp xd xr, hiW q z0 z1 ad (nI ol9) (nI ln9), twW q t0 t1 h0 u0 (va_cpy s0 r0 0 0 4) gc, sW q h0 h1 h2 h3 h4 h5 (va_cpy e1 f1 0 0 20) (va_cpy e2 f2 0 0 20) (va_cpy e3 f3 0 0 20) (va_cpy e4 f4 0 0 20) (va_cpy e5 f5 0 0 20) (nI m), hW q u0 u1 u2 u3 (va_cpy k1 g1 0 0 8) (va_cpy k2 g2 0 0 8) (va_cpy k3 g3 0 0 8) qs mo, twW q v0 v1 i0 y0 s0 gc, sW q i0 i1 i2 i3 i4 i5 e1 e2 e3 e4 e5 (nI m), hW q y0 y1 y2 y3 k1 k2 k3 qs mo]) (xp_idx (n := 8) [7, 0, 1, 2, 3, 4, 5, 6] (by decide +kernel) rfl rfl)
        refine lv_aload_n hx hb dX7_change_61 rfl (lv_at hl 0 rfl) ?_
        refine x_get F X (v := .ref v0) (C := RX7) (T := TX7) (N := 8) (ci := 7) in_X7 0 rfl rfl 0 (by decide) mw_0 rfl dX7_change_62 ?_
        refine x_get F X (v := .ref i0) (C := RX6) (T := TX6) (N := 4) (ci := 6) in_X6 15 rfl rfl 1 (by decide) mw_1 rfl dX7_change_65 ?_
        refine lv_iload_n hx hb dX7_change_68 rfl (lv_at hl 2 rfl) ?_
        refine x_cVr F X (gc := [sW q i0 i1 i2 i3 i4 i5 e1 e2 e3 e4 e5 (nI m)]) (gr := [xoW q x0 v0 xa z0 xs xf xp xd xr, hiW q z0 z1 ad (nI ol9) (nI ln9), twW q t0 t1 h0 u0 (va_cpy s0 r0 0 0 4) gc, sW q h0 h1 h2 h3 h4 h5 (va_cpy e1 f1 0 0 20) (va_cpy e2 f2 0 0 20) (va_cpy e3 f3 0 0 20) (va_cpy e4 f4 0 0 20) (va_cpy e5 f5 0 0 20) (nI m), hW q u0 u1 u2 u3 (va_cpy k1 g1 0 0 8) (va_cpy k2 g2 0 0 8) (va_cpy k3 g3 0 0 8) qs mo, twW q v0 v1 i0 y0 s0 gc, hW q y0 y1 y2 y3 k1 k2 k3 qs mo]) (xp_idx (n := 8) [6, 0, 1, 2, 3, 4, 5, 7] (by decide +kernel) rfl rfl) (c_X5_changeable_1 l D q i0 i1 i2 i3 i4 i5 m e1 e2 e3 e4 e5 ) (cwV 1 F.1.2.2.2.2 gX7_change_X5_changeable rfl rfl rfl (by decide +kernel) ⟨Nat.le_of_ble_eq_true rfl, Nat.le_of_ble_eq_true rfl⟩) rfl rfl (r0 := 0) (ci := 5) (T := TX5) (N := 6) rfl rfl hl.1 ⟨Nat.le_of_ble_eq_true rfl, Nat.le_of_ble_eq_true rfl⟩ (Nat.le_of_ble_eq_true rfl) dX7_change_69 (fun r_69 g1 H locs hp X => ?_)
        obtain ⟨rfl, hr9⟩ := hp
        obtain rfl := hr9.symm
        have X := X.perm (gs' := [xoW q x0 v0 xa z0 xs xf xp xd xr, hiW q z0 z1 ad (nI ol9) (nI ln9), twW q t0 t1 h0 u0 (va_cpy s0 r0 0 0 4) gc, sW q h0 h1 h2 h3 h4 h5 (va_cpy e1 f1 0 0 20) (va_cpy e2 f2 0 0 20) (va_cpy e3 f3 0 0 20) (va_cpy e4 f4 0 0 20) (va_cpy e5 f5 0 0 20) (nI m), hW q u0 u1 u2 u3 (va_cpy k1 g1 0 0 8) (va_cpy k2 g2 0 0 8) (va_cpy k3 g3 0 0 8) qs mo, twW q v0 v1 i0 y0 s0 gc, sW q i0 i1 i2 i3 i4 i5 e1 e2 e3 e4 e5 (nI m), hW q y0 y1 y2 y3 k1 k2 k3 qs mo]) (xp_idx (n := 8) [1, 2, 3, 4, 5, 6, 0, 7] (by decide +kernel) rfl rfl)
        refine lv_astore (lv' := [(4, .ref i4), (0, .ref x0), (1, .int (nI k)), (2, .int 1), (3, .int v)]) hx hb dX7_change_72 hl (by decide) rfl (fun ls hl => ?_)
        refine lv_aload hx hb dX7_change_74 (lv_at hl 0 rfl) ?_
        refine lv_iload_n hx hb dX7_change_76 rfl (lv_at hl 2 rfl) ?_
        refine x_iald F X (v := (e4 k)) (n := 20) (f := e4) 21 rfl (vp_in_nI (by omega) (by omega)) (x_cl (by omega)) dX7_change_77 ?_
        refine lv_istore (lv' := [(5, .int (e4 k)), (4, .ref i4), (0, .ref x0), (1, .int (nI k)), (2, .int 1), (3, .int v)]) hx hb dX7_change_78 hl (by decide) rfl (fun ls hl => ?_)
        refine lv_aload hx hb dX7_change_80 (lv_at hl 1 rfl) ?_
        refine lv_iload_n hx hb dX7_change_82 rfl (lv_at hl 3 rfl) ?_
        refine lv_iload_n hx hb dX7_change_83 rfl (lv_at hl 5 rfl) ?_
        refine x_iast F X (gs' := [xoW q x0 v0 xa z0 xs xf xp xd xr, hiW q z0 z1 ad (nI ol9) (nI ln9), twW q t0 t1 h0 u0 (va_cpy s0 r0 0 0 4) gc, sW q h0 h1 h2 h3 h4 h5 (va_cpy e1 f1 0 0 20) (va_cpy e2 f2 0 0 20) (va_cpy e3 f3 0 0 20) (va_cpy e4 f4 0 0 20) (va_cpy e5 f5 0 0 20) (nI m), hW q u0 u1 u2 u3 (va_cpy k1 g1 0 0 8) (va_cpy k2 g2 0 0 8) (va_cpy k3 g3 0 0 8) qs mo, twW q v0 v1 i0 y0 s0 gc, sW q i0 i1 i2 i3 i4 i5 e1 e2 e3 (upd e4 k v) e5 (nI m), hW q y0 y1 y2 y3 k1 k2 k3 qs mo]) (n := 20) (f := e4) (k := k) 21 rfl (vp_in_nI (by omega) (by omega)) (nI_clamp (by omega)) dX7_change_84 rfl (fun H locs X => ?_)
        refine lv_iload hx hb dX7_change_85 (lv_at hl 0 rfl) ?_
        exact hret _ _ _ _ _ _ (by exact ⟨_, _, rfl, rfl, hke9⟩) X dX7_change_87
      · refine lv_if_ne (tgt := 50) hx hb dX7_change_44 (by decide) (fun h => absurd (by decide) h) (fun _ => ?_)
        exact absurd hv b_41
    · refine lv_if_ne (tgt := 30) hx hb dX7_change_24 (by decide) (fun h => absurd (by decide) h) (fun _ => ?_)
      exact absurd ⟨by decide, by decide⟩ b_21
  · refine lv_if_ne (tgt := 16) hx hb dX7_change_11 (by decide) (fun h => absurd (by decide) h) (fun _ => ?_)
    exact absurd ⟨k, hk, rfl⟩ b_8

set_option maxHeartbeats 1000000 in
set_option maxRecDepth 100000 in
theorem c_X7_changeY2 (l : Launch) (D : va_G) (q : xQ) (x0 : Nat) (xa : Nat) (xs : Nat) (xf : Nat) (xp : Nat) (xd : Nat) (xr : Nat) (z0 : Nat) (z1 : Nat) (o : Nat) (n : Nat) (z : Nat) (ad : Nat → Option Nat) (t0 : Nat) (t1 : Nat) (u0 : Nat) (u1 : Nat) (u2 : Nat) (u3 : Nat) (h0 : Nat) (h1 : Nat) (h2 : Nat) (h3 : Nat) (h4 : Nat) (h5 : Nat) (r0 : Nat → Int32) (f1 : Nat → Int32) (f2 : Nat → Int32) (f3 : Nat → Int32) (f4 : Nat → Int32) (f5 : Nat → Int32) (g1 : Nat → Int32) (g2 : Nat → Int32) (g3 : Nat → Int32) (fc : Int32) (nb : Int32) (ps : Int32) (lo : Int32) (v0 : Nat) (v1 : Nat) (y0 : Nat) (y1 : Nat) (y2 : Nat) (y3 : Nat) (i0 : Nat) (i1 : Nat) (i2 : Nat) (i3 : Nat) (i4 : Nat) (i5 : Nat) (s0 : Nat → Int32) (e1 : Nat → Int32) (e2 : Nat → Int32) (e3 : Nat → Int32) (e4 : Nat → Int32) (e5 : Nat → Int32) (k1 : Nat → Int32) (k2 : Nat → Int32) (k3 : Nat → Int32) (gc : Int32) (qs : Int32) (mo : Int32) (m : Nat) (k : Nat) (v : Int32) (ho : o < 6) (hn6 : n ≤ 6) (hz : z = (o + n) % 6) (had : ad z = some t0) (hk : k < m) (hm : m ≤ 20) (hv : xZv 3 2 ≤ v ∧ v ≤ xZv 4 2) : xMi l yX7_change wsX7_change { frames := 5, cells := 0, slots := 0, locals := 124 } D q [.ref x0, .int (nI k), .int 2, .int v] [xoW q x0 v0 xa z0 xs xf xp xd xr, hiW q z0 z1 ad (nI o) (nI n), twW q t0 t1 h0 u0 r0 fc, sW q h0 h1 h2 h3 h4 h5 f1 f2 f3 f4 f5 nb, hW q u0 u1 u2 u3 g1 g2 g3 ps lo, twW q v0 v1 i0 y0 s0 gc, sW q i0 i1 i2 i3 i4 i5 e1 e2 e3 e4 e5 (nI m), hW q y0 y1 y2 y3 k1 k2 k3 qs mo] (fun r gw => ∃ (ol2 : Nat), ∃ (ln2 : Nat), gw = [xoW q x0 v0 xa z0 xs xf xp xd xr, hiW q z0 z1 ad (nI ol2) (nI ln2), twW q t0 t1 h0 u0 (va_cpy s0 r0 0 0 4) gc, sW q h0 h1 h2 h3 h4 h5 (va_cpy e1 f1 0 0 20) (va_cpy e2 f2 0 0 20) (va_cpy e3 f3 0 0 20) (va_cpy e4 f4 0 0 20) (va_cpy e5 f5 0 0 20) (nI m), hW q u0 u1 u2 u3 (va_cpy k1 g1 0 0 8) (va_cpy k2 g2 0 0 8) (va_cpy k3 g3 0 0 8) qs mo, twW q v0 v1 i0 y0 s0 gc, sW q i0 i1 i2 i3 i4 i5 e1 e2 e3 e4 (upd e5 k v) (nI m), hW q y0 y1 y2 y3 k1 k2 k3 qs mo] ∧ r = e5 k ∧ (ln2 = min (n + 1) 6 ∧ ol2 = if n = 6 then (o + 1) % 6 else o)) := by
  refine xMi_of (cc := cX7_change) (maxL := 6) (rt := .int) (by decide) rfl (Nat.le_of_ble_eq_true rfl) (fun _ _ _ => rfl) ?_
  intro p9 e9 s9 m9 a9 below meth c9 A9 Z9 ls H locs F X hl hret
  have hx := F.1.1
  have hb := F.1.2.1
  have in_X7 : ∀ w ∈ wsX70, w ∈ wsX7_change := by decide +kernel
  have in_X6 : ∀ w ∈ wsX60, w ∈ wsX7_change := by decide +kernel
  have mw_0 : Cond.fieldLink RX7 10 "HatWinds" "town" "LHatWinds$Town;" ∈ wsX7_change := by decide +kernel
  have mw_1 : Cond.fieldLink RX7 84 "HatWinds$Town" "streets" "LHatWinds$Streets;" ∈ wsX7_change := by decide +kernel
  have mw_2 : Cond.initialized RX5 ∈ wsX7_change := by decide +kernel
  have mw_3 : Cond.fieldLink RX7 113 "HatWinds" "LEAST_OF_STREET" "[I" ∈ wsX7_change := by decide +kernel
  have mw_4 : Cond.initialized RX7 ∈ wsX7_change := by decide +kernel
  have mw_5 : Cond.fieldLink RX7 116 "HatWinds" "MOST_OF_STREET" "[I" ∈ wsX7_change := by decide +kernel
  have mw_6 : Cond.fieldLink RX7 26 "HatWinds" "history" "LHatWinds$History;" ∈ wsX7_change := by decide +kernel
  have mw_7 : Cond.initialized RX1 ∈ wsX7_change := by decide +kernel
  have hl : lv_has ls 6 [(0, .ref x0), (1, .int (nI k)), (2, .int 2), (3, .int v)] := hl
  refine lv_aload_n hx hb dX7_change_0 rfl (lv_at hl 0 rfl) ?_
  refine x_get F X (v := .ref v0) (C := RX7) (T := TX7) (N := 8) (ci := 7) in_X7 0 rfl rfl 0 (by decide) mw_0 rfl dX7_change_1 ?_
  refine x_get F X (v := .ref i0) (C := RX6) (T := TX6) (N := 4) (ci := 6) in_X6 15 rfl rfl 1 (by decide) mw_1 rfl dX7_change_4 ?_
  refine lv_iload_n hx hb dX7_change_7 rfl (lv_at hl 1 rfl) ?_
  refine x_cVi F X (gc := [sW q i0 i1 i2 i3 i4 i5 e1 e2 e3 e4 e5 (nI m)]) (gr := [xoW q x0 v0 xa z0 xs xf xp xd xr, hiW q z0 z1 ad (nI o) (nI n), twW q t0 t1 h0 u0 r0 fc, sW q h0 h1 h2 h3 h4 h5 f1 f2 f3 f4 f5 nb, hW q u0 u1 u2 u3 g1 g2 g3 ps lo, twW q v0 v1 i0 y0 s0 gc, hW q y0 y1 y2 y3 k1 k2 k3 qs mo]) (xp_idx (n := 8) [6, 0, 1, 2, 3, 4, 5, 7] (by decide +kernel) rfl rfl) (c_X5_has l D q i0 i1 i2 i3 i4 i5 m e1 e2 e3 e4 e5 (nI k) (by first | assumption | omega)) (cwV 1 F.1.2.2.2.2 gX7_change_X5_has rfl rfl rfl (by decide +kernel) ⟨Nat.le_of_ble_eq_true rfl, Nat.le_of_ble_eq_true rfl⟩) rfl rfl (r0 := 0) (ci := 5) (T := TX5) (N := 6) rfl rfl hl.1 ⟨Nat.le_of_ble_eq_true rfl, Nat.le_of_ble_eq_true rfl⟩ (Nat.le_of_ble_eq_true rfl) dX7_change_8 (fun r_8 g1 H locs hp X => ?_)
  obtain ⟨rfl, hz⟩ := hp
  have X := X.perm (gs' := [xoW q x0 v0 xa z0 xs xf xp xd xr, hiW q z0 z1 ad (nI o) (nI n), twW q t0 t1 h0 u0 r0 fc, sW q h0 h1 h2 h3 h4 h5 f1 f2 f3 f4 f5 nb, hW q u0 u1 u2 u3 g1 g2 g3 ps lo, twW q v0 v1 i0 y0 s0 gc, sW q i0 i1 i2 i3 i4 i5 e1 e2 e3 e4 e5 (nI m), hW q y0 y1 y2 y3 k1 k2 k3 qs mo]) (xp_idx (n := 8) [1, 2, 3, 4, 5, 6, 0, 7] (by decide +kernel) rfl rfl)
  rcases hz with ⟨rfl, b_8⟩ | ⟨rfl, b_8⟩
  · refine lv_if_ne (tgt := 16) hx hb dX7_change_11 (by decide) (fun _ => ?_) (fun h => absurd h (by decide))
    refine lv_iload_n hx hb dX7_change_16 rfl (lv_at hl 2 rfl) ?_
    refine x_gets F X 3 (by decide) mw_3 dX7_change_17 (fun u_17 hu_17 => ?_)
    refine x_tlen F X hu_17 dX7_change_20 ?_
    refine x_cSi F X (gc := []) (gr := [xoW q x0 v0 xa z0 xs xf xp xd xr, hiW q z0 z1 ad (nI o) (nI n), twW q t0 t1 h0 u0 r0 fc, sW q h0 h1 h2 h3 h4 h5 f1 f2 f3 f4 f5 nb, hW q u0 u1 u2 u3 g1 g2 g3 ps lo, twW q v0 v1 i0 y0 s0 gc, sW q i0 i1 i2 i3 i4 i5 e1 e2 e3 e4 e5 (nI m), hW q y0 y1 y2 y3 k1 k2 k3 qs mo]) (xp_idx (n := 8) [0, 1, 2, 3, 4, 5, 6, 7] (by decide +kernel) rfl rfl) (c_X7_isIndexOf l D q 2 4 ) (va_cwS 2 F.1.2.2.2.2 gX7_change_X7_isIndexOf rfl rfl rfl (by decide +kernel) ⟨Nat.le_of_ble_eq_true rfl, Nat.le_of_ble_eq_true rfl⟩) rfl rfl hl.1 ⟨Nat.le_of_ble_eq_true rfl, Nat.le_of_ble_eq_true rfl⟩ (Nat.le_of_ble_eq_true rfl) dX7_change_21 (fun r_21 g1 H locs hp X => ?_)
    obtain ⟨rfl, hz⟩ := hp
    have X : xS D A9 s9 [xoW q x0 v0 xa z0 xs xf xp xd xr, hiW q z0 z1 ad (nI o) (nI n), twW q t0 t1 h0 u0 r0 fc, sW q h0 h1 h2 h3 h4 h5 f1 f2 f3 f4 f5 nb, hW q u0 u1 u2 u3 g1 g2 g3 ps lo, twW q v0 v1 i0 y0 s0 gc, sW q i0 i1 i2 i3 i4 i5 e1 e2 e3 e4 e5 (nI m), hW q y0 y1 y2 y3 k1 k2 k3 qs mo] H locs := X
    rcases hz with ⟨rfl, b_21⟩ | ⟨rfl, b_21⟩
    · refine lv_if_ne (tgt := 30) hx hb dX7_change_24 (by decide) (fun _ => ?_) (fun h => absurd h (by decide))
      refine lv_iload_n hx hb dX7_change_30 rfl (lv_at hl 3 rfl) ?_
      refine x_gets F X 3 (by decide) mw_3 dX7_change_31 (fun u_31 hu_31 => ?_)
      refine lv_iload_n hx hb dX7_change_34 rfl (lv_at hl 2 rfl) ?_
      refine x_tld F X hu_31 (v := (xZv 3 2)) (show vp_in (nI 2) _ from vp_in_nI (by omega) (by omega)) rfl dX7_change_35 ?_
      refine x_gets F X 4 (by decide) mw_5 dX7_change_36 (fun u_36 hu_36 => ?_)
      refine lv_iload_n hx hb dX7_change_39 rfl (lv_at hl 2 rfl) ?_
      refine x_tld F X hu_36 (v := (xZv 4 2)) (show vp_in (nI 2) _ from vp_in_nI (by omega) (by omega)) rfl dX7_change_40 ?_
      refine x_cSi F X (gc := []) (gr := [xoW q x0 v0 xa z0 xs xf xp xd xr, hiW q z0 z1 ad (nI o) (nI n), twW q t0 t1 h0 u0 r0 fc, sW q h0 h1 h2 h3 h4 h5 f1 f2 f3 f4 f5 nb, hW q u0 u1 u2 u3 g1 g2 g3 ps lo, twW q v0 v1 i0 y0 s0 gc, sW q i0 i1 i2 i3 i4 i5 e1 e2 e3 e4 e5 (nI m), hW q y0 y1 y2 y3 k1 k2 k3 qs mo]) (xp_idx (n := 8) [0, 1, 2, 3, 4, 5, 6, 7] (by decide +kernel) rfl rfl) (c_X7_isWithin l D q v (xZv 3 2) (xZv 4 2) ) (va_cwS 3 F.1.2.2.2.2 gX7_change_X7_isWithin rfl rfl rfl (by decide +kernel) ⟨Nat.le_of_ble_eq_true rfl, Nat.le_of_ble_eq_true rfl⟩) rfl rfl hl.1 ⟨Nat.le_of_ble_eq_true rfl, Nat.le_of_ble_eq_true rfl⟩ (Nat.le_of_ble_eq_true rfl) dX7_change_41 (fun r_41 g1 H locs hp X => ?_)
      obtain ⟨rfl, hz⟩ := hp
      have X : xS D A9 s9 [xoW q x0 v0 xa z0 xs xf xp xd xr, hiW q z0 z1 ad (nI o) (nI n), twW q t0 t1 h0 u0 r0 fc, sW q h0 h1 h2 h3 h4 h5 f1 f2 f3 f4 f5 nb, hW q u0 u1 u2 u3 g1 g2 g3 ps lo, twW q v0 v1 i0 y0 s0 gc, sW q i0 i1 i2 i3 i4 i5 e1 e2 e3 e4 e5 (nI m), hW q y0 y1 y2 y3 k1 k2 k3 qs mo] H locs := X
      rcases hz with ⟨rfl, b_41⟩ | ⟨rfl, b_41⟩
      · refine lv_if_ne (tgt := 50) hx hb dX7_change_44 (by decide) (fun _ => ?_) (fun h => absurd h (by decide))
        refine lv_aload_n hx hb dX7_change_50 rfl (lv_at hl 0 rfl) ?_
        refine x_get F X (v := .ref z0) (C := RX7) (T := TX7) (N := 8) (ci := 7) in_X7 0 rfl rfl 2 (by decide) mw_6 rfl dX7_change_51 ?_
        refine lv_aload_n hx hb dX7_change_54 rfl (lv_at hl 0 rfl) ?_
        refine x_get F X (v := .ref v0) (C := RX7) (T := TX7) (N := 8) (ci := 7) in_X7 0 rfl rfl 0 (by decide) mw_0 rfl dX7_change_55 ?_
        refine x_cVv F X (gc := [hiW q z0 z1 ad (nI o) (nI n), twW q t0 t1 h0 u0 r0 fc, sW q h0 h1 h2 h3 h4 h5 f1 f2 f3 f4 f5 nb, hW q u0 u1 u2 u3 g1 g2 g3 ps lo, twW q v0 v1 i0 y0 s0 gc, sW q i0 i1 i2 i3 i4 i5 e1 e2 e3 e4 e5 (nI m), hW q y0 y1 y2 y3 k1 k2 k3 qs mo]) (gr := [xoW q x0 v0 xa z0 xs xf xp xd xr]) (xp_idx (n := 8) [1, 2, 3, 4, 5, 6, 7, 0] (by decide +kernel) rfl rfl) (c_X1_keep l D q z0 z1 o n z ad t0 t1 u0 u1 u2 u3 h0 h1 h2 h3 h4 h5 r0 f1 f2 f3 f4 f5 g1 g2 g3 fc nb ps lo v0 v1 y0 y1 y2 y3 i0 i1 i2 i3 i4 i5 s0 e1 e2 e3 e4 e5 k1 k2 k3 gc (nI m) qs mo (by first | assumption | omega) (by first | assumption | omega) (by first | assumption | omega) (by first | assumption | omega)) (cwV 1 F.1.2.2.2.2 gX7_change_X1_keep rfl rfl rfl (by decide +kernel) ⟨Nat.le_of_ble_eq_true rfl, Nat.le_of_ble_eq_true rfl⟩) rfl rfl (r0 := 0) (ci := 1) (T := TX1) (N := 3) rfl rfl hl.1 ⟨Nat.le_of_ble_eq_true rfl, Nat.le_of_ble_eq_true rfl⟩ (Nat.le_of_ble_eq_true rfl) dX7_change_58 (fun g1 H locs hp X => ?_)
        obtain ⟨ol9, ln9, rfl, hke9⟩ := hp
        have X := X.perm (gs' := [xoW q x0 v0 xa z0 xs xf xp xd xr, hiW q z0 z1 ad (nI ol9) (nI ln9), twW q t0 t1 h0 u0 (va_cpy s0 r0 0 0 4) gc, sW q h0 h1 h2 h3 h4 h5 (va_cpy e1 f1 0 0 20) (va_cpy e2 f2 0 0 20) (va_cpy e3 f3 0 0 20) (va_cpy e4 f4 0 0 20) (va_cpy e5 f5 0 0 20) (nI m), hW q u0 u1 u2 u3 (va_cpy k1 g1 0 0 8) (va_cpy k2 g2 0 0 8) (va_cpy k3 g3 0 0 8) qs mo, twW q v0 v1 i0 y0 s0 gc, sW q i0 i1 i2 i3 i4 i5 e1 e2 e3 e4 e5 (nI m), hW q y0 y1 y2 y3 k1 k2 k3 qs mo]) (xp_idx (n := 8) [7, 0, 1, 2, 3, 4, 5, 6] (by decide +kernel) rfl rfl)
        refine lv_aload_n hx hb dX7_change_61 rfl (lv_at hl 0 rfl) ?_
        refine x_get F X (v := .ref v0) (C := RX7) (T := TX7) (N := 8) (ci := 7) in_X7 0 rfl rfl 0 (by decide) mw_0 rfl dX7_change_62 ?_
        refine x_get F X (v := .ref i0) (C := RX6) (T := TX6) (N := 4) (ci := 6) in_X6 15 rfl rfl 1 (by decide) mw_1 rfl dX7_change_65 ?_
        refine lv_iload_n hx hb dX7_change_68 rfl (lv_at hl 2 rfl) ?_
        refine x_cVr F X (gc := [sW q i0 i1 i2 i3 i4 i5 e1 e2 e3 e4 e5 (nI m)]) (gr := [xoW q x0 v0 xa z0 xs xf xp xd xr, hiW q z0 z1 ad (nI ol9) (nI ln9), twW q t0 t1 h0 u0 (va_cpy s0 r0 0 0 4) gc, sW q h0 h1 h2 h3 h4 h5 (va_cpy e1 f1 0 0 20) (va_cpy e2 f2 0 0 20) (va_cpy e3 f3 0 0 20) (va_cpy e4 f4 0 0 20) (va_cpy e5 f5 0 0 20) (nI m), hW q u0 u1 u2 u3 (va_cpy k1 g1 0 0 8) (va_cpy k2 g2 0 0 8) (va_cpy k3 g3 0 0 8) qs mo, twW q v0 v1 i0 y0 s0 gc, hW q y0 y1 y2 y3 k1 k2 k3 qs mo]) (xp_idx (n := 8) [6, 0, 1, 2, 3, 4, 5, 7] (by decide +kernel) rfl rfl) (c_X5_changeable_2 l D q i0 i1 i2 i3 i4 i5 m e1 e2 e3 e4 e5 ) (cwV 1 F.1.2.2.2.2 gX7_change_X5_changeable rfl rfl rfl (by decide +kernel) ⟨Nat.le_of_ble_eq_true rfl, Nat.le_of_ble_eq_true rfl⟩) rfl rfl (r0 := 0) (ci := 5) (T := TX5) (N := 6) rfl rfl hl.1 ⟨Nat.le_of_ble_eq_true rfl, Nat.le_of_ble_eq_true rfl⟩ (Nat.le_of_ble_eq_true rfl) dX7_change_69 (fun r_69 g1 H locs hp X => ?_)
        obtain ⟨rfl, hr9⟩ := hp
        obtain rfl := hr9.symm
        have X := X.perm (gs' := [xoW q x0 v0 xa z0 xs xf xp xd xr, hiW q z0 z1 ad (nI ol9) (nI ln9), twW q t0 t1 h0 u0 (va_cpy s0 r0 0 0 4) gc, sW q h0 h1 h2 h3 h4 h5 (va_cpy e1 f1 0 0 20) (va_cpy e2 f2 0 0 20) (va_cpy e3 f3 0 0 20) (va_cpy e4 f4 0 0 20) (va_cpy e5 f5 0 0 20) (nI m), hW q u0 u1 u2 u3 (va_cpy k1 g1 0 0 8) (va_cpy k2 g2 0 0 8) (va_cpy k3 g3 0 0 8) qs mo, twW q v0 v1 i0 y0 s0 gc, sW q i0 i1 i2 i3 i4 i5 e1 e2 e3 e4 e5 (nI m), hW q y0 y1 y2 y3 k1 k2 k3 qs mo]) (xp_idx (n := 8) [1, 2, 3, 4, 5, 6, 0, 7] (by decide +kernel) rfl rfl)
        refine lv_astore (lv' := [(4, .ref i5), (0, .ref x0), (1, .int (nI k)), (2, .int 2), (3, .int v)]) hx hb dX7_change_72 hl (by decide) rfl (fun ls hl => ?_)
        refine lv_aload hx hb dX7_change_74 (lv_at hl 0 rfl) ?_
        refine lv_iload_n hx hb dX7_change_76 rfl (lv_at hl 2 rfl) ?_
        refine x_iald F X (v := (e5 k)) (n := 20) (f := e5) 22 rfl (vp_in_nI (by omega) (by omega)) (x_cl (by omega)) dX7_change_77 ?_
        refine lv_istore (lv' := [(5, .int (e5 k)), (4, .ref i5), (0, .ref x0), (1, .int (nI k)), (2, .int 2), (3, .int v)]) hx hb dX7_change_78 hl (by decide) rfl (fun ls hl => ?_)
        refine lv_aload hx hb dX7_change_80 (lv_at hl 1 rfl) ?_
        refine lv_iload_n hx hb dX7_change_82 rfl (lv_at hl 3 rfl) ?_
        refine lv_iload_n hx hb dX7_change_83 rfl (lv_at hl 5 rfl) ?_
        refine x_iast F X (gs' := [xoW q x0 v0 xa z0 xs xf xp xd xr, hiW q z0 z1 ad (nI ol9) (nI ln9), twW q t0 t1 h0 u0 (va_cpy s0 r0 0 0 4) gc, sW q h0 h1 h2 h3 h4 h5 (va_cpy e1 f1 0 0 20) (va_cpy e2 f2 0 0 20) (va_cpy e3 f3 0 0 20) (va_cpy e4 f4 0 0 20) (va_cpy e5 f5 0 0 20) (nI m), hW q u0 u1 u2 u3 (va_cpy k1 g1 0 0 8) (va_cpy k2 g2 0 0 8) (va_cpy k3 g3 0 0 8) qs mo, twW q v0 v1 i0 y0 s0 gc, sW q i0 i1 i2 i3 i4 i5 e1 e2 e3 e4 (upd e5 k v) (nI m), hW q y0 y1 y2 y3 k1 k2 k3 qs mo]) (n := 20) (f := e5) (k := k) 22 rfl (vp_in_nI (by omega) (by omega)) (nI_clamp (by omega)) dX7_change_84 rfl (fun H locs X => ?_)
        refine lv_iload hx hb dX7_change_85 (lv_at hl 0 rfl) ?_
        exact hret _ _ _ _ _ _ (by exact ⟨_, _, rfl, rfl, hke9⟩) X dX7_change_87
      · refine lv_if_ne (tgt := 50) hx hb dX7_change_44 (by decide) (fun h => absurd (by decide) h) (fun _ => ?_)
        exact absurd hv b_41
    · refine lv_if_ne (tgt := 30) hx hb dX7_change_24 (by decide) (fun h => absurd (by decide) h) (fun _ => ?_)
      exact absurd ⟨by decide, by decide⟩ b_21
  · refine lv_if_ne (tgt := 16) hx hb dX7_change_11 (by decide) (fun h => absurd (by decide) h) (fun _ => ?_)
    exact absurd ⟨k, hk, rfl⟩ b_8

set_option maxHeartbeats 1000000 in
set_option maxRecDepth 100000 in
theorem c_X7_changeY3 (l : Launch) (D : va_G) (q : xQ) (x0 : Nat) (xa : Nat) (xs : Nat) (xf : Nat) (xp : Nat) (xd : Nat) (xr : Nat) (z0 : Nat) (z1 : Nat) (o : Nat) (n : Nat) (z : Nat) (ad : Nat → Option Nat) (t0 : Nat) (t1 : Nat) (u0 : Nat) (u1 : Nat) (u2 : Nat) (u3 : Nat) (h0 : Nat) (h1 : Nat) (h2 : Nat) (h3 : Nat) (h4 : Nat) (h5 : Nat) (r0 : Nat → Int32) (f1 : Nat → Int32) (f2 : Nat → Int32) (f3 : Nat → Int32) (f4 : Nat → Int32) (f5 : Nat → Int32) (g1 : Nat → Int32) (g2 : Nat → Int32) (g3 : Nat → Int32) (fc : Int32) (nb : Int32) (ps : Int32) (lo : Int32) (v0 : Nat) (v1 : Nat) (y0 : Nat) (y1 : Nat) (y2 : Nat) (y3 : Nat) (i0 : Nat) (i1 : Nat) (i2 : Nat) (i3 : Nat) (i4 : Nat) (i5 : Nat) (s0 : Nat → Int32) (e1 : Nat → Int32) (e2 : Nat → Int32) (e3 : Nat → Int32) (e4 : Nat → Int32) (e5 : Nat → Int32) (k1 : Nat → Int32) (k2 : Nat → Int32) (k3 : Nat → Int32) (gc : Int32) (qs : Int32) (mo : Int32) (m : Nat) (k : Nat) (v : Int32) (ho : o < 6) (hn6 : n ≤ 6) (hz : z = (o + n) % 6) (had : ad z = some t0) (hk : k < m) (hm : m ≤ 20) (hv : xZv 3 3 ≤ v ∧ v ≤ xZv 4 3) : xMi l yX7_change wsX7_change { frames := 5, cells := 0, slots := 0, locals := 124 } D q [.ref x0, .int (nI k), .int 3, .int v] [xoW q x0 v0 xa z0 xs xf xp xd xr, hiW q z0 z1 ad (nI o) (nI n), twW q t0 t1 h0 u0 r0 fc, sW q h0 h1 h2 h3 h4 h5 f1 f2 f3 f4 f5 nb, hW q u0 u1 u2 u3 g1 g2 g3 ps lo, twW q v0 v1 i0 y0 s0 gc, sW q i0 i1 i2 i3 i4 i5 e1 e2 e3 e4 e5 (nI m), hW q y0 y1 y2 y3 k1 k2 k3 qs mo] (fun r gw => ∃ (ol2 : Nat), ∃ (ln2 : Nat), gw = [xoW q x0 v0 xa z0 xs xf xp xd xr, hiW q z0 z1 ad (nI ol2) (nI ln2), twW q t0 t1 h0 u0 (va_cpy s0 r0 0 0 4) gc, sW q h0 h1 h2 h3 h4 h5 (va_cpy e1 f1 0 0 20) (va_cpy e2 f2 0 0 20) (va_cpy e3 f3 0 0 20) (va_cpy e4 f4 0 0 20) (va_cpy e5 f5 0 0 20) (nI m), hW q u0 u1 u2 u3 (va_cpy k1 g1 0 0 8) (va_cpy k2 g2 0 0 8) (va_cpy k3 g3 0 0 8) qs mo, twW q v0 v1 i0 y0 s0 gc, sW q i0 i1 i2 i3 i4 i5 e1 (upd e2 k v) e3 e4 e5 (nI m), hW q y0 y1 y2 y3 k1 k2 k3 qs mo] ∧ r = e2 k ∧ (ln2 = min (n + 1) 6 ∧ ol2 = if n = 6 then (o + 1) % 6 else o)) := by
  refine xMi_of (cc := cX7_change) (maxL := 6) (rt := .int) (by decide) rfl (Nat.le_of_ble_eq_true rfl) (fun _ _ _ => rfl) ?_
  intro p9 e9 s9 m9 a9 below meth c9 A9 Z9 ls H locs F X hl hret
  have hx := F.1.1
  have hb := F.1.2.1
  have in_X7 : ∀ w ∈ wsX70, w ∈ wsX7_change := by decide +kernel
  have in_X6 : ∀ w ∈ wsX60, w ∈ wsX7_change := by decide +kernel
  have mw_0 : Cond.fieldLink RX7 10 "HatWinds" "town" "LHatWinds$Town;" ∈ wsX7_change := by decide +kernel
  have mw_1 : Cond.fieldLink RX7 84 "HatWinds$Town" "streets" "LHatWinds$Streets;" ∈ wsX7_change := by decide +kernel
  have mw_2 : Cond.initialized RX5 ∈ wsX7_change := by decide +kernel
  have mw_3 : Cond.fieldLink RX7 113 "HatWinds" "LEAST_OF_STREET" "[I" ∈ wsX7_change := by decide +kernel
  have mw_4 : Cond.initialized RX7 ∈ wsX7_change := by decide +kernel
  have mw_5 : Cond.fieldLink RX7 116 "HatWinds" "MOST_OF_STREET" "[I" ∈ wsX7_change := by decide +kernel
  have mw_6 : Cond.fieldLink RX7 26 "HatWinds" "history" "LHatWinds$History;" ∈ wsX7_change := by decide +kernel
  have mw_7 : Cond.initialized RX1 ∈ wsX7_change := by decide +kernel
  have hl : lv_has ls 6 [(0, .ref x0), (1, .int (nI k)), (2, .int 3), (3, .int v)] := hl
  refine lv_aload_n hx hb dX7_change_0 rfl (lv_at hl 0 rfl) ?_
  refine x_get F X (v := .ref v0) (C := RX7) (T := TX7) (N := 8) (ci := 7) in_X7 0 rfl rfl 0 (by decide) mw_0 rfl dX7_change_1 ?_
  refine x_get F X (v := .ref i0) (C := RX6) (T := TX6) (N := 4) (ci := 6) in_X6 15 rfl rfl 1 (by decide) mw_1 rfl dX7_change_4 ?_
  refine lv_iload_n hx hb dX7_change_7 rfl (lv_at hl 1 rfl) ?_
  refine x_cVi F X (gc := [sW q i0 i1 i2 i3 i4 i5 e1 e2 e3 e4 e5 (nI m)]) (gr := [xoW q x0 v0 xa z0 xs xf xp xd xr, hiW q z0 z1 ad (nI o) (nI n), twW q t0 t1 h0 u0 r0 fc, sW q h0 h1 h2 h3 h4 h5 f1 f2 f3 f4 f5 nb, hW q u0 u1 u2 u3 g1 g2 g3 ps lo, twW q v0 v1 i0 y0 s0 gc, hW q y0 y1 y2 y3 k1 k2 k3 qs mo]) (xp_idx (n := 8) [6, 0, 1, 2, 3, 4, 5, 7] (by decide +kernel) rfl rfl) (c_X5_has l D q i0 i1 i2 i3 i4 i5 m e1 e2 e3 e4 e5 (nI k) (by first | assumption | omega)) (cwV 1 F.1.2.2.2.2 gX7_change_X5_has rfl rfl rfl (by decide +kernel) ⟨Nat.le_of_ble_eq_true rfl, Nat.le_of_ble_eq_true rfl⟩) rfl rfl (r0 := 0) (ci := 5) (T := TX5) (N := 6) rfl rfl hl.1 ⟨Nat.le_of_ble_eq_true rfl, Nat.le_of_ble_eq_true rfl⟩ (Nat.le_of_ble_eq_true rfl) dX7_change_8 (fun r_8 g1 H locs hp X => ?_)
  obtain ⟨rfl, hz⟩ := hp
  have X := X.perm (gs' := [xoW q x0 v0 xa z0 xs xf xp xd xr, hiW q z0 z1 ad (nI o) (nI n), twW q t0 t1 h0 u0 r0 fc, sW q h0 h1 h2 h3 h4 h5 f1 f2 f3 f4 f5 nb, hW q u0 u1 u2 u3 g1 g2 g3 ps lo, twW q v0 v1 i0 y0 s0 gc, sW q i0 i1 i2 i3 i4 i5 e1 e2 e3 e4 e5 (nI m), hW q y0 y1 y2 y3 k1 k2 k3 qs mo]) (xp_idx (n := 8) [1, 2, 3, 4, 5, 6, 0, 7] (by decide +kernel) rfl rfl)
  rcases hz with ⟨rfl, b_8⟩ | ⟨rfl, b_8⟩
  · refine lv_if_ne (tgt := 16) hx hb dX7_change_11 (by decide) (fun _ => ?_) (fun h => absurd h (by decide))
    refine lv_iload_n hx hb dX7_change_16 rfl (lv_at hl 2 rfl) ?_
    refine x_gets F X 3 (by decide) mw_3 dX7_change_17 (fun u_17 hu_17 => ?_)
    refine x_tlen F X hu_17 dX7_change_20 ?_
    refine x_cSi F X (gc := []) (gr := [xoW q x0 v0 xa z0 xs xf xp xd xr, hiW q z0 z1 ad (nI o) (nI n), twW q t0 t1 h0 u0 r0 fc, sW q h0 h1 h2 h3 h4 h5 f1 f2 f3 f4 f5 nb, hW q u0 u1 u2 u3 g1 g2 g3 ps lo, twW q v0 v1 i0 y0 s0 gc, sW q i0 i1 i2 i3 i4 i5 e1 e2 e3 e4 e5 (nI m), hW q y0 y1 y2 y3 k1 k2 k3 qs mo]) (xp_idx (n := 8) [0, 1, 2, 3, 4, 5, 6, 7] (by decide +kernel) rfl rfl) (c_X7_isIndexOf l D q 3 4 ) (va_cwS 2 F.1.2.2.2.2 gX7_change_X7_isIndexOf rfl rfl rfl (by decide +kernel) ⟨Nat.le_of_ble_eq_true rfl, Nat.le_of_ble_eq_true rfl⟩) rfl rfl hl.1 ⟨Nat.le_of_ble_eq_true rfl, Nat.le_of_ble_eq_true rfl⟩ (Nat.le_of_ble_eq_true rfl) dX7_change_21 (fun r_21 g1 H locs hp X => ?_)
    obtain ⟨rfl, hz⟩ := hp
    have X : xS D A9 s9 [xoW q x0 v0 xa z0 xs xf xp xd xr, hiW q z0 z1 ad (nI o) (nI n), twW q t0 t1 h0 u0 r0 fc, sW q h0 h1 h2 h3 h4 h5 f1 f2 f3 f4 f5 nb, hW q u0 u1 u2 u3 g1 g2 g3 ps lo, twW q v0 v1 i0 y0 s0 gc, sW q i0 i1 i2 i3 i4 i5 e1 e2 e3 e4 e5 (nI m), hW q y0 y1 y2 y3 k1 k2 k3 qs mo] H locs := X
    rcases hz with ⟨rfl, b_21⟩ | ⟨rfl, b_21⟩
    · refine lv_if_ne (tgt := 30) hx hb dX7_change_24 (by decide) (fun _ => ?_) (fun h => absurd h (by decide))
      refine lv_iload_n hx hb dX7_change_30 rfl (lv_at hl 3 rfl) ?_
      refine x_gets F X 3 (by decide) mw_3 dX7_change_31 (fun u_31 hu_31 => ?_)
      refine lv_iload_n hx hb dX7_change_34 rfl (lv_at hl 2 rfl) ?_
      refine x_tld F X hu_31 (v := (xZv 3 3)) (show vp_in (nI 3) _ from vp_in_nI (by omega) (by omega)) rfl dX7_change_35 ?_
      refine x_gets F X 4 (by decide) mw_5 dX7_change_36 (fun u_36 hu_36 => ?_)
      refine lv_iload_n hx hb dX7_change_39 rfl (lv_at hl 2 rfl) ?_
      refine x_tld F X hu_36 (v := (xZv 4 3)) (show vp_in (nI 3) _ from vp_in_nI (by omega) (by omega)) rfl dX7_change_40 ?_
      refine x_cSi F X (gc := []) (gr := [xoW q x0 v0 xa z0 xs xf xp xd xr, hiW q z0 z1 ad (nI o) (nI n), twW q t0 t1 h0 u0 r0 fc, sW q h0 h1 h2 h3 h4 h5 f1 f2 f3 f4 f5 nb, hW q u0 u1 u2 u3 g1 g2 g3 ps lo, twW q v0 v1 i0 y0 s0 gc, sW q i0 i1 i2 i3 i4 i5 e1 e2 e3 e4 e5 (nI m), hW q y0 y1 y2 y3 k1 k2 k3 qs mo]) (xp_idx (n := 8) [0, 1, 2, 3, 4, 5, 6, 7] (by decide +kernel) rfl rfl) (c_X7_isWithin l D q v (xZv 3 3) (xZv 4 3) ) (va_cwS 3 F.1.2.2.2.2 gX7_change_X7_isWithin rfl rfl rfl (by decide +kernel) ⟨Nat.le_of_ble_eq_true rfl, Nat.le_of_ble_eq_true rfl⟩) rfl rfl hl.1 ⟨Nat.le_of_ble_eq_true rfl, Nat.le_of_ble_eq_true rfl⟩ (Nat.le_of_ble_eq_true rfl) dX7_change_41 (fun r_41 g1 H locs hp X => ?_)
      obtain ⟨rfl, hz⟩ := hp
      have X : xS D A9 s9 [xoW q x0 v0 xa z0 xs xf xp xd xr, hiW q z0 z1 ad (nI o) (nI n), twW q t0 t1 h0 u0 r0 fc, sW q h0 h1 h2 h3 h4 h5 f1 f2 f3 f4 f5 nb, hW q u0 u1 u2 u3 g1 g2 g3 ps lo, twW q v0 v1 i0 y0 s0 gc, sW q i0 i1 i2 i3 i4 i5 e1 e2 e3 e4 e5 (nI m), hW q y0 y1 y2 y3 k1 k2 k3 qs mo] H locs := X
      rcases hz with ⟨rfl, b_41⟩ | ⟨rfl, b_41⟩
      · refine lv_if_ne (tgt := 50) hx hb dX7_change_44 (by decide) (fun _ => ?_) (fun h => absurd h (by decide))
        refine lv_aload_n hx hb dX7_change_50 rfl (lv_at hl 0 rfl) ?_
        refine x_get F X (v := .ref z0) (C := RX7) (T := TX7) (N := 8) (ci := 7) in_X7 0 rfl rfl 2 (by decide) mw_6 rfl dX7_change_51 ?_
        refine lv_aload_n hx hb dX7_change_54 rfl (lv_at hl 0 rfl) ?_
        refine x_get F X (v := .ref v0) (C := RX7) (T := TX7) (N := 8) (ci := 7) in_X7 0 rfl rfl 0 (by decide) mw_0 rfl dX7_change_55 ?_
        refine x_cVv F X (gc := [hiW q z0 z1 ad (nI o) (nI n), twW q t0 t1 h0 u0 r0 fc, sW q h0 h1 h2 h3 h4 h5 f1 f2 f3 f4 f5 nb, hW q u0 u1 u2 u3 g1 g2 g3 ps lo, twW q v0 v1 i0 y0 s0 gc, sW q i0 i1 i2 i3 i4 i5 e1 e2 e3 e4 e5 (nI m), hW q y0 y1 y2 y3 k1 k2 k3 qs mo]) (gr := [xoW q x0 v0 xa z0 xs xf xp xd xr]) (xp_idx (n := 8) [1, 2, 3, 4, 5, 6, 7, 0] (by decide +kernel) rfl rfl) (c_X1_keep l D q z0 z1 o n z ad t0 t1 u0 u1 u2 u3 h0 h1 h2 h3 h4 h5 r0 f1 f2 f3 f4 f5 g1 g2 g3 fc nb ps lo v0 v1 y0 y1 y2 y3 i0 i1 i2 i3 i4 i5 s0 e1 e2 e3 e4 e5 k1 k2 k3 gc (nI m) qs mo (by first | assumption | omega) (by first | assumption | omega) (by first | assumption | omega) (by first | assumption | omega)) (cwV 1 F.1.2.2.2.2 gX7_change_X1_keep rfl rfl rfl (by decide +kernel) ⟨Nat.le_of_ble_eq_true rfl, Nat.le_of_ble_eq_true rfl⟩) rfl rfl (r0 := 0) (ci := 1) (T := TX1) (N := 3) rfl rfl hl.1 ⟨Nat.le_of_ble_eq_true rfl, Nat.le_of_ble_eq_true rfl⟩ (Nat.le_of_ble_eq_true rfl) dX7_change_58 (fun g1 H locs hp X => ?_)
        obtain ⟨ol9, ln9, rfl, hke9⟩ := hp
        have X := X.perm (gs' := [xoW q x0 v0 xa z0 xs xf xp xd xr, hiW q z0 z1 ad (nI ol9) (nI ln9), twW q t0 t1 h0 u0 (va_cpy s0 r0 0 0 4) gc, sW q h0 h1 h2 h3 h4 h5 (va_cpy e1 f1 0 0 20) (va_cpy e2 f2 0 0 20) (va_cpy e3 f3 0 0 20) (va_cpy e4 f4 0 0 20) (va_cpy e5 f5 0 0 20) (nI m), hW q u0 u1 u2 u3 (va_cpy k1 g1 0 0 8) (va_cpy k2 g2 0 0 8) (va_cpy k3 g3 0 0 8) qs mo, twW q v0 v1 i0 y0 s0 gc, sW q i0 i1 i2 i3 i4 i5 e1 e2 e3 e4 e5 (nI m), hW q y0 y1 y2 y3 k1 k2 k3 qs mo]) (xp_idx (n := 8) [7, 0, 1, 2, 3, 4, 5, 6] (by decide +kernel) rfl rfl)
        refine lv_aload_n hx hb dX7_change_61 rfl (lv_at hl 0 rfl) ?_
        refine x_get F X (v := .ref v0) (C := RX7) (T := TX7) (N := 8) (ci := 7) in_X7 0 rfl rfl 0 (by decide) mw_0 rfl dX7_change_62 ?_
        refine x_get F X (v := .ref i0) (C := RX6) (T := TX6) (N := 4) (ci := 6) in_X6 15 rfl rfl 1 (by decide) mw_1 rfl dX7_change_65 ?_
        refine lv_iload_n hx hb dX7_change_68 rfl (lv_at hl 2 rfl) ?_
        refine x_cVr F X (gc := [sW q i0 i1 i2 i3 i4 i5 e1 e2 e3 e4 e5 (nI m)]) (gr := [xoW q x0 v0 xa z0 xs xf xp xd xr, hiW q z0 z1 ad (nI ol9) (nI ln9), twW q t0 t1 h0 u0 (va_cpy s0 r0 0 0 4) gc, sW q h0 h1 h2 h3 h4 h5 (va_cpy e1 f1 0 0 20) (va_cpy e2 f2 0 0 20) (va_cpy e3 f3 0 0 20) (va_cpy e4 f4 0 0 20) (va_cpy e5 f5 0 0 20) (nI m), hW q u0 u1 u2 u3 (va_cpy k1 g1 0 0 8) (va_cpy k2 g2 0 0 8) (va_cpy k3 g3 0 0 8) qs mo, twW q v0 v1 i0 y0 s0 gc, hW q y0 y1 y2 y3 k1 k2 k3 qs mo]) (xp_idx (n := 8) [6, 0, 1, 2, 3, 4, 5, 7] (by decide +kernel) rfl rfl) (c_X5_changeable_3 l D q i0 i1 i2 i3 i4 i5 m e1 e2 e3 e4 e5 ) (cwV 1 F.1.2.2.2.2 gX7_change_X5_changeable rfl rfl rfl (by decide +kernel) ⟨Nat.le_of_ble_eq_true rfl, Nat.le_of_ble_eq_true rfl⟩) rfl rfl (r0 := 0) (ci := 5) (T := TX5) (N := 6) rfl rfl hl.1 ⟨Nat.le_of_ble_eq_true rfl, Nat.le_of_ble_eq_true rfl⟩ (Nat.le_of_ble_eq_true rfl) dX7_change_69 (fun r_69 g1 H locs hp X => ?_)
        obtain ⟨rfl, hr9⟩ := hp
        obtain rfl := hr9.symm
        have X := X.perm (gs' := [xoW q x0 v0 xa z0 xs xf xp xd xr, hiW q z0 z1 ad (nI ol9) (nI ln9), twW q t0 t1 h0 u0 (va_cpy s0 r0 0 0 4) gc, sW q h0 h1 h2 h3 h4 h5 (va_cpy e1 f1 0 0 20) (va_cpy e2 f2 0 0 20) (va_cpy e3 f3 0 0 20) (va_cpy e4 f4 0 0 20) (va_cpy e5 f5 0 0 20) (nI m), hW q u0 u1 u2 u3 (va_cpy k1 g1 0 0 8) (va_cpy k2 g2 0 0 8) (va_cpy k3 g3 0 0 8) qs mo, twW q v0 v1 i0 y0 s0 gc, sW q i0 i1 i2 i3 i4 i5 e1 e2 e3 e4 e5 (nI m), hW q y0 y1 y2 y3 k1 k2 k3 qs mo]) (xp_idx (n := 8) [1, 2, 3, 4, 5, 6, 0, 7] (by decide +kernel) rfl rfl)
        refine lv_astore (lv' := [(4, .ref i2), (0, .ref x0), (1, .int (nI k)), (2, .int 3), (3, .int v)]) hx hb dX7_change_72 hl (by decide) rfl (fun ls hl => ?_)
        refine lv_aload hx hb dX7_change_74 (lv_at hl 0 rfl) ?_
        refine lv_iload_n hx hb dX7_change_76 rfl (lv_at hl 2 rfl) ?_
        refine x_iald F X (v := (e2 k)) (n := 20) (f := e2) 19 rfl (vp_in_nI (by omega) (by omega)) (x_cl (by omega)) dX7_change_77 ?_
        refine lv_istore (lv' := [(5, .int (e2 k)), (4, .ref i2), (0, .ref x0), (1, .int (nI k)), (2, .int 3), (3, .int v)]) hx hb dX7_change_78 hl (by decide) rfl (fun ls hl => ?_)
        refine lv_aload hx hb dX7_change_80 (lv_at hl 1 rfl) ?_
        refine lv_iload_n hx hb dX7_change_82 rfl (lv_at hl 3 rfl) ?_
        refine lv_iload_n hx hb dX7_change_83 rfl (lv_at hl 5 rfl) ?_
        refine x_iast F X (gs' := [xoW q x0 v0 xa z0 xs xf xp xd xr, hiW q z0 z1 ad (nI ol9) (nI ln9), twW q t0 t1 h0 u0 (va_cpy s0 r0 0 0 4) gc, sW q h0 h1 h2 h3 h4 h5 (va_cpy e1 f1 0 0 20) (va_cpy e2 f2 0 0 20) (va_cpy e3 f3 0 0 20) (va_cpy e4 f4 0 0 20) (va_cpy e5 f5 0 0 20) (nI m), hW q u0 u1 u2 u3 (va_cpy k1 g1 0 0 8) (va_cpy k2 g2 0 0 8) (va_cpy k3 g3 0 0 8) qs mo, twW q v0 v1 i0 y0 s0 gc, sW q i0 i1 i2 i3 i4 i5 e1 (upd e2 k v) e3 e4 e5 (nI m), hW q y0 y1 y2 y3 k1 k2 k3 qs mo]) (n := 20) (f := e2) (k := k) 19 rfl (vp_in_nI (by omega) (by omega)) (nI_clamp (by omega)) dX7_change_84 rfl (fun H locs X => ?_)
        refine lv_iload hx hb dX7_change_85 (lv_at hl 0 rfl) ?_
        exact hret _ _ _ _ _ _ (by exact ⟨_, _, rfl, rfl, hke9⟩) X dX7_change_87
      · refine lv_if_ne (tgt := 50) hx hb dX7_change_44 (by decide) (fun h => absurd (by decide) h) (fun _ => ?_)
        exact absurd hv b_41
    · refine lv_if_ne (tgt := 30) hx hb dX7_change_24 (by decide) (fun h => absurd (by decide) h) (fun _ => ?_)
      exact absurd ⟨by decide, by decide⟩ b_21
  · refine lv_if_ne (tgt := 16) hx hb dX7_change_11 (by decide) (fun h => absurd (by decide) h) (fun _ => ?_)
    exact absurd ⟨k, hk, rfl⟩ b_8
