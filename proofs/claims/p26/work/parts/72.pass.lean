/-! Hours: the class's records against the reference's. -/
theorem x_hour_1 {U c w : Nat → Int32} {su wh x : Int32} (hc : ∀ j, j < 8 → c j = U (9 + 3 * j)) (hw : ∀ j, j < 8 → w j = if j = 0 then x else c (j - 1)) (hx : x = U 4) : ∀ j, j < 8 → w j = x_hour U su wh (9 + 3 * j) := by
  intro j hj
  rw [hw j hj]
  unfold x_hour x_sft
  by_cases e : j = 0
  · subst e; rw [if_pos rfl, hx, if_neg (by omega), if_neg (by omega), if_neg (by omega), if_neg (by omega), if_neg (by omega), if_pos (by omega)]
  · rw [if_neg e, hc _ (by omega), if_neg (by omega), if_neg (by omega), if_neg (by omega), if_neg (by omega), if_neg (by omega), if_neg (by omega), if_pos (by omega)]
    exact congrArg U (by omega)
theorem x_hour_2 {U c w : Nat → Int32} {su wh : Int32} (hc : ∀ j, j < 8 → c j = U (10 + 3 * j)) (hw : ∀ j, j < 8 → w j = if j = 0 then su else c (j - 1)) : ∀ j, j < 8 → w j = x_hour U su wh (10 + 3 * j) := by
  intro j hj
  rw [hw j hj]
  unfold x_hour x_sft
  by_cases e : j = 0
  · subst e; rw [if_pos rfl, if_neg (by omega), if_neg (by omega), if_neg (by omega), if_neg (by omega), if_pos (by omega)]
  · rw [if_neg e, hc _ (by omega), if_neg (by omega), if_neg (by omega), if_neg (by omega), if_neg (by omega), if_neg (by omega), if_neg (by omega), if_pos (by omega)]
    exact congrArg U (by omega)
theorem x_hour_3 {U c w : Nat → Int32} {su wh : Int32} (hc : ∀ j, j < 8 → c j = U (11 + 3 * j)) (hw : ∀ j, j < 8 → w j = if j = 0 then wh else c (j - 1)) : ∀ j, j < 8 → w j = x_hour U su wh (11 + 3 * j) := by
  intro j hj
  rw [hw j hj]
  unfold x_hour x_sft
  by_cases e : j = 0
  · subst e; rw [if_pos rfl, if_neg (by omega), if_neg (by omega), if_neg (by omega), if_pos (by omega)]
  · rw [if_neg e, hc _ (by omega), if_neg (by omega), if_neg (by omega), if_neg (by omega), if_neg (by omega), if_neg (by omega), if_neg (by omega), if_pos (by omega)]
    exact congrArg U (by omega)
theorem x_hour_6 (U : Nat → Int32) (su wh : Int32) : x_hour U su wh 6 = U 6 + 1 := rfl
theorem x_hour_7 (U : Nat → Int32) (su wh : Int32) : x_hour U su wh 7 = U 7 + su := rfl
/-- the records, and the two numbers -/
def xHR (T g1 g2 g3 : Nat → Int32) (ps lo : Int32) : Prop := (∀ j, j < 8 → g1 j = T (9 + 3 * j)) ∧ (∀ j, j < 8 → g2 j = T (10 + 3 * j)) ∧ (∀ j, j < 8 → g3 j = T (11 + 3 * j)) ∧ ps = T 6 ∧ lo = T 7
set_option maxHeartbeats 1000000 in
set_option maxRecDepth 100000 in
theorem c_X7_passY (l : Launch) (D : va_G) (q : xQ) (x0 : Nat) (xa : Nat) (xs : Nat) (xf : Nat) (xp : Nat) (xd : Nat) (xr : Nat) (z0 : Nat) (z1 : Nat) (o : Nat) (n : Nat) (z : Nat) (ad : Nat → Option Nat) (t0 : Nat) (t1 : Nat) (u0 : Nat) (u1 : Nat) (u2 : Nat) (u3 : Nat) (h0 : Nat) (h1 : Nat) (h2 : Nat) (h3 : Nat) (h4 : Nat) (h5 : Nat) (r0 : Nat → Int32) (f1 : Nat → Int32) (f2 : Nat → Int32) (f3 : Nat → Int32) (f4 : Nat → Int32) (f5 : Nat → Int32) (g1 : Nat → Int32) (g2 : Nat → Int32) (g3 : Nat → Int32) (fc : Int32) (nb : Int32) (ps : Int32) (lo : Int32) (v0 : Nat) (v1 : Nat) (y0 : Nat) (y1 : Nat) (y2 : Nat) (y3 : Nat) (i0 : Nat) (i1 : Nat) (i2 : Nat) (i3 : Nat) (i4 : Nat) (i5 : Nat) (s0 : Nat → Int32) (e1 : Nat → Int32) (e2 : Nat → Int32) (e3 : Nat → Int32) (e4 : Nat → Int32) (e5 : Nat → Int32) (k1 : Nat → Int32) (k2 : Nat → Int32) (k3 : Nat → Int32) (gc : Int32) (qs : Int32) (mo : Int32) (b1 : Nat) (b2 : Nat) (b3 : Nat) (a1 : Nat → Int32) (a2 : Nat → Int32) (a3 : Nat → Int32) (m : Nat) (hh : Nat) (T : Nat → Int32) (pr : Nat → Nat) (ho : o < 6) (hn6 : n ≤ 6) (hz : z = (o + n) % 6) (had : ad z = some t0) (hok : x_ok T m pr) (hsr : xSR T m e1 e2 e3 e4 e5) (hqr : ∀ i, i < 4 → s0 i = T i) (hfc : gc = T 4) (hhr2 : xHR T k1 k2 k3 qs mo) (hh1 : 1 ≤ hh) (hh2 : hh ≤ 24) (h9 : ¬ 999 < qs + nI hh) : xMi l yX7_pass wsX7_pass { frames := 5, cells := 0, slots := 0, locals := 124 } D q [.ref x0, .int (nI hh)] [xoW q x0 v0 xa z0 xs xf xp xd xr, hiW q z0 z1 ad (nI o) (nI n), twW q t0 t1 h0 u0 r0 fc, sW q h0 h1 h2 h3 h4 h5 f1 f2 f3 f4 f5 nb, hW q u0 u1 u2 u3 g1 g2 g3 ps lo, twW q v0 v1 i0 y0 s0 gc, sW q i0 i1 i2 i3 i4 i5 e1 e2 e3 e4 e5 (nI m), hW q y0 y1 y2 y3 k1 k2 k3 qs mo, aW q xa b1 b2 b3 a1 a2 a3] (fun r gw => ∃ (ol2 : Nat), ∃ (ln2 : Nat), ∃ (o1 : Nat → Int32), ∃ (o2 : Nat → Int32), ∃ (o3 : Nat → Int32), ∃ (j1 : Nat → Int32), ∃ (j2 : Nat → Int32), ∃ (j3 : Nat → Int32), ∃ (q2 : Int32), ∃ (l2 : Int32), gw = [xoW q x0 v0 xa z0 xs xf xp xd xr, hiW q z0 z1 ad (nI ol2) (nI ln2), twW q t0 t1 h0 u0 (va_cpy s0 r0 0 0 4) gc, sW q h0 h1 h2 h3 h4 h5 (va_cpy e1 f1 0 0 20) (va_cpy e2 f2 0 0 20) (va_cpy e3 f3 0 0 20) (va_cpy e4 f4 0 0 20) (va_cpy e5 f5 0 0 20) (nI m), hW q u0 u1 u2 u3 (va_cpy k1 g1 0 0 8) (va_cpy k2 g2 0 0 8) (va_cpy k3 g3 0 0 8) qs mo, twW q v0 v1 i0 y0 s0 gc, sW q i0 i1 i2 i3 i4 i5 e1 e2 e3 e4 e5 (nI m), hW q y0 y1 y2 y3 j1 j2 j3 q2 l2, aW q xa b1 b2 b3 o1 o2 o3] ∧ r = x_rep (x_hb T pr m (T 4)) hh ∧ (ln2 = min (n + 1) 6 ∧ ol2 = if n = 6 then (o + 1) % 6 else o) ∧ (xHR (x_hrs T (x_hb T pr m (T 4)) (x_wh T pr m) hh) j1 j2 j3 q2 l2)) := by
  refine xMi_of (cc := cX7_pass) (maxL := 5) (rt := .int) (by decide) rfl (Nat.le_of_ble_eq_true rfl) (fun _ _ _ => rfl) ?_
  intro p9 e9 s9 m9 a9 below meth c9 A9 Z9 ls H locs F X hl hret
  have hx := F.1.1
  have hb := F.1.2.1
  have in_X7 : ∀ w ∈ wsX70, w ∈ wsX7_pass := by decide +kernel
  have in_X6 : ∀ w ∈ wsX60, w ∈ wsX7_pass := by decide +kernel
  have in_X2 : ∀ w ∈ wsX20, w ∈ wsX7_pass := by decide +kernel
  have mw_0 : Cond.initialized RX7 ∈ wsX7_pass := by decide +kernel
  have mw_1 : Cond.fieldLink RX7 10 "HatWinds" "town" "LHatWinds$Town;" ∈ wsX7_pass := by decide +kernel
  have mw_2 : Cond.fieldLink RX7 129 "HatWinds$Town" "hours" "LHatWinds$Hours;" ∈ wsX7_pass := by decide +kernel
  have mw_3 : Cond.fieldLink RX7 133 "HatWinds$Hours" "passed" "I" ∈ wsX7_pass := by decide +kernel
  have mw_4 : Cond.fieldLink RX7 26 "HatWinds" "history" "LHatWinds$History;" ∈ wsX7_pass := by decide +kernel
  have mw_5 : Cond.initialized RX1 ∈ wsX7_pass := by decide +kernel
  have mw_6 : Cond.fieldLink RX7 19 "HatWinds" "air" "LHatWinds$Air;" ∈ wsX7_pass := by decide +kernel
  have mw_7 : Cond.initialized RX0 ∈ wsX7_pass := by decide +kernel
  have mw_8 : Cond.fieldLink RX7 126 "HatWinds$Town" "force" "I" ∈ wsX7_pass := by decide +kernel
  have mw_9 : Cond.initialized RX2 ∈ wsX7_pass := by decide +kernel
  have hl : lv_has ls 5 [(0, .ref x0), (1, .int (nI hh))] := hl
  have hok0 := hok
  obtain ⟨hm, hn1, hs5, hs33, hpt, hwd, hcl, hsm, hpe, hst, hle, hhr, hcn⟩ := hok0
  have hpr := hsr.prs hok
  have h60 := hsr.1
  refine lv_iload_n hx hb dX7_pass_0 rfl (lv_at hl 1 rfl) ?_
  refine lv_iconst (v := 1) hx hb dX7_pass_1 (by decide) ?_
  refine lv_bipush (v := 24) hx hb dX7_pass_2 (by decide) ?_
  refine x_cSi F X (gc := []) (gr := [xoW q x0 v0 xa z0 xs xf xp xd xr, hiW q z0 z1 ad (nI o) (nI n), twW q t0 t1 h0 u0 r0 fc, sW q h0 h1 h2 h3 h4 h5 f1 f2 f3 f4 f5 nb, hW q u0 u1 u2 u3 g1 g2 g3 ps lo, twW q v0 v1 i0 y0 s0 gc, sW q i0 i1 i2 i3 i4 i5 e1 e2 e3 e4 e5 (nI m), hW q y0 y1 y2 y3 k1 k2 k3 qs mo, aW q xa b1 b2 b3 a1 a2 a3]) (xp_idx (n := 9) [0, 1, 2, 3, 4, 5, 6, 7, 8] (by decide +kernel) rfl rfl) (c_X7_isWithinN l D q hh 1 24 (by first | assumption | omega) (by first | assumption | omega) (by first | assumption | omega)) (va_cwS 3 F.1.2.2.2.2 gX7_pass_X7_isWithin rfl rfl rfl (by decide +kernel) ⟨Nat.le_of_ble_eq_true rfl, Nat.le_of_ble_eq_true rfl⟩) rfl rfl hl.1 ⟨Nat.le_of_ble_eq_true rfl, Nat.le_of_ble_eq_true rfl⟩ (Nat.le_of_ble_eq_true rfl) dX7_pass_4 (fun r_4 g1 H locs hp X => ?_)
  obtain ⟨rfl, hz⟩ := hp
  have X : xS D A9 s9 [xoW q x0 v0 xa z0 xs xf xp xd xr, hiW q z0 z1 ad (nI o) (nI n), twW q t0 t1 h0 u0 r0 fc, sW q h0 h1 h2 h3 h4 h5 f1 f2 f3 f4 f5 nb, hW q u0 u1 u2 u3 g1 g2 g3 ps lo, twW q v0 v1 i0 y0 s0 gc, sW q i0 i1 i2 i3 i4 i5 e1 e2 e3 e4 e5 (nI m), hW q y0 y1 y2 y3 k1 k2 k3 qs mo, aW q xa b1 b2 b3 a1 a2 a3] H locs := X
  rcases hz with ⟨rfl, b_4⟩ | ⟨rfl, b_4⟩
  · refine lv_if_ne (tgt := 13) hx hb dX7_pass_7 (by decide) (fun _ => ?_) (fun h => absurd h (by decide))
    refine lv_aload_n hx hb dX7_pass_13 rfl (lv_at hl 0 rfl) ?_
    refine x_get F X (v := .ref v0) (C := RX7) (T := TX7) (N := 8) (ci := 7) in_X7 0 rfl rfl 0 (by decide) mw_1 rfl dX7_pass_14 ?_
    refine x_get F X (v := .ref y0) (C := RX6) (T := TX6) (N := 4) (ci := 6) in_X6 15 rfl rfl 2 (by decide) mw_2 rfl dX7_pass_17 ?_
    refine x_get F X (v := .int qs) (C := RX2) (T := TX2) (N := 5) (ci := 2) in_X2 23 rfl rfl 3 (by decide) mw_3 rfl dX7_pass_20 ?_
    refine lv_iload_n hx hb dX7_pass_23 rfl (lv_at hl 1 rfl) ?_
    refine lv_iadd hx hb dX7_pass_24 ?_
    refine lv_sipush (v := 999) hx hb dX7_pass_25 (by decide) ?_
    refine lv_icmp_le (tgt := 34) hx hb dX7_pass_28 (by decide) (fun c_28 => ?_) (fun c_28 => ?_)
    rotate_left
    · exfalso
      exact c_28 (Int32.not_lt.mp h9)
    refine lv_aload_n hx hb dX7_pass_34 rfl (lv_at hl 0 rfl) ?_
    refine x_get F X (v := .ref z0) (C := RX7) (T := TX7) (N := 8) (ci := 7) in_X7 0 rfl rfl 2 (by decide) mw_4 rfl dX7_pass_35 ?_
    refine lv_aload_n hx hb dX7_pass_38 rfl (lv_at hl 0 rfl) ?_
    refine x_get F X (v := .ref v0) (C := RX7) (T := TX7) (N := 8) (ci := 7) in_X7 0 rfl rfl 0 (by decide) mw_1 rfl dX7_pass_39 ?_
    refine x_cVv F X (gc := [hiW q z0 z1 ad (nI o) (nI n), twW q t0 t1 h0 u0 r0 fc, sW q h0 h1 h2 h3 h4 h5 f1 f2 f3 f4 f5 nb, hW q u0 u1 u2 u3 g1 g2 g3 ps lo, twW q v0 v1 i0 y0 s0 gc, sW q i0 i1 i2 i3 i4 i5 e1 e2 e3 e4 e5 (nI m), hW q y0 y1 y2 y3 k1 k2 k3 qs mo]) (gr := [xoW q x0 v0 xa z0 xs xf xp xd xr, aW q xa b1 b2 b3 a1 a2 a3]) (xp_idx (n := 9) [1, 2, 3, 4, 5, 6, 7, 0, 8] (by decide +kernel) rfl rfl) (c_X1_keep l D q z0 z1 o n z ad t0 t1 u0 u1 u2 u3 h0 h1 h2 h3 h4 h5 r0 f1 f2 f3 f4 f5 g1 g2 g3 fc nb ps lo v0 v1 y0 y1 y2 y3 i0 i1 i2 i3 i4 i5 s0 e1 e2 e3 e4 e5 k1 k2 k3 gc (nI m) qs mo (by first | assumption | omega) (by first | assumption | omega) (by first | assumption | omega) (by first | assumption | omega)) (cwV 1 F.1.2.2.2.2 gX7_pass_X1_keep rfl rfl rfl (by decide +kernel) ⟨Nat.le_of_ble_eq_true rfl, Nat.le_of_ble_eq_true rfl⟩) rfl rfl (r0 := 0) (ci := 1) (T := TX1) (N := 3) rfl rfl hl.1 ⟨Nat.le_of_ble_eq_true rfl, Nat.le_of_ble_eq_true rfl⟩ (Nat.le_of_ble_eq_true rfl) dX7_pass_42 (fun g1 H locs hp X => ?_)
    obtain ⟨ol9, ln9, rfl, hke9⟩ := hp
    have X := X.perm (gs' := [xoW q x0 v0 xa z0 xs xf xp xd xr, hiW q z0 z1 ad (nI ol9) (nI ln9), twW q t0 t1 h0 u0 (va_cpy s0 r0 0 0 4) gc, sW q h0 h1 h2 h3 h4 h5 (va_cpy e1 f1 0 0 20) (va_cpy e2 f2 0 0 20) (va_cpy e3 f3 0 0 20) (va_cpy e4 f4 0 0 20) (va_cpy e5 f5 0 0 20) (nI m), hW q u0 u1 u2 u3 (va_cpy k1 g1 0 0 8) (va_cpy k2 g2 0 0 8) (va_cpy k3 g3 0 0 8) qs mo, twW q v0 v1 i0 y0 s0 gc, sW q i0 i1 i2 i3 i4 i5 e1 e2 e3 e4 e5 (nI m), hW q y0 y1 y2 y3 k1 k2 k3 qs mo, aW q xa b1 b2 b3 a1 a2 a3]) (xp_idx (n := 9) [7, 0, 1, 2, 3, 4, 5, 6, 8] (by decide +kernel) rfl rfl)
    refine lv_aload_n hx hb dX7_pass_45 rfl (lv_at hl 0 rfl) ?_
    refine x_get F X (v := .ref xa) (C := RX7) (T := TX7) (N := 8) (ci := 7) in_X7 0 rfl rfl 1 (by decide) mw_6 rfl dX7_pass_46 ?_
    refine lv_aload_n hx hb dX7_pass_49 rfl (lv_at hl 0 rfl) ?_
    refine x_get F X (v := .ref v0) (C := RX7) (T := TX7) (N := 8) (ci := 7) in_X7 0 rfl rfl 0 (by decide) mw_1 rfl dX7_pass_50 ?_
    refine x_cVv F X (gc := [aW q xa b1 b2 b3 a1 a2 a3, twW q v0 v1 i0 y0 s0 gc, sW q i0 i1 i2 i3 i4 i5 e1 e2 e3 e4 e5 (nI m)]) (gr := [xoW q x0 v0 xa z0 xs xf xp xd xr, hiW q z0 z1 ad (nI ol9) (nI ln9), twW q t0 t1 h0 u0 (va_cpy s0 r0 0 0 4) gc, sW q h0 h1 h2 h3 h4 h5 (va_cpy e1 f1 0 0 20) (va_cpy e2 f2 0 0 20) (va_cpy e3 f3 0 0 20) (va_cpy e4 f4 0 0 20) (va_cpy e5 f5 0 0 20) (nI m), hW q u0 u1 u2 u3 (va_cpy k1 g1 0 0 8) (va_cpy k2 g2 0 0 8) (va_cpy k3 g3 0 0 8) qs mo, hW q y0 y1 y2 y3 k1 k2 k3 qs mo]) (xp_idx (n := 9) [8, 5, 6, 0, 1, 2, 3, 4, 7] (by decide +kernel) rfl rfl) (c_X0_blowIn l D q xa b1 b2 b3 a1 a2 a3 v0 v1 y0 s0 gc i0 i1 i2 i3 i4 i5 m e1 e2 e3 e4 e5 pr (by first | assumption | omega) (by first | assumption | omega) (by first | assumption | omega)) (cwV 1 F.1.2.2.2.2 gX7_pass_X0_blowIn rfl rfl rfl (by decide +kernel) ⟨Nat.le_of_ble_eq_true rfl, Nat.le_of_ble_eq_true rfl⟩) rfl rfl (r0 := 0) (ci := 0) (T := TX0) (N := 3) rfl rfl hl.1 ⟨Nat.le_of_ble_eq_true rfl, Nat.le_of_ble_eq_true rfl⟩ (Nat.le_of_ble_eq_true rfl) dX7_pass_53 (fun g1 H locs hp X => ?_)
    obtain ⟨w1_9, w2_9, w3_9, rfl, hw9⟩ := hp
    have X := X.perm (gs' := [xoW q x0 v0 xa z0 xs xf xp xd xr, hiW q z0 z1 ad (nI ol9) (nI ln9), twW q t0 t1 h0 u0 (va_cpy s0 r0 0 0 4) gc, sW q h0 h1 h2 h3 h4 h5 (va_cpy e1 f1 0 0 20) (va_cpy e2 f2 0 0 20) (va_cpy e3 f3 0 0 20) (va_cpy e4 f4 0 0 20) (va_cpy e5 f5 0 0 20) (nI m), hW q u0 u1 u2 u3 (va_cpy k1 g1 0 0 8) (va_cpy k2 g2 0 0 8) (va_cpy k3 g3 0 0 8) qs mo, twW q v0 v1 i0 y0 s0 gc, sW q i0 i1 i2 i3 i4 i5 e1 e2 e3 e4 e5 (nI m), hW q y0 y1 y2 y3 k1 k2 k3 qs mo, aW q xa b1 b2 b3 w1_9 w2_9 w3_9]) (xp_idx (n := 9) [3, 4, 5, 6, 7, 1, 2, 8, 0] (by decide +kernel) rfl rfl)
    have hF : ∀ k, k < m → w3_9 k = x_FT T pr m (-6) (T 4) k := fun k hk => (hw9 k hk).trans (hsr.F hok hfc hk)
    refine lv_aload_n hx hb dX7_pass_56 rfl (lv_at hl 0 rfl) ?_
    refine x_get F X (v := .ref xa) (C := RX7) (T := TX7) (N := 8) (ci := 7) in_X7 0 rfl rfl 1 (by decide) mw_6 rfl dX7_pass_57 ?_
    refine lv_aload_n hx hb dX7_pass_60 rfl (lv_at hl 0 rfl) ?_
    refine x_get F X (v := .ref v0) (C := RX7) (T := TX7) (N := 8) (ci := 7) in_X7 0 rfl rfl 0 (by decide) mw_1 rfl dX7_pass_61 ?_
    refine x_cVi F X (gc := [aW q xa b1 b2 b3 w1_9 w2_9 w3_9, twW q v0 v1 i0 y0 s0 gc, sW q i0 i1 i2 i3 i4 i5 e1 e2 e3 e4 e5 (nI m)]) (gr := [xoW q x0 v0 xa z0 xs xf xp xd xr, hiW q z0 z1 ad (nI ol9) (nI ln9), twW q t0 t1 h0 u0 (va_cpy s0 r0 0 0 4) gc, sW q h0 h1 h2 h3 h4 h5 (va_cpy e1 f1 0 0 20) (va_cpy e2 f2 0 0 20) (va_cpy e3 f3 0 0 20) (va_cpy e4 f4 0 0 20) (va_cpy e5 f5 0 0 20) (nI m), hW q u0 u1 u2 u3 (va_cpy k1 g1 0 0 8) (va_cpy k2 g2 0 0 8) (va_cpy k3 g3 0 0 8) qs mo, hW q y0 y1 y2 y3 k1 k2 k3 qs mo]) (xp_idx (n := 9) [8, 5, 6, 0, 1, 2, 3, 4, 7] (by decide +kernel) rfl rfl) (c_X0_hatsLost l D q xa b1 b2 b3 w1_9 w2_9 w3_9 v0 v1 y0 s0 gc i0 i1 i2 i3 i4 i5 m e1 e2 e3 e4 e5 (by first | assumption | omega)) (cwV 1 F.1.2.2.2.2 gX7_pass_X0_hatsLost rfl rfl rfl (by decide +kernel) ⟨Nat.le_of_ble_eq_true rfl, Nat.le_of_ble_eq_true rfl⟩) rfl rfl (r0 := 0) (ci := 0) (T := TX0) (N := 3) rfl rfl hl.1 ⟨Nat.le_of_ble_eq_true rfl, Nat.le_of_ble_eq_true rfl⟩ (Nat.le_of_ble_eq_true rfl) dX7_pass_64 (fun r_64 g1 H locs hp X => ?_)
    obtain ⟨rfl, rfl⟩ := hp
    have X := X.perm (gs' := [xoW q x0 v0 xa z0 xs xf xp xd xr, hiW q z0 z1 ad (nI ol9) (nI ln9), twW q t0 t1 h0 u0 (va_cpy s0 r0 0 0 4) gc, sW q h0 h1 h2 h3 h4 h5 (va_cpy e1 f1 0 0 20) (va_cpy e2 f2 0 0 20) (va_cpy e3 f3 0 0 20) (va_cpy e4 f4 0 0 20) (va_cpy e5 f5 0 0 20) (nI m), hW q u0 u1 u2 u3 (va_cpy k1 g1 0 0 8) (va_cpy k2 g2 0 0 8) (va_cpy k3 g3 0 0 8) qs mo, twW q v0 v1 i0 y0 s0 gc, sW q i0 i1 i2 i3 i4 i5 e1 e2 e3 e4 e5 (nI m), hW q y0 y1 y2 y3 k1 k2 k3 qs mo, aW q xa b1 b2 b3 w1_9 w2_9 w3_9]) (xp_idx (n := 9) [3, 4, 5, 6, 7, 1, 2, 8, 0] (by decide +kernel) rfl rfl)
    refine x_i (y := (x_hb T pr m (T 4))) (hsr.hb hqr hF) ?_
    refine lv_istore_n (lv' := [(2, .int (x_hb T pr m (T 4))), (0, .ref x0), (1, .int (nI hh))]) hx hb dX7_pass_67 rfl hl (by decide) rfl (fun ls hl => ?_)
    refine lv_aload_n hx hb dX7_pass_68 rfl (lv_at hl 1 rfl) ?_
    refine x_get F X (v := .ref xa) (C := RX7) (T := TX7) (N := 8) (ci := 7) in_X7 0 rfl rfl 1 (by decide) mw_6 rfl dX7_pass_69 ?_
    refine lv_aload_n hx hb dX7_pass_72 rfl (lv_at hl 1 rfl) ?_
    refine x_get F X (v := .ref v0) (C := RX7) (T := TX7) (N := 8) (ci := 7) in_X7 0 rfl rfl 0 (by decide) mw_1 rfl dX7_pass_73 ?_
    refine x_cVi F X (gc := [aW q xa b1 b2 b3 w1_9 w2_9 w3_9, twW q v0 v1 i0 y0 s0 gc, sW q i0 i1 i2 i3 i4 i5 e1 e2 e3 e4 e5 (nI m)]) (gr := [xoW q x0 v0 xa z0 xs xf xp xd xr, hiW q z0 z1 ad (nI ol9) (nI ln9), twW q t0 t1 h0 u0 (va_cpy s0 r0 0 0 4) gc, sW q h0 h1 h2 h3 h4 h5 (va_cpy e1 f1 0 0 20) (va_cpy e2 f2 0 0 20) (va_cpy e3 f3 0 0 20) (va_cpy e4 f4 0 0 20) (va_cpy e5 f5 0 0 20) (nI m), hW q u0 u1 u2 u3 (va_cpy k1 g1 0 0 8) (va_cpy k2 g2 0 0 8) (va_cpy k3 g3 0 0 8) qs mo, hW q y0 y1 y2 y3 k1 k2 k3 qs mo]) (xp_idx (n := 9) [8, 5, 6, 0, 1, 2, 3, 4, 7] (by decide +kernel) rfl rfl) (c_X0_worstStreet l D q xa b1 b2 b3 w1_9 w2_9 w3_9 v0 v1 y0 s0 gc i0 i1 i2 i3 i4 i5 m e1 e2 e3 e4 e5 (by first | assumption | omega)) (cwV 1 F.1.2.2.2.2 gX7_pass_X0_worstStreet rfl rfl rfl (by decide +kernel) ⟨Nat.le_of_ble_eq_true rfl, Nat.le_of_ble_eq_true rfl⟩) rfl rfl (r0 := 0) (ci := 0) (T := TX0) (N := 3) rfl rfl hl.1 ⟨Nat.le_of_ble_eq_true rfl, Nat.le_of_ble_eq_true rfl⟩ (Nat.le_of_ble_eq_true rfl) dX7_pass_76 (fun r_76 g1 H locs hp X => ?_)
    obtain ⟨rfl, rfl⟩ := hp
    have X := X.perm (gs' := [xoW q x0 v0 xa z0 xs xf xp xd xr, hiW q z0 z1 ad (nI ol9) (nI ln9), twW q t0 t1 h0 u0 (va_cpy s0 r0 0 0 4) gc, sW q h0 h1 h2 h3 h4 h5 (va_cpy e1 f1 0 0 20) (va_cpy e2 f2 0 0 20) (va_cpy e3 f3 0 0 20) (va_cpy e4 f4 0 0 20) (va_cpy e5 f5 0 0 20) (nI m), hW q u0 u1 u2 u3 (va_cpy k1 g1 0 0 8) (va_cpy k2 g2 0 0 8) (va_cpy k3 g3 0 0 8) qs mo, twW q v0 v1 i0 y0 s0 gc, sW q i0 i1 i2 i3 i4 i5 e1 e2 e3 e4 e5 (nI m), hW q y0 y1 y2 y3 k1 k2 k3 qs mo, aW q xa b1 b2 b3 w1_9 w2_9 w3_9]) (xp_idx (n := 9) [3, 4, 5, 6, 7, 1, 2, 8, 0] (by decide +kernel) rfl rfl)
    refine x_i (y := (x_wh T pr m)) (hsr.wo hqr hF) ?_
    refine lv_istore_n (lv' := [(3, .int (x_wh T pr m)), (2, .int (x_hb T pr m (T 4))), (0, .ref x0), (1, .int (nI hh))]) hx hb dX7_pass_79 rfl hl (by decide) rfl (fun ls hl => ?_)
    refine lv_iconst (v := 0) hx hb dX7_pass_80 (by decide) ?_
    refine lv_istore (lv' := [(4, .int 0), (3, .int (x_wh T pr m)), (2, .int (x_hb T pr m (T 4))), (0, .ref x0), (1, .int (nI hh))]) hx hb dX7_pass_81 hl (by decide) rfl (fun ls hl => ?_)
    have L_83 : ∀ (nn : Nat) (i : Nat) (c1 c2 c3 : Nat → Int32) (p1 l1 : Int32) (H : Heap) (locs : List Loc) (ls : Array Slot), xS D A9 s9 [xoW q x0 v0 xa z0 xs xf xp xd xr, hiW q z0 z1 ad (nI ol9) (nI ln9), twW q t0 t1 h0 u0 (va_cpy s0 r0 0 0 4) gc, sW q h0 h1 h2 h3 h4 h5 (va_cpy e1 f1 0 0 20) (va_cpy e2 f2 0 0 20) (va_cpy e3 f3 0 0 20) (va_cpy e4 f4 0 0 20) (va_cpy e5 f5 0 0 20) (nI m), hW q u0 u1 u2 u3 (va_cpy k1 g1 0 0 8) (va_cpy k2 g2 0 0 8) (va_cpy k3 g3 0 0 8) qs mo, twW q v0 v1 i0 y0 s0 gc, sW q i0 i1 i2 i3 i4 i5 e1 e2 e3 e4 e5 (nI m), hW q y0 y1 y2 y3 c1 c2 c3 p1 l1, aW q xa b1 b2 b3 w1_9 w2_9 w3_9] H locs → lv_has ls 5 [(4, .int (nI i)), (3, .int (x_wh T pr m)), (2, .int (x_hb T pr m (T 4))), (0, .ref x0), (1, .int (nI hh))] → (hh < i + nn) → (i ≤ hh) → (xHR (x_hrs T (x_hb T pr m (T 4)) (x_wh T pr m) i) c1 c2 c3 p1 l1) → W p9 l e9 { frames := 5, cells := 0, slots := 0, locals := 124 } s9 m9 a9 below meth c9 H locs 0 0 Z9 (F0 m9 83 ls []) := by
      intro nn
      induction nn with
      | zero => intro i c1 c2 c3 p1 l1 H locs ls X hl hfuel hi hxi; exact absurd hfuel (by omega)
      | succ nn ih_83 =>
        intro i c1 c2 c3 p1 l1 H locs ls X hl hfuel hi hxi
        refine lv_iload hx hb dX7_pass_83 (lv_at hl 0 rfl) ?_
        refine lv_iload_n hx hb dX7_pass_85 rfl (lv_at hl 4 rfl) ?_
        refine lv_icmp_ge (tgt := 114) hx hb dX7_pass_86 (by decide) (fun c_86 => ?_) (fun c_86 => ?_)
        · have c_86 : hh ≤ i := (nI_leI (a := hh) (b := i) (by omega) (by omega)).mp c_86
          refine lv_iload_n hx hb dX7_pass_114 rfl (lv_at hl 4 rfl) ?_
          refine lv_iload_n hx hb dX7_pass_115 rfl (lv_at hl 2 rfl) ?_
          refine lv_imul hx hb dX7_pass_116 ?_
          refine hret _ _ _ _ _ _ ?_ X dX7_pass_117
          obtain rfl : i = hh := by omega
          exact ⟨_, _, _, _, _, _, _, _, _, _, rfl, x_rep_mul _ _, hke9, hxi⟩
        · have c_86 : i < hh := Nat.not_le.mp (fun h => c_86 ((nI_leI (a := hh) (b := i) (by omega) (by omega)).mpr h))
          refine lv_aload_n hx hb dX7_pass_89 rfl (lv_at hl 3 rfl) ?_
          refine x_get F X (v := .ref v0) (C := RX7) (T := TX7) (N := 8) (ci := 7) in_X7 0 rfl rfl 0 (by decide) mw_1 rfl dX7_pass_90 ?_
          refine x_get F X (v := .ref y0) (C := RX6) (T := TX6) (N := 4) (ci := 6) in_X6 15 rfl rfl 2 (by decide) mw_2 rfl dX7_pass_93 ?_
          refine lv_aload_n hx hb dX7_pass_96 rfl (lv_at hl 3 rfl) ?_
          refine x_get F X (v := .ref v0) (C := RX7) (T := TX7) (N := 8) (ci := 7) in_X7 0 rfl rfl 0 (by decide) mw_1 rfl dX7_pass_97 ?_
          refine x_get F X (v := .int gc) (C := RX6) (T := TX6) (N := 4) (ci := 6) in_X6 15 rfl rfl 3 (by decide) mw_8 rfl dX7_pass_100 ?_
          refine lv_iload_n hx hb dX7_pass_103 rfl (lv_at hl 2 rfl) ?_
          refine lv_iload_n hx hb dX7_pass_104 rfl (lv_at hl 1 rfl) ?_
          refine x_cVv F X (gc := [hW q y0 y1 y2 y3 c1 c2 c3 p1 l1]) (gr := [xoW q x0 v0 xa z0 xs xf xp xd xr, hiW q z0 z1 ad (nI ol9) (nI ln9), twW q t0 t1 h0 u0 (va_cpy s0 r0 0 0 4) gc, sW q h0 h1 h2 h3 h4 h5 (va_cpy e1 f1 0 0 20) (va_cpy e2 f2 0 0 20) (va_cpy e3 f3 0 0 20) (va_cpy e4 f4 0 0 20) (va_cpy e5 f5 0 0 20) (nI m), hW q u0 u1 u2 u3 (va_cpy k1 g1 0 0 8) (va_cpy k2 g2 0 0 8) (va_cpy k3 g3 0 0 8) qs mo, twW q v0 v1 i0 y0 s0 gc, sW q i0 i1 i2 i3 i4 i5 e1 e2 e3 e4 e5 (nI m), aW q xa b1 b2 b3 w1_9 w2_9 w3_9]) (xp_idx (n := 9) [7, 0, 1, 2, 3, 4, 5, 6, 8] (by decide +kernel) rfl rfl) (c_X2_add l D q y0 y1 y2 y3 c1 c2 c3 p1 l1 gc (x_hb T pr m (T 4)) (x_wh T pr m) ) (cwV 3 F.1.2.2.2.2 gX7_pass_X2_add rfl rfl rfl (by decide +kernel) ⟨Nat.le_of_ble_eq_true rfl, Nat.le_of_ble_eq_true rfl⟩) rfl rfl (r0 := 0) (ci := 2) (T := TX2) (N := 5) rfl rfl hl.1 ⟨Nat.le_of_ble_eq_true rfl, Nat.le_of_ble_eq_true rfl⟩ (Nat.le_of_ble_eq_true rfl) dX7_pass_105 (fun g1 H locs hp X => ?_)
          obtain ⟨w1_105, w2_105, w3_105, rfl, hw1_105, hw2_105, hw3_105⟩ := hp
          have X := X.perm (gs' := [xoW q x0 v0 xa z0 xs xf xp xd xr, hiW q z0 z1 ad (nI ol9) (nI ln9), twW q t0 t1 h0 u0 (va_cpy s0 r0 0 0 4) gc, sW q h0 h1 h2 h3 h4 h5 (va_cpy e1 f1 0 0 20) (va_cpy e2 f2 0 0 20) (va_cpy e3 f3 0 0 20) (va_cpy e4 f4 0 0 20) (va_cpy e5 f5 0 0 20) (nI m), hW q u0 u1 u2 u3 (va_cpy k1 g1 0 0 8) (va_cpy k2 g2 0 0 8) (va_cpy k3 g3 0 0 8) qs mo, twW q v0 v1 i0 y0 s0 gc, sW q i0 i1 i2 i3 i4 i5 e1 e2 e3 e4 e5 (nI m), hW q y0 y1 y2 y3 w1_105 w2_105 w3_105 (p1 + 1) (l1 + (x_hb T pr m (T 4))), aW q xa b1 b2 b3 w1_9 w2_9 w3_9]) (xp_idx (n := 9) [1, 2, 3, 4, 5, 6, 7, 0, 8] (by decide +kernel) rfl rfl)
          refine lv_iinc (v := (nI (i + 1))) (lv' := [(4, .int (nI (i + 1))), (3, .int (x_wh T pr m)), (2, .int (x_hb T pr m (T 4))), (0, .ref x0), (1, .int (nI hh))]) hx hb dX7_pass_108 hl (k := 0) rfl (nI_add i 1) (by decide) rfl (fun ls hl => ?_)
          refine lv_goto (tgt := 83) hx hb dX7_pass_111 (by decide) ?_
          exact ih_83 (i + 1) _ _ _ _ _ _ _ _ X (lv_sub hl [0, 1, 2, 3, 4] rfl) (by omega) (by omega) (by exact ⟨x_hour_1 hxi.1 hw1_105 (hfc.trans (x_hrs_out (T := T) (su := (x_hb T pr m (T 4))) (wh := (x_wh T pr m)) (z := 4) (by omega) i).symm), x_hour_2 hxi.2.1 hw2_105, x_hour_3 hxi.2.2.1 hw3_105, congrArg (· + 1) hxi.2.2.2.1, congrArg (· + (x_hb T pr m (T 4))) hxi.2.2.2.2⟩)
    exact L_83 (hh + 1) 0 _ _ _ _ _ _ _ _ X (lv_sub hl [0, 1, 2, 3, 4] rfl) (by omega) (by omega) (by exact hhr2)
  · refine lv_if_ne (tgt := 13) hx hb dX7_pass_7 (by decide) (fun h => absurd (by decide) h) (fun _ => ?_)
    exact absurd ⟨hh1, hh2⟩ b_4

set_option maxHeartbeats 1000000 in
set_option maxRecDepth 100000 in
theorem c_X7_passN1 (l : Launch) (D : va_G) (q : xQ) (x0 : Nat) (xt : Nat) (xa : Nat) (xh : Nat) (xs : Nat) (xf : Nat) (xp : Nat) (xd : Nat) (xr : Nat) (h : Int32) (hq : ¬ (1 ≤ h ∧ h ≤ 24)) : xMi l yX7_pass wsX7_pass { frames := 5, cells := 0, slots := 0, locals := 124 } D q [.ref x0, .int h] [xoW q x0 xt xa xh xs xf xp xd xr] (fun r gw => gw = [xoW q x0 xt xa xh xs xf xp xd xr] ∧ r = -2) := by
  refine xMi_of (cc := cX7_pass) (maxL := 5) (rt := .int) (by decide) rfl (Nat.le_of_ble_eq_true rfl) (fun _ _ _ => rfl) ?_
  intro p9 e9 s9 m9 a9 below meth c9 A9 Z9 ls H locs F X hl hret
  have hx := F.1.1
  have hb := F.1.2.1
  have mw_0 : Cond.initialized RX7 ∈ wsX7_pass := by decide +kernel
  have hl : lv_has ls 5 [(0, .ref x0), (1, .int h)] := hl
  refine lv_iload_n hx hb dX7_pass_0 rfl (lv_at hl 1 rfl) ?_
  refine lv_iconst (v := 1) hx hb dX7_pass_1 (by decide) ?_
  refine lv_bipush (v := 24) hx hb dX7_pass_2 (by decide) ?_
  refine x_cSi F X (gc := []) (gr := [xoW q x0 xt xa xh xs xf xp xd xr]) (xp_idx (n := 1) [0] (by decide +kernel) rfl rfl) (c_X7_isWithin l D q h 1 24 ) (va_cwS 3 F.1.2.2.2.2 gX7_pass_X7_isWithin rfl rfl rfl (by decide +kernel) ⟨Nat.le_of_ble_eq_true rfl, Nat.le_of_ble_eq_true rfl⟩) rfl rfl hl.1 ⟨Nat.le_of_ble_eq_true rfl, Nat.le_of_ble_eq_true rfl⟩ (Nat.le_of_ble_eq_true rfl) dX7_pass_4 (fun r_4 g1 H locs hp X => ?_)
  obtain ⟨rfl, hz⟩ := hp
  have X : xS D A9 s9 [xoW q x0 xt xa xh xs xf xp xd xr] H locs := X
  rcases hz with ⟨rfl, b_4⟩ | ⟨rfl, b_4⟩
  · refine lv_if_ne (tgt := 13) hx hb dX7_pass_7 (by decide) (fun _ => ?_) (fun h => absurd h (by decide))
    exact absurd b_4 hq
  · refine lv_if_ne (tgt := 13) hx hb dX7_pass_7 (by decide) (fun h => absurd (by decide) h) (fun _ => ?_)
    refine lv_bipush (v := (-2)) hx hb dX7_pass_10 (by decide) ?_
    exact hret _ _ _ _ _ _ (by exact ⟨rfl, rfl⟩) X dX7_pass_12

set_option maxHeartbeats 1000000 in
set_option maxRecDepth 100000 in
theorem c_X7_passN2 (l : Launch) (D : va_G) (q : xQ) (x0 : Nat) (xt : Nat) (xa : Nat) (xh : Nat) (xs : Nat) (xf : Nat) (xp : Nat) (xd : Nat) (xr : Nat) (w1 : Nat) (h0 : Nat) (y0 : Nat) (y1 : Nat) (y2 : Nat) (y3 : Nat) (r0 : Nat → Int32) (g1 : Nat → Int32) (g2 : Nat → Int32) (g3 : Nat → Int32) (fc : Int32) (ps : Int32) (lo : Int32) (h : Int32) (hq : 1 ≤ h ∧ h ≤ 24) (h9 : 999 < ps + h) : xMi l yX7_pass wsX7_pass { frames := 5, cells := 0, slots := 0, locals := 124 } D q [.ref x0, .int h] [xoW q x0 xt xa xh xs xf xp xd xr, twW q xt w1 h0 y0 r0 fc, hW q y0 y1 y2 y3 g1 g2 g3 ps lo] (fun r gw => gw = [xoW q x0 xt xa xh xs xf xp xd xr, twW q xt w1 h0 y0 r0 fc, hW q y0 y1 y2 y3 g1 g2 g3 ps lo] ∧ r = -5) := by
  refine xMi_of (cc := cX7_pass) (maxL := 5) (rt := .int) (by decide) rfl (Nat.le_of_ble_eq_true rfl) (fun _ _ _ => rfl) ?_
  intro p9 e9 s9 m9 a9 below meth c9 A9 Z9 ls H locs F X hl hret
  have hx := F.1.1
  have hb := F.1.2.1
  have in_X7 : ∀ w ∈ wsX70, w ∈ wsX7_pass := by decide +kernel
  have in_X6 : ∀ w ∈ wsX60, w ∈ wsX7_pass := by decide +kernel
  have in_X2 : ∀ w ∈ wsX20, w ∈ wsX7_pass := by decide +kernel
  have mw_0 : Cond.initialized RX7 ∈ wsX7_pass := by decide +kernel
  have mw_1 : Cond.fieldLink RX7 10 "HatWinds" "town" "LHatWinds$Town;" ∈ wsX7_pass := by decide +kernel
  have mw_2 : Cond.fieldLink RX7 129 "HatWinds$Town" "hours" "LHatWinds$Hours;" ∈ wsX7_pass := by decide +kernel
  have mw_3 : Cond.fieldLink RX7 133 "HatWinds$Hours" "passed" "I" ∈ wsX7_pass := by decide +kernel
  have hl : lv_has ls 5 [(0, .ref x0), (1, .int h)] := hl
  refine lv_iload_n hx hb dX7_pass_0 rfl (lv_at hl 1 rfl) ?_
  refine lv_iconst (v := 1) hx hb dX7_pass_1 (by decide) ?_
  refine lv_bipush (v := 24) hx hb dX7_pass_2 (by decide) ?_
  refine x_cSi F X (gc := []) (gr := [xoW q x0 xt xa xh xs xf xp xd xr, twW q xt w1 h0 y0 r0 fc, hW q y0 y1 y2 y3 g1 g2 g3 ps lo]) (xp_idx (n := 3) [0, 1, 2] (by decide +kernel) rfl rfl) (c_X7_isWithin l D q h 1 24 ) (va_cwS 3 F.1.2.2.2.2 gX7_pass_X7_isWithin rfl rfl rfl (by decide +kernel) ⟨Nat.le_of_ble_eq_true rfl, Nat.le_of_ble_eq_true rfl⟩) rfl rfl hl.1 ⟨Nat.le_of_ble_eq_true rfl, Nat.le_of_ble_eq_true rfl⟩ (Nat.le_of_ble_eq_true rfl) dX7_pass_4 (fun r_4 g1 H locs hp X => ?_)
  obtain ⟨rfl, hz⟩ := hp
  have X : xS D A9 s9 [xoW q x0 xt xa xh xs xf xp xd xr, twW q xt w1 h0 y0 r0 fc, hW q y0 y1 y2 y3 g1 g2 g3 ps lo] H locs := X
  rcases hz with ⟨rfl, b_4⟩ | ⟨rfl, b_4⟩
  · refine lv_if_ne (tgt := 13) hx hb dX7_pass_7 (by decide) (fun _ => ?_) (fun h => absurd h (by decide))
    refine lv_aload_n hx hb dX7_pass_13 rfl (lv_at hl 0 rfl) ?_
    refine x_get F X (v := .ref xt) (C := RX7) (T := TX7) (N := 8) (ci := 7) in_X7 0 rfl rfl 0 (by decide) mw_1 rfl dX7_pass_14 ?_
    refine x_get F X (v := .ref y0) (C := RX6) (T := TX6) (N := 4) (ci := 6) in_X6 1 rfl rfl 2 (by decide) mw_2 rfl dX7_pass_17 ?_
    refine x_get F X (v := .int ps) (C := RX2) (T := TX2) (N := 5) (ci := 2) in_X2 3 rfl rfl 3 (by decide) mw_3 rfl dX7_pass_20 ?_
    refine lv_iload_n hx hb dX7_pass_23 rfl (lv_at hl 1 rfl) ?_
    refine lv_iadd hx hb dX7_pass_24 ?_
    refine lv_sipush (v := 999) hx hb dX7_pass_25 (by decide) ?_
    refine lv_icmp_le (tgt := 34) hx hb dX7_pass_28 (by decide) (fun c_28 => ?_) (fun c_28 => ?_)
    · exact absurd h9 (Int32.not_lt.mpr c_28)
    · refine lv_bipush (v := (-5)) hx hb dX7_pass_31 (by decide) ?_
      exact hret _ _ _ _ _ _ (by exact ⟨rfl, rfl⟩) X dX7_pass_33
  · refine lv_if_ne (tgt := 13) hx hb dX7_pass_7 (by decide) (fun h => absurd (by decide) h) (fun _ => ?_)
    exact absurd hq b_4
