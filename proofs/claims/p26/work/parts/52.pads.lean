theorem xPad.cpy {S : List Nat} {es cs : Nat → Int32} {k : Nat} {ov : Int32} (h : xPad S es k ov) : xPad S (va_cpy es cs 0 0 80) k ov := by
  have e : ∀ j, j < 80 → va_cpy es cs 0 0 80 j = es j := fun j hj => by
    show (if 0 ≤ j ∧ j < 0 + 80 then es (0 + (j - 0)) else cs j) = es j
    rw [if_pos ⟨Nat.zero_le j, by omega⟩, Nat.sub_zero, Nat.zero_add]
  obtain ⟨h1, h2, h3, h4⟩ := h
  exact ⟨h1, fun j hj => by rw [e j (by omega), h2 j hj], h3, fun j hj => by rw [e j hj]; exact h4 j hj⟩
set_option maxHeartbeats 1000000 in
set_option maxRecDepth 100000 in
theorem c_X7_write (l : Launch) (D : va_G) (q : xQ) (x0 : Nat) (xt : Nat) (xa : Nat) (xh : Nat) (xs : Nat) (xf : Nat) (xp : Nat) (xd : Nat) (xr : Nat) (w1 : Nat) (y0 : Nat) (h0 : Nat) (h1 : Nat) (h2 : Nat) (h3 : Nat) (h4 : Nat) (h5 : Nat) (r0 : Nat → Int32) (f1 : Nat → Int32) (f2 : Nat → Int32) (f3 : Nat → Int32) (f4 : Nat → Int32) (f5 : Nat → Int32) (fc : Int32) (p1 : Nat) (i1 : Nat) (n : Nat) (cs : Nat → Int32) (es : Nat → Int32) (ln : Int32) (ov : Int32) (dl : Int32) (dv : Int32) (pr : Nat → Nat) (hn : n ≤ 20) (hn1 : 1 ≤ n) (hwd : ∀ o, o < n → ∃ w, 1 ≤ w ∧ w ≤ 9 ∧ f2 o = nI w) (hcl : ∀ o, o < n → ∃ v, v ≤ 5 ∧ f3 o = nI v) (hsm : ∀ o, o < n → ∃ v, v ≤ 1 ∧ f4 o = nI v) (hpe : ∀ o, o < n → ∃ v, v ≤ 99 ∧ f5 o = nI v) (hpr : ∀ o, 1 ≤ o → o < n → f1 o = nI (pr o) ∧ pr o < o) (hes : ∀ j, j < 80 → fits .char (.int (es j)) = true) : xMi l yX7_write wsX7_write { frames := 25, cells := 0, slots := 0, locals := 1100 } D q [.ref x0] [xoW q x0 xt xa xh xs xf xp xd xr, twW q xt w1 h0 y0 r0 fc, sW q h0 h1 h2 h3 h4 h5 f1 f2 f3 f4 f5 (nI n), pW q xp p1 cs ln ov, pW q xd i1 es dl dv] (fun r gw => ∃ (cs2 : Nat → Int32), ∃ (es2 : Nat → Int32), ∃ (ln2 : Int32), ∃ (ov2 : Int32), ∃ (dl2 : Int32), ∃ (dv2 : Int32), gw = [xoW q x0 xt xa xh xs xf xp xd xr, twW q xt w1 h0 y0 r0 fc, sW q h0 h1 h2 h3 h4 h5 f1 f2 f3 f4 f5 (nI n), pW q xp p1 cs2 ln2 ov2, pW q xd i1 es2 dl2 dv2] ∧ ((∀ j, j < 80 → fits .char (.int (es2 j)) = true) ∧ (((x_ws f2 f3 f4 f5 0 ++ x_tt (x_ws f2 f3 f4 f5) pr n 0 0).length ≤ 80 ∧ r = nI (x_ws f2 f3 f4 f5 0 ++ x_tt (x_ws f2 f3 f4 f5) pr n 0 0).length ∧ ln2 = nI (x_ws f2 f3 f4 f5 0 ++ x_tt (x_ws f2 f3 f4 f5) pr n 0 0).length ∧ xPad (x_ws f2 f3 f4 f5 0 ++ x_tt (x_ws f2 f3 f4 f5) pr n 0 0) cs2 (x_ws f2 f3 f4 f5 0 ++ x_tt (x_ws f2 f3 f4 f5) pr n 0 0).length ov2) ∨ (80 < (x_ws f2 f3 f4 f5 0 ++ x_tt (x_ws f2 f3 f4 f5) pr n 0 0).length ∧ r = -4 ∧ cs2 = cs ∧ ln2 = ln ∧ ov2 = ov)))) := by
  refine xMi_of (cc := cX7_write) (maxL := 1) (rt := .int) (by decide) rfl (Nat.le_of_ble_eq_true rfl) (fun _ _ _ => rfl) ?_
  intro p9 e9 s9 m9 a9 below meth c9 A9 Z9 ls H locs F X hl hret
  have hx := F.1.1
  have hb := F.1.2.1
  have in_X7 : ∀ w ∈ wsX70, w ∈ wsX7_write := by decide +kernel
  have in_X6 : ∀ w ∈ wsX60, w ∈ wsX7_write := by decide +kernel
  have in_X3 : ∀ w ∈ wsX30, w ∈ wsX7_write := by decide +kernel
  have mw_0 : Cond.fieldLink RX7 45 "HatWinds" "draft" "LHatWinds$Pad;" ∈ wsX7_write := by decide +kernel
  have mw_1 : Cond.initialized RX3 ∈ wsX7_write := by decide +kernel
  have mw_2 : Cond.fieldLink RX7 10 "HatWinds" "town" "LHatWinds$Town;" ∈ wsX7_write := by decide +kernel
  have mw_3 : Cond.fieldLink RX7 84 "HatWinds$Town" "streets" "LHatWinds$Streets;" ∈ wsX7_write := by decide +kernel
  have mw_4 : Cond.initialized RX7 ∈ wsX7_write := by decide +kernel
  have mw_5 : Cond.fieldLink RX7 155 "HatWinds$Pad" "overflowed" "Z" ∈ wsX7_write := by decide +kernel
  have mw_6 : Cond.fieldLink RX7 41 "HatWinds" "pad" "LHatWinds$Pad;" ∈ wsX7_write := by decide +kernel
  have mw_7 : Cond.fieldLink RX7 162 "HatWinds$Pad" "length" "I" ∈ wsX7_write := by decide +kernel
  have hl : lv_has ls 1 [(0, .ref x0)] := hl
  refine lv_aload_n hx hb dX7_write_0 rfl (lv_at hl 0 rfl) ?_
  refine x_get F X (v := .ref xd) (C := RX7) (T := TX7) (N := 8) (ci := 7) in_X7 0 rfl rfl 6 (by decide) mw_0 rfl dX7_write_1 ?_
  refine x_cVv F X (gc := [pW q xd i1 es dl dv]) (gr := [xoW q x0 xt xa xh xs xf xp xd xr, twW q xt w1 h0 y0 r0 fc, sW q h0 h1 h2 h3 h4 h5 f1 f2 f3 f4 f5 (nI n), pW q xp p1 cs ln ov]) (xp_idx (n := 5) [4, 0, 1, 2, 3] (by decide +kernel) rfl rfl) (c_X3_clear l D q xd i1 es dl dv ) (cwV 0 F.1.2.2.2.2 gX7_write_X3_clear rfl rfl rfl (by decide +kernel) ⟨Nat.le_of_ble_eq_true rfl, Nat.le_of_ble_eq_true rfl⟩) rfl rfl (r0 := 0) (ci := 3) (T := TX3) (N := 3) rfl rfl hl.1 ⟨Nat.le_of_ble_eq_true rfl, Nat.le_of_ble_eq_true rfl⟩ (Nat.le_of_ble_eq_true rfl) dX7_write_4 (fun g1 H locs hp X => ?_)
  subst hp
  have X := X.perm (gs' := [xoW q x0 xt xa xh xs xf xp xd xr, twW q xt w1 h0 y0 r0 fc, sW q h0 h1 h2 h3 h4 h5 f1 f2 f3 f4 f5 (nI n), pW q xp p1 cs ln ov, pW q xd i1 es 0 0]) (xp_idx (n := 5) [1, 2, 3, 4, 0] (by decide +kernel) rfl rfl)
  refine lv_aload_n hx hb dX7_write_7 rfl (lv_at hl 0 rfl) ?_
  refine x_get F X (v := .ref xt) (C := RX7) (T := TX7) (N := 8) (ci := 7) in_X7 0 rfl rfl 0 (by decide) mw_2 rfl dX7_write_8 ?_
  refine x_get F X (v := .ref h0) (C := RX6) (T := TX6) (N := 4) (ci := 6) in_X6 1 rfl rfl 1 (by decide) mw_3 rfl dX7_write_11 ?_
  refine lv_iconst (v := 0) hx hb dX7_write_14 (by decide) ?_
  refine lv_iconst (v := 0) hx hb dX7_write_15 (by decide) ?_
  refine lv_aload_n hx hb dX7_write_16 rfl (lv_at hl 0 rfl) ?_
  refine x_get F X (v := .ref xd) (C := RX7) (T := TX7) (N := 8) (ci := 7) in_X7 0 rfl rfl 6 (by decide) mw_0 rfl dX7_write_17 ?_
  refine x_cSv F X (gc := [sW q h0 h1 h2 h3 h4 h5 f1 f2 f3 f4 f5 (nI n), pW q xd i1 es 0 0]) (gr := [xoW q x0 xt xa xh xs xf xp xd xr, twW q xt w1 h0 y0 r0 fc, pW q xp p1 cs ln ov]) (xp_idx (n := 5) [2, 4, 0, 1, 3] (by decide +kernel) rfl rfl) (c_X7_tell l D q 20 h0 h1 h2 h3 h4 h5 xd i1 f1 f2 f3 f4 f5 es n 0 0 0 ([]) 0 pr (by first | assumption | omega) (by first | assumption | omega) (by first | assumption | omega) (by first | assumption | omega) (by first | assumption | omega) (by first | assumption | omega) (by exact ⟨rfl, fun j hj => absurd hj (Nat.not_lt_zero j), rfl, hes⟩) (by first | assumption | omega) (by first | assumption | omega) (by first | assumption | omega)) (va_cwS 4 F.1.2.2.2.2 gX7_write_X7_tell rfl rfl rfl (by decide +kernel) ⟨Nat.le_of_ble_eq_true rfl, Nat.le_of_ble_eq_true rfl⟩) rfl rfl hl.1 ⟨Nat.le_of_ble_eq_true rfl, Nat.le_of_ble_eq_true rfl⟩ (Nat.le_of_ble_eq_true rfl) dX7_write_20 (fun g1 H locs hp X => ?_)
  obtain ⟨cs2_20, z2_20, ov2_20, rfl, hS2_20⟩ := hp
  have X := X.perm (gs' := [xoW q x0 xt xa xh xs xf xp xd xr, twW q xt w1 h0 y0 r0 fc, sW q h0 h1 h2 h3 h4 h5 f1 f2 f3 f4 f5 (nI n), pW q xp p1 cs ln ov, pW q xd i1 cs2_20 (nI z2_20) ov2_20]) (xp_idx (n := 5) [2, 3, 0, 4, 1] (by decide +kernel) rfl rfl)
  rw [List.nil_append] at hS2_20
  have hl80 := hS2_20.1
  have hov := hS2_20.2.2.1
  refine lv_aload_n hx hb dX7_write_23 rfl (lv_at hl 0 rfl) ?_
  refine x_get F X (v := .ref xd) (C := RX7) (T := TX7) (N := 8) (ci := 7) in_X7 0 rfl rfl 6 (by decide) mw_0 rfl dX7_write_24 ?_
  refine x_get F X (v := .int ov2_20) (C := RX3) (T := TX3) (N := 3) (ci := 3) in_X3 11 rfl rfl 2 (by decide) mw_5 rfl dX7_write_27 ?_
  refine lv_if_eq (tgt := 36) hx hb dX7_write_30 (by decide) (fun c_30 => ?_) (fun c_30 => ?_)
  · refine lv_aload_n hx hb dX7_write_36 rfl (lv_at hl 0 rfl) ?_
    refine x_get F X (v := .ref xp) (C := RX7) (T := TX7) (N := 8) (ci := 7) in_X7 0 rfl rfl 5 (by decide) mw_6 rfl dX7_write_37 ?_
    refine lv_aload_n hx hb dX7_write_40 rfl (lv_at hl 0 rfl) ?_
    refine x_get F X (v := .ref xd) (C := RX7) (T := TX7) (N := 8) (ci := 7) in_X7 0 rfl rfl 6 (by decide) mw_0 rfl dX7_write_41 ?_
    refine x_cVv F X (gc := [pW q xp p1 cs ln ov, pW q xd i1 cs2_20 (nI z2_20) ov2_20]) (gr := [xoW q x0 xt xa xh xs xf xp xd xr, twW q xt w1 h0 y0 r0 fc, sW q h0 h1 h2 h3 h4 h5 f1 f2 f3 f4 f5 (nI n)]) (xp_idx (n := 5) [3, 4, 0, 1, 2] (by decide +kernel) rfl rfl) (c_X3_copy l D q xp p1 xd i1 cs cs2_20 ln ov (nI z2_20) ov2_20 (by exact hS2_20.2.2.2) (by exact hS2_20.ov)) (cwV 1 F.1.2.2.2.2 gX7_write_X3_copy rfl rfl rfl (by decide +kernel) ⟨Nat.le_of_ble_eq_true rfl, Nat.le_of_ble_eq_true rfl⟩) rfl rfl (r0 := 0) (ci := 3) (T := TX3) (N := 3) rfl rfl hl.1 ⟨Nat.le_of_ble_eq_true rfl, Nat.le_of_ble_eq_true rfl⟩ (Nat.le_of_ble_eq_true rfl) dX7_write_44 (fun g1 H locs hp X => ?_)
    subst hp
    have X := X.perm (gs' := [xoW q x0 xt xa xh xs xf xp xd xr, twW q xt w1 h0 y0 r0 fc, sW q h0 h1 h2 h3 h4 h5 f1 f2 f3 f4 f5 (nI n), pW q xp p1 (va_cpy cs2_20 cs 0 0 80) (nI z2_20) ov2_20, pW q xd i1 cs2_20 (nI z2_20) ov2_20]) (xp_idx (n := 5) [2, 3, 4, 0, 1] (by decide +kernel) rfl rfl)
    refine lv_aload_n hx hb dX7_write_47 rfl (lv_at hl 0 rfl) ?_
    refine x_get F X (v := .ref xp) (C := RX7) (T := TX7) (N := 8) (ci := 7) in_X7 0 rfl rfl 5 (by decide) mw_6 rfl dX7_write_48 ?_
    refine x_get F X (v := .int (nI z2_20)) (C := RX3) (T := TX3) (N := 3) (ci := 3) in_X3 9 rfl rfl 1 (by decide) mw_7 rfl dX7_write_51 ?_
    refine hret _ _ _ _ _ _ ?_ X dX7_write_54
    have hle : (x_ws f2 f3 f4 f5 0 ++ x_tt (x_ws f2 f3 f4 f5) pr n 0 0).length ≤ 80 := Nat.not_lt.mp (fun h => by rw [if_pos h] at hov; rw [hov] at c_30; exact absurd c_30 (by decide))
    obtain rfl : z2_20 = (x_ws f2 f3 f4 f5 0 ++ x_tt (x_ws f2 f3 f4 f5) pr n 0 0).length := by omega
    exact ⟨_, _, _, _, _, _, rfl, hS2_20.2.2.2, Or.inl ⟨hle, rfl, rfl, hS2_20.cpy⟩⟩
  · refine lv_bipush (v := (-4)) hx hb dX7_write_33 (by decide) ?_
    refine hret _ _ _ _ _ _ ?_ X dX7_write_35
    refine ⟨_, _, _, _, _, _, rfl, hS2_20.2.2.2, Or.inr ⟨?_, rfl, rfl, rfl, rfl⟩⟩
    exact Decidable.byContradiction (fun h => c_30 (by rw [hov, if_neg h]))

set_option maxHeartbeats 1000000 in
set_option maxRecDepth 100000 in
theorem c_X7_wipe (l : Launch) (D : va_G) (q : xQ) (x0 : Nat) (xt : Nat) (xa : Nat) (xh : Nat) (xs : Nat) (xf : Nat) (xp : Nat) (xd : Nat) (xr : Nat) (p1 : Nat) (cs : Nat → Int32) (ln : Int32) (ov : Int32) : xMi l yX7_wipe wsX7_wipe { frames := 1, cells := 0, slots := 0, locals := 20 } D q [.ref x0] [xoW q x0 xt xa xh xs xf xp xd xr, pW q xp p1 cs ln ov] (fun r gw => gw = [xoW q x0 xt xa xh xs xf xp xd xr, pW q xp p1 cs 0 0] ∧ r = ln) := by
  refine xMi_of (cc := cX7_wipe) (maxL := 2) (rt := .int) (by decide) rfl (Nat.le_of_ble_eq_true rfl) (fun _ _ _ => rfl) ?_
  intro p9 e9 s9 m9 a9 below meth c9 A9 Z9 ls H locs F X hl hret
  have hx := F.1.1
  have hb := F.1.2.1
  have in_X7 : ∀ w ∈ wsX70, w ∈ wsX7_wipe := by decide +kernel
  have in_X3 : ∀ w ∈ wsX30, w ∈ wsX7_wipe := by decide +kernel
  have mw_0 : Cond.fieldLink RX7 41 "HatWinds" "pad" "LHatWinds$Pad;" ∈ wsX7_wipe := by decide +kernel
  have mw_1 : Cond.fieldLink RX7 162 "HatWinds$Pad" "length" "I" ∈ wsX7_wipe := by decide +kernel
  have mw_2 : Cond.initialized RX3 ∈ wsX7_wipe := by decide +kernel
  have hl : lv_has ls 2 [(0, .ref x0)] := hl
  refine lv_aload_n hx hb dX7_wipe_0 rfl (lv_at hl 0 rfl) ?_
  refine x_get F X (v := .ref xp) (C := RX7) (T := TX7) (N := 8) (ci := 7) in_X7 0 rfl rfl 5 (by decide) mw_0 rfl dX7_wipe_1 ?_
  refine x_get F X (v := .int ln) (C := RX3) (T := TX3) (N := 3) (ci := 3) in_X3 1 rfl rfl 1 (by decide) mw_1 rfl dX7_wipe_4 ?_
  refine lv_istore_n (lv' := [(1, .int ln), (0, .ref x0)]) hx hb dX7_wipe_7 rfl hl (by decide) rfl (fun ls hl => ?_)
  refine lv_aload_n hx hb dX7_wipe_8 rfl (lv_at hl 1 rfl) ?_
  refine x_get F X (v := .ref xp) (C := RX7) (T := TX7) (N := 8) (ci := 7) in_X7 0 rfl rfl 5 (by decide) mw_0 rfl dX7_wipe_9 ?_
  refine x_cVv F X (gc := [pW q xp p1 cs ln ov]) (gr := [xoW q x0 xt xa xh xs xf xp xd xr]) (xp_idx (n := 2) [1, 0] (by decide +kernel) rfl rfl) (c_X3_clear l D q xp p1 cs ln ov ) (cwV 0 F.1.2.2.2.2 gX7_wipe_X3_clear rfl rfl rfl (by decide +kernel) ⟨Nat.le_of_ble_eq_true rfl, Nat.le_of_ble_eq_true rfl⟩) rfl rfl (r0 := 0) (ci := 3) (T := TX3) (N := 3) rfl rfl hl.1 ⟨Nat.le_of_ble_eq_true rfl, Nat.le_of_ble_eq_true rfl⟩ (Nat.le_of_ble_eq_true rfl) dX7_wipe_12 (fun g1 H locs hp X => ?_)
  subst hp
  have X := X.perm (gs' := [xoW q x0 xt xa xh xs xf xp xd xr, pW q xp p1 cs 0 0]) (xp_idx (n := 2) [1, 0] (by decide +kernel) rfl rfl)
  refine lv_iload_n hx hb dX7_wipe_15 rfl (lv_at hl 0 rfl) ?_
  exact hret _ _ _ _ _ _ (by exact ⟨rfl, rfl⟩) X dX7_wipe_16

set_option maxHeartbeats 1000000 in
set_option maxRecDepth 100000 in
theorem c_X7_fault (l : Launch) (D : va_G) (q : xQ) (x0 : Nat) (xt : Nat) (xa : Nat) (xh : Nat) (xs : Nat) (xf : Nat) (xp : Nat) (xd : Nat) (xr : Nat) (h0 : Nat) (h1 : Nat) (h2 : Nat) (h3 : Nat) (h4 : Nat) (h5 : Nat) (p1 : Nat) (ln : Nat) (f1 : Nat → Int32) (f2 : Nat → Int32) (f3 : Nat → Int32) (f4 : Nat → Int32) (f5 : Nat → Int32) (cs : Nat → Int32) (to : Nat → Int32) (nb : Int32) (la0 : Int32) (pa : Int32) (ov : Int32) (Pd : Nat → Nat) (hln : ln ≤ 80) (hpd : ∀ j, j < ln → cs j = nI (Pd j) ∧ Pd j < 65536) : xMi l yX7_fault wsX7_fault { frames := 5, cells := 0, slots := 0, locals := 109 } D q [.ref x0] [xoW q x0 xt xa xh xs xf xp xd xr, rdW q xr h0 la0 pa, sW q h0 h1 h2 h3 h4 h5 f1 f2 f3 f4 f5 nb, pW q xp p1 cs (nI ln) ov] (fun r gw => ∃ (mn2 : Nat), ∃ (lc2 : Nat), ∃ (pa2 : Int32), ∃ (e1 : Nat → Int32), ∃ (e2 : Nat → Int32), ∃ (e3 : Nat → Int32), ∃ (e4 : Nat → Int32), ∃ (e5 : Nat → Int32), gw = [xoW q x0 xt xa xh xs xf xp xd xr, rdW q xr h0 (nI lc2) pa2, sW q h0 h1 h2 h3 h4 h5 e1 e2 e3 e4 e5 (nI mn2), pW q xp p1 cs (nI ln) ov] ∧ (x_fr Pd to ln r ∧ (r = -6 → ∃ la2 op2 to2, (x_run Pd to ln = some (mn2, la2, op2, to2) ∧ op2 < 0 ∧ la2 ≠ 0 ∧ la2 ≠ 4) ∧ xRd mn2 la2 op2 to2 lc2 pa2 e1 e2 e3 e4 e5))) := by
  refine xMi_of (cc := cX7_fault) (maxL := 1) (rt := .int) (by decide) rfl (Nat.le_of_ble_eq_true rfl) (fun _ _ _ => rfl) ?_
  intro p9 e9 s9 m9 a9 below meth c9 A9 Z9 ls H locs F X hl hret
  have hx := F.1.1
  have hb := F.1.2.1
  have in_X7 : ∀ w ∈ wsX70, w ∈ wsX7_fault := by decide +kernel
  have mw_0 : Cond.fieldLink RX7 51 "HatWinds" "reader" "LHatWinds$Reader;" ∈ wsX7_fault := by decide +kernel
  have mw_1 : Cond.fieldLink RX7 41 "HatWinds" "pad" "LHatWinds$Pad;" ∈ wsX7_fault := by decide +kernel
  have mw_2 : Cond.initialized RX4 ∈ wsX7_fault := by decide +kernel
  have hl : lv_has ls 1 [(0, .ref x0)] := hl
  refine lv_aload_n hx hb dX7_fault_0 rfl (lv_at hl 0 rfl) ?_
  refine x_get F X (v := .ref xr) (C := RX7) (T := TX7) (N := 8) (ci := 7) in_X7 0 rfl rfl 7 (by decide) mw_0 rfl dX7_fault_1 ?_
  refine lv_aload_n hx hb dX7_fault_4 rfl (lv_at hl 0 rfl) ?_
  refine x_get F X (v := .ref xp) (C := RX7) (T := TX7) (N := 8) (ci := 7) in_X7 0 rfl rfl 5 (by decide) mw_1 rfl dX7_fault_5 ?_
  refine x_cVi F X (gc := [rdW q xr h0 la0 pa, sW q h0 h1 h2 h3 h4 h5 f1 f2 f3 f4 f5 nb, pW q xp p1 cs (nI ln) ov]) (gr := [xoW q x0 xt xa xh xs xf xp xd xr]) (xp_idx (n := 4) [1, 2, 3, 0] (by decide +kernel) rfl rfl) (c_X4_read l D q xr h0 h1 h2 h3 h4 h5 f1 f2 f3 f4 f5 nb la0 pa xp p1 ln cs ov Pd to (by first | assumption | omega) (by first | assumption | omega)) (cwV 1 F.1.2.2.2.2 gX7_fault_X4_read rfl rfl rfl (by decide +kernel) ⟨Nat.le_of_ble_eq_true rfl, Nat.le_of_ble_eq_true rfl⟩) rfl rfl (r0 := 0) (ci := 4) (T := TX4) (N := 3) rfl rfl hl.1 ⟨Nat.le_of_ble_eq_true rfl, Nat.le_of_ble_eq_true rfl⟩ (Nat.le_of_ble_eq_true rfl) dX7_fault_8 (fun r_8 g1 H locs hp X => ?_)
  obtain ⟨mn2_8, lc2_8, pa2_8, e1_8, e2_8, e3_8, e4_8, e5_8, rfl, hfr_8⟩ := hp
  have X := X.perm (gs' := [xoW q x0 xt xa xh xs xf xp xd xr, rdW q xr h0 (nI lc2_8) pa2_8, sW q h0 h1 h2 h3 h4 h5 e1_8 e2_8 e3_8 e4_8 e5_8 (nI mn2_8), pW q xp p1 cs (nI ln) ov]) (xp_idx (n := 4) [3, 0, 1, 2] (by decide +kernel) rfl rfl)
  exact hret _ _ _ _ _ _ (by exact ⟨_, _, _, _, _, _, _, _, rfl, hfr_8⟩) X dX7_fault_11
