set_option maxHeartbeats 1000000 in
set_option maxRecDepth 100000 in
theorem c_X7_buildN (l : Launch) (D : va_G) (q : xQ) (x0 : Nat) (xt : Nat) (xa : Nat) (xh : Nat) (xs : Nat) (xf : Nat) (xp : Nat) (xd : Nat) (xr : Nat) (h0 : Nat) (h1 : Nat) (h2 : Nat) (h3 : Nat) (h4 : Nat) (h5 : Nat) (p1 : Nat) (ln : Nat) (f1 : Nat → Int32) (f2 : Nat → Int32) (f3 : Nat → Int32) (f4 : Nat → Int32) (f5 : Nat → Int32) (cs : Nat → Int32) (to : Nat → Int32) (nb : Int32) (la0 : Int32) (pa : Int32) (ov : Int32) (Pd : Nat → Nat) (hln : ln ≤ 80) (hpd : ∀ j, j < ln → cs j = nI (Pd j) ∧ Pd j < 65536) (hnf : ∀ r, x_fr Pd to ln r → ¬ r = -6) : xMi l yX7_build wsX7_build { frames := 5, cells := 0, slots := 0, locals := 124 } D q [.ref x0] [xoW q x0 xt xa xh xs xf xp xd xr, rdW q xr h0 la0 pa, sW q h0 h1 h2 h3 h4 h5 f1 f2 f3 f4 f5 nb, pW q xp p1 cs (nI ln) ov] (fun r gw => ∃ (mn2 : Nat), ∃ (lc2 : Nat), ∃ (pa2 : Int32), ∃ (e1 : Nat → Int32), ∃ (e2 : Nat → Int32), ∃ (e3 : Nat → Int32), ∃ (e4 : Nat → Int32), ∃ (e5 : Nat → Int32), gw = [xoW q x0 xt xa xh xs xf xp xd xr, rdW q xr h0 (nI lc2) pa2, sW q h0 h1 h2 h3 h4 h5 e1 e2 e3 e4 e5 (nI mn2), pW q xp p1 cs (nI ln) ov] ∧ r = -3) := by
  refine xMi_of (cc := cX7_build) (maxL := 1) (rt := .int) (by decide) rfl (Nat.le_of_ble_eq_true rfl) (fun _ _ _ => rfl) ?_
  intro p9 e9 s9 m9 a9 below meth c9 A9 Z9 ls H locs F X hl hret
  have hx := F.1.1
  have hb := F.1.2.1
  have in_X7 : ∀ w ∈ wsX70, w ∈ wsX7_build := by decide +kernel
  have mw_0 : Cond.fieldLink RX7 51 "HatWinds" "reader" "LHatWinds$Reader;" ∈ wsX7_build := by decide +kernel
  have mw_1 : Cond.fieldLink RX7 41 "HatWinds" "pad" "LHatWinds$Pad;" ∈ wsX7_build := by decide +kernel
  have mw_2 : Cond.initialized RX4 ∈ wsX7_build := by decide +kernel
  have hl : lv_has ls 1 [(0, .ref x0)] := hl
  refine lv_aload_n hx hb dX7_build_0 rfl (lv_at hl 0 rfl) ?_
  refine x_get F X (v := .ref xr) (C := RX7) (T := TX7) (N := 8) (ci := 7) in_X7 0 rfl rfl 7 (by decide) mw_0 rfl dX7_build_1 ?_
  refine lv_aload_n hx hb dX7_build_4 rfl (lv_at hl 0 rfl) ?_
  refine x_get F X (v := .ref xp) (C := RX7) (T := TX7) (N := 8) (ci := 7) in_X7 0 rfl rfl 5 (by decide) mw_1 rfl dX7_build_5 ?_
  refine x_cVi F X (gc := [rdW q xr h0 la0 pa, sW q h0 h1 h2 h3 h4 h5 f1 f2 f3 f4 f5 nb, pW q xp p1 cs (nI ln) ov]) (gr := [xoW q x0 xt xa xh xs xf xp xd xr]) (xp_idx (n := 4) [1, 2, 3, 0] (by decide +kernel) rfl rfl) (c_X4_read l D q xr h0 h1 h2 h3 h4 h5 f1 f2 f3 f4 f5 nb la0 pa xp p1 ln cs ov Pd to (by first | assumption | omega) (by first | assumption | omega)) (cwV 1 F.1.2.2.2.2 gX7_build_X4_read rfl rfl rfl (by decide +kernel) ⟨Nat.le_of_ble_eq_true rfl, Nat.le_of_ble_eq_true rfl⟩) rfl rfl (r0 := 0) (ci := 4) (T := TX4) (N := 3) rfl rfl hl.1 ⟨Nat.le_of_ble_eq_true rfl, Nat.le_of_ble_eq_true rfl⟩ (Nat.le_of_ble_eq_true rfl) dX7_build_8 (fun r_8 g1 H locs hp X => ?_)
  obtain ⟨mn2_8, lc2_8, pa2_8, e1_8, e2_8, e3_8, e4_8, e5_8, rfl, hfr_8⟩ := hp
  have X := X.perm (gs' := [xoW q x0 xt xa xh xs xf xp xd xr, rdW q xr h0 (nI lc2_8) pa2_8, sW q h0 h1 h2 h3 h4 h5 e1_8 e2_8 e3_8 e4_8 e5_8 (nI mn2_8), pW q xp p1 cs (nI ln) ov]) (xp_idx (n := 4) [3, 0, 1, 2] (by decide +kernel) rfl rfl)
  refine lv_bipush (v := (-6)) hx hb dX7_build_11 (by decide) ?_
  refine lv_icmp_eq (tgt := 19) hx hb dX7_build_13 (by decide) (fun c_13 => ?_) (fun c_13 => ?_)
  · exact absurd c_13 (hnf _ hfr_8.1)
  · refine lv_bipush (v := (-3)) hx hb dX7_build_16 (by decide) ?_
    exact hret _ _ _ _ _ _ (by exact ⟨_, _, _, _, _, _, _, _, rfl, rfl⟩) X dX7_build_18
