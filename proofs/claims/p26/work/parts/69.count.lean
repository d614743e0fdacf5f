set_option maxHeartbeats 1000000 in
set_option maxRecDepth 100000 in
theorem c_X7_count (l : Launch) (D : va_G) (q : xQ) (x0 : Nat) (xt : Nat) (xa : Nat) (xh : Nat) (xs : Nat) (xf : Nat) (xp : Nat) (xd : Nat) (xr : Nat) (w1 : Nat) (y0 : Nat) (h0 : Nat) (h1 : Nat) (h2 : Nat) (h3 : Nat) (h4 : Nat) (h5 : Nat) (r0 : Nat → Int32) (f1 : Nat → Int32) (f2 : Nat → Int32) (f3 : Nat → Int32) (f4 : Nat → Int32) (f5 : Nat → Int32) (fc : Int32) (n : Nat) (T : Nat → Int32) (pr : Nat → Nat) (a1 : Nat) (a2 : Nat) (a3 : Nat) (t1 : Nat → Int32) (t2 : Nat → Int32) (t3 : Nat → Int32) (y1 : Nat) (y2 : Nat) (y3 : Nat) (p1 : Nat) (z1 : Nat) (ln : Nat) (kn : Nat) (g1 : Nat → Int32) (g2 : Nat → Int32) (g3 : Nat → Int32) (cs : Nat → Int32) (ps : Int32) (lo : Int32) (ov : Int32) (ol : Int32) (ad : Nat → Option Nat) (wh : Int32) (hok : x_ok T n pr) (hsr : xSR T n f1 f2 f3 f4 f5) (hqr : ∀ i, i < 4 → r0 i = T i) (hfc : fc = T 4) (hps : ps = T 6) (hlo : lo = T 7) : xMi l yX7_count wsX7_count { frames := 5, cells := 0, slots := 0, locals := 112 } D q [.ref x0, .int wh] [xoW q x0 xt xa xh xs xf xp xd xr, twW q xt w1 h0 y0 r0 fc, sW q h0 h1 h2 h3 h4 h5 f1 f2 f3 f4 f5 (nI n), aW q xa a1 a2 a3 t1 t2 t3, hW q y0 y1 y2 y3 g1 g2 g3 ps lo, pW q xp p1 cs (nI ln) ov, hiW q xh z1 ad ol (nI kn)] (fun r gw => ∃ (u1 : Nat → Int32), ∃ (u2 : Nat → Int32), ∃ (u3 : Nat → Int32), gw = [xoW q x0 xt xa xh xs xf xp xd xr, twW q xt w1 h0 y0 r0 fc, sW q h0 h1 h2 h3 h4 h5 f1 f2 f3 f4 f5 (nI n), aW q xa a1 a2 a3 u1 u2 u3, hW q y0 y1 y2 y3 g1 g2 g3 ps lo, pW q xp p1 cs (nI ln) ov, hiW q xh z1 ad ol (nI kn)] ∧ r = x_cnt T n pr ln kn wh) := by
  refine xMi_of (cc := cX7_count) (maxL := 2) (rt := .int) (by decide) rfl (Nat.le_of_ble_eq_true rfl) (fun _ _ _ => rfl) ?_
  intro p9 e9 s9 m9 a9 below meth c9 A9 Z9 ls H locs F X hl hret
  have hx := F.1.1
  have hb := F.1.2.1
  have in_X7 : ∀ w ∈ wsX70, w ∈ wsX7_count := by decide +kernel
  have in_X6 : ∀ w ∈ wsX60, w ∈ wsX7_count := by decide +kernel
  have in_X5 : ∀ w ∈ wsX50, w ∈ wsX7_count := by decide +kernel
  have in_X2 : ∀ w ∈ wsX20, w ∈ wsX7_count := by decide +kernel
  have in_X3 : ∀ w ∈ wsX30, w ∈ wsX7_count := by decide +kernel
  have in_X1 : ∀ w ∈ wsX10, w ∈ wsX7_count := by decide +kernel
  have mw_0 : Cond.fieldLink RX7 10 "HatWinds" "town" "LHatWinds$Town;" ∈ wsX7_count := by decide +kernel
  have mw_1 : Cond.fieldLink RX7 84 "HatWinds$Town" "streets" "LHatWinds$Streets;" ∈ wsX7_count := by decide +kernel
  have mw_2 : Cond.fieldLink RX7 98 "HatWinds$Streets" "number" "I" ∈ wsX7_count := by decide +kernel
  have mw_3 : Cond.fieldLink RX7 126 "HatWinds$Town" "force" "I" ∈ wsX7_count := by decide +kernel
  have mw_4 : Cond.fieldLink RX7 129 "HatWinds$Town" "hours" "LHatWinds$Hours;" ∈ wsX7_count := by decide +kernel
  have mw_5 : Cond.fieldLink RX7 133 "HatWinds$Hours" "passed" "I" ∈ wsX7_count := by decide +kernel
  have mw_6 : Cond.fieldLink RX7 222 "HatWinds$Hours" "lostSoFar" "I" ∈ wsX7_count := by decide +kernel
  have mw_7 : Cond.initialized RX5 ∈ wsX7_count := by decide +kernel
  have mw_8 : Cond.initialized RX7 ∈ wsX7_count := by decide +kernel
  have mw_9 : Cond.fieldLink RX7 77 "HatWinds$Town" "settings" "[I" ∈ wsX7_count := by decide +kernel
  have mw_10 : Cond.fieldLink RX7 41 "HatWinds" "pad" "LHatWinds$Pad;" ∈ wsX7_count := by decide +kernel
  have mw_11 : Cond.fieldLink RX7 162 "HatWinds$Pad" "length" "I" ∈ wsX7_count := by decide +kernel
  have mw_12 : Cond.fieldLink RX7 26 "HatWinds" "history" "LHatWinds$History;" ∈ wsX7_count := by decide +kernel
  have mw_13 : Cond.fieldLink RX7 237 "HatWinds$History" "length" "I" ∈ wsX7_count := by decide +kernel
  have hl : lv_has ls 2 [(0, .ref x0), (1, .int wh)] := hl
  have hok0 := hok
  obtain ⟨hn, hn1, hs5, hs33, hpt, hwd, hcl, hsm, hpe, hst, hle, hhr, hcn⟩ := hok0
  have hpr := hsr.prs hok
  have h60 := hsr.1
  refine lv_iload_n hx hb dX7_count_0 rfl (lv_at hl 1 rfl) ?_
  rcases x_sw wh 0 13 (by decide) with c_1 | c_1
  · refine lv_tableOut (tgt := 202) hx hb dX7_count_1 c_1 (by decide) ?_
    refine lv_bipush (v := (-2)) hx hb dX7_count_202 (by decide) ?_
    exact hret _ _ _ _ _ _ (by exact ⟨_, _, _, rfl, by rw [x_cnt_d c_1]⟩) X dX7_count_204
  · obtain ⟨j_1, hj1, hj2, e_1⟩ := c_1
    subst e_1
    rcases (show j_1 = 0 ∨ j_1 = 1 ∨ j_1 = 2 ∨ j_1 = 3 ∨ j_1 = 4 ∨ j_1 = 5 ∨ j_1 = 6 ∨ j_1 = 7 ∨ j_1 = 8 ∨ j_1 = 9 ∨ j_1 = 10 ∨ j_1 = 11 ∨ j_1 = 12 ∨ j_1 = 13 by omega) with rfl | rfl | rfl | rfl | rfl | rfl | rfl | rfl | rfl | rfl | rfl | rfl | rfl | rfl
    · refine lv_tableIn (off := 71) (tgt := 72) hx hb dX7_count_1 (by decide) (by decide) (by decide) (by decide) ?_
      refine lv_aload_n hx hb dX7_count_72 rfl (lv_at hl 0 rfl) ?_
      refine x_get F X (v := .ref xt) (C := RX7) (T := TX7) (N := 8) (ci := 7) in_X7 0 rfl rfl 0 (by decide) mw_0 rfl dX7_count_73 ?_
      refine x_get F X (v := .ref h0) (C := RX6) (T := TX6) (N := 4) (ci := 6) in_X6 1 rfl rfl 1 (by decide) mw_1 rfl dX7_count_76 ?_
      refine x_get F X (v := .int (nI n)) (C := RX5) (T := TX5) (N := 6) (ci := 5) in_X5 3 rfl rfl 5 (by decide) mw_2 rfl dX7_count_79 ?_
      exact hret _ _ _ _ _ _ (by exact ⟨_, _, _, rfl, hs5.symm⟩) X dX7_count_82
    · refine lv_tableIn (off := 82) (tgt := 83) hx hb dX7_count_1 (by decide) (by decide) (by decide) (by decide) ?_
      refine lv_aload_n hx hb dX7_count_83 rfl (lv_at hl 0 rfl) ?_
      refine x_get F X (v := .ref xt) (C := RX7) (T := TX7) (N := 8) (ci := 7) in_X7 0 rfl rfl 0 (by decide) mw_0 rfl dX7_count_84 ?_
      refine x_get F X (v := .int fc) (C := RX6) (T := TX6) (N := 4) (ci := 6) in_X6 1 rfl rfl 3 (by decide) mw_3 rfl dX7_count_87 ?_
      exact hret _ _ _ _ _ _ (by exact ⟨_, _, _, rfl, hfc⟩) X dX7_count_90
    · refine lv_tableIn (off := 90) (tgt := 91) hx hb dX7_count_1 (by decide) (by decide) (by decide) (by decide) ?_
      refine lv_aload_n hx hb dX7_count_91 rfl (lv_at hl 0 rfl) ?_
      refine x_get F X (v := .ref xt) (C := RX7) (T := TX7) (N := 8) (ci := 7) in_X7 0 rfl rfl 0 (by decide) mw_0 rfl dX7_count_92 ?_
      refine x_get F X (v := .ref y0) (C := RX6) (T := TX6) (N := 4) (ci := 6) in_X6 1 rfl rfl 2 (by decide) mw_4 rfl dX7_count_95 ?_
      refine x_get F X (v := .int ps) (C := RX2) (T := TX2) (N := 5) (ci := 2) in_X2 13 rfl rfl 3 (by decide) mw_5 rfl dX7_count_98 ?_
      exact hret _ _ _ _ _ _ (by exact ⟨_, _, _, rfl, hps⟩) X dX7_count_101
    · refine lv_tableIn (off := 101) (tgt := 102) hx hb dX7_count_1 (by decide) (by decide) (by decide) (by decide) ?_
      refine lv_aload_n hx hb dX7_count_102 rfl (lv_at hl 0 rfl) ?_
      refine x_get F X (v := .ref xt) (C := RX7) (T := TX7) (N := 8) (ci := 7) in_X7 0 rfl rfl 0 (by decide) mw_0 rfl dX7_count_103 ?_
      refine x_get F X (v := .ref y0) (C := RX6) (T := TX6) (N := 4) (ci := 6) in_X6 1 rfl rfl 2 (by decide) mw_4 rfl dX7_count_106 ?_
      refine x_get F X (v := .int lo) (C := RX2) (T := TX2) (N := 5) (ci := 2) in_X2 13 rfl rfl 4 (by decide) mw_6 rfl dX7_count_109 ?_
      exact hret _ _ _ _ _ _ (by exact ⟨_, _, _, rfl, hlo⟩) X dX7_count_112
    · refine lv_tableIn (off := 112) (tgt := 113) hx hb dX7_count_1 (by decide) (by decide) (by decide) (by decide) ?_
      refine lv_aload_n hx hb dX7_count_113 rfl (lv_at hl 0 rfl) ?_
      refine x_get F X (v := .ref xt) (C := RX7) (T := TX7) (N := 8) (ci := 7) in_X7 0 rfl rfl 0 (by decide) mw_0 rfl dX7_count_114 ?_
      refine x_get F X (v := .ref h0) (C := RX6) (T := TX6) (N := 4) (ci := 6) in_X6 1 rfl rfl 1 (by decide) mw_1 rfl dX7_count_117 ?_
      refine x_cVi F X (gc := [sW q h0 h1 h2 h3 h4 h5 f1 f2 f3 f4 f5 (nI n)]) (gr := [xoW q x0 xt xa xh xs xf xp xd xr, twW q xt w1 h0 y0 r0 fc, aW q xa a1 a2 a3 t1 t2 t3, hW q y0 y1 y2 y3 g1 g2 g3 ps lo, pW q xp p1 cs (nI ln) ov, hiW q xh z1 ad ol (nI kn)]) (xp_idx (n := 7) [2, 0, 1, 3, 4, 5, 6] (by decide +kernel) rfl rfl) (c_X5_peopleOfAll l D q h0 h1 h2 h3 h4 h5 n f1 f2 f3 f4 f5 (by first | assumption | omega)) (cwV 0 F.1.2.2.2.2 gX7_count_X5_peopleOfAll rfl rfl rfl (by decide +kernel) ⟨Nat.le_of_ble_eq_true rfl, Nat.le_of_ble_eq_true rfl⟩) rfl rfl (r0 := 0) (ci := 5) (T := TX5) (N := 6) rfl rfl hl.1 ⟨Nat.le_of_ble_eq_true rfl, Nat.le_of_ble_eq_true rfl⟩ (Nat.le_of_ble_eq_true rfl) dX7_count_120 (fun r_120 g1 H locs hp X => ?_)
      obtain ⟨rfl, rfl⟩ := hp
      have X := X.perm (gs' := [xoW q x0 xt xa xh xs xf xp xd xr, twW q xt w1 h0 y0 r0 fc, sW q h0 h1 h2 h3 h4 h5 f1 f2 f3 f4 f5 (nI n), aW q xa a1 a2 a3 t1 t2 t3, hW q y0 y1 y2 y3 g1 g2 g3 ps lo, pW q xp p1 cs (nI ln) ov, hiW q xh z1 ad ol (nI kn)]) (xp_idx (n := 7) [1, 2, 0, 3, 4, 5, 6] (by decide +kernel) rfl rfl)
      exact hret _ _ _ _ _ _ (by exact ⟨_, _, _, rfl, x_sm_cong (fun k hk => (hsr.2.2 k hk).2.2.2)⟩) X dX7_count_123
    · refine lv_tableIn (off := 123) (tgt := 124) hx hb dX7_count_1 (by decide) (by decide) (by decide) (by decide) ?_
      refine lv_aload_n hx hb dX7_count_124 rfl (lv_at hl 0 rfl) ?_
      refine lv_aload_n hx hb dX7_count_125 rfl (lv_at hl 0 rfl) ?_
      refine x_get F X (v := .ref xt) (C := RX7) (T := TX7) (N := 8) (ci := 7) in_X7 0 rfl rfl 0 (by decide) mw_0 rfl dX7_count_126 ?_
      refine x_get F X (v := .int fc) (C := RX6) (T := TX6) (N := 4) (ci := 6) in_X6 1 rfl rfl 3 (by decide) mw_3 rfl dX7_count_129 ?_
      refine x_cVi F X (gc := [xoW q x0 xt xa xh xs xf xp xd xr, twW q xt w1 h0 y0 r0 fc, sW q h0 h1 h2 h3 h4 h5 f1 f2 f3 f4 f5 (nI n), aW q xa a1 a2 a3 t1 t2 t3]) (gr := [hW q y0 y1 y2 y3 g1 g2 g3 ps lo, pW q xp p1 cs (nI ln) ov, hiW q xh z1 ad ol (nI kn)]) (xp_idx (n := 7) [0, 1, 2, 3, 4, 5, 6] (by decide +kernel) rfl rfl) (c_X7_hatsBy l D q x0 xt xa xh xs xf xp xd xr w1 y0 h0 h1 h2 h3 h4 h5 r0 f1 f2 f3 f4 f5 fc n T pr a1 a2 a3 t1 t2 t3 fc (by first | assumption | omega) (by first | assumption | omega) (by first | assumption | omega) (by first | assumption | omega)) (cwV 1 F.1.2.2.2.2 gX7_count_X7_hatsBy rfl rfl rfl (by decide +kernel) ⟨Nat.le_of_ble_eq_true rfl, Nat.le_of_ble_eq_true rfl⟩) rfl rfl (r0 := 0) (ci := 7) (T := TX7) (N := 8) rfl rfl hl.1 ⟨Nat.le_of_ble_eq_true rfl, Nat.le_of_ble_eq_true rfl⟩ (Nat.le_of_ble_eq_true rfl) dX7_count_132 (fun r_132 g1 H locs hp X => ?_)
      obtain ⟨u1_132, u2_132, u3_132, rfl, rfl⟩ := hp
      have X : xS D A9 s9 [xoW q x0 xt xa xh xs xf xp xd xr, twW q xt w1 h0 y0 r0 fc, sW q h0 h1 h2 h3 h4 h5 f1 f2 f3 f4 f5 (nI n), aW q xa a1 a2 a3 u1_132 u2_132 u3_132, hW q y0 y1 y2 y3 g1 g2 g3 ps lo, pW q xp p1 cs (nI ln) ov, hiW q xh z1 ad ol (nI kn)] H locs := X
      exact hret _ _ _ _ _ _ (by exact ⟨_, _, _, rfl, congrArg (x_hb T pr n) hfc⟩) X dX7_count_135
    · refine lv_tableIn (off := 135) (tgt := 136) hx hb dX7_count_1 (by decide) (by decide) (by decide) (by decide) ?_
      refine lv_aload_n hx hb dX7_count_136 rfl (lv_at hl 0 rfl) ?_
      refine x_cVi F X (gc := [xoW q x0 xt xa xh xs xf xp xd xr, twW q xt w1 h0 y0 r0 fc, sW q h0 h1 h2 h3 h4 h5 f1 f2 f3 f4 f5 (nI n), aW q xa a1 a2 a3 t1 t2 t3]) (gr := [hW q y0 y1 y2 y3 g1 g2 g3 ps lo, pW q xp p1 cs (nI ln) ov, hiW q xh z1 ad ol (nI kn)]) (xp_idx (n := 7) [0, 1, 2, 3, 4, 5, 6] (by decide +kernel) rfl rfl) (c_X7_shelters l D q x0 xt xa xh xs xf xp xd xr w1 y0 h0 h1 h2 h3 h4 h5 r0 f1 f2 f3 f4 f5 fc n T pr a1 a2 a3 t1 t2 t3 (by first | assumption | omega) (by first | assumption | omega) (by first | assumption | omega) (by first | assumption | omega)) (cwV 0 F.1.2.2.2.2 gX7_count_X7_shelters rfl rfl rfl (by decide +kernel) ⟨Nat.le_of_ble_eq_true rfl, Nat.le_of_ble_eq_true rfl⟩) rfl rfl (r0 := 0) (ci := 7) (T := TX7) (N := 8) rfl rfl hl.1 ⟨Nat.le_of_ble_eq_true rfl, Nat.le_of_ble_eq_true rfl⟩ (Nat.le_of_ble_eq_true rfl) dX7_count_137 (fun r_137 g1 H locs hp X => ?_)
      obtain ⟨u1_137, u2_137, u3_137, rfl, rfl⟩ := hp
      have X : xS D A9 s9 [xoW q x0 xt xa xh xs xf xp xd xr, twW q xt w1 h0 y0 r0 fc, sW q h0 h1 h2 h3 h4 h5 f1 f2 f3 f4 f5 (nI n), aW q xa a1 a2 a3 u1_137 u2_137 u3_137, hW q y0 y1 y2 y3 g1 g2 g3 ps lo, pW q xp p1 cs (nI ln) ov, hiW q xh z1 ad ol (nI kn)] H locs := X
      exact hret _ _ _ _ _ _ (by exact ⟨_, _, _, rfl, rfl⟩) X dX7_count_140
    · refine lv_tableIn (off := 140) (tgt := 141) hx hb dX7_count_1 (by decide) (by decide) (by decide) (by decide) ?_
      refine lv_aload_n hx hb dX7_count_141 rfl (lv_at hl 0 rfl) ?_
      refine x_cVi F X (gc := [xoW q x0 xt xa xh xs xf xp xd xr, twW q xt w1 h0 y0 r0 fc, sW q h0 h1 h2 h3 h4 h5 f1 f2 f3 f4 f5 (nI n), aW q xa a1 a2 a3 t1 t2 t3]) (gr := [hW q y0 y1 y2 y3 g1 g2 g3 ps lo, pW q xp p1 cs (nI ln) ov, hiW q xh z1 ad ol (nI kn)]) (xp_idx (n := 7) [0, 1, 2, 3, 4, 5, 6] (by decide +kernel) rfl rfl) (c_X7_calmest l D q x0 xt xa xh xs xf xp xd xr w1 y0 h0 h1 h2 h3 h4 h5 r0 f1 f2 f3 f4 f5 fc n T pr a1 a2 a3 t1 t2 t3 (by first | assumption | omega) (by first | assumption | omega) (by first | assumption | omega) (by first | assumption | omega)) (cwV 0 F.1.2.2.2.2 gX7_count_X7_calmest rfl rfl rfl (by decide +kernel) ⟨Nat.le_of_ble_eq_true rfl, Nat.le_of_ble_eq_true rfl⟩) rfl rfl (r0 := 0) (ci := 7) (T := TX7) (N := 8) rfl rfl hl.1 ⟨Nat.le_of_ble_eq_true rfl, Nat.le_of_ble_eq_true rfl⟩ (Nat.le_of_ble_eq_true rfl) dX7_count_142 (fun r_142 g1 H locs hp X => ?_)
      obtain ⟨u1_142, u2_142, u3_142, rfl, rfl⟩ := hp
      have X : xS D A9 s9 [xoW q x0 xt xa xh xs xf xp xd xr, twW q xt w1 h0 y0 r0 fc, sW q h0 h1 h2 h3 h4 h5 f1 f2 f3 f4 f5 (nI n), aW q xa a1 a2 a3 u1_142 u2_142 u3_142, hW q y0 y1 y2 y3 g1 g2 g3 ps lo, pW q xp p1 cs (nI ln) ov, hiW q xh z1 ad ol (nI kn)] H locs := X
      exact hret _ _ _ _ _ _ (by exact ⟨_, _, _, rfl, rfl⟩) X dX7_count_145
    · refine lv_tableIn (off := 145) (tgt := 146) hx hb dX7_count_1 (by decide) (by decide) (by decide) (by decide) ?_
      refine lv_aload_n hx hb dX7_count_146 rfl (lv_at hl 0 rfl) ?_
      refine x_get F X (v := .ref xt) (C := RX7) (T := TX7) (N := 8) (ci := 7) in_X7 0 rfl rfl 0 (by decide) mw_0 rfl dX7_count_147 ?_
      refine x_get F X (v := .ref w1) (C := RX6) (T := TX6) (N := 4) (ci := 6) in_X6 1 rfl rfl 0 (by decide) mw_9 rfl dX7_count_150 ?_
      refine lv_iconst (v := 0) hx hb dX7_count_153 (by decide) ?_
      refine x_iald F X (v := (r0 0)) (n := 4) (f := r0) 2 rfl (show vp_in (nI 0) _ from vp_in_nI (by omega) (by omega)) rfl dX7_count_154 ?_
      exact hret _ _ _ _ _ _ (by exact ⟨_, _, _, rfl, hqr 0 (by omega)⟩) X dX7_count_155
    · refine lv_tableIn (off := 155) (tgt := 156) hx hb dX7_count_1 (by decide) (by decide) (by decide) (by decide) ?_
      refine lv_aload_n hx hb dX7_count_156 rfl (lv_at hl 0 rfl) ?_
      refine x_get F X (v := .ref xt) (C := RX7) (T := TX7) (N := 8) (ci := 7) in_X7 0 rfl rfl 0 (by decide) mw_0 rfl dX7_count_157 ?_
      refine x_get F X (v := .ref w1) (C := RX6) (T := TX6) (N := 4) (ci := 6) in_X6 1 rfl rfl 0 (by decide) mw_9 rfl dX7_count_160 ?_
      refine lv_iconst (v := 1) hx hb dX7_count_163 (by decide) ?_
      refine x_iald F X (v := (r0 1)) (n := 4) (f := r0) 2 rfl (show vp_in (nI 1) _ from vp_in_nI (by omega) (by omega)) rfl dX7_count_164 ?_
      exact hret _ _ _ _ _ _ (by exact ⟨_, _, _, rfl, hqr 1 (by omega)⟩) X dX7_count_165
    · refine lv_tableIn (off := 165) (tgt := 166) hx hb dX7_count_1 (by decide) (by decide) (by decide) (by decide) ?_
      refine lv_aload_n hx hb dX7_count_166 rfl (lv_at hl 0 rfl) ?_
      refine x_get F X (v := .ref xt) (C := RX7) (T := TX7) (N := 8) (ci := 7) in_X7 0 rfl rfl 0 (by decide) mw_0 rfl dX7_count_167 ?_
      refine x_get F X (v := .ref w1) (C := RX6) (T := TX6) (N := 4) (ci := 6) in_X6 1 rfl rfl 0 (by decide) mw_9 rfl dX7_count_170 ?_
      refine lv_iconst (v := 2) hx hb dX7_count_173 (by decide) ?_
      refine x_iald F X (v := (r0 2)) (n := 4) (f := r0) 2 rfl (show vp_in (nI 2) _ from vp_in_nI (by omega) (by omega)) rfl dX7_count_174 ?_
      exact hret _ _ _ _ _ _ (by exact ⟨_, _, _, rfl, hqr 2 (by omega)⟩) X dX7_count_175
    · refine lv_tableIn (off := 175) (tgt := 176) hx hb dX7_count_1 (by decide) (by decide) (by decide) (by decide) ?_
      refine lv_aload_n hx hb dX7_count_176 rfl (lv_at hl 0 rfl) ?_
      refine x_get F X (v := .ref xt) (C := RX7) (T := TX7) (N := 8) (ci := 7) in_X7 0 rfl rfl 0 (by decide) mw_0 rfl dX7_count_177 ?_
      refine x_get F X (v := .ref w1) (C := RX6) (T := TX6) (N := 4) (ci := 6) in_X6 1 rfl rfl 0 (by decide) mw_9 rfl dX7_count_180 ?_
      refine lv_iconst (v := 3) hx hb dX7_count_183 (by decide) ?_
      refine x_iald F X (v := (r0 3)) (n := 4) (f := r0) 2 rfl (show vp_in (nI 3) _ from vp_in_nI (by omega) (by omega)) rfl dX7_count_184 ?_
      exact hret _ _ _ _ _ _ (by exact ⟨_, _, _, rfl, hqr 3 (by omega)⟩) X dX7_count_185
    · refine lv_tableIn (off := 185) (tgt := 186) hx hb dX7_count_1 (by decide) (by decide) (by decide) (by decide) ?_
      refine lv_aload_n hx hb dX7_count_186 rfl (lv_at hl 0 rfl) ?_
      refine x_get F X (v := .ref xp) (C := RX7) (T := TX7) (N := 8) (ci := 7) in_X7 0 rfl rfl 5 (by decide) mw_10 rfl dX7_count_187 ?_
      refine x_get F X (v := .int (nI ln)) (C := RX3) (T := TX3) (N := 3) (ci := 3) in_X3 17 rfl rfl 1 (by decide) mw_11 rfl dX7_count_190 ?_
      exact hret _ _ _ _ _ _ (by exact ⟨_, _, _, rfl, rfl⟩) X dX7_count_193
    · refine lv_tableIn (off := 193) (tgt := 194) hx hb dX7_count_1 (by decide) (by decide) (by decide) (by decide) ?_
      refine lv_aload_n hx hb dX7_count_194 rfl (lv_at hl 0 rfl) ?_
      refine x_get F X (v := .ref xh) (C := RX7) (T := TX7) (N := 8) (ci := 7) in_X7 0 rfl rfl 2 (by decide) mw_12 rfl dX7_count_195 ?_
      refine x_get F X (v := .int (nI kn)) (C := RX1) (T := TX1) (N := 3) (ci := 1) in_X1 19 rfl rfl 2 (by decide) mw_13 rfl dX7_count_198 ?_
      exact hret _ _ _ _ _ _ (by exact ⟨_, _, _, rfl, rfl⟩) X dX7_count_201
