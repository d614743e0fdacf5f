theorem c_G_of (l : Launch) (D : va_G) (q : xQ) (A : xAd) (z : xZt) (ob : va_W) (st : Int32) (wh : Int32) (hob : xOb q A z ob) : xMi l yX7_of wsX7_of { frames := 3, cells := 0, slots := 0, locals := 65 } D q [.ref (A.1 0), .int st, .int wh] [xoA q A, ob] (fun r gw => ∃ (ob2 : va_W), gw = [xoA q A, ob2] ∧ r = x_st (tN (zS z)) st (x_ofk (zS z) (tN (zS z)) (tR (zS z)) wh) ∧ (xOb q A z ob2)) := by
  refine xG z (fun r => r = x_st (tN (zS z)) st (x_ofk (zS z) (tN (zS z)) (tR (zS z)) wh)) hob (fun R Q V E I sl sv had hsd hR => ?_)
  refine ⟨_, c_F_of l D q A.1 A.2.1 A.2.2.1 A.2.2.2.1 A.2.2.2.2.1 A.2.2.2.2.2 R Q V E I _ _ sl sv _ _ _ _ _ had hsd hR st wh, fun r gw hp => ?_⟩
  obtain ⟨R2, Q2, V2, E2, I2, rfl, hr, n2, pr2, hR2⟩ := hp
  refine ⟨R2, Q2, V2, E2, I2, rfl, ?_, n2, pr2, hR2⟩
  exact hr
theorem c_G_of0 (l : Launch) (D : va_G) (q : xQ) (A : xAd) (z : xZt) (ob : va_W) (k : Nat) (hob : xOb q A z ob) (hk : k < tN (zS z)) : xMi l yX7_of wsX7_of { frames := 3, cells := 0, slots := 0, locals := 65 } D q [.ref (A.1 0), .int (nI k), .int 0] [xoA q A, ob] (fun r gw => ∃ (ob2 : va_W), gw = [xoA q A, ob2] ∧ r = x_np (x_tF (zS z) k) ∧ (xOb q A z ob2)) := by
  refine xG z (fun r => r = x_np (x_tF (zS z) k)) hob (fun R Q V E I sl sv had hsd hR => ?_)
  refine ⟨_, c_F_of l D q A.1 A.2.1 A.2.2.1 A.2.2.2.1 A.2.2.2.2.1 A.2.2.2.2.2 R Q V E I _ _ sl sv _ _ _ _ _ had hsd hR (nI k) 0, fun r gw hp => ?_⟩
  obtain ⟨R2, Q2, V2, E2, I2, rfl, hr, n2, pr2, hR2⟩ := hp
  refine ⟨R2, Q2, V2, E2, I2, rfl, ?_, n2, pr2, hR2⟩
  have hn := hR.1.1.1
  rw [hr, x_st_in (by omega) hk]
  rfl
theorem c_G_of1 (l : Launch) (D : va_G) (q : xQ) (A : xAd) (z : xZt) (ob : va_W) (k : Nat) (hob : xOb q A z ob) (hk : k < tN (zS z)) : xMi l yX7_of wsX7_of { frames := 3, cells := 0, slots := 0, locals := 65 } D q [.ref (A.1 0), .int (nI k), .int 1] [xoA q A, ob] (fun r gw => ∃ (ob2 : va_W), gw = [xoA q A, ob2] ∧ r = x_tW (zS z) k ∧ (xOb q A z ob2)) := by
  refine xG z (fun r => r = x_tW (zS z) k) hob (fun R Q V E I sl sv had hsd hR => ?_)
  refine ⟨_, c_F_of l D q A.1 A.2.1 A.2.2.1 A.2.2.2.1 A.2.2.2.2.1 A.2.2.2.2.2 R Q V E I _ _ sl sv _ _ _ _ _ had hsd hR (nI k) 1, fun r gw hp => ?_⟩
  obtain ⟨R2, Q2, V2, E2, I2, rfl, hr, n2, pr2, hR2⟩ := hp
  refine ⟨R2, Q2, V2, E2, I2, rfl, ?_, n2, pr2, hR2⟩
  have hn := hR.1.1.1
  rw [hr, x_st_in (by omega) hk]
  rfl
theorem c_G_of2 (l : Launch) (D : va_G) (q : xQ) (A : xAd) (z : xZt) (ob : va_W) (k : Nat) (hob : xOb q A z ob) (hk : k < tN (zS z)) : xMi l yX7_of wsX7_of { frames := 3, cells := 0, slots := 0, locals := 65 } D q [.ref (A.1 0), .int (nI k), .int 2] [xoA q A, ob] (fun r gw => ∃ (ob2 : va_W), gw = [xoA q A, ob2] ∧ r = x_tC (zS z) k ∧ (xOb q A z ob2)) := by
  refine xG z (fun r => r = x_tC (zS z) k) hob (fun R Q V E I sl sv had hsd hR => ?_)
  refine ⟨_, c_F_of l D q A.1 A.2.1 A.2.2.1 A.2.2.2.1 A.2.2.2.2.1 A.2.2.2.2.2 R Q V E I _ _ sl sv _ _ _ _ _ had hsd hR (nI k) 2, fun r gw hp => ?_⟩
  obtain ⟨R2, Q2, V2, E2, I2, rfl, hr, n2, pr2, hR2⟩ := hp
  refine ⟨R2, Q2, V2, E2, I2, rfl, ?_, n2, pr2, hR2⟩
  have hn := hR.1.1.1
  rw [hr, x_st_in (by omega) hk]
  rfl
theorem c_G_of3 (l : Launch) (D : va_G) (q : xQ) (A : xAd) (z : xZt) (ob : va_W) (k : Nat) (hob : xOb q A z ob) (hk : k < tN (zS z)) : xMi l yX7_of wsX7_of { frames := 3, cells := 0, slots := 0, locals := 65 } D q [.ref (A.1 0), .int (nI k), .int 3] [xoA q A, ob] (fun r gw => ∃ (ob2 : va_W), gw = [xoA q A, ob2] ∧ r = x_tM (zS z) k ∧ (xOb q A z ob2)) := by
  refine xG z (fun r => r = x_tM (zS z) k) hob (fun R Q V E I sl sv had hsd hR => ?_)
  refine ⟨_, c_F_of l D q A.1 A.2.1 A.2.2.1 A.2.2.2.1 A.2.2.2.2.1 A.2.2.2.2.2 R Q V E I _ _ sl sv _ _ _ _ _ had hsd hR (nI k) 3, fun r gw hp => ?_⟩
  obtain ⟨R2, Q2, V2, E2, I2, rfl, hr, n2, pr2, hR2⟩ := hp
  refine ⟨R2, Q2, V2, E2, I2, rfl, ?_, n2, pr2, hR2⟩
  have hn := hR.1.1.1
  rw [hr, x_st_in (by omega) hk]
  rfl
theorem c_G_of4 (l : Launch) (D : va_G) (q : xQ) (A : xAd) (z : xZt) (ob : va_W) (k : Nat) (hob : xOb q A z ob) (hk : k < tN (zS z)) : xMi l yX7_of wsX7_of { frames := 3, cells := 0, slots := 0, locals := 65 } D q [.ref (A.1 0), .int (nI k), .int 4] [xoA q A, ob] (fun r gw => ∃ (ob2 : va_W), gw = [xoA q A, ob2] ∧ r = x_tP (zS z) k ∧ (xOb q A z ob2)) := by
  refine xG z (fun r => r = x_tP (zS z) k) hob (fun R Q V E I sl sv had hsd hR => ?_)
  refine ⟨_, c_F_of l D q A.1 A.2.1 A.2.2.1 A.2.2.2.1 A.2.2.2.2.1 A.2.2.2.2.2 R Q V E I _ _ sl sv _ _ _ _ _ had hsd hR (nI k) 4, fun r gw hp => ?_⟩
  obtain ⟨R2, Q2, V2, E2, I2, rfl, hr, n2, pr2, hR2⟩ := hp
  refine ⟨R2, Q2, V2, E2, I2, rfl, ?_, n2, pr2, hR2⟩
  have hn := hR.1.1.1
  rw [hr, x_st_in (by omega) hk]
  rfl
theorem c_G_of5 (l : Launch) (D : va_G) (q : xQ) (A : xAd) (z : xZt) (ob : va_W) (k : Nat) (hob : xOb q A z ob) (hk : k < tN (zS z)) : xMi l yX7_of wsX7_of { frames := 3, cells := 0, slots := 0, locals := 65 } D q [.ref (A.1 0), .int (nI k), .int 5] [xoA q A, ob] (fun r gw => ∃ (ob2 : va_W), gw = [xoA q A, ob2] ∧ r = x_bs (zS z) (tN (zS z)) k ∧ (xOb q A z ob2)) := by
  refine xG z (fun r => r = x_bs (zS z) (tN (zS z)) k) hob (fun R Q V E I sl sv had hsd hR => ?_)
  refine ⟨_, c_F_of l D q A.1 A.2.1 A.2.2.1 A.2.2.2.1 A.2.2.2.2.1 A.2.2.2.2.2 R Q V E I _ _ sl sv _ _ _ _ _ had hsd hR (nI k) 5, fun r gw hp => ?_⟩
  obtain ⟨R2, Q2, V2, E2, I2, rfl, hr, n2, pr2, hR2⟩ := hp
  refine ⟨R2, Q2, V2, E2, I2, rfl, ?_, n2, pr2, hR2⟩
  have hn := hR.1.1.1
  rw [hr, x_st_in (by omega) hk]
  rfl
theorem c_G_of6 (l : Launch) (D : va_G) (q : xQ) (A : xAd) (z : xZt) (ob : va_W) (k : Nat) (hob : xOb q A z ob) (hk : k < tN (zS z)) : xMi l yX7_of wsX7_of { frames := 3, cells := 0, slots := 0, locals := 65 } D q [.ref (A.1 0), .int (nI k), .int 6] [xoA q A, ob] (fun r gw => ∃ (ob2 : va_W), gw = [xoA q A, ob2] ∧ r = nI (x_bn (tR (zS z)) k (tN (zS z) - (k + 1))) ∧ (xOb q A z ob2)) := by
  refine xG z (fun r => r = nI (x_bn (tR (zS z)) k (tN (zS z) - (k + 1)))) hob (fun R Q V E I sl sv had hsd hR => ?_)
  refine ⟨_, c_F_of l D q A.1 A.2.1 A.2.2.1 A.2.2.2.1 A.2.2.2.2.1 A.2.2.2.2.2 R Q V E I _ _ sl sv _ _ _ _ _ had hsd hR (nI k) 6, fun r gw hp => ?_⟩
  obtain ⟨R2, Q2, V2, E2, I2, rfl, hr, n2, pr2, hR2⟩ := hp
  refine ⟨R2, Q2, V2, E2, I2, rfl, ?_, n2, pr2, hR2⟩
  have hn := hR.1.1.1
  rw [hr, x_st_in (by omega) hk]
  rfl
theorem c_G_of7 (l : Launch) (D : va_G) (q : xQ) (A : xAd) (z : xZt) (ob : va_W) (k : Nat) (hob : xOb q A z ob) (hk : k < tN (zS z)) : xMi l yX7_of wsX7_of { frames := 3, cells := 0, slots := 0, locals := 65 } D q [.ref (A.1 0), .int (nI k), .int 7] [xoA q A, ob] (fun r gw => ∃ (ob2 : va_W), gw = [xoA q A, ob2] ∧ r = nI (x_dep (tR (zS z)) k k) ∧ (xOb q A z ob2)) := by
  refine xG z (fun r => r = nI (x_dep (tR (zS z)) k k)) hob (fun R Q V E I sl sv had hsd hR => ?_)
  refine ⟨_, c_F_of l D q A.1 A.2.1 A.2.2.1 A.2.2.2.1 A.2.2.2.2.1 A.2.2.2.2.2 R Q V E I _ _ sl sv _ _ _ _ _ had hsd hR (nI k) 7, fun r gw hp => ?_⟩
  obtain ⟨R2, Q2, V2, E2, I2, rfl, hr, n2, pr2, hR2⟩ := hp
  refine ⟨R2, Q2, V2, E2, I2, rfl, ?_, n2, pr2, hR2⟩
  have hn := hR.1.1.1
  rw [hr, x_st_in (by omega) hk]
  rfl
theorem c_G_ofp (l : Launch) (D : va_G) (q : xQ) (A : xAd) (z : xZt) (ob : va_W) (k : Nat) (hob : xOb q A z ob) (hk : k < tN (zS z)) (hk1 : 1 ≤ k) : xMi l yX7_of wsX7_of { frames := 3, cells := 0, slots := 0, locals := 65 } D q [.ref (A.1 0), .int (nI k), .int 0] [xoA q A, ob] (fun r gw => ∃ (ob2 : va_W), gw = [xoA q A, ob2] ∧ r = nI (tR (zS z) k) ∧ (xOb q A z ob2)) := by
  refine xG z (fun r => r = nI (tR (zS z) k)) hob (fun R Q V E I sl sv had hsd hR => ?_)
  refine ⟨_, c_F_of l D q A.1 A.2.1 A.2.2.1 A.2.2.2.1 A.2.2.2.2.1 A.2.2.2.2.2 R Q V E I _ _ sl sv _ _ _ _ _ had hsd hR (nI k) 0, fun r gw hp => ?_⟩
  obtain ⟨R2, Q2, V2, E2, I2, rfl, hr, n2, pr2, hR2⟩ := hp
  refine ⟨R2, Q2, V2, E2, I2, rfl, ?_, n2, pr2, hR2⟩
  have hn := hR.1.1.1
  rw [hr, x_st_in (by omega) hk]
  obtain ⟨e, h2⟩ := hR.1.1.2.2.2.2.1 k hk1 hk
  show x_np (zS z (33 + 5 * k + 0)) = _
  rw [e, x_npI (by omega)]
theorem c_G_ofw (l : Launch) (D : va_G) (q : xQ) (A : xAd) (z : xZt) (ob : va_W) (k : Nat) (w : Nat) (hob : xOb q A z ob) (hk : k < tN (zS z)) (hw : 1 ≤ w ∧ w ≤ 4) : xMi l yX7_of wsX7_of { frames := 3, cells := 0, slots := 0, locals := 65 } D q [.ref (A.1 0), .int (nI k), .int (nI w)] [xoA q A, ob] (fun r gw => ∃ (ob2 : va_W), gw = [xoA q A, ob2] ∧ r = (zS z) (33 + 5 * k + w) ∧ (xOb q A z ob2)) := by
  refine xG z (fun r => r = (zS z) (33 + 5 * k + w)) hob (fun R Q V E I sl sv had hsd hR => ?_)
  refine ⟨_, c_F_of l D q A.1 A.2.1 A.2.2.1 A.2.2.2.1 A.2.2.2.2.1 A.2.2.2.2.2 R Q V E I _ _ sl sv _ _ _ _ _ had hsd hR (nI k) (nI w), fun r gw hp => ?_⟩
  obtain ⟨R2, Q2, V2, E2, I2, rfl, hr, n2, pr2, hR2⟩ := hp
  refine ⟨R2, Q2, V2, E2, I2, rfl, ?_, n2, pr2, hR2⟩
  have hn := hR.1.1.1
  rw [hr, x_st_in (by omega) hk]
  rcases (show w = 1 ∨ w = 2 ∨ w = 3 ∨ w = 4 by omega) with rfl | rfl | rfl | rfl <;> rfl
theorem c_G_ofn (l : Launch) (D : va_G) (q : xQ) (A : xAd) (z : xZt) (ob : va_W) (k : Nat) (hob : xOb q A z ob) (hk : k = tN (zS z)) : xMi l yX7_of wsX7_of { frames := 3, cells := 0, slots := 0, locals := 65 } D q [.ref (A.1 0), .int (nI k), .int 0] [xoA q A, ob] (fun r gw => ∃ (ob2 : va_W), gw = [xoA q A, ob2] ∧ r = (-1) ∧ (xOb q A z ob2)) := by
  refine xG z (fun r => r = (-1)) hob (fun R Q V E I sl sv had hsd hR => ?_)
  refine ⟨_, c_F_of l D q A.1 A.2.1 A.2.2.1 A.2.2.2.1 A.2.2.2.2.1 A.2.2.2.2.2 R Q V E I _ _ sl sv _ _ _ _ _ had hsd hR (nI k) 0, fun r gw hp => ?_⟩
  obtain ⟨R2, Q2, V2, E2, I2, rfl, hr, n2, pr2, hR2⟩ := hp
  refine ⟨R2, Q2, V2, E2, I2, rfl, ?_, n2, pr2, hR2⟩
  have hn := hR.1.1.1
  rw [hr]
  exact x_st_out (by omega) (fun ⟨j, hj, ej⟩ => by have := (nI_eq (by omega) (by omega)).mp ej; omega) _
theorem c_G_now (l : Launch) (D : va_G) (q : xQ) (A : xAd) (z : xZt) (ob : va_W) (st : Int32) (wh : Int32) (hob : xOb q A z ob) : xMi l yX7_now wsX7_now { frames := 4, cells := 0, slots := 0, locals := 90 } D q [.ref (A.1 0), .int st, .int wh] [xoA q A, ob] (fun r gw => ∃ (ob2 : va_W), gw = [xoA q A, ob2] ∧ r = x_st (tN (zS z)) st (x_nowk (zS z) (tF (zS z)) wh) ∧ (xOb q A z ob2)) := by
  refine xG z (fun r => r = x_st (tN (zS z)) st (x_nowk (zS z) (tF (zS z)) wh)) hob (fun R Q V E I sl sv had hsd hR => ?_)
  refine ⟨_, c_F_now l D q A.1 A.2.1 A.2.2.1 A.2.2.2.1 A.2.2.2.2.1 A.2.2.2.2.2 R Q V E I _ _ sl sv _ _ _ _ _ had hsd hR st wh, fun r gw hp => ?_⟩
  obtain ⟨R2, Q2, V2, E2, I2, rfl, hr, n2, pr2, hR2⟩ := hp
  refine ⟨R2, Q2, V2, E2, I2, rfl, ?_, n2, pr2, hR2⟩
  exact hr
theorem c_G_now0 (l : Launch) (D : va_G) (q : xQ) (A : xAd) (z : xZt) (ob : va_W) (k : Nat) (hob : xOb q A z ob) (hk : k < tN (zS z)) : xMi l yX7_now wsX7_now { frames := 4, cells := 0, slots := 0, locals := 90 } D q [.ref (A.1 0), .int (nI k), .int 0] [xoA q A, ob] (fun r gw => ∃ (ob2 : va_W), gw = [xoA q A, ob2] ∧ r = tF (zS z) k ∧ (xOb q A z ob2)) := by
  refine xG z (fun r => r = tF (zS z) k) hob (fun R Q V E I sl sv had hsd hR => ?_)
  refine ⟨_, c_F_now l D q A.1 A.2.1 A.2.2.1 A.2.2.2.1 A.2.2.2.2.1 A.2.2.2.2.2 R Q V E I _ _ sl sv _ _ _ _ _ had hsd hR (nI k) 0, fun r gw hp => ?_⟩
  obtain ⟨R2, Q2, V2, E2, I2, rfl, hr, n2, pr2, hR2⟩ := hp
  refine ⟨R2, Q2, V2, E2, I2, rfl, ?_, n2, pr2, hR2⟩
  have hn := hR.1.1.1
  rw [hr, x_st_in (by omega) hk]
  rfl
theorem c_G_now1 (l : Launch) (D : va_G) (q : xQ) (A : xAd) (z : xZt) (ob : va_W) (k : Nat) (hob : xOb q A z ob) (hk : k < tN (zS z)) : xMi l yX7_now wsX7_now { frames := 4, cells := 0, slots := 0, locals := 90 } D q [.ref (A.1 0), .int (nI k), .int 1] [xoA q A, ob] (fun r gw => ∃ (ob2 : va_W), gw = [xoA q A, ob2] ∧ r = x_gu (zS z) (tF (zS z) k) ∧ (xOb q A z ob2)) := by
  refine xG z (fun r => r = x_gu (zS z) (tF (zS z) k)) hob (fun R Q V E I sl sv had hsd hR => ?_)
  refine ⟨_, c_F_now l D q A.1 A.2.1 A.2.2.1 A.2.2.2.1 A.2.2.2.2.1 A.2.2.2.2.2 R Q V E I _ _ sl sv _ _ _ _ _ had hsd hR (nI k) 1, fun r gw hp => ?_⟩
  obtain ⟨R2, Q2, V2, E2, I2, rfl, hr, n2, pr2, hR2⟩ := hp
  refine ⟨R2, Q2, V2, E2, I2, rfl, ?_, n2, pr2, hR2⟩
  have hn := hR.1.1.1
  rw [hr, x_st_in (by omega) hk]
  rfl
theorem c_G_now2 (l : Launch) (D : va_G) (q : xQ) (A : xAd) (z : xZt) (ob : va_W) (k : Nat) (hob : xOb q A z ob) (hk : k < tN (zS z)) : xMi l yX7_now wsX7_now { frames := 4, cells := 0, slots := 0, locals := 90 } D q [.ref (A.1 0), .int (nI k), .int 2] [xoA q A, ob] (fun r gw => ∃ (ob2 : va_W), gw = [xoA q A, ob2] ∧ r = (if x_tC (zS z) k = 0 then -6 else x_fst (zS z) (tF (zS z)) k) ∧ (xOb q A z ob2)) := by
  refine xG z (fun r => r = (if x_tC (zS z) k = 0 then -6 else x_fst (zS z) (tF (zS z)) k)) hob (fun R Q V E I sl sv had hsd hR => ?_)
  refine ⟨_, c_F_now l D q A.1 A.2.1 A.2.2.1 A.2.2.2.1 A.2.2.2.2.1 A.2.2.2.2.2 R Q V E I _ _ sl sv _ _ _ _ _ had hsd hR (nI k) 2, fun r gw hp => ?_⟩
  obtain ⟨R2, Q2, V2, E2, I2, rfl, hr, n2, pr2, hR2⟩ := hp
  refine ⟨R2, Q2, V2, E2, I2, rfl, ?_, n2, pr2, hR2⟩
  have hn := hR.1.1.1
  rw [hr, x_st_in (by omega) hk]
  rfl
theorem c_G_now3 (l : Launch) (D : va_G) (q : xQ) (A : xAd) (z : xZt) (ob : va_W) (k : Nat) (hob : xOb q A z ob) (hk : k < tN (zS z)) : xMi l yX7_now wsX7_now { frames := 4, cells := 0, slots := 0, locals := 90 } D q [.ref (A.1 0), .int (nI k), .int 3] [xoA q A, ob] (fun r gw => ∃ (ob2 : va_W), gw = [xoA q A, ob2] ∧ r = (if x_tM (zS z) k = 0 then -6 else x_mn 9 (x_quo (tF (zS z) k) (zS z 3))) ∧ (xOb q A z ob2)) := by
  refine xG z (fun r => r = (if x_tM (zS z) k = 0 then -6 else x_mn 9 (x_quo (tF (zS z) k) (zS z 3)))) hob (fun R Q V E I sl sv had hsd hR => ?_)
  refine ⟨_, c_F_now l D q A.1 A.2.1 A.2.2.1 A.2.2.2.1 A.2.2.2.2.1 A.2.2.2.2.2 R Q V E I _ _ sl sv _ _ _ _ _ had hsd hR (nI k) 3, fun r gw hp => ?_⟩
  obtain ⟨R2, Q2, V2, E2, I2, rfl, hr, n2, pr2, hR2⟩ := hp
  refine ⟨R2, Q2, V2, E2, I2, rfl, ?_, n2, pr2, hR2⟩
  have hn := hR.1.1.1
  rw [hr, x_st_in (by omega) hk]
  rfl
theorem c_G_now4 (l : Launch) (D : va_G) (q : xQ) (A : xAd) (z : xZt) (ob : va_W) (k : Nat) (hob : xOb q A z ob) (hk : k < tN (zS z)) : xMi l yX7_now wsX7_now { frames := 4, cells := 0, slots := 0, locals := 90 } D q [.ref (A.1 0), .int (nI k), .int 4] [xoA q A, ob] (fun r gw => ∃ (ob2 : va_W), gw = [xoA q A, ob2] ∧ r = x_hc (zS z) (tF (zS z)) k ∧ (xOb q A z ob2)) := by
  refine xG z (fun r => r = x_hc (zS z) (tF (zS z)) k) hob (fun R Q V E I sl sv had hsd hR => ?_)
  refine ⟨_, c_F_now l D q A.1 A.2.1 A.2.2.1 A.2.2.2.1 A.2.2.2.2.1 A.2.2.2.2.2 R Q V E I _ _ sl sv _ _ _ _ _ had hsd hR (nI k) 4, fun r gw hp => ?_⟩
  obtain ⟨R2, Q2, V2, E2, I2, rfl, hr, n2, pr2, hR2⟩ := hp
  refine ⟨R2, Q2, V2, E2, I2, rfl, ?_, n2, pr2, hR2⟩
  have hn := hR.1.1.1
  rw [hr, x_st_in (by omega) hk]
  rfl
theorem c_G_now5 (l : Launch) (D : va_G) (q : xQ) (A : xAd) (z : xZt) (ob : va_W) (hob : xOb q A z ob) : xMi l yX7_now wsX7_now { frames := 4, cells := 0, slots := 0, locals := 90 } D q [.ref (A.1 0), .int 0, .int 5] [xoA q A, ob] (fun r gw => ∃ (ob2 : va_W), gw = [xoA q A, ob2] ∧ r = (-2) ∧ (xOb q A z ob2)) := by
  refine xG z (fun r => r = (-2)) hob (fun R Q V E I sl sv had hsd hR => ?_)
  refine ⟨_, c_F_now l D q A.1 A.2.1 A.2.2.1 A.2.2.2.1 A.2.2.2.2.1 A.2.2.2.2.2 R Q V E I _ _ sl sv _ _ _ _ _ had hsd hR 0 5, fun r gw hp => ?_⟩
  obtain ⟨R2, Q2, V2, E2, I2, rfl, hr, n2, pr2, hR2⟩ := hp
  refine ⟨R2, Q2, V2, E2, I2, rfl, ?_, n2, pr2, hR2⟩
  have hn := hR.1.1.1
  have hn1 := hR.1.1.2.1
  rw [hr, show (0 : Int32) = nI 0 from rfl, x_st_in (by omega) (by omega)]
  rfl
theorem c_G_count (l : Launch) (D : va_G) (q : xQ) (A : xAd) (z : xZt) (ob : va_W) (wh : Int32) (hob : xOb q A z ob) : xMi l yX7_count wsX7_count { frames := 5, cells := 0, slots := 0, locals := 112 } D q [.ref (A.1 0), .int wh] [xoA q A, ob] (fun r gw => ∃ (ob2 : va_W), gw = [xoA q A, ob2] ∧ r = x_cnt (zS z) (tN (zS z)) (tR (zS z)) (zL z) (zK z) wh ∧ (xOb q A z ob2)) := by
  refine xG z (fun r => r = x_cnt (zS z) (tN (zS z)) (tR (zS z)) (zL z) (zK z) wh) hob (fun R Q V E I sl sv had hsd hR => ?_)
  refine ⟨_, c_F_count l D q A.1 A.2.1 A.2.2.1 A.2.2.2.1 A.2.2.2.2.1 A.2.2.2.2.2 R Q V E I _ _ sl sv _ _ _ _ _ had hsd hR wh, fun r gw hp => ?_⟩
  obtain ⟨R2, Q2, V2, E2, I2, rfl, hr, n2, pr2, hR2⟩ := hp
  refine ⟨R2, Q2, V2, E2, I2, rfl, ?_, n2, pr2, hR2⟩
  exact hr
theorem c_G_count0 (l : Launch) (D : va_G) (q : xQ) (A : xAd) (z : xZt) (ob : va_W) (hob : xOb q A z ob) : xMi l yX7_count wsX7_count { frames := 5, cells := 0, slots := 0, locals := 112 } D q [.ref (A.1 0), .int 0] [xoA q A, ob] (fun r gw => ∃ (ob2 : va_W), gw = [xoA q A, ob2] ∧ r = nI (tN (zS z)) ∧ (xOb q A z ob2)) := by
  refine xG z (fun r => r = nI (tN (zS z))) hob (fun R Q V E I sl sv had hsd hR => ?_)
  refine ⟨_, c_F_count l D q A.1 A.2.1 A.2.2.1 A.2.2.2.1 A.2.2.2.2.1 A.2.2.2.2.2 R Q V E I _ _ sl sv _ _ _ _ _ had hsd hR 0, fun r gw hp => ?_⟩
  obtain ⟨R2, Q2, V2, E2, I2, rfl, hr, n2, pr2, hR2⟩ := hp
  refine ⟨R2, Q2, V2, E2, I2, rfl, ?_, n2, pr2, hR2⟩
  rw [hr]
  exact hR.1.1.2.2.1
theorem c_G_count1 (l : Launch) (D : va_G) (q : xQ) (A : xAd) (z : xZt) (ob : va_W) (hob : xOb q A z ob) : xMi l yX7_count wsX7_count { frames := 5, cells := 0, slots := 0, locals := 112 } D q [.ref (A.1 0), .int 1] [xoA q A, ob] (fun r gw => ∃ (ob2 : va_W), gw = [xoA q A, ob2] ∧ r = (zS z) 4 ∧ (xOb q A z ob2)) := by
  refine xG z (fun r => r = (zS z) 4) hob (fun R Q V E I sl sv had hsd hR => ?_)
  refine ⟨_, c_F_count l D q A.1 A.2.1 A.2.2.1 A.2.2.2.1 A.2.2.2.2.1 A.2.2.2.2.2 R Q V E I _ _ sl sv _ _ _ _ _ had hsd hR 1, fun r gw hp => ?_⟩
  obtain ⟨R2, Q2, V2, E2, I2, rfl, hr, n2, pr2, hR2⟩ := hp
  refine ⟨R2, Q2, V2, E2, I2, rfl, ?_, n2, pr2, hR2⟩
  rw [hr]
  rfl
theorem c_G_count2 (l : Launch) (D : va_G) (q : xQ) (A : xAd) (z : xZt) (ob : va_W) (hob : xOb q A z ob) : xMi l yX7_count wsX7_count { frames := 5, cells := 0, slots := 0, locals := 112 } D q [.ref (A.1 0), .int 2] [xoA q A, ob] (fun r gw => ∃ (ob2 : va_W), gw = [xoA q A, ob2] ∧ r = (zS z) 6 ∧ (xOb q A z ob2)) := by
  refine xG z (fun r => r = (zS z) 6) hob (fun R Q V E I sl sv had hsd hR => ?_)
  refine ⟨_, c_F_count l D q A.1 A.2.1 A.2.2.1 A.2.2.2.1 A.2.2.2.2.1 A.2.2.2.2.2 R Q V E I _ _ sl sv _ _ _ _ _ had hsd hR 2, fun r gw hp => ?_⟩
  obtain ⟨R2, Q2, V2, E2, I2, rfl, hr, n2, pr2, hR2⟩ := hp
  refine ⟨R2, Q2, V2, E2, I2, rfl, ?_, n2, pr2, hR2⟩
  rw [hr]
  rfl
theorem c_G_count3 (l : Launch) (D : va_G) (q : xQ) (A : xAd) (z : xZt) (ob : va_W) (hob : xOb q A z ob) : xMi l yX7_count wsX7_count { frames := 5, cells := 0, slots := 0, locals := 112 } D q [.ref (A.1 0), .int 3] [xoA q A, ob] (fun r gw => ∃ (ob2 : va_W), gw = [xoA q A, ob2] ∧ r = (zS z) 7 ∧ (xOb q A z ob2)) := by
  refine xG z (fun r => r = (zS z) 7) hob (fun R Q V E I sl sv had hsd hR => ?_)
  refine ⟨_, c_F_count l D q A.1 A.2.1 A.2.2.1 A.2.2.2.1 A.2.2.2.2.1 A.2.2.2.2.2 R Q V E I _ _ sl sv _ _ _ _ _ had hsd hR 3, fun r gw hp => ?_⟩
  obtain ⟨R2, Q2, V2, E2, I2, rfl, hr, n2, pr2, hR2⟩ := hp
  refine ⟨R2, Q2, V2, E2, I2, rfl, ?_, n2, pr2, hR2⟩
  rw [hr]
  rfl
theorem c_G_count4 (l : Launch) (D : va_G) (q : xQ) (A : xAd) (z : xZt) (ob : va_W) (hob : xOb q A z ob) : xMi l yX7_count wsX7_count { frames := 5, cells := 0, slots := 0, locals := 112 } D q [.ref (A.1 0), .int 4] [xoA q A, ob] (fun r gw => ∃ (ob2 : va_W), gw = [xoA q A, ob2] ∧ r = x_sm (x_tP (zS z)) (tN (zS z)) ∧ (xOb q A z ob2)) := by
  refine xG z (fun r => r = x_sm (x_tP (zS z)) (tN (zS z))) hob (fun R Q V E I sl sv had hsd hR => ?_)
  refine ⟨_, c_F_count l D q A.1 A.2.1 A.2.2.1 A.2.2.2.1 A.2.2.2.2.1 A.2.2.2.2.2 R Q V E I _ _ sl sv _ _ _ _ _ had hsd hR 4, fun r gw hp => ?_⟩
  obtain ⟨R2, Q2, V2, E2, I2, rfl, hr, n2, pr2, hR2⟩ := hp
  refine ⟨R2, Q2, V2, E2, I2, rfl, ?_, n2, pr2, hR2⟩
  rw [hr]
  rfl
theorem c_G_count5 (l : Launch) (D : va_G) (q : xQ) (A : xAd) (z : xZt) (ob : va_W) (hob : xOb q A z ob) : xMi l yX7_count wsX7_count { frames := 5, cells := 0, slots := 0, locals := 112 } D q [.ref (A.1 0), .int 5] [xoA q A, ob] (fun r gw => ∃ (ob2 : va_W), gw = [xoA q A, ob2] ∧ r = x_sm (x_hc (zS z) (tF (zS z))) (tN (zS z)) ∧ (xOb q A z ob2)) := by
  refine xG z (fun r => r = x_sm (x_hc (zS z) (tF (zS z))) (tN (zS z))) hob (fun R Q V E I sl sv had hsd hR => ?_)
  refine ⟨_, c_F_count l D q A.1 A.2.1 A.2.2.1 A.2.2.2.1 A.2.2.2.2.1 A.2.2.2.2.2 R Q V E I _ _ sl sv _ _ _ _ _ had hsd hR 5, fun r gw hp => ?_⟩
  obtain ⟨R2, Q2, V2, E2, I2, rfl, hr, n2, pr2, hR2⟩ := hp
  refine ⟨R2, Q2, V2, E2, I2, rfl, ?_, n2, pr2, hR2⟩
  rw [hr]
  rfl
theorem c_G_count6 (l : Launch) (D : va_G) (q : xQ) (A : xAd) (z : xZt) (ob : va_W) (hob : xOb q A z ob) : xMi l yX7_count wsX7_count { frames := 5, cells := 0, slots := 0, locals := 112 } D q [.ref (A.1 0), .int 6] [xoA q A, ob] (fun r gw => ∃ (ob2 : va_W), gw = [xoA q A, ob2] ∧ r = x_orf (x_shk (zS z) (tF (zS z))) (tN (zS z)) ∧ (xOb q A z ob2)) := by
  refine xG z (fun r => r = x_orf (x_shk (zS z) (tF (zS z))) (tN (zS z))) hob (fun R Q V E I sl sv had hsd hR => ?_)
  refine ⟨_, c_F_count l D q A.1 A.2.1 A.2.2.1 A.2.2.2.1 A.2.2.2.2.1 A.2.2.2.2.2 R Q V E I _ _ sl sv _ _ _ _ _ had hsd hR 6, fun r gw hp => ?_⟩
  obtain ⟨R2, Q2, V2, E2, I2, rfl, hr, n2, pr2, hR2⟩ := hp
  refine ⟨R2, Q2, V2, E2, I2, rfl, ?_, n2, pr2, hR2⟩
  rw [hr]
  rfl
theorem c_G_count7 (l : Launch) (D : va_G) (q : xQ) (A : xAd) (z : xZt) (ob : va_W) (hob : xOb q A z ob) : xMi l yX7_count wsX7_count { frames := 5, cells := 0, slots := 0, locals := 112 } D q [.ref (A.1 0), .int 7] [xoA q A, ob] (fun r gw => ∃ (ob2 : va_W), gw = [xoA q A, ob2] ∧ r = nI (x_lst (tF (zS z)) (tN (zS z))) ∧ (xOb q A z ob2)) := by
  refine xG z (fun r => r = nI (x_lst (tF (zS z)) (tN (zS z)))) hob (fun R Q V E I sl sv had hsd hR => ?_)
  refine ⟨_, c_F_count l D q A.1 A.2.1 A.2.2.1 A.2.2.2.1 A.2.2.2.2.1 A.2.2.2.2.2 R Q V E I _ _ sl sv _ _ _ _ _ had hsd hR 7, fun r gw hp => ?_⟩
  obtain ⟨R2, Q2, V2, E2, I2, rfl, hr, n2, pr2, hR2⟩ := hp
  refine ⟨R2, Q2, V2, E2, I2, rfl, ?_, n2, pr2, hR2⟩
  rw [hr]
  rfl
theorem c_G_count8 (l : Launch) (D : va_G) (q : xQ) (A : xAd) (z : xZt) (ob : va_W) (hob : xOb q A z ob) : xMi l yX7_count wsX7_count { frames := 5, cells := 0, slots := 0, locals := 112 } D q [.ref (A.1 0), .int 8] [xoA q A, ob] (fun r gw => ∃ (ob2 : va_W), gw = [xoA q A, ob2] ∧ r = (zS z) 0 ∧ (xOb q A z ob2)) := by
  refine xG z (fun r => r = (zS z) 0) hob (fun R Q V E I sl sv had hsd hR => ?_)
  refine ⟨_, c_F_count l D q A.1 A.2.1 A.2.2.1 A.2.2.2.1 A.2.2.2.2.1 A.2.2.2.2.2 R Q V E I _ _ sl sv _ _ _ _ _ had hsd hR 8, fun r gw hp => ?_⟩
  obtain ⟨R2, Q2, V2, E2, I2, rfl, hr, n2, pr2, hR2⟩ := hp
  refine ⟨R2, Q2, V2, E2, I2, rfl, ?_, n2, pr2, hR2⟩
  rw [hr]
  rfl
theorem c_G_count9 (l : Launch) (D : va_G) (q : xQ) (A : xAd) (z : xZt) (ob : va_W) (hob : xOb q A z ob) : xMi l yX7_count wsX7_count { frames := 5, cells := 0, slots := 0, locals := 112 } D q [.ref (A.1 0), .int 9] [xoA q A, ob] (fun r gw => ∃ (ob2 : va_W), gw = [xoA q A, ob2] ∧ r = (zS z) 1 ∧ (xOb q A z ob2)) := by
  refine xG z (fun r => r = (zS z) 1) hob (fun R Q V E I sl sv had hsd hR => ?_)
  refine ⟨_, c_F_count l D q A.1 A.2.1 A.2.2.1 A.2.2.2.1 A.2.2.2.2.1 A.2.2.2.2.2 R Q V E I _ _ sl sv _ _ _ _ _ had hsd hR 9, fun r gw hp => ?_⟩
  obtain ⟨R2, Q2, V2, E2, I2, rfl, hr, n2, pr2, hR2⟩ := hp
  refine ⟨R2, Q2, V2, E2, I2, rfl, ?_, n2, pr2, hR2⟩
  rw [hr]
  rfl
theorem c_G_count10 (l : Launch) (D : va_G) (q : xQ) (A : xAd) (z : xZt) (ob : va_W) (hob : xOb q A z ob) : xMi l yX7_count wsX7_count { frames := 5, cells := 0, slots := 0, locals := 112 } D q [.ref (A.1 0), .int 10] [xoA q A, ob] (fun r gw => ∃ (ob2 : va_W), gw = [xoA q A, ob2] ∧ r = (zS z) 2 ∧ (xOb q A z ob2)) := by
  refine xG z (fun r => r = (zS z) 2) hob (fun R Q V E I sl sv had hsd hR => ?_)
  refine ⟨_, c_F_count l D q A.1 A.2.1 A.2.2.1 A.2.2.2.1 A.2.2.2.2.1 A.2.2.2.2.2 R Q V E I _ _ sl sv _ _ _ _ _ had hsd hR 10, fun r gw hp => ?_⟩
  obtain ⟨R2, Q2, V2, E2, I2, rfl, hr, n2, pr2, hR2⟩ := hp
  refine ⟨R2, Q2, V2, E2, I2, rfl, ?_, n2, pr2, hR2⟩
  rw [hr]
  rfl
theorem c_G_count11 (l : Launch) (D : va_G) (q : xQ) (A : xAd) (z : xZt) (ob : va_W) (hob : xOb q A z ob) : xMi l yX7_count wsX7_count { frames := 5, cells := 0, slots := 0, locals := 112 } D q [.ref (A.1 0), .int 11] [xoA q A, ob] (fun r gw => ∃ (ob2 : va_W), gw = [xoA q A, ob2] ∧ r = (zS z) 3 ∧ (xOb q A z ob2)) := by
  refine xG z (fun r => r = (zS z) 3) hob (fun R Q V E I sl sv had hsd hR => ?_)
  refine ⟨_, c_F_count l D q A.1 A.2.1 A.2.2.1 A.2.2.2.1 A.2.2.2.2.1 A.2.2.2.2.2 R Q V E I _ _ sl sv _ _ _ _ _ had hsd hR 11, fun r gw hp => ?_⟩
  obtain ⟨R2, Q2, V2, E2, I2, rfl, hr, n2, pr2, hR2⟩ := hp
  refine ⟨R2, Q2, V2, E2, I2, rfl, ?_, n2, pr2, hR2⟩
  rw [hr]
  rfl
theorem c_G_count12 (l : Launch) (D : va_G) (q : xQ) (A : xAd) (z : xZt) (ob : va_W) (hob : xOb q A z ob) : xMi l yX7_count wsX7_count { frames := 5, cells := 0, slots := 0, locals := 112 } D q [.ref (A.1 0), .int 12] [xoA q A, ob] (fun r gw => ∃ (ob2 : va_W), gw = [xoA q A, ob2] ∧ r = nI (zL z) ∧ (xOb q A z ob2)) := by
  refine xG z (fun r => r = nI (zL z)) hob (fun R Q V E I sl sv had hsd hR => ?_)
  refine ⟨_, c_F_count l D q A.1 A.2.1 A.2.2.1 A.2.2.2.1 A.2.2.2.2.1 A.2.2.2.2.2 R Q V E I _ _ sl sv _ _ _ _ _ had hsd hR 12, fun r gw hp => ?_⟩
  obtain ⟨R2, Q2, V2, E2, I2, rfl, hr, n2, pr2, hR2⟩ := hp
  refine ⟨R2, Q2, V2, E2, I2, rfl, ?_, n2, pr2, hR2⟩
  rw [hr]
  rfl
theorem c_G_count13 (l : Launch) (D : va_G) (q : xQ) (A : xAd) (z : xZt) (ob : va_W) (hob : xOb q A z ob) : xMi l yX7_count wsX7_count { frames := 5, cells := 0, slots := 0, locals := 112 } D q [.ref (A.1 0), .int 13] [xoA q A, ob] (fun r gw => ∃ (ob2 : va_W), gw = [xoA q A, ob2] ∧ r = nI (zK z) ∧ (xOb q A z ob2)) := by
  refine xG z (fun r => r = nI (zK z)) hob (fun R Q V E I sl sv had hsd hR => ?_)
  refine ⟨_, c_F_count l D q A.1 A.2.1 A.2.2.1 A.2.2.2.1 A.2.2.2.2.1 A.2.2.2.2.2 R Q V E I _ _ sl sv _ _ _ _ _ had hsd hR 13, fun r gw hp => ?_⟩
  obtain ⟨R2, Q2, V2, E2, I2, rfl, hr, n2, pr2, hR2⟩ := hp
  refine ⟨R2, Q2, V2, E2, I2, rfl, ?_, n2, pr2, hR2⟩
  rw [hr]
  rfl
theorem c_G_count14 (l : Launch) (D : va_G) (q : xQ) (A : xAd) (z : xZt) (ob : va_W) (hob : xOb q A z ob) : xMi l yX7_count wsX7_count { frames := 5, cells := 0, slots := 0, locals := 112 } D q [.ref (A.1 0), .int 14] [xoA q A, ob] (fun r gw => ∃ (ob2 : va_W), gw = [xoA q A, ob2] ∧ r = (-2) ∧ (xOb q A z ob2)) := by
  refine xG z (fun r => r = (-2)) hob (fun R Q V E I sl sv had hsd hR => ?_)
  refine ⟨_, c_F_count l D q A.1 A.2.1 A.2.2.1 A.2.2.2.1 A.2.2.2.2.1 A.2.2.2.2.2 R Q V E I _ _ sl sv _ _ _ _ _ had hsd hR 14, fun r gw hp => ?_⟩
  obtain ⟨R2, Q2, V2, E2, I2, rfl, hr, n2, pr2, hR2⟩ := hp
  refine ⟨R2, Q2, V2, E2, I2, rfl, ?_, n2, pr2, hR2⟩
  rw [hr]
  rfl
theorem c_G_ifWind (l : Launch) (D : va_G) (q : xQ) (A : xAd) (z : xZt) (ob : va_W) (f : Int32) (hob : xOb q A z ob) (hf : 0 ≤ f ∧ f ≤ 200) : xMi l yX7_ifWind wsX7_ifWind { frames := 4, cells := 0, slots := 0, locals := 90 } D q [.ref (A.1 0), .int f] [xoA q A, ob] (fun r gw => ∃ (ob2 : va_W), gw = [xoA q A, ob2] ∧ r = x_hb (zS z) (tR (zS z)) (tN (zS z)) f ∧ (xOb q A z ob2)) := by
  refine xG z (fun r => r = x_hb (zS z) (tR (zS z)) (tN (zS z)) f) hob (fun R Q V E I sl sv had hsd hR => ?_)
  refine ⟨_, c_F_ifWind l D q A.1 A.2.1 A.2.2.1 A.2.2.2.1 A.2.2.2.2.1 A.2.2.2.2.2 R Q V E I _ _ sl sv _ _ _ _ _ had hsd hR f, fun r gw hp => ?_⟩
  obtain ⟨R2, Q2, V2, E2, I2, rfl, hr, n2, pr2, hR2⟩ := hp
  refine ⟨R2, Q2, V2, E2, I2, rfl, ?_, n2, pr2, hR2⟩
  rw [hr]
  exact if_pos hf
theorem c_G_ifWindN (l : Launch) (D : va_G) (q : xQ) (A : xAd) (z : xZt) (ob : va_W) (hob : xOb q A z ob) : xMi l yX7_ifWind wsX7_ifWind { frames := 4, cells := 0, slots := 0, locals := 90 } D q [.ref (A.1 0), .int (-1)] [xoA q A, ob] (fun r gw => ∃ (ob2 : va_W), gw = [xoA q A, ob2] ∧ r = (-2) ∧ (xOb q A z ob2)) := by
  refine xG z (fun r => r = (-2)) hob (fun R Q V E I sl sv had hsd hR => ?_)
  refine ⟨_, c_F_ifWind l D q A.1 A.2.1 A.2.2.1 A.2.2.2.1 A.2.2.2.2.1 A.2.2.2.2.2 R Q V E I _ _ sl sv _ _ _ _ _ had hsd hR (-1), fun r gw hp => ?_⟩
  obtain ⟨R2, Q2, V2, E2, I2, rfl, hr, n2, pr2, hR2⟩ := hp
  refine ⟨R2, Q2, V2, E2, I2, rfl, ?_, n2, pr2, hR2⟩
  rw [hr]
  exact if_neg (by decide)
theorem c_G_windFor (l : Launch) (D : va_G) (q : xQ) (A : xAd) (z : xZt) (ob : va_W) (h : Int32) (hob : xOb q A z ob) (hf : 1 ≤ h ∧ h ≤ 999) : xMi l yX7_windFor wsX7_windFor { frames := 3, cells := 0, slots := 0, locals := 69 } D q [.ref (A.1 0), .int h] [xoA q A, ob] (fun r gw => ∃ (ob2 : va_W), gw = [xoA q A, ob2] ∧ r = x_fnd (x_hb (zS z) (tR (zS z)) (tN (zS z))) h 0 201 ∧ (xOb q A z ob2)) := by
  refine xG z (fun r => r = x_fnd (x_hb (zS z) (tR (zS z)) (tN (zS z))) h 0 201) hob (fun R Q V E I sl sv had hsd hR => ?_)
  refine ⟨_, c_F_windFor l D q A.1 A.2.1 A.2.2.1 A.2.2.2.1 A.2.2.2.2.1 A.2.2.2.2.2 R Q V E I _ _ sl sv _ _ _ _ _ had hsd hR h, fun r gw hp => ?_⟩
  obtain ⟨R2, Q2, V2, E2, I2, rfl, hr, n2, pr2, hR2⟩ := hp
  refine ⟨R2, Q2, V2, E2, I2, rfl, ?_, n2, pr2, hR2⟩
  rw [hr]
  exact if_pos hf
theorem c_G_windForN (l : Launch) (D : va_G) (q : xQ) (A : xAd) (z : xZt) (ob : va_W) (hob : xOb q A z ob) : xMi l yX7_windFor wsX7_windFor { frames := 3, cells := 0, slots := 0, locals := 69 } D q [.ref (A.1 0), .int 0] [xoA q A, ob] (fun r gw => ∃ (ob2 : va_W), gw = [xoA q A, ob2] ∧ r = (-2) ∧ (xOb q A z ob2)) := by
  refine xG z (fun r => r = (-2)) hob (fun R Q V E I sl sv had hsd hR => ?_)
  refine ⟨_, c_F_windFor l D q A.1 A.2.1 A.2.2.1 A.2.2.2.1 A.2.2.2.2.1 A.2.2.2.2.2 R Q V E I _ _ sl sv _ _ _ _ _ had hsd hR 0, fun r gw hp => ?_⟩
  obtain ⟨R2, Q2, V2, E2, I2, rfl, hr, n2, pr2, hR2⟩ := hp
  refine ⟨R2, Q2, V2, E2, I2, rfl, ?_, n2, pr2, hR2⟩
  rw [hr]
  exact if_neg (by decide)
theorem c_G_windOfFlag (l : Launch) (D : va_G) (q : xQ) (A : xAd) (z : xZt) (ob : va_W) (k : Nat) (h : Int32) (hob : xOb q A z ob) (hk : k < tN (zS z)) (hf : 1 ≤ h ∧ h ≤ 12) : xMi l yX7_windOfFlag wsX7_windOfFlag { frames := 3, cells := 0, slots := 0, locals := 69 } D q [.ref (A.1 0), .int (nI k), .int h] [xoA q A, ob] (fun r gw => ∃ (ob2 : va_W), gw = [xoA q A, ob2] ∧ r = (if x_tC (zS z) k = 0 then -5 else x_fnd (fun f => x_fst (zS z) (x_FT (zS z) (tR (zS z)) (tN (zS z)) (-6) f) k) h 0 201) ∧ (xOb q A z ob2)) := by
  refine xG z (fun r => r = (if x_tC (zS z) k = 0 then -5 else x_fnd (fun f => x_fst (zS z) (x_FT (zS z) (tR (zS z)) (tN (zS z)) (-6) f) k) h 0 201)) hob (fun R Q V E I sl sv had hsd hR => ?_)
  refine ⟨_, c_F_windOfFlag l D q A.1 A.2.1 A.2.2.1 A.2.2.2.1 A.2.2.2.2.1 A.2.2.2.2.2 R Q V E I _ _ sl sv _ _ _ _ _ had hsd hR (nI k) h, fun r gw hp => ?_⟩
  obtain ⟨R2, Q2, V2, E2, I2, rfl, hr, n2, pr2, hR2⟩ := hp
  refine ⟨R2, Q2, V2, E2, I2, rfl, ?_, n2, pr2, hR2⟩
  have hn := hR.1.1.1
  rw [hr, x_st_in (by omega) hk]
  exact if_pos hf
theorem c_G_without (l : Launch) (D : va_G) (q : xQ) (A : xAd) (z : xZt) (ob : va_W) (k : Nat) (o : Nat) (hob : xOb q A z ob) (hk : k < tN (zS z)) (ho : o < tN (zS z)) : xMi l yX7_without wsX7_without { frames := 4, cells := 0, slots := 0, locals := 90 } D q [.ref (A.1 0), .int (nI k), .int (nI o)] [xoA q A, ob] (fun r gw => ∃ (ob2 : va_W), gw = [xoA q A, ob2] ∧ r = x_wok (zS z) (tR (zS z)) (tN (zS z)) k o ∧ (xOb q A z ob2)) := by
  refine xG z (fun r => r = x_wok (zS z) (tR (zS z)) (tN (zS z)) k o) hob (fun R Q V E I sl sv had hsd hR => ?_)
  refine ⟨_, c_F_without l D q A.1 A.2.1 A.2.2.1 A.2.2.2.1 A.2.2.2.2.1 A.2.2.2.2.2 R Q V E I _ _ sl sv _ _ _ _ _ had hsd hR (nI k) (nI o), fun r gw hp => ?_⟩
  obtain ⟨R2, Q2, V2, E2, I2, rfl, hr, n2, pr2, hR2⟩ := hp
  refine ⟨R2, Q2, V2, E2, I2, rfl, ?_, n2, pr2, hR2⟩
  have hn := hR.1.1.1
  rw [hr]
  unfold x_wo2
  rw [x_st_in (by omega) hk, x_st_in (by omega) ho]
theorem c_G_windiest (l : Launch) (D : va_G) (q : xQ) (A : xAd) (z : xZt) (ob : va_W) (hob : xOb q A z ob) : xMi l yX7_windiest wsX7_windiest { frames := 4, cells := 0, slots := 0, locals := 90 } D q [.ref (A.1 0)] [xoA q A, ob] (fun r gw => ∃ (ob2 : va_W), gw = [xoA q A, ob2] ∧ r = x_wd (x_bs (zS z) (tN (zS z))) (tF (zS z)) (tN (zS z)) ∧ (xOb q A z ob2)) := by
  refine xG z (fun r => r = x_wd (x_bs (zS z) (tN (zS z))) (tF (zS z)) (tN (zS z))) hob (fun R Q V E I sl sv had hsd hR => ?_)
  refine ⟨_, c_F_windiest l D q A.1 A.2.1 A.2.2.1 A.2.2.2.1 A.2.2.2.2.1 A.2.2.2.2.2 R Q V E I _ _ sl sv _ _ _ _ _ had hsd hR , fun r gw hp => ?_⟩
  obtain ⟨R2, Q2, V2, E2, I2, rfl, hr, n2, pr2, hR2⟩ := hp
  refine ⟨R2, Q2, V2, E2, I2, rfl, ?_, n2, pr2, hR2⟩
  exact hr
theorem c_G_record0 (l : Launch) (D : va_G) (q : xQ) (A : xAd) (z : xZt) (ob : va_W) (k : Nat) (m : Nat) (hob : xOb q A z ob) (hm : zS z 8 = nI m) (hm8 : m ≤ 8) (hk : k < m) : xMi l yX7_record wsX7_record { frames := 2, cells := 0, slots := 0, locals := 41 } D q [.ref (A.1 0), .int (nI k), .int 0] [xoA q A, ob] (fun r gw => ∃ (ob2 : va_W), gw = [xoA q A, ob2] ∧ r = (zS z) (9 + 3 * k + 0) ∧ (xOb q A z ob2)) := by
  refine xG z (fun r => r = (zS z) (9 + 3 * k + 0)) hob (fun R Q V E I sl sv had hsd hR => ?_)
  refine ⟨_, c_F_record l D q A.1 A.2.1 A.2.2.1 A.2.2.2.1 A.2.2.2.2.1 A.2.2.2.2.2 R Q V E I _ _ sl sv _ _ _ _ _ had hsd hR (nI k) 0 m hm (by omega), fun r gw hp => ?_⟩
  obtain ⟨R2, Q2, V2, E2, I2, rfl, hr, n2, pr2, hR2⟩ := hp
  refine ⟨R2, Q2, V2, E2, I2, rfl, ?_, n2, pr2, hR2⟩
  rw [hr, x_st_in (by omega) hk]
  rfl
theorem c_G_record1 (l : Launch) (D : va_G) (q : xQ) (A : xAd) (z : xZt) (ob : va_W) (k : Nat) (m : Nat) (hob : xOb q A z ob) (hm : zS z 8 = nI m) (hm8 : m ≤ 8) (hk : k < m) : xMi l yX7_record wsX7_record { frames := 2, cells := 0, slots := 0, locals := 41 } D q [.ref (A.1 0), .int (nI k), .int 1] [xoA q A, ob] (fun r gw => ∃ (ob2 : va_W), gw = [xoA q A, ob2] ∧ r = (zS z) (9 + 3 * k + 1) ∧ (xOb q A z ob2)) := by
  refine xG z (fun r => r = (zS z) (9 + 3 * k + 1)) hob (fun R Q V E I sl sv had hsd hR => ?_)
  refine ⟨_, c_F_record l D q A.1 A.2.1 A.2.2.1 A.2.2.2.1 A.2.2.2.2.1 A.2.2.2.2.2 R Q V E I _ _ sl sv _ _ _ _ _ had hsd hR (nI k) 1 m hm (by omega), fun r gw hp => ?_⟩
  obtain ⟨R2, Q2, V2, E2, I2, rfl, hr, n2, pr2, hR2⟩ := hp
  refine ⟨R2, Q2, V2, E2, I2, rfl, ?_, n2, pr2, hR2⟩
  rw [hr, x_st_in (by omega) hk]
  rfl
theorem c_G_record2 (l : Launch) (D : va_G) (q : xQ) (A : xAd) (z : xZt) (ob : va_W) (k : Nat) (m : Nat) (hob : xOb q A z ob) (hm : zS z 8 = nI m) (hm8 : m ≤ 8) (hk : k < m) : xMi l yX7_record wsX7_record { frames := 2, cells := 0, slots := 0, locals := 41 } D q [.ref (A.1 0), .int (nI k), .int 2] [xoA q A, ob] (fun r gw => ∃ (ob2 : va_W), gw = [xoA q A, ob2] ∧ r = (zS z) (9 + 3 * k + 2) ∧ (xOb q A z ob2)) := by
  refine xG z (fun r => r = (zS z) (9 + 3 * k + 2)) hob (fun R Q V E I sl sv had hsd hR => ?_)
  refine ⟨_, c_F_record l D q A.1 A.2.1 A.2.2.1 A.2.2.2.1 A.2.2.2.2.1 A.2.2.2.2.2 R Q V E I _ _ sl sv _ _ _ _ _ had hsd hR (nI k) 2 m hm (by omega), fun r gw hp => ?_⟩
  obtain ⟨R2, Q2, V2, E2, I2, rfl, hr, n2, pr2, hR2⟩ := hp
  refine ⟨R2, Q2, V2, E2, I2, rfl, ?_, n2, pr2, hR2⟩
  rw [hr, x_st_in (by omega) hk]
  rfl
theorem c_G_recordN (l : Launch) (D : va_G) (q : xQ) (A : xAd) (z : xZt) (ob : va_W) (k : Nat) (m : Nat) (hob : xOb q A z ob) (hm : zS z 8 = nI m) (hm8 : m ≤ 8) (hk : m ≤ k) (hk2 : k < 1000) : xMi l yX7_record wsX7_record { frames := 2, cells := 0, slots := 0, locals := 41 } D q [.ref (A.1 0), .int (nI k), .int 0] [xoA q A, ob] (fun r gw => ∃ (ob2 : va_W), gw = [xoA q A, ob2] ∧ r = (-1) ∧ (xOb q A z ob2)) := by
  refine xG z (fun r => r = (-1)) hob (fun R Q V E I sl sv had hsd hR => ?_)
  refine ⟨_, c_F_record l D q A.1 A.2.1 A.2.2.1 A.2.2.2.1 A.2.2.2.2.1 A.2.2.2.2.2 R Q V E I _ _ sl sv _ _ _ _ _ had hsd hR (nI k) 0 m hm (by omega), fun r gw hp => ?_⟩
  obtain ⟨R2, Q2, V2, E2, I2, rfl, hr, n2, pr2, hR2⟩ := hp
  refine ⟨R2, Q2, V2, E2, I2, rfl, ?_, n2, pr2, hR2⟩
  rw [hr]
  exact x_st_out (by omega) (fun ⟨j, hj, ej⟩ => by have := (nI_eq (by omega) (by omega)).mp ej; omega) _
theorem c_G_sign (l : Launch) (D : va_G) (q : xQ) (A : xAd) (z : xZt) (ob : va_W) (k : Nat) (hob : xOb q A z ob) (hk : k < zL z) : xMi l yX7_sign wsX7_sign { frames := 1, cells := 0, slots := 0, locals := 21 } D q [.ref (A.1 0), .int (nI k)] [xoA q A, ob] (fun r gw => ∃ (ob2 : va_W), gw = [xoA q A, ob2] ∧ r = (zD z) k ∧ (xOb q A z ob2)) := by
  refine xG z (fun r => r = (zD z) k) hob (fun R Q V E I sl sv had hsd hR => ?_)
  refine ⟨_, c_F_sign l D q A.1 A.2.1 A.2.2.1 A.2.2.2.1 A.2.2.2.2.1 A.2.2.2.2.2 R Q V E I _ _ sl sv _ _ _ _ _ had hsd hR (nI k), fun r gw hp => ?_⟩
  obtain ⟨R2, Q2, V2, E2, I2, rfl, hr, n2, pr2, hR2⟩ := hp
  refine ⟨R2, Q2, V2, E2, I2, rfl, ?_, n2, pr2, hR2⟩
  have := hR.ln80
  rw [hr]
  exact x_st_in (by omega) hk _
theorem c_G_signN (l : Launch) (D : va_G) (q : xQ) (A : xAd) (z : xZt) (ob : va_W) (k : Nat) (hob : xOb q A z ob) (hk : k = zL z) : xMi l yX7_sign wsX7_sign { frames := 1, cells := 0, slots := 0, locals := 21 } D q [.ref (A.1 0), .int (nI k)] [xoA q A, ob] (fun r gw => ∃ (ob2 : va_W), gw = [xoA q A, ob2] ∧ r = (-1) ∧ (xOb q A z ob2)) := by
  refine xG z (fun r => r = (-1)) hob (fun R Q V E I sl sv had hsd hR => ?_)
  refine ⟨_, c_F_sign l D q A.1 A.2.1 A.2.2.1 A.2.2.2.1 A.2.2.2.2.1 A.2.2.2.2.2 R Q V E I _ _ sl sv _ _ _ _ _ had hsd hR (nI k), fun r gw hp => ?_⟩
  obtain ⟨R2, Q2, V2, E2, I2, rfl, hr, n2, pr2, hR2⟩ := hp
  refine ⟨R2, Q2, V2, E2, I2, rfl, ?_, n2, pr2, hR2⟩
  have := hR.ln80
  rw [hr]
  exact x_st_out (by omega) (fun ⟨j, hj, ej⟩ => by have := (nI_eq (by omega) (by omega)).mp ej; omega) _
theorem c_G_wipe (l : Launch) (D : va_G) (q : xQ) (A : xAd) (z : xZt) (ob : va_W) (hob : xOb q A z ob) : xMi l yX7_wipe wsX7_wipe { frames := 1, cells := 0, slots := 0, locals := 20 } D q [.ref (A.1 0)] [xoA q A, ob] (fun r gw => ∃ (ob2 : va_W), gw = [xoA q A, ob2] ∧ r = nI (zL z) ∧ (xOb q A (zWp z) ob2)) := by
  refine xG (zWp z) (fun r => r = nI (zL z)) hob (fun R Q V E I sl sv had hsd hR => ?_)
  refine ⟨_, c_F_wipe l D q A.1 A.2.1 A.2.2.1 A.2.2.2.1 A.2.2.2.2.1 A.2.2.2.2.2 R Q V E I _ _ sl sv _ _ _ _ _ had hsd hR , fun r gw hp => ?_⟩
  obtain ⟨R2, Q2, V2, E2, I2, rfl, hr, n2, pr2, hR2⟩ := hp
  refine ⟨R2, Q2, V2, E2, I2, rfl, ?_, n2, pr2, hR2⟩
  exact hr
theorem c_G_wind (l : Launch) (D : va_G) (q : xQ) (A : xAd) (z : xZt) (ob : va_W) (f : Int32) (hob : xOb q A z ob) (hf : 0 ≤ f ∧ f ≤ 200) : xMi l yX7_wind wsX7_wind { frames := 5, cells := 0, slots := 0, locals := 124 } D q [.ref (A.1 0), .int f] [xoA q A, ob] (fun r gw => ∃ (ob2 : va_W), gw = [xoA q A, ob2] ∧ r = (zS z) 4 ∧ (xOb q A (zW z f) ob2)) := by
  refine xG (zW z f) (fun r => r = (zS z) 4) hob (fun R Q V E I sl sv had hsd hR => ?_)
  refine ⟨_, c_F_wind l D q A.1 A.2.1 A.2.2.1 A.2.2.2.1 A.2.2.2.2.1 A.2.2.2.2.2 R Q V E I _ _ sl sv _ _ _ _ _ had hsd hR f, fun r gw hp => ?_⟩
  obtain ⟨R2, Q2, V2, E2, I2, rfl, h⟩ := hp
  obtain ⟨hr, n2, pr2, hR2⟩ := h _ _ _ _ (Or.inl ⟨hf, rfl, rfl, zpf_ok _ _ _⟩)
  refine ⟨R2, Q2, V2, E2, I2, rfl, ?_, n2, pr2, hR2⟩
  exact hr
theorem c_G_windN (l : Launch) (D : va_G) (q : xQ) (A : xAd) (z : xZt) (ob : va_W) (hob : xOb q A z ob) : xMi l yX7_wind wsX7_wind { frames := 5, cells := 0, slots := 0, locals := 124 } D q [.ref (A.1 0), .int 201] [xoA q A, ob] (fun r gw => ∃ (ob2 : va_W), gw = [xoA q A, ob2] ∧ r = (-2) ∧ (xOb q A z ob2)) := by
  refine xG z (fun r => r = (-2)) hob (fun R Q V E I sl sv had hsd hR => ?_)
  refine ⟨_, c_F_wind l D q A.1 A.2.1 A.2.2.1 A.2.2.2.1 A.2.2.2.2.1 A.2.2.2.2.2 R Q V E I _ _ sl sv _ _ _ _ _ had hsd hR 201, fun r gw hp => ?_⟩
  obtain ⟨R2, Q2, V2, E2, I2, rfl, h⟩ := hp
  obtain ⟨hr, n2, pr2, hR2⟩ := h _ _ _ _ (Or.inr ⟨(by decide), rfl, rfl, rfl, rfl⟩)
  refine ⟨R2, Q2, V2, E2, I2, rfl, ?_, n2, pr2, hR2⟩
  exact hr
theorem c_G_set (l : Launch) (D : va_G) (q : xQ) (A : xAd) (z : xZt) (ob : va_W) (a : Nat) (v : Int32) (hob : xOb q A z ob) (ha : a < 4) (hc : x_cs (nI a) v) : xMi l yX7_set wsX7_set { frames := 5, cells := 0, slots := 0, locals := 124 } D q [.ref (A.1 0), .int (nI a), .int v] [xoA q A, ob] (fun r gw => ∃ (ob2 : va_W), gw = [xoA q A, ob2] ∧ r = (zS z) a ∧ (xOb q A (zCh z (upd (zS z) a v)) ob2)) := by
  have ea : (nI a).toNatClampNeg = a := nI_clamp (by omega)
  refine xG (zCh z (upd (zS z) a v)) (fun r => r = (zS z) a) hob (fun R Q V E I sl sv had hsd hR => ?_)
  refine ⟨_, c_F_set l D q A.1 A.2.1 A.2.2.1 A.2.2.2.1 A.2.2.2.2.1 A.2.2.2.2.2 R Q V E I _ _ sl sv _ _ _ _ _ had hsd hR (nI a) v, fun r gw hp => ?_⟩
  obtain ⟨R2, Q2, V2, E2, I2, rfl, h⟩ := hp
  obtain ⟨hr, n2, pr2, hR2⟩ := h _ (upd (zS z) a v) _ _ (Or.inl ⟨hc, rfl, congrArg (fun j => upd (zS z) j v) ea.symm, zpf_ok _ _ _⟩)
  refine ⟨R2, Q2, V2, E2, I2, rfl, ?_, n2, pr2, hR2⟩
  rw [hr, ea]
theorem c_G_setN (l : Launch) (D : va_G) (q : xQ) (A : xAd) (z : xZt) (ob : va_W) (hob : xOb q A z ob) : xMi l yX7_set wsX7_set { frames := 5, cells := 0, slots := 0, locals := 124 } D q [.ref (A.1 0), .int 4, .int 1] [xoA q A, ob] (fun r gw => ∃ (ob2 : va_W), gw = [xoA q A, ob2] ∧ r = (-2) ∧ (xOb q A z ob2)) := by
  refine xG z (fun r => r = (-2)) hob (fun R Q V E I sl sv had hsd hR => ?_)
  refine ⟨_, c_F_set l D q A.1 A.2.1 A.2.2.1 A.2.2.2.1 A.2.2.2.2.1 A.2.2.2.2.2 R Q V E I _ _ sl sv _ _ _ _ _ had hsd hR 4 1, fun r gw hp => ?_⟩
  obtain ⟨R2, Q2, V2, E2, I2, rfl, h⟩ := hp
  obtain ⟨hr, n2, pr2, hR2⟩ := h _ _ _ _ (Or.inr ⟨(by unfold x_cs; decide), rfl, rfl, rfl, rfl⟩)
  refine ⟨R2, Q2, V2, E2, I2, rfl, ?_, n2, pr2, hR2⟩
  exact hr
theorem c_G_change (l : Launch) (D : va_G) (q : xQ) (A : xAd) (z : xZt) (ob : va_W) (k : Nat) (a : Nat) (v : Int32) (hob : xOb q A z ob) (hk : k < tN (zS z)) (ha : a < 4) (hc : x_cc (nI a) v) : xMi l yX7_change wsX7_change { frames := 5, cells := 0, slots := 0, locals := 124 } D q [.ref (A.1 0), .int (nI k), .int (nI a), .int v] [xoA q A, ob] (fun r gw => ∃ (ob2 : va_W), gw = [xoA q A, ob2] ∧ r = (zS z) (33 + 5 * k + x_kp a) ∧ (xOb q A (zCh z (upd (zS z) (33 + 5 * k + x_kp a) v)) ob2)) := by
  have hn := hob.ok.1
  have ek : 33 + 5 * (nI k).toNatClampNeg + x_kp (nI a).toNatClampNeg = 33 + 5 * k + x_kp a := by rw [nI_clamp (show k < 2 ^ 31 by omega), nI_clamp (show a < 2 ^ 31 by omega)]
  refine xG (zCh z (upd (zS z) (33 + 5 * k + x_kp a) v)) (fun r => r = (zS z) (33 + 5 * k + x_kp a)) hob (fun R Q V E I sl sv had hsd hR => ?_)
  refine ⟨_, c_F_change l D q A.1 A.2.1 A.2.2.1 A.2.2.2.1 A.2.2.2.2.1 A.2.2.2.2.2 R Q V E I _ _ sl sv _ _ _ _ _ had hsd hR (nI k) (nI a) v, fun r gw hp => ?_⟩
  obtain ⟨R2, Q2, V2, E2, I2, rfl, h⟩ := hp
  obtain ⟨hr, n2, pr2, hR2⟩ := h _ (upd (zS z) (33 + 5 * k + x_kp a) v) _ _ (Or.inl ⟨⟨⟨k, hk, rfl⟩, hc⟩, rfl, congrArg (fun j => upd (zS z) j v) ek.symm, zpf_ok _ _ _⟩)
  refine ⟨R2, Q2, V2, E2, I2, rfl, ?_, n2, pr2, hR2⟩
  rw [hr, ek]
theorem c_G_changeN (l : Launch) (D : va_G) (q : xQ) (A : xAd) (z : xZt) (ob : va_W) (hob : xOb q A z ob) : xMi l yX7_change wsX7_change { frames := 5, cells := 0, slots := 0, locals := 124 } D q [.ref (A.1 0), .int 0, .int 4, .int 1] [xoA q A, ob] (fun r gw => ∃ (ob2 : va_W), gw = [xoA q A, ob2] ∧ r = (-2) ∧ (xOb q A z ob2)) := by
  refine xG z (fun r => r = (-2)) hob (fun R Q V E I sl sv had hsd hR => ?_)
  refine ⟨_, c_F_change l D q A.1 A.2.1 A.2.2.1 A.2.2.2.1 A.2.2.2.2.1 A.2.2.2.2.2 R Q V E I _ _ sl sv _ _ _ _ _ had hsd hR 0 4 1, fun r gw hp => ?_⟩
  obtain ⟨R2, Q2, V2, E2, I2, rfl, h⟩ := hp
  obtain ⟨hr, n2, pr2, hR2⟩ := h _ _ _ _ (Or.inr ⟨fun q => absurd q.2 (by unfold x_cc; decide), rfl, rfl, rfl, rfl⟩)
  refine ⟨R2, Q2, V2, E2, I2, rfl, ?_, n2, pr2, hR2⟩
  have hn := hR.1.1.1
  have hn1 := hR.1.1.2.1
  rw [hr]
  exact if_pos ((x_ix (by omega)).mpr ⟨0, by omega, rfl⟩)
theorem c_G_streetY (l : Launch) (D : va_G) (q : xQ) (A : xAd) (z : xZt) (ob : va_W) (k : Nat) (w : Nat) (hob : xOb q A z ob) (hk : k < tN (zS z)) (hw : 1 ≤ w ∧ w ≤ 9) (h20 : tN (zS z) < 20) (h4 : x_ct (x_tF (zS z)) (nI k) (tN (zS z)) ≠ 4) : xMi l yX7_street wsX7_street { frames := 5, cells := 0, slots := 0, locals := 124 } D q [.ref (A.1 0), .int (nI k), .int (nI w)] [xoA q A, ob] (fun r gw => ∃ (ob2 : va_W), gw = [xoA q A, ob2] ∧ r = nI (tN (zS z)) ∧ (xOb q A (zAdd z k w) ob2)) := by
  refine xG (zAdd z k w) (fun r => r = nI (tN (zS z))) hob (fun R Q V E I sl sv had hsd hR => ?_)
  refine ⟨_, c_F_street l D q A.1 A.2.1 A.2.2.1 A.2.2.2.1 A.2.2.2.2.1 A.2.2.2.2.2 R Q V E I _ _ sl sv _ _ _ _ _ had hsd hR (nI k) (nI w), fun r gw hp => ?_⟩
  obtain ⟨R2, Q2, V2, E2, I2, rfl, h⟩ := hp
  obtain ⟨hr, n2, pr2, hR2⟩ := h _ _ _ _ (Or.inl ⟨⟨⟨k, hk, rfl⟩, (x_rng (a := 1) (b := 9) (by omega) (by omega)).mpr ⟨w, hw.1, hw.2, rfl⟩, h20, h4⟩, rfl, rfl, zpf_ok _ _ _⟩)
  refine ⟨R2, Q2, V2, E2, I2, rfl, ?_, n2, pr2, hR2⟩
  exact hr
theorem c_G_streetN (l : Launch) (D : va_G) (q : xQ) (A : xAd) (z : xZt) (ob : va_W) (k : Nat) (w : Nat) (hob : xOb q A z ob) (hk : k < tN (zS z)) (hw : 1 ≤ w ∧ w ≤ 9) (hno : ¬ (tN (zS z) < 20 ∧ x_ct (x_tF (zS z)) (nI k) (tN (zS z)) ≠ 4)) : xMi l yX7_street wsX7_street { frames := 5, cells := 0, slots := 0, locals := 124 } D q [.ref (A.1 0), .int (nI k), .int (nI w)] [xoA q A, ob] (fun r gw => ∃ (ob2 : va_W), gw = [xoA q A, ob2] ∧ r = (-4) ∧ (xOb q A z ob2)) := by
  refine xG z (fun r => r = (-4)) hob (fun R Q V E I sl sv had hsd hR => ?_)
  refine ⟨_, c_F_street l D q A.1 A.2.1 A.2.2.1 A.2.2.2.1 A.2.2.2.2.1 A.2.2.2.2.2 R Q V E I _ _ sl sv _ _ _ _ _ had hsd hR (nI k) (nI w), fun r gw hp => ?_⟩
  obtain ⟨R2, Q2, V2, E2, I2, rfl, h⟩ := hp
  obtain ⟨hr, n2, pr2, hR2⟩ := h _ _ _ _ (Or.inr ⟨(fun q => hno ⟨q.2.2.1, q.2.2.2⟩), rfl, rfl, rfl, rfl⟩)
  refine ⟨R2, Q2, V2, E2, I2, rfl, ?_, n2, pr2, hR2⟩
  have hn := hR.1.1.1
  rw [hr]
  exact x_stE_3 (by omega) ⟨k, hk, rfl⟩ ((x_rng (a := 1) (b := 9) (by omega) (by omega)).mpr ⟨w, hw.1, hw.2, rfl⟩)
theorem c_G_street20 (l : Launch) (D : va_G) (q : xQ) (A : xAd) (z : xZt) (ob : va_W) (hob : xOb q A z ob) : xMi l yX7_street wsX7_street { frames := 5, cells := 0, slots := 0, locals := 124 } D q [.ref (A.1 0), .int 20, .int 1] [xoA q A, ob] (fun r gw => ∃ (ob2 : va_W), gw = [xoA q A, ob2] ∧ r = (-1) ∧ (xOb q A z ob2)) := by
  have hn := hob.ok.1
  have hx : ¬ xIx 20 (tN (zS z)) := fun ⟨j, hj, ej⟩ => by have := (nI_eq (a := 20) (by omega) (by omega)).mp ej; omega
  refine xG z (fun r => r = (-1)) hob (fun R Q V E I sl sv had hsd hR => ?_)
  refine ⟨_, c_F_street l D q A.1 A.2.1 A.2.2.1 A.2.2.2.1 A.2.2.2.2.1 A.2.2.2.2.2 R Q V E I _ _ sl sv _ _ _ _ _ had hsd hR 20 1, fun r gw hp => ?_⟩
  obtain ⟨R2, Q2, V2, E2, I2, rfl, h⟩ := hp
  obtain ⟨hr, n2, pr2, hR2⟩ := h _ _ _ _ (Or.inr ⟨fun q => hx q.1, rfl, rfl, rfl, rfl⟩)
  refine ⟨R2, Q2, V2, E2, I2, rfl, ?_, n2, pr2, hR2⟩
  rw [hr]
  exact x_stE_1 (by omega) hx
theorem c_G_street10 (l : Launch) (D : va_G) (q : xQ) (A : xAd) (z : xZt) (ob : va_W) (hob : xOb q A z ob) : xMi l yX7_street wsX7_street { frames := 5, cells := 0, slots := 0, locals := 124 } D q [.ref (A.1 0), .int 0, .int 10] [xoA q A, ob] (fun r gw => ∃ (ob2 : va_W), gw = [xoA q A, ob2] ∧ r = (-2) ∧ (xOb q A z ob2)) := by
  refine xG z (fun r => r = (-2)) hob (fun R Q V E I sl sv had hsd hR => ?_)
  refine ⟨_, c_F_street l D q A.1 A.2.1 A.2.2.1 A.2.2.2.1 A.2.2.2.2.1 A.2.2.2.2.2 R Q V E I _ _ sl sv _ _ _ _ _ had hsd hR 0 10, fun r gw hp => ?_⟩
  obtain ⟨R2, Q2, V2, E2, I2, rfl, h⟩ := hp
  obtain ⟨hr, n2, pr2, hR2⟩ := h _ _ _ _ (Or.inr ⟨(fun q => absurd q.2.1 (by decide)), rfl, rfl, rfl, rfl⟩)
  refine ⟨R2, Q2, V2, E2, I2, rfl, ?_, n2, pr2, hR2⟩
  have hn := hR.1.1.1
  have hn1 := hR.1.1.2.1
  rw [hr]
  exact x_stE_2 (by omega) ⟨0, by omega, rfl⟩ (by decide)
theorem c_G_passY (l : Launch) (D : va_G) (q : xQ) (A : xAd) (z : xZt) (ob : va_W) (h : Nat) (hob : xOb q A z ob) (hh : 1 ≤ h ∧ h ≤ 24) (hc : ¬ (999 : Int32) < zS z 6 + nI h) : xMi l yX7_pass wsX7_pass { frames := 5, cells := 0, slots := 0, locals := 124 } D q [.ref (A.1 0), .int (nI h)] [xoA q A, ob] (fun r gw => ∃ (ob2 : va_W), gw = [xoA q A, ob2] ∧ r = x_rep (x_hb (zS z) (tR (zS z)) (tN (zS z)) (zS z 4)) h ∧ (xOb q A (zPass z h) ob2)) := by
  have eh : (nI h).toNatClampNeg = h := nI_clamp (by omega)
  refine xG (zPass z h) (fun r => r = x_rep (x_hb (zS z) (tR (zS z)) (tN (zS z)) (zS z 4)) h) hob (fun R Q V E I sl sv had hsd hR => ?_)
  refine ⟨_, c_F_pass l D q A.1 A.2.1 A.2.2.1 A.2.2.2.1 A.2.2.2.2.1 A.2.2.2.2.2 R Q V E I _ _ sl sv _ _ _ _ _ had hsd hR (nI h), fun r gw hp => ?_⟩
  obtain ⟨R2, Q2, V2, E2, I2, rfl, hq⟩ := hp
  obtain ⟨hr, n2, pr2, hR2⟩ := hq _ (x_hrs (zS z) (x_hb (zS z) (tR (zS z)) (tN (zS z)) (zS z 4)) (x_wh (zS z) (tR (zS z)) (tN (zS z))) h) _ _ (Or.inl ⟨⟨(x_rng (a := 1) (b := 24) (by omega) (by omega)).mpr ⟨h, hh.1, hh.2, rfl⟩, hc⟩, rfl, by rw [eh], zpf_ok _ _ _⟩)
  refine ⟨R2, Q2, V2, E2, I2, rfl, ?_, n2, pr2, hR2⟩
  rw [hr, eh]
theorem c_G_passN (l : Launch) (D : va_G) (q : xQ) (A : xAd) (z : xZt) (ob : va_W) (h : Nat) (hob : xOb q A z ob) (hh : 1 ≤ h ∧ h ≤ 24) (hc : (999 : Int32) < zS z 6 + nI h) : xMi l yX7_pass wsX7_pass { frames := 5, cells := 0, slots := 0, locals := 124 } D q [.ref (A.1 0), .int (nI h)] [xoA q A, ob] (fun r gw => ∃ (ob2 : va_W), gw = [xoA q A, ob2] ∧ r = (-5) ∧ (xOb q A z ob2)) := by
  refine xG z (fun r => r = (-5)) hob (fun R Q V E I sl sv had hsd hR => ?_)
  refine ⟨_, c_F_pass l D q A.1 A.2.1 A.2.2.1 A.2.2.2.1 A.2.2.2.2.1 A.2.2.2.2.2 R Q V E I _ _ sl sv _ _ _ _ _ had hsd hR (nI h), fun r gw hp => ?_⟩
  obtain ⟨R2, Q2, V2, E2, I2, rfl, hq⟩ := hp
  obtain ⟨hr, n2, pr2, hR2⟩ := hq _ _ _ _ (Or.inr ⟨fun q => q.2 hc, rfl, rfl, rfl, rfl⟩)
  refine ⟨R2, Q2, V2, E2, I2, rfl, ?_, n2, pr2, hR2⟩
  rw [hr]
  exact if_pos ((x_rng (a := 1) (b := 24) (by omega) (by omega)).mpr ⟨h, hh.1, hh.2, rfl⟩)
theorem c_G_pass25 (l : Launch) (D : va_G) (q : xQ) (A : xAd) (z : xZt) (ob : va_W) (hob : xOb q A z ob) : xMi l yX7_pass wsX7_pass { frames := 5, cells := 0, slots := 0, locals := 124 } D q [.ref (A.1 0), .int 25] [xoA q A, ob] (fun r gw => ∃ (ob2 : va_W), gw = [xoA q A, ob2] ∧ r = (-2) ∧ (xOb q A z ob2)) := by
  refine xG z (fun r => r = (-2)) hob (fun R Q V E I sl sv had hsd hR => ?_)
  refine ⟨_, c_F_pass l D q A.1 A.2.1 A.2.2.1 A.2.2.2.1 A.2.2.2.2.1 A.2.2.2.2.2 R Q V E I _ _ sl sv _ _ _ _ _ had hsd hR 25, fun r gw hp => ?_⟩
  obtain ⟨R2, Q2, V2, E2, I2, rfl, hq⟩ := hp
  obtain ⟨hr, n2, pr2, hR2⟩ := hq _ _ _ _ (Or.inr ⟨fun q => absurd q.1 (by decide), rfl, rfl, rfl, rfl⟩)
  refine ⟨R2, Q2, V2, E2, I2, rfl, ?_, n2, pr2, hR2⟩
  rw [hr]
  exact if_neg (by decide)
theorem c_G_writeY (l : Launch) (D : va_G) (q : xQ) (A : xAd) (z : xZt) (ob : va_W) (hob : xOb q A z ob) (h80 : (zTx z).length ≤ 80) : xMi l yX7_write wsX7_write { frames := 25, cells := 0, slots := 0, locals := 1100 } D q [.ref (A.1 0)] [xoA q A, ob] (fun r gw => ∃ (ob2 : va_W), gw = [xoA q A, ob2] ∧ r = nI ((zTx z).length) ∧ (xOb q A (zWr z) ob2)) := by
  refine xG (zWr z) (fun r => r = nI ((zTx z).length)) hob (fun R Q V E I sl sv had hsd hR => ?_)
  refine ⟨_, c_F_write l D q A.1 A.2.1 A.2.2.1 A.2.2.2.1 A.2.2.2.2.1 A.2.2.2.2.2 R Q V E I _ _ sl sv _ _ _ _ _ had hsd hR , fun r gw hp => ?_⟩
  obtain ⟨R2, Q2, V2, E2, I2, rfl, h⟩ := hp
  obtain ⟨hr, n2, pr2, hR2⟩ := h _ _ _ (Or.inl ⟨h80, rfl, rfl, fun j hj => rfl⟩)
  refine ⟨R2, Q2, V2, E2, I2, rfl, ?_, n2, pr2, hR2⟩
  exact hr
theorem c_G_writeN (l : Launch) (D : va_G) (q : xQ) (A : xAd) (z : xZt) (ob : va_W) (hob : xOb q A z ob) (h80 : 80 < (zTx z).length) : xMi l yX7_write wsX7_write { frames := 25, cells := 0, slots := 0, locals := 1100 } D q [.ref (A.1 0)] [xoA q A, ob] (fun r gw => ∃ (ob2 : va_W), gw = [xoA q A, ob2] ∧ r = (-4) ∧ (xOb q A z ob2)) := by
  refine xG z (fun r => r = (-4)) hob (fun R Q V E I sl sv had hsd hR => ?_)
  refine ⟨_, c_F_write l D q A.1 A.2.1 A.2.2.1 A.2.2.2.1 A.2.2.2.2.1 A.2.2.2.2.2 R Q V E I _ _ sl sv _ _ _ _ _ had hsd hR , fun r gw hp => ?_⟩
  obtain ⟨R2, Q2, V2, E2, I2, rfl, h⟩ := hp
  obtain ⟨hr, n2, pr2, hR2⟩ := h _ _ _ (Or.inr ⟨h80, rfl, rfl, rfl⟩)
  refine ⟨R2, Q2, V2, E2, I2, rfl, ?_, n2, pr2, hR2⟩
  exact hr
theorem c_G_buildY (l : Launch) (D : va_G) (q : xQ) (A : xAd) (z : xZt) (ob : va_W) (mn2 : Nat) (la2 : Nat) (op2 : Int32) (to : Nat → Int32) (to2 : Nat → Int32) (hob : xOb q A z ob) (hrun : x_run (fun j => (zD z j).toNatClampNeg) to (zL z) = some (mn2, la2, op2, to2)) (ho : op2 < 0 ∧ la2 ≠ 0 ∧ la2 ≠ 4) : xMi l yX7_build wsX7_build { frames := 5, cells := 0, slots := 0, locals := 124 } D q [.ref (A.1 0)] [xoA q A, ob] (fun r gw => ∃ (ob2 : va_W), gw = [xoA q A, ob2] ∧ r = nI mn2 ∧ (xOb q A (zBd z to2 mn2) ob2)) := by
  refine xG (zBd z to2 mn2) (fun r => r = nI mn2) hob (fun R Q V E I sl sv had hsd hR => ?_)
  refine ⟨_, c_F_build l D q A.1 A.2.1 A.2.2.1 A.2.2.2.1 A.2.2.2.2.1 A.2.2.2.2.2 R Q V E I _ _ sl sv _ _ _ _ _ had hsd hR to, fun r gw hp => ?_⟩
  obtain ⟨R2, Q2, V2, E2, I2, rfl, h⟩ := hp
  obtain ⟨hr, n2, pr2, hR2⟩ := h _ _ _ _ _ _ _ _ _ (Or.inr ⟨hrun, ho.1, ho.2.1, ho.2.2, rfl, rfl, zpf_ok _ _ _, rfl⟩)
  refine ⟨R2, Q2, V2, E2, I2, rfl, ?_, n2, pr2, hR2⟩
  exact hr
theorem c_G_buildN (l : Launch) (D : va_G) (q : xQ) (A : xAd) (z : xZt) (ob : va_W) (f : Int32) (to : Nat → Int32) (hob : xOb q A z ob) (hfr : x_fr (fun j => (zD z j).toNatClampNeg) to (zL z) f) (hf6 : ¬ f = -6) : xMi l yX7_build wsX7_build { frames := 5, cells := 0, slots := 0, locals := 124 } D q [.ref (A.1 0)] [xoA q A, ob] (fun r gw => ∃ (ob2 : va_W), gw = [xoA q A, ob2] ∧ r = (-3) ∧ (xOb q A z ob2)) := by
  refine xG z (fun r => r = (-3)) hob (fun R Q V E I sl sv had hsd hR => ?_)
  refine ⟨_, c_F_build l D q A.1 A.2.1 A.2.2.1 A.2.2.2.1 A.2.2.2.2.1 A.2.2.2.2.2 R Q V E I _ _ sl sv _ _ _ _ _ had hsd hR to, fun r gw hp => ?_⟩
  obtain ⟨R2, Q2, V2, E2, I2, rfl, h⟩ := hp
  obtain ⟨hr, n2, pr2, hR2⟩ := h _ 0 0 0 to _ _ _ _ (Or.inl ⟨f, hfr, hf6, rfl, rfl, rfl, rfl, rfl⟩)
  refine ⟨R2, Q2, V2, E2, I2, rfl, ?_, n2, pr2, hR2⟩
  exact hr
theorem c_G_fault (l : Launch) (D : va_G) (q : xQ) (A : xAd) (z : xZt) (ob : va_W) (f : Int32) (to : Nat → Int32) (hob : xOb q A z ob) (hfr : x_fr (fun j => (zD z j).toNatClampNeg) to (zL z) f) : xMi l yX7_fault wsX7_fault { frames := 5, cells := 0, slots := 0, locals := 109 } D q [.ref (A.1 0)] [xoA q A, ob] (fun r gw => ∃ (ob2 : va_W), gw = [xoA q A, ob2] ∧ r = f ∧ (xOb q A z ob2)) := by
  refine xG z (fun r => r = f) hob (fun R Q V E I sl sv had hsd hR => ?_)
  refine ⟨_, c_F_fault l D q A.1 A.2.1 A.2.2.1 A.2.2.2.1 A.2.2.2.2.1 A.2.2.2.2.2 R Q V E I _ _ sl sv _ _ _ _ _ had hsd hR to, fun r gw hp => ?_⟩
  obtain ⟨R2, Q2, V2, E2, I2, rfl, hr, n2, pr2, hR2⟩ := hp
  exact ⟨R2, Q2, V2, E2, I2, rfl, hr f hfr, n2, pr2, hR2⟩
theorem c_G_undoN (l : Launch) (D : va_G) (q : xQ) (A : xAd) (z : xZt) (ob : va_W) (hob : xOb q A z ob) (hk0 : zK z = 0) : xMi l yX7_undo wsX7_undo { frames := 5, cells := 0, slots := 0, locals := 124 } D q [.ref (A.1 0)] [xoA q A, ob] (fun r gw => ∃ (ob2 : va_W), gw = [xoA q A, ob2] ∧ r = (-5) ∧ (xOb q A z ob2)) := by
  refine xG z (fun r => r = (-5)) hob (fun R Q V E I sl sv had hsd hR => ?_)
  refine ⟨_, c_F_undo l D q A.1 A.2.1 A.2.2.1 A.2.2.2.1 A.2.2.2.2.1 A.2.2.2.2.2 R Q V E I _ _ sl sv _ _ _ _ _ had hsd hR , fun r gw hp => ?_⟩
  obtain ⟨R2, Q2, V2, E2, I2, rfl, h⟩ := hp
  obtain ⟨hr, n2, pr2, hR2⟩ := h _ _ _ (Or.inl ⟨hk0, rfl, rfl, hk0⟩)
  refine ⟨R2, Q2, V2, E2, I2, rfl, ?_, n2, pr2, hR2⟩
  exact hr
theorem c_G_undoY (l : Launch) (D : va_G) (q : xQ) (A : xAd) (z : xZt) (ob : va_W) (hob : xOb q A z ob) (hk1 : 1 ≤ zK z) : xMi l yX7_undo wsX7_undo { frames := 5, cells := 0, slots := 0, locals := 124 } D q [.ref (A.1 0)] [xoA q A, ob] (fun r gw => ∃ (ob2 : va_W), gw = [xoA q A, ob2] ∧ r = nI (zK z - 1) ∧ (xOb q A (zUn z) ob2)) := by
  refine xG (zUn z) (fun r => r = nI (zK z - 1)) hob (fun R Q V E I sl sv had hsd hR => ?_)
  refine ⟨_, c_F_undo l D q A.1 A.2.1 A.2.2.1 A.2.2.2.1 A.2.2.2.2.1 A.2.2.2.2.2 R Q V E I _ _ sl sv _ _ _ _ _ had hsd hR , fun r gw hp => ?_⟩
  obtain ⟨R2, Q2, V2, E2, I2, rfl, h⟩ := hp
  obtain ⟨hr, n2, pr2, hR2⟩ := h _ _ _ (Or.inr ⟨hk1, rfl, rfl, rfl⟩)
  refine ⟨R2, Q2, V2, E2, I2, rfl, ?_, n2, pr2, hR2⟩
  exact hr
theorem c_G_pass (l : Launch) (D : va_G) (q : xQ) (A : xAd) (z : xZt) (ob : va_W) (h : Nat) (hob : xOb q A z ob) (hh : 1 ≤ h ∧ h ≤ 24) : xMi l yX7_pass wsX7_pass { frames := 5, cells := 0, slots := 0, locals := 124 } D q [.ref (A.1 0), .int (nI h)] [xoA q A, ob] (fun r gw => ∃ (ob2 : va_W), ∃ (z2 : xZt), gw = [xoA q A, ob2] ∧ (xOb q A z2 ob2) ∧ (((¬ (999 : Int32) < zS z 6 + nI h) ∧ r = x_rep (x_hb (zS z) (tR (zS z)) (tN (zS z)) (zS z 4)) h ∧ z2 = zPass z h) ∨ (¬ (¬ (999 : Int32) < zS z 6 + nI h) ∧ r = (-5) ∧ z2 = z))) := by
  by_cases hcd : ¬ (999 : Int32) < zS z 6 + nI h
  · refine xMi.fr (gr := []) (c_G_passY l D q A z ob h hob hh hcd) (by rw [List.append_nil]) (fun r g1 hp => ?_)
    obtain ⟨ob2, rfl, hr, hob2⟩ := hp
    exact ⟨_, by rw [List.append_nil], ob2, _, rfl, hob2, Or.inl ⟨hcd, hr, rfl⟩⟩
  · refine xMi.fr (gr := []) (c_G_passN l D q A z ob h hob hh (Decidable.not_not.mp hcd)) (by rw [List.append_nil]) (fun r g1 hp => ?_)
    obtain ⟨ob2, rfl, hr, hob2⟩ := hp
    exact ⟨_, by rw [List.append_nil], ob2, _, rfl, hob2, Or.inr ⟨hcd, hr, rfl⟩⟩
theorem c_G_street (l : Launch) (D : va_G) (q : xQ) (A : xAd) (z : xZt) (ob : va_W) (k : Nat) (w : Nat) (hob : xOb q A z ob) (hk : k < tN (zS z)) (hw : 1 ≤ w ∧ w ≤ 9) : xMi l yX7_street wsX7_street { frames := 5, cells := 0, slots := 0, locals := 124 } D q [.ref (A.1 0), .int (nI k), .int (nI w)] [xoA q A, ob] (fun r gw => ∃ (ob2 : va_W), ∃ (z2 : xZt), gw = [xoA q A, ob2] ∧ (xOb q A z2 ob2) ∧ (((tN (zS z) < 20 ∧ x_ct (x_tF (zS z)) (nI k) (tN (zS z)) ≠ 4) ∧ r = nI (tN (zS z)) ∧ z2 = zAdd z k w) ∨ (¬ (tN (zS z) < 20 ∧ x_ct (x_tF (zS z)) (nI k) (tN (zS z)) ≠ 4) ∧ r = (-4) ∧ z2 = z))) := by
  by_cases hcd : tN (zS z) < 20 ∧ x_ct (x_tF (zS z)) (nI k) (tN (zS z)) ≠ 4
  · refine xMi.fr (gr := []) (c_G_streetY l D q A z ob k w hob hk hw hcd.1 hcd.2) (by rw [List.append_nil]) (fun r g1 hp => ?_)
    obtain ⟨ob2, rfl, hr, hob2⟩ := hp
    exact ⟨_, by rw [List.append_nil], ob2, _, rfl, hob2, Or.inl ⟨hcd, hr, rfl⟩⟩
  · refine xMi.fr (gr := []) (c_G_streetN l D q A z ob k w hob hk hw hcd) (by rw [List.append_nil]) (fun r g1 hp => ?_)
    obtain ⟨ob2, rfl, hr, hob2⟩ := hp
    exact ⟨_, by rw [List.append_nil], ob2, _, rfl, hob2, Or.inr ⟨hcd, hr, rfl⟩⟩
