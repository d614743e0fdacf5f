set_option maxHeartbeats 1000000 in
set_option maxRecDepth 100000 in
theorem c_X7_isWithinN (l : Launch) (D : va_G) (q : xQ) (v : Nat) (lo : Nat) (hi : Nat) (hv : v < 2 ^ 31) (hlo : lo < 2 ^ 31) (hhi : hi < 2 ^ 31) : xMi l yX7_isWithin wsX7_isWithin { frames := 0, cells := 0, slots := 0, locals := 0 } D q [.int (nI v), .int (nI lo), .int (nI hi)] [] (fun r gw => gw = [] ∧ ((r = 1 ∧ (lo ≤ v ∧ v ≤ hi)) ∨ (r = 0 ∧ ¬ (lo ≤ v ∧ v ≤ hi)))) := by
  refine xMi_of (cc := cX7_isWithin) (maxL := 3) (rt := .boolean) (by decide) rfl (Nat.le_of_ble_eq_true rfl) (fun v w h => by obtain ⟨_, (⟨rfl, _⟩ | ⟨rfl, _⟩)⟩ := h <;> rfl) ?_
  intro p9 e9 s9 m9 a9 below meth c9 A9 Z9 ls H locs F X hl hret
  have hx := F.1.1
  have hb := F.1.2.1
  have hl : lv_has ls 3 [(0, .int (nI v)), (1, .int (nI lo)), (2, .int (nI hi))] := hl
  refine lv_iload_n hx hb dX7_isWithin_0 rfl (lv_at hl 0 rfl) ?_
  refine lv_iload_n hx hb dX7_isWithin_1 rfl (lv_at hl 1 rfl) ?_
  refine lv_icmp_lt (tgt := 14) hx hb dX7_isWithin_2 (by decide) (fun c_2 => ?_) (fun c_2 => ?_)
  · have c_2 : v < lo := (nI_ltI (a := v) (b := lo) (by omega) (by omega)).mp c_2
    refine lv_iconst (v := 0) hx hb dX7_isWithin_14 (by decide) ?_
    exact hret _ _ _ _ _ _ (by exact ⟨rfl, Or.inr ⟨rfl, fun h => by omega⟩⟩) X dX7_isWithin_15
  · have c_2 : lo ≤ v := Nat.not_lt.mp (fun h => c_2 ((nI_ltI (a := v) (b := lo) (by omega) (by omega)).mpr h))
    refine lv_iload_n hx hb dX7_isWithin_5 rfl (lv_at hl 0 rfl) ?_
    refine lv_iload_n hx hb dX7_isWithin_6 rfl (lv_at hl 2 rfl) ?_
    refine lv_icmp_gt (tgt := 14) hx hb dX7_isWithin_7 (by decide) (fun c_7 => ?_) (fun c_7 => ?_)
    · have c_7 : hi < v := (nI_ltI (a := hi) (b := v) (by omega) (by omega)).mp c_7
      refine lv_iconst (v := 0) hx hb dX7_isWithin_14 (by decide) ?_
      exact hret _ _ _ _ _ _ (by exact ⟨rfl, Or.inr ⟨rfl, fun h => by omega⟩⟩) X dX7_isWithin_15
    · have c_7 : v ≤ hi := Nat.not_lt.mp (fun h => c_7 ((nI_ltI (a := hi) (b := v) (by omega) (by omega)).mpr h))
      refine lv_iconst (v := 1) hx hb dX7_isWithin_10 (by decide) ?_
      refine lv_goto (tgt := 15) hx hb dX7_isWithin_11 (by decide) ?_
      exact hret _ _ _ _ _ _ (by exact ⟨rfl, Or.inl ⟨rfl, c_2, c_7⟩⟩) X dX7_isWithin_15

set_option maxHeartbeats 1000000 in
set_option maxRecDepth 100000 in
theorem c_X4_isDigit (l : Launch) (D : va_G) (q : xQ) (c : Nat) (hc : c < 65536) : xMi l yX4_isDigit wsX4_isDigit { frames := 1, cells := 0, slots := 0, locals := 22 } D q [.int (nI c)] [] (fun r gw => gw = [] ∧ ((r = 1 ∧ (48 ≤ c ∧ c ≤ 57)) ∨ (r = 0 ∧ ¬ (48 ≤ c ∧ c ≤ 57)))) := by
  refine xMi_of (cc := cX4_isDigit) (maxL := 1) (rt := .boolean) (by decide) rfl (Nat.le_of_ble_eq_true rfl) (fun v w h => by obtain ⟨_, (⟨rfl, _⟩ | ⟨rfl, _⟩)⟩ := h <;> rfl) ?_
  intro p9 e9 s9 m9 a9 below meth c9 A9 Z9 ls H locs F X hl hret
  have hx := F.1.1
  have hb := F.1.2.1
  have mw_0 : Cond.initialized RX7 ∈ wsX4_isDigit := by decide +kernel
  have mw_1 : Cond.static yX7_isWithin ∈ wsX4_isDigit := by decide +kernel
  have hl : lv_has ls 1 [(0, .int (nI c))] := hl
  refine lv_iload_n hx hb dX4_isDigit_0 rfl (lv_at hl 0 rfl) ?_
  refine lv_bipush (v := 48) hx hb dX4_isDigit_1 (by decide) ?_
  refine lv_bipush (v := 57) hx hb dX4_isDigit_3 (by decide) ?_
  refine x_cNi F X (gc := []) (gr := []) (xp_idx (n := 0) [] (by decide +kernel) rfl rfl) (c_X7_isWithinN l D q c 48 57 (by first | assumption | omega) (by first | assumption | omega) (by first | assumption | omega)) ⟨va_cnB (host := "HatWinds") 3 F.1.2.2.2.2 gX4_isDigit_X7_isWithin_n76 rfl rfl rfl (F.2.2 _ (List.mem_of_getElem? (i := 6) rfl)) (F.1.2.2.2.2 _ mw_0) (by decide +kernel) ⟨Nat.le_of_ble_eq_true rfl, Nat.le_of_ble_eq_true rfl⟩, F.1.2.2.2.2 _ mw_1, trivial⟩ rfl rfl hl.1 ⟨Nat.le_of_ble_eq_true rfl, Nat.le_of_ble_eq_true rfl⟩ (Nat.le_of_ble_eq_true rfl) dX4_isDigit_5 (fun r_5 g1 H locs hp X => ?_)
  obtain ⟨rfl, hz⟩ := hp
  have X : xS D A9 s9 [] H locs := X
  rcases hz with ⟨rfl, b_5⟩ | ⟨rfl, b_5⟩
  · exact hret _ _ _ _ _ _ (by exact ⟨rfl, Or.inl ⟨rfl, b_5⟩⟩) X dX4_isDigit_8
  · exact hret _ _ _ _ _ _ (by exact ⟨rfl, Or.inr ⟨rfl, b_5⟩⟩) X dX4_isDigit_8

set_option maxHeartbeats 1000000 in
set_option maxRecDepth 100000 in
theorem c_X4_takesWidth (l : Launch) (D : va_G) (q : xQ) (d0 : Nat) (h0 : Nat) (h1 : Nat) (h2 : Nat) (h3 : Nat) (h4 : Nat) (h5 : Nat) (mn : Nat) (lc : Nat) (f1 : Nat → Int32) (f2 : Nat → Int32) (f3 : Nat → Int32) (f4 : Nat → Int32) (f5 : Nat → Int32) (pa : Int32) (c : Nat) (la : Nat) (op : Int32) (to : Nat → Int32) (hrd : xRd mn la op to lc pa f1 f2 f3 f4 f5) (hpk : x_pk mn la op to) (hc : c < 65536) (hz0 : la = 0) : xMi l yX4_takesWidth wsX4_takesWidth { frames := 2, cells := 0, slots := 0, locals := 44 } D q [.ref d0, .int (nI c)] [rdW q d0 h0 (nI lc) pa, sW q h0 h1 h2 h3 h4 h5 f1 f2 f3 f4 f5 (nI mn)] (fun r gw => ∃ (mn2 : Nat), ∃ (lc2 : Nat), ∃ (pa2 : Int32), ∃ (e1 : Nat → Int32), ∃ (e2 : Nat → Int32), ∃ (e3 : Nat → Int32), ∃ (e4 : Nat → Int32), ∃ (e5 : Nat → Int32), gw = [rdW q d0 h0 (nI lc2) pa2, sW q h0 h1 h2 h3 h4 h5 e1 e2 e3 e4 e5 (nI mn2)] ∧ ((r = 1 ∧ (xRy c mn la op to mn2 lc2 pa2 e1 e2 e3 e4 e5)) ∨ (r = 0 ∧ (x_step c mn la op to = none)))) := by
  refine xMi_of (cc := cX4_takesWidth) (maxL := 2) (rt := .boolean) (by decide) rfl (Nat.le_of_ble_eq_true rfl) (fun v w h => by obtain ⟨_, _, _, _, _, _, _, _, _, (⟨rfl, _⟩ | ⟨rfl, _⟩)⟩ := h <;> rfl) ?_
  intro p9 e9 s9 m9 a9 below meth c9 A9 Z9 ls H locs F X hl hret
  have hx := F.1.1
  have hb := F.1.2.1
  have in_X4 : ∀ w ∈ wsX40, w ∈ wsX4_takesWidth := by decide +kernel
  have mw_0 : Cond.initialized RX7 ∈ wsX4_takesWidth := by decide +kernel
  have mw_1 : Cond.static yX7_isWithin ∈ wsX4_takesWidth := by decide +kernel
  have mw_2 : Cond.fieldLink RX4 12 "HatWinds$Reader" "streets" "LHatWinds$Streets;" ∈ wsX4_takesWidth := by decide +kernel
  have mw_3 : Cond.fieldLink RX4 22 "HatWinds$Reader" "parent" "I" ∈ wsX4_takesWidth := by decide +kernel
  have mw_4 : Cond.initialized RX5 ∈ wsX4_takesWidth := by decide +kernel
  have mw_5 : Cond.fieldLink RX4 18 "HatWinds$Reader" "last" "I" ∈ wsX4_takesWidth := by decide +kernel
  have hl : lv_has ls 2 [(0, .ref d0), (1, .int (nI c))] := hl
  have hm20 := hpk.1
  have hl7 : lc ≤ 7 := hrd.1 ▸ x_lcle hpk.2.1
  refine lv_iload_n hx hb dX4_takesWidth_0 rfl (lv_at hl 1 rfl) ?_
  refine lv_bipush (v := 49) hx hb dX4_takesWidth_1 (by decide) ?_
  refine lv_bipush (v := 57) hx hb dX4_takesWidth_3 (by decide) ?_
  refine x_cNi F X (gc := []) (gr := [rdW q d0 h0 (nI lc) pa, sW q h0 h1 h2 h3 h4 h5 f1 f2 f3 f4 f5 (nI mn)]) (xp_idx (n := 2) [0, 1] (by decide +kernel) rfl rfl) (c_X7_isWithinN l D q c 49 57 (by first | assumption | omega) (by first | assumption | omega) (by first | assumption | omega)) ⟨va_cnB (host := "HatWinds") 3 F.1.2.2.2.2 gX4_takesWidth_X7_isWithin_n76 rfl rfl rfl (F.2.2 _ (List.mem_of_getElem? (i := 6) rfl)) (F.1.2.2.2.2 _ mw_0) (by decide +kernel) ⟨Nat.le_of_ble_eq_true rfl, Nat.le_of_ble_eq_true rfl⟩, F.1.2.2.2.2 _ mw_1, trivial⟩ rfl rfl hl.1 ⟨Nat.le_of_ble_eq_true rfl, Nat.le_of_ble_eq_true rfl⟩ (Nat.le_of_ble_eq_true rfl) dX4_takesWidth_5 (fun r_5 g1 H locs hp X => ?_)
  obtain ⟨rfl, hz⟩ := hp
  have X : xS D A9 s9 [rdW q d0 h0 (nI lc) pa, sW q h0 h1 h2 h3 h4 h5 f1 f2 f3 f4 f5 (nI mn)] H locs := X
  rcases hz with ⟨rfl, b_5⟩ | ⟨rfl, b_5⟩
  · refine lv_if_eq (tgt := 25) hx hb dX4_takesWidth_8 (by decide) (fun h => absurd h (by decide)) (fun _ => ?_)
    refine lv_aload_n hx hb dX4_takesWidth_11 rfl (lv_at hl 0 rfl) ?_
    refine x_get F X (v := .ref h0) (C := RX4) (T := TX4) (N := 3) (ci := 4) in_X4 0 rfl rfl 0 (by decide) mw_2 rfl dX4_takesWidth_12 ?_
    refine lv_aload_n hx hb dX4_takesWidth_15 rfl (lv_at hl 0 rfl) ?_
    refine x_get F X (v := .int pa) (C := RX4) (T := TX4) (N := 3) (ci := 4) in_X4 0 rfl rfl 2 (by decide) mw_3 rfl dX4_takesWidth_16 ?_
    refine x_cVi F X (gc := [sW q h0 h1 h2 h3 h4 h5 f1 f2 f3 f4 f5 (nI mn)]) (gr := [rdW q d0 h0 (nI lc) pa]) (xp_idx (n := 2) [1, 0] (by decide +kernel) rfl rfl) (c_X5_hasRoomOff l D q h0 h1 h2 h3 h4 h5 mn f1 f2 f3 f4 f5 pa (by omega)) (cwV 1 F.1.2.2.2.2 gX4_takesWidth_X5_hasRoomOff rfl rfl rfl (by decide +kernel) ⟨Nat.le_of_ble_eq_true rfl, Nat.le_of_ble_eq_true rfl⟩) rfl rfl (r0 := 0) (ci := 5) (T := TX5) (N := 6) rfl rfl hl.1 ⟨Nat.le_of_ble_eq_true rfl, Nat.le_of_ble_eq_true rfl⟩ (Nat.le_of_ble_eq_true rfl) dX4_takesWidth_19 (fun r_19 g1 H locs hp X => ?_)
    obtain ⟨rfl, hz⟩ := hp
    have X := X.perm (gs' := [rdW q d0 h0 (nI lc) pa, sW q h0 h1 h2 h3 h4 h5 f1 f2 f3 f4 f5 (nI mn)]) (xp_idx (n := 2) [1, 0] (by decide +kernel) rfl rfl)
    rcases hz with ⟨rfl, b_19⟩ | ⟨rfl, b_19⟩
    · refine lv_if_ne (tgt := 27) hx hb dX4_takesWidth_22 (by decide) (fun _ => ?_) (fun h => absurd h (by decide))
      refine lv_aload_n hx hb dX4_takesWidth_27 rfl (lv_at hl 0 rfl) ?_
      refine x_get F X (v := .ref h0) (C := RX4) (T := TX4) (N := 3) (ci := 4) in_X4 0 rfl rfl 0 (by decide) mw_2 rfl dX4_takesWidth_28 ?_
      refine lv_aload_n hx hb dX4_takesWidth_31 rfl (lv_at hl 0 rfl) ?_
      refine x_get F X (v := .int pa) (C := RX4) (T := TX4) (N := 3) (ci := 4) in_X4 0 rfl rfl 2 (by decide) mw_3 rfl dX4_takesWidth_32 ?_
      refine lv_iload_n hx hb dX4_takesWidth_35 rfl (lv_at hl 1 rfl) ?_
      refine lv_bipush (v := 48) hx hb dX4_takesWidth_36 (by decide) ?_
      refine lv_isub hx hb dX4_takesWidth_38 ?_
      refine x_i (y := (nI (c - 48))) (pk_sub (a := c) (b := 48) (by omega)) ?_
      refine x_cVi F X (gc := [sW q h0 h1 h2 h3 h4 h5 f1 f2 f3 f4 f5 (nI mn)]) (gr := [rdW q d0 h0 (nI lc) pa]) (xp_idx (n := 2) [1, 0] (by decide +kernel) rfl rfl) (c_X5_add l D q h0 h1 h2 h3 h4 h5 mn f1 f2 f3 f4 f5 pa (nI (c - 48)) (by exact b_19.1)) (cwV 2 F.1.2.2.2.2 gX4_takesWidth_X5_add rfl rfl rfl (by decide +kernel) ⟨Nat.le_of_ble_eq_true rfl, Nat.le_of_ble_eq_true rfl⟩) rfl rfl (r0 := 0) (ci := 5) (T := TX5) (N := 6) rfl rfl hl.1 ⟨Nat.le_of_ble_eq_true rfl, Nat.le_of_ble_eq_true rfl⟩ (Nat.le_of_ble_eq_true rfl) dX4_takesWidth_39 (fun r_39 g1 H locs hp X => ?_)
      obtain ⟨rfl, rfl⟩ := hp
      have X := X.perm (gs' := [rdW q d0 h0 (nI lc) pa, sW q h0 h1 h2 h3 h4 h5 (upd f1 mn pa) (upd f2 mn (nI (c - 48))) (upd f3 mn 0) (upd f4 mn 0) (upd f5 mn 0) (nI (mn + 1))]) (xp_idx (n := 2) [1, 0] (by decide +kernel) rfl rfl)
      refine lv_pop hx hb dX4_takesWidth_42 rfl ?_
      refine lv_aload_n hx hb dX4_takesWidth_43 rfl (lv_at hl 0 rfl) ?_
      refine lv_iconst (v := 2) hx hb dX4_takesWidth_44 (by decide) ?_
      refine x_put F X (gs' := [rdW q d0 h0 2 pa, sW q h0 h1 h2 h3 h4 h5 (upd f1 mn pa) (upd f2 mn (nI (c - 48))) (upd f3 mn 0) (upd f4 mn 0) (upd f5 mn 0) (nI (mn + 1))]) (v := .int 2) (C := RX4) (T := TX4) (N := 3) (ci := 4) in_X4 tyX4 tyX4_ok nmX4 0 rfl rfl 1 (by decide) mw_5 rfl rfl rfl (Nat.le_of_ble_eq_true rfl) dX4_takesWidth_45 rfl (fun H locs X => ?_)
      refine lv_iconst (v := 1) hx hb dX4_takesWidth_48 (by decide) ?_
      exact hret _ _ _ _ _ _ (by exact ⟨_, _, _, _, _, _, _, _, rfl, Or.inl ⟨rfl, rd_width hrd hpk hz0 b_5 b_19⟩⟩) X dX4_takesWidth_49
    · refine lv_if_ne (tgt := 27) hx hb dX4_takesWidth_22 (by decide) (fun h => absurd (by decide) h) (fun _ => ?_)
      refine lv_iconst (v := 0) hx hb dX4_takesWidth_25 (by decide) ?_
      exact hret _ _ _ _ _ _ (by exact ⟨_, _, _, _, _, _, _, _, rfl, Or.inr ⟨rfl, rd_widthN hrd hpk hz0 (fun h => b_19 h.2)⟩⟩) X dX4_takesWidth_26
  · refine lv_if_eq (tgt := 25) hx hb dX4_takesWidth_8 (by decide) (fun _ => ?_) (fun h => absurd (by decide) h)
    refine lv_iconst (v := 0) hx hb dX4_takesWidth_25 (by decide) ?_
    exact hret _ _ _ _ _ _ (by exact ⟨_, _, _, _, _, _, _, _, rfl, Or.inr ⟨rfl, rd_widthN hrd hpk hz0 (fun h => b_5 h.1)⟩⟩) X dX4_takesWidth_26

set_option maxHeartbeats 1000000 in
set_option maxRecDepth 100000 in
theorem c_X4_takesFlag (l : Launch) (D : va_G) (q : xQ) (d0 : Nat) (h0 : Nat) (h1 : Nat) (h2 : Nat) (h3 : Nat) (h4 : Nat) (h5 : Nat) (mn : Nat) (lc : Nat) (f1 : Nat → Int32) (f2 : Nat → Int32) (f3 : Nat → Int32) (f4 : Nat → Int32) (f5 : Nat → Int32) (pa : Int32) (c : Nat) (la : Nat) (op : Int32) (to : Nat → Int32) (hrd : xRd mn la op to lc pa f1 f2 f3 f4 f5) (hpk : x_pk mn la op to) (hc : c < 65536) (hz0 : la ≠ 0) (hz4 : la ≠ 4) (hs : c ≠ 33 ∧ c ≠ 42 ∧ c ≠ 40 ∧ c ≠ 44 ∧ c ≠ 41) (hd : ¬ (48 ≤ c ∧ c ≤ 57)) : xMi l yX4_takesFlag wsX4_takesFlag { frames := 1, cells := 0, slots := 0, locals := 22 } D q [.ref d0, .int (nI (mn - 1)), .int (nI c)] [rdW q d0 h0 (nI lc) pa, sW q h0 h1 h2 h3 h4 h5 f1 f2 f3 f4 f5 (nI mn)] (fun r gw => ∃ (mn2 : Nat), ∃ (lc2 : Nat), ∃ (pa2 : Int32), ∃ (e1 : Nat → Int32), ∃ (e2 : Nat → Int32), ∃ (e3 : Nat → Int32), ∃ (e4 : Nat → Int32), ∃ (e5 : Nat → Int32), gw = [rdW q d0 h0 (nI lc2) pa2, sW q h0 h1 h2 h3 h4 h5 e1 e2 e3 e4 e5 (nI mn2)] ∧ ((r = 1 ∧ (xRy c mn la op to mn2 lc2 pa2 e1 e2 e3 e4 e5)) ∨ (r = 0 ∧ (x_step c mn la op to = none)))) := by
  refine xMi_of (cc := cX4_takesFlag) (maxL := 3) (rt := .boolean) (by decide) rfl (Nat.le_of_ble_eq_true rfl) (fun v w h => by obtain ⟨_, _, _, _, _, _, _, _, _, (⟨rfl, _⟩ | ⟨rfl, _⟩)⟩ := h <;> rfl) ?_
  intro p9 e9 s9 m9 a9 below meth c9 A9 Z9 ls H locs F X hl hret
  have hx := F.1.1
  have hb := F.1.2.1
  have in_X4 : ∀ w ∈ wsX40, w ∈ wsX4_takesFlag := by decide +kernel
  have in_X5 : ∀ w ∈ wsX50, w ∈ wsX4_takesFlag := by decide +kernel
  have mw_0 : Cond.fieldLink RX4 18 "HatWinds$Reader" "last" "I" ∈ wsX4_takesFlag := by decide +kernel
  have mw_1 : Cond.initialized RX7 ∈ wsX4_takesFlag := by decide +kernel
  have mw_2 : Cond.static yX7_isWithin ∈ wsX4_takesFlag := by decide +kernel
  have mw_3 : Cond.fieldLink RX4 12 "HatWinds$Reader" "streets" "LHatWinds$Streets;" ∈ wsX4_takesFlag := by decide +kernel
  have mw_4 : Cond.fieldLink RX4 87 "HatWinds$Streets" "cloth" "[I" ∈ wsX4_takesFlag := by decide +kernel
  have hl : lv_has ls 3 [(0, .ref d0), (1, .int (nI (mn - 1))), (2, .int (nI c))] := hl
  have hm20 := hpk.1
  have hl7 : lc ≤ 7 := hrd.1 ▸ x_lcle hpk.2.1
  refine lv_aload_n hx hb dX4_takesFlag_0 rfl (lv_at hl 0 rfl) ?_
  refine x_get F X (v := .int (nI lc)) (C := RX4) (T := TX4) (N := 3) (ci := 4) in_X4 0 rfl rfl 1 (by decide) mw_0 rfl dX4_takesFlag_1 ?_
  refine lv_iconst (v := 2) hx hb dX4_takesFlag_4 (by decide) ?_
  refine lv_icmp_ne (tgt := 19) hx hb dX4_takesFlag_5 (by decide) (fun c_5 => ?_) (fun c_5 => ?_)
  · have c_5 : ¬ (lc = 2) := fun h => c_5 ((nI_eq (a := lc) (b := 2) (by omega) (by omega)).mpr h)
    refine lv_iconst (v := 0) hx hb dX4_takesFlag_19 (by decide) ?_
    exact hret _ _ _ _ _ _ (by exact ⟨_, _, _, _, _, _, _, _, rfl, Or.inr ⟨rfl, rd_flagN hrd hz0 hz4 hs hd (fun h => c_5 h.1)⟩⟩) X dX4_takesFlag_20
  · have c_5 : lc = 2 := (nI_eq (a := lc) (b := 2) (by omega) (by omega)).mp c_5
    refine lv_iload_n hx hb dX4_takesFlag_8 rfl (lv_at hl 2 rfl) ?_
    refine lv_bipush (v := 97) hx hb dX4_takesFlag_9 (by decide) ?_
    refine lv_bipush (v := 101) hx hb dX4_takesFlag_11 (by decide) ?_
    refine x_cNi F X (gc := []) (gr := [rdW q d0 h0 (nI lc) pa, sW q h0 h1 h2 h3 h4 h5 f1 f2 f3 f4 f5 (nI mn)]) (xp_idx (n := 2) [0, 1] (by decide +kernel) rfl rfl) (c_X7_isWithinN l D q c 97 101 (by first | assumption | omega) (by first | assumption | omega) (by first | assumption | omega)) ⟨va_cnB (host := "HatWinds") 3 F.1.2.2.2.2 gX4_takesFlag_X7_isWithin_n76 rfl rfl rfl (F.2.2 _ (List.mem_of_getElem? (i := 6) rfl)) (F.1.2.2.2.2 _ mw_1) (by decide +kernel) ⟨Nat.le_of_ble_eq_true rfl, Nat.le_of_ble_eq_true rfl⟩, F.1.2.2.2.2 _ mw_2, trivial⟩ rfl rfl hl.1 ⟨Nat.le_of_ble_eq_true rfl, Nat.le_of_ble_eq_true rfl⟩ (Nat.le_of_ble_eq_true rfl) dX4_takesFlag_13 (fun r_13 g1 H locs hp X => ?_)
    obtain ⟨rfl, hz⟩ := hp
    have X : xS D A9 s9 [rdW q d0 h0 (nI lc) pa, sW q h0 h1 h2 h3 h4 h5 f1 f2 f3 f4 f5 (nI mn)] H locs := X
    rcases hz with ⟨rfl, b_13⟩ | ⟨rfl, b_13⟩
    · refine lv_if_ne (tgt := 21) hx hb dX4_takesFlag_16 (by decide) (fun _ => ?_) (fun h => absurd h (by decide))
      refine lv_aload_n hx hb dX4_takesFlag_21 rfl (lv_at hl 0 rfl) ?_
      refine x_get F X (v := .ref h0) (C := RX4) (T := TX4) (N := 3) (ci := 4) in_X4 0 rfl rfl 0 (by decide) mw_3 rfl dX4_takesFlag_22 ?_
      refine x_get F X (v := .ref h3) (C := RX5) (T := TX5) (N := 6) (ci := 5) in_X5 1 rfl rfl 2 (by decide) mw_4 rfl dX4_takesFlag_25 ?_
      refine lv_iload_n hx hb dX4_takesFlag_28 rfl (lv_at hl 1 rfl) ?_
      refine lv_iload_n hx hb dX4_takesFlag_29 rfl (lv_at hl 2 rfl) ?_
      refine lv_bipush (v := 97) hx hb dX4_takesFlag_30 (by decide) ?_
      refine lv_isub hx hb dX4_takesFlag_32 ?_
      refine x_i (y := (nI (c - 97))) (pk_sub (a := c) (b := 97) (by omega)) ?_
      refine lv_iconst (v := 1) hx hb dX4_takesFlag_33 (by decide) ?_
      refine lv_iadd hx hb dX4_takesFlag_34 ?_
      refine x_i (y := (nI (c - 97 + 1))) (nI_add (c - 97) 1) ?_
      refine x_iast F X (gs' := [rdW q d0 h0 (nI lc) pa, sW q h0 h1 h2 h3 h4 h5 f1 f2 (upd f3 (mn - 1) (nI (c - 97 + 1))) f4 f5 (nI mn)]) (n := 20) (f := f3) (k := (mn - 1)) 4 rfl (vp_in_nI (by omega) (by omega)) (nI_clamp (by omega)) dX4_takesFlag_35 rfl (fun H locs X => ?_)
      refine lv_aload_n hx hb dX4_takesFlag_36 rfl (lv_at hl 0 rfl) ?_
      refine lv_iconst (v := 3) hx hb dX4_takesFlag_37 (by decide) ?_
      refine x_put F X (gs' := [rdW q d0 h0 3 pa, sW q h0 h1 h2 h3 h4 h5 f1 f2 (upd f3 (mn - 1) (nI (c - 97 + 1))) f4 f5 (nI mn)]) (v := .int 3) (C := RX4) (T := TX4) (N := 3) (ci := 4) in_X4 tyX4 tyX4_ok nmX4 0 rfl rfl 1 (by decide) mw_0 rfl rfl rfl (Nat.le_of_ble_eq_true rfl) dX4_takesFlag_38 rfl (fun H locs X => ?_)
      refine lv_iconst (v := 1) hx hb dX4_takesFlag_41 (by decide) ?_
      exact hret _ _ _ _ _ _ (by exact ⟨_, _, _, _, _, _, _, _, rfl, Or.inl ⟨rfl, rd_flag hrd hpk c_5 b_13⟩⟩) X dX4_takesFlag_42
    · refine lv_if_ne (tgt := 21) hx hb dX4_takesFlag_16 (by decide) (fun h => absurd (by decide) h) (fun _ => ?_)
      refine lv_iconst (v := 0) hx hb dX4_takesFlag_19 (by decide) ?_
      exact hret _ _ _ _ _ _ (by exact ⟨_, _, _, _, _, _, _, _, rfl, Or.inr ⟨rfl, rd_flagN hrd hz0 hz4 hs hd (fun h => b_13 h.2)⟩⟩) X dX4_takesFlag_20

set_option maxHeartbeats 1000000 in
set_option maxRecDepth 100000 in
theorem c_X4_takesSmoke (l : Launch) (D : va_G) (q : xQ) (d0 : Nat) (h0 : Nat) (h1 : Nat) (h2 : Nat) (h3 : Nat) (h4 : Nat) (h5 : Nat) (mn : Nat) (lc : Nat) (f1 : Nat → Int32) (f2 : Nat → Int32) (f3 : Nat → Int32) (f4 : Nat → Int32) (f5 : Nat → Int32) (pa : Int32) (c : Nat) (la : Nat) (op : Int32) (to : Nat → Int32) (hrd : xRd mn la op to lc pa f1 f2 f3 f4 f5) (hpk : x_pk mn la op to) (hz0 : la ≠ 0) (hc : c = 33) : xMi l yX4_takesSmoke wsX4_takesSmoke { frames := 1, cells := 0, slots := 0, locals := 22 } D q [.ref d0, .int (nI (mn - 1))] [rdW q d0 h0 (nI lc) pa, sW q h0 h1 h2 h3 h4 h5 f1 f2 f3 f4 f5 (nI mn)] (fun r gw => ∃ (mn2 : Nat), ∃ (lc2 : Nat), ∃ (pa2 : Int32), ∃ (e1 : Nat → Int32), ∃ (e2 : Nat → Int32), ∃ (e3 : Nat → Int32), ∃ (e4 : Nat → Int32), ∃ (e5 : Nat → Int32), gw = [rdW q d0 h0 (nI lc2) pa2, sW q h0 h1 h2 h3 h4 h5 e1 e2 e3 e4 e5 (nI mn2)] ∧ ((r = 1 ∧ (xRy c mn la op to mn2 lc2 pa2 e1 e2 e3 e4 e5)) ∨ (r = 0 ∧ (x_step c mn la op to = none)))) := by
  refine xMi_of (cc := cX4_takesSmoke) (maxL := 2) (rt := .boolean) (by decide) rfl (Nat.le_of_ble_eq_true rfl) (fun v w h => by obtain ⟨_, _, _, _, _, _, _, _, _, (⟨rfl, _⟩ | ⟨rfl, _⟩)⟩ := h <;> rfl) ?_
  intro p9 e9 s9 m9 a9 below meth c9 A9 Z9 ls H locs F X hl hret
  have hx := F.1.1
  have hb := F.1.2.1
  have in_X4 : ∀ w ∈ wsX40, w ∈ wsX4_takesSmoke := by decide +kernel
  have in_X5 : ∀ w ∈ wsX50, w ∈ wsX4_takesSmoke := by decide +kernel
  have mw_0 : Cond.fieldLink RX4 18 "HatWinds$Reader" "last" "I" ∈ wsX4_takesSmoke := by decide +kernel
  have mw_1 : Cond.initialized RX7 ∈ wsX4_takesSmoke := by decide +kernel
  have mw_2 : Cond.static yX7_isWithin ∈ wsX4_takesSmoke := by decide +kernel
  have mw_3 : Cond.fieldLink RX4 12 "HatWinds$Reader" "streets" "LHatWinds$Streets;" ∈ wsX4_takesSmoke := by decide +kernel
  have mw_4 : Cond.fieldLink RX4 91 "HatWinds$Streets" "smoke" "[I" ∈ wsX4_takesSmoke := by decide +kernel
  have hl : lv_has ls 2 [(0, .ref d0), (1, .int (nI (mn - 1)))] := hl
  have hm20 := hpk.1
  have hl7 : lc ≤ 7 := hrd.1 ▸ x_lcle hpk.2.1
  refine lv_aload_n hx hb dX4_takesSmoke_0 rfl (lv_at hl 0 rfl) ?_
  refine x_get F X (v := .int (nI lc)) (C := RX4) (T := TX4) (N := 3) (ci := 4) in_X4 0 rfl rfl 1 (by decide) mw_0 rfl dX4_takesSmoke_1 ?_
  refine lv_iconst (v := 2) hx hb dX4_takesSmoke_4 (by decide) ?_
  refine lv_iconst (v := 3) hx hb dX4_takesSmoke_5 (by decide) ?_
  refine x_cNi F X (gc := []) (gr := [rdW q d0 h0 (nI lc) pa, sW q h0 h1 h2 h3 h4 h5 f1 f2 f3 f4 f5 (nI mn)]) (xp_idx (n := 2) [0, 1] (by decide +kernel) rfl rfl) (c_X7_isWithinN l D q lc 2 3 (by first | assumption | omega) (by first | assumption | omega) (by first | assumption | omega)) ⟨va_cnB (host := "HatWinds") 3 F.1.2.2.2.2 gX4_takesSmoke_X7_isWithin_n76 rfl rfl rfl (F.2.2 _ (List.mem_of_getElem? (i := 6) rfl)) (F.1.2.2.2.2 _ mw_1) (by decide +kernel) ⟨Nat.le_of_ble_eq_true rfl, Nat.le_of_ble_eq_true rfl⟩, F.1.2.2.2.2 _ mw_2, trivial⟩ rfl rfl hl.1 ⟨Nat.le_of_ble_eq_true rfl, Nat.le_of_ble_eq_true rfl⟩ (Nat.le_of_ble_eq_true rfl) dX4_takesSmoke_6 (fun r_6 g1 H locs hp X => ?_)
  obtain ⟨rfl, hz⟩ := hp
  have X : xS D A9 s9 [rdW q d0 h0 (nI lc) pa, sW q h0 h1 h2 h3 h4 h5 f1 f2 f3 f4 f5 (nI mn)] H locs := X
  rcases hz with ⟨rfl, b_6⟩ | ⟨rfl, b_6⟩
  · refine lv_if_ne (tgt := 14) hx hb dX4_takesSmoke_9 (by decide) (fun _ => ?_) (fun h => absurd h (by decide))
    refine lv_aload_n hx hb dX4_takesSmoke_14 rfl (lv_at hl 0 rfl) ?_
    refine x_get F X (v := .ref h0) (C := RX4) (T := TX4) (N := 3) (ci := 4) in_X4 0 rfl rfl 0 (by decide) mw_3 rfl dX4_takesSmoke_15 ?_
    refine x_get F X (v := .ref h4) (C := RX5) (T := TX5) (N := 6) (ci := 5) in_X5 1 rfl rfl 3 (by decide) mw_4 rfl dX4_takesSmoke_18 ?_
    refine lv_iload_n hx hb dX4_takesSmoke_21 rfl (lv_at hl 1 rfl) ?_
    refine lv_iconst (v := 1) hx hb dX4_takesSmoke_22 (by decide) ?_
    refine x_iast F X (gs' := [rdW q d0 h0 (nI lc) pa, sW q h0 h1 h2 h3 h4 h5 f1 f2 f3 (upd f4 (mn - 1) 1) f5 (nI mn)]) (n := 20) (f := f4) (k := (mn - 1)) 5 rfl (vp_in_nI (by omega) (by omega)) (nI_clamp (by omega)) dX4_takesSmoke_23 rfl (fun H locs X => ?_)
    refine lv_aload_n hx hb dX4_takesSmoke_24 rfl (lv_at hl 0 rfl) ?_
    refine lv_iconst (v := 4) hx hb dX4_takesSmoke_25 (by decide) ?_
    refine x_put F X (gs' := [rdW q d0 h0 4 pa, sW q h0 h1 h2 h3 h4 h5 f1 f2 f3 (upd f4 (mn - 1) 1) f5 (nI mn)]) (v := .int 4) (C := RX4) (T := TX4) (N := 3) (ci := 4) in_X4 tyX4 tyX4_ok nmX4 0 rfl rfl 1 (by decide) mw_0 rfl rfl rfl (Nat.le_of_ble_eq_true rfl) dX4_takesSmoke_26 rfl (fun H locs X => ?_)
    refine lv_iconst (v := 1) hx hb dX4_takesSmoke_29 (by decide) ?_
    exact hret _ _ _ _ _ _ (by exact ⟨_, _, _, _, _, _, _, _, rfl, Or.inl ⟨rfl, rd_smoke hrd hpk hc b_6⟩⟩) X dX4_takesSmoke_30
  · refine lv_if_ne (tgt := 14) hx hb dX4_takesSmoke_9 (by decide) (fun h => absurd (by decide) h) (fun _ => ?_)
    refine lv_iconst (v := 0) hx hb dX4_takesSmoke_12 (by decide) ?_
    exact hret _ _ _ _ _ _ (by exact ⟨_, _, _, _, _, _, _, _, rfl, Or.inr ⟨rfl, rd_smokeN hrd hz0 hc b_6⟩⟩) X dX4_takesSmoke_13

set_option maxHeartbeats 1000000 in
set_option maxRecDepth 100000 in
theorem c_X4_takesStar (l : Launch) (D : va_G) (q : xQ) (d0 : Nat) (h0 : Nat) (h1 : Nat) (h2 : Nat) (h3 : Nat) (h4 : Nat) (h5 : Nat) (mn : Nat) (lc : Nat) (f1 : Nat → Int32) (f2 : Nat → Int32) (f3 : Nat → Int32) (f4 : Nat → Int32) (f5 : Nat → Int32) (pa : Int32) (c : Nat) (la : Nat) (op : Int32) (to : Nat → Int32) (hrd : xRd mn la op to lc pa f1 f2 f3 f4 f5) (hpk : x_pk mn la op to) (hz0 : la ≠ 0) (hc : c = 42) : xMi l yX4_takesStar wsX4_takesStar { frames := 1, cells := 0, slots := 0, locals := 22 } D q [.ref d0] [rdW q d0 h0 (nI lc) pa, sW q h0 h1 h2 h3 h4 h5 f1 f2 f3 f4 f5 (nI mn)] (fun r gw => ∃ (mn2 : Nat), ∃ (lc2 : Nat), ∃ (pa2 : Int32), ∃ (e1 : Nat → Int32), ∃ (e2 : Nat → Int32), ∃ (e3 : Nat → Int32), ∃ (e4 : Nat → Int32), ∃ (e5 : Nat → Int32), gw = [rdW q d0 h0 (nI lc2) pa2, sW q h0 h1 h2 h3 h4 h5 e1 e2 e3 e4 e5 (nI mn2)] ∧ ((r = 1 ∧ (xRy c mn la op to mn2 lc2 pa2 e1 e2 e3 e4 e5)) ∨ (r = 0 ∧ (x_step c mn la op to = none)))) := by
  refine xMi_of (cc := cX4_takesStar) (maxL := 1) (rt := .boolean) (by decide) rfl (Nat.le_of_ble_eq_true rfl) (fun v w h => by obtain ⟨_, _, _, _, _, _, _, _, _, (⟨rfl, _⟩ | ⟨rfl, _⟩)⟩ := h <;> rfl) ?_
  intro p9 e9 s9 m9 a9 below meth c9 A9 Z9 ls H locs F X hl hret
  have hx := F.1.1
  have hb := F.1.2.1
  have in_X4 : ∀ w ∈ wsX40, w ∈ wsX4_takesStar := by decide +kernel
  have mw_0 : Cond.fieldLink RX4 18 "HatWinds$Reader" "last" "I" ∈ wsX4_takesStar := by decide +kernel
  have mw_1 : Cond.initialized RX7 ∈ wsX4_takesStar := by decide +kernel
  have mw_2 : Cond.static yX7_isWithin ∈ wsX4_takesStar := by decide +kernel
  have hl : lv_has ls 1 [(0, .ref d0)] := hl
  have hm20 := hpk.1
  have hl7 : lc ≤ 7 := hrd.1 ▸ x_lcle hpk.2.1
  refine lv_aload_n hx hb dX4_takesStar_0 rfl (lv_at hl 0 rfl) ?_
  refine x_get F X (v := .int (nI lc)) (C := RX4) (T := TX4) (N := 3) (ci := 4) in_X4 0 rfl rfl 1 (by decide) mw_0 rfl dX4_takesStar_1 ?_
  refine lv_iconst (v := 2) hx hb dX4_takesStar_4 (by decide) ?_
  refine lv_iconst (v := 4) hx hb dX4_takesStar_5 (by decide) ?_
  refine x_cNi F X (gc := []) (gr := [rdW q d0 h0 (nI lc) pa, sW q h0 h1 h2 h3 h4 h5 f1 f2 f3 f4 f5 (nI mn)]) (xp_idx (n := 2) [0, 1] (by decide +kernel) rfl rfl) (c_X7_isWithinN l D q lc 2 4 (by first | assumption | omega) (by first | assumption | omega) (by first | assumption | omega)) ⟨va_cnB (host := "HatWinds") 3 F.1.2.2.2.2 gX4_takesStar_X7_isWithin_n76 rfl rfl rfl (F.2.2 _ (List.mem_of_getElem? (i := 6) rfl)) (F.1.2.2.2.2 _ mw_1) (by decide +kernel) ⟨Nat.le_of_ble_eq_true rfl, Nat.le_of_ble_eq_true rfl⟩, F.1.2.2.2.2 _ mw_2, trivial⟩ rfl rfl hl.1 ⟨Nat.le_of_ble_eq_true rfl, Nat.le_of_ble_eq_true rfl⟩ (Nat.le_of_ble_eq_true rfl) dX4_takesStar_6 (fun r_6 g1 H locs hp X => ?_)
  obtain ⟨rfl, hz⟩ := hp
  have X : xS D A9 s9 [rdW q d0 h0 (nI lc) pa, sW q h0 h1 h2 h3 h4 h5 f1 f2 f3 f4 f5 (nI mn)] H locs := X
  rcases hz with ⟨rfl, b_6⟩ | ⟨rfl, b_6⟩
  · refine lv_if_ne (tgt := 14) hx hb dX4_takesStar_9 (by decide) (fun _ => ?_) (fun h => absurd h (by decide))
    refine lv_aload_n hx hb dX4_takesStar_14 rfl (lv_at hl 0 rfl) ?_
    refine lv_iconst (v := 1) hx hb dX4_takesStar_15 (by decide) ?_
    refine x_put F X (gs' := [rdW q d0 h0 1 pa, sW q h0 h1 h2 h3 h4 h5 f1 f2 f3 f4 f5 (nI mn)]) (v := .int 1) (C := RX4) (T := TX4) (N := 3) (ci := 4) in_X4 tyX4 tyX4_ok nmX4 0 rfl rfl 1 (by decide) mw_0 rfl rfl rfl (Nat.le_of_ble_eq_true rfl) dX4_takesStar_16 rfl (fun H locs X => ?_)
    refine lv_iconst (v := 1) hx hb dX4_takesStar_19 (by decide) ?_
    exact hret _ _ _ _ _ _ (by exact ⟨_, _, _, _, _, _, _, _, rfl, Or.inl ⟨rfl, rd_star hrd hc b_6⟩⟩) X dX4_takesStar_20
  · refine lv_if_ne (tgt := 14) hx hb dX4_takesStar_9 (by decide) (fun h => absurd (by decide) h) (fun _ => ?_)
    refine lv_iconst (v := 0) hx hb dX4_takesStar_12 (by decide) ?_
    exact hret _ _ _ _ _ _ (by exact ⟨_, _, _, _, _, _, _, _, rfl, Or.inr ⟨rfl, rd_starN hrd hz0 hc b_6⟩⟩) X dX4_takesStar_13

set_option maxHeartbeats 1000000 in
set_option maxRecDepth 100000 in
theorem c_X4_takesFirstDigit (l : Launch) (D : va_G) (q : xQ) (d0 : Nat) (h0 : Nat) (h1 : Nat) (h2 : Nat) (h3 : Nat) (h4 : Nat) (h5 : Nat) (mn : Nat) (lc : Nat) (f1 : Nat → Int32) (f2 : Nat → Int32) (f3 : Nat → Int32) (f4 : Nat → Int32) (f5 : Nat → Int32) (pa : Int32) (c : Nat) (la : Nat) (op : Int32) (to : Nat → Int32) (hrd : xRd mn la op to lc pa f1 f2 f3 f4 f5) (hpk : x_pk mn la op to) (hc : c < 65536) (hz4 : la = 4) : xMi l yX4_takesFirstDigit wsX4_takesFirstDigit { frames := 2, cells := 0, slots := 0, locals := 42 } D q [.ref d0, .int (nI (mn - 1)), .int (nI c)] [rdW q d0 h0 (nI lc) pa, sW q h0 h1 h2 h3 h4 h5 f1 f2 f3 f4 f5 (nI mn)] (fun r gw => ∃ (mn2 : Nat), ∃ (lc2 : Nat), ∃ (pa2 : Int32), ∃ (e1 : Nat → Int32), ∃ (e2 : Nat → Int32), ∃ (e3 : Nat → Int32), ∃ (e4 : Nat → Int32), ∃ (e5 : Nat → Int32), gw = [rdW q d0 h0 (nI lc2) pa2, sW q h0 h1 h2 h3 h4 h5 e1 e2 e3 e4 e5 (nI mn2)] ∧ ((r = 1 ∧ (xRy c mn la op to mn2 lc2 pa2 e1 e2 e3 e4 e5)) ∨ (r = 0 ∧ (x_step c mn la op to = none)))) := by
  refine xMi_of (cc := cX4_takesFirstDigit) (maxL := 3) (rt := .boolean) (by decide) rfl (Nat.le_of_ble_eq_true rfl) (fun v w h => by obtain ⟨_, _, _, _, _, _, _, _, _, (⟨rfl, _⟩ | ⟨rfl, _⟩)⟩ := h <;> rfl) ?_
  intro p9 e9 s9 m9 a9 below meth c9 A9 Z9 ls H locs F X hl hret
  have hx := F.1.1
  have hb := F.1.2.1
  have in_X4 : ∀ w ∈ wsX40, w ∈ wsX4_takesFirstDigit := by decide +kernel
  have in_X5 : ∀ w ∈ wsX50, w ∈ wsX4_takesFirstDigit := by decide +kernel
  have mw_0 : Cond.initialized RX4 ∈ wsX4_takesFirstDigit := by decide +kernel
  have mw_1 : Cond.fieldLink RX4 12 "HatWinds$Reader" "streets" "LHatWinds$Streets;" ∈ wsX4_takesFirstDigit := by decide +kernel
  have mw_2 : Cond.fieldLink RX4 94 "HatWinds$Streets" "people" "[I" ∈ wsX4_takesFirstDigit := by decide +kernel
  have mw_3 : Cond.fieldLink RX4 18 "HatWinds$Reader" "last" "I" ∈ wsX4_takesFirstDigit := by decide +kernel
  have hl : lv_has ls 3 [(0, .ref d0), (1, .int (nI (mn - 1))), (2, .int (nI c))] := hl
  have hm20 := hpk.1
  have hl7 : lc ≤ 7 := hrd.1 ▸ x_lcle hpk.2.1
  refine lv_iload_n hx hb dX4_takesFirstDigit_0 rfl (lv_at hl 2 rfl) ?_
  refine x_cSi F X (gc := []) (gr := [rdW q d0 h0 (nI lc) pa, sW q h0 h1 h2 h3 h4 h5 f1 f2 f3 f4 f5 (nI mn)]) (xp_idx (n := 2) [0, 1] (by decide +kernel) rfl rfl) (c_X4_isDigit l D q c (by first | assumption | omega)) (va_cwS 1 F.1.2.2.2.2 gX4_takesFirstDigit_X4_isDigit rfl rfl rfl (by decide +kernel) ⟨Nat.le_of_ble_eq_true rfl, Nat.le_of_ble_eq_true rfl⟩) rfl rfl hl.1 ⟨Nat.le_of_ble_eq_true rfl, Nat.le_of_ble_eq_true rfl⟩ (Nat.le_of_ble_eq_true rfl) dX4_takesFirstDigit_1 (fun r_1 g1 H locs hp X => ?_)
  obtain ⟨rfl, hz⟩ := hp
  have X : xS D A9 s9 [rdW q d0 h0 (nI lc) pa, sW q h0 h1 h2 h3 h4 h5 f1 f2 f3 f4 f5 (nI mn)] H locs := X
  rcases hz with ⟨rfl, b_1⟩ | ⟨rfl, b_1⟩
  · refine lv_if_ne (tgt := 9) hx hb dX4_takesFirstDigit_4 (by decide) (fun _ => ?_) (fun h => absurd h (by decide))
    refine lv_aload_n hx hb dX4_takesFirstDigit_9 rfl (lv_at hl 0 rfl) ?_
    refine x_get F X (v := .ref h0) (C := RX4) (T := TX4) (N := 3) (ci := 4) in_X4 0 rfl rfl 0 (by decide) mw_1 rfl dX4_takesFirstDigit_10 ?_
    refine x_get F X (v := .ref h5) (C := RX5) (T := TX5) (N := 6) (ci := 5) in_X5 1 rfl rfl 4 (by decide) mw_2 rfl dX4_takesFirstDigit_13 ?_
    refine lv_iload_n hx hb dX4_takesFirstDigit_16 rfl (lv_at hl 1 rfl) ?_
    refine lv_iload_n hx hb dX4_takesFirstDigit_17 rfl (lv_at hl 2 rfl) ?_
    refine lv_bipush (v := 48) hx hb dX4_takesFirstDigit_18 (by decide) ?_
    refine lv_isub hx hb dX4_takesFirstDigit_20 ?_
    refine x_i (y := (nI (c - 48))) (pk_sub (a := c) (b := 48) (by omega)) ?_
    refine x_iast F X (gs' := [rdW q d0 h0 (nI lc) pa, sW q h0 h1 h2 h3 h4 h5 f1 f2 f3 f4 (upd f5 (mn - 1) (nI (c - 48))) (nI mn)]) (n := 20) (f := f5) (k := (mn - 1)) 6 rfl (vp_in_nI (by omega) (by omega)) (nI_clamp (by omega)) dX4_takesFirstDigit_21 rfl (fun H locs X => ?_)
    refine lv_aload_n hx hb dX4_takesFirstDigit_22 rfl (lv_at hl 0 rfl) ?_
    refine lv_iload_n hx hb dX4_takesFirstDigit_23 rfl (lv_at hl 2 rfl) ?_
    refine lv_bipush (v := 48) hx hb dX4_takesFirstDigit_24 (by decide) ?_
    refine lv_icmp_ne (tgt := 34) hx hb dX4_takesFirstDigit_26 (by decide) (fun c_26 => ?_) (fun c_26 => ?_)
    · have c_26 : ¬ (c = 48) := fun h => c_26 ((nI_eq (a := c) (b := 48) (by omega) (by omega)).mpr h)
      refine lv_iconst (v := 5) hx hb dX4_takesFirstDigit_34 (by decide) ?_
      refine x_put F X (gs' := [rdW q d0 h0 5 pa, sW q h0 h1 h2 h3 h4 h5 f1 f2 f3 f4 (upd f5 (mn - 1) (nI (c - 48))) (nI mn)]) (v := .int 5) (C := RX4) (T := TX4) (N := 3) (ci := 4) in_X4 tyX4 tyX4_ok nmX4 0 rfl rfl 1 (by decide) mw_3 rfl rfl rfl (Nat.le_of_ble_eq_true rfl) dX4_takesFirstDigit_35 rfl (fun H locs X => ?_)
      refine lv_iconst (v := 1) hx hb dX4_takesFirstDigit_38 (by decide) ?_
      exact hret _ _ _ _ _ _ (by exact ⟨_, _, _, _, _, _, _, _, rfl, Or.inl ⟨rfl, by have h := rd_first hrd hpk hz4 b_1; rwa [if_neg c_26] at h⟩⟩) X dX4_takesFirstDigit_39
    · have c_26 : c = 48 := (nI_eq (a := c) (b := 48) (by omega) (by omega)).mp c_26
      refine lv_bipush (v := 6) hx hb dX4_takesFirstDigit_29 (by decide) ?_
      refine lv_goto (tgt := 35) hx hb dX4_takesFirstDigit_31 (by decide) ?_
      refine x_put F X (gs' := [rdW q d0 h0 6 pa, sW q h0 h1 h2 h3 h4 h5 f1 f2 f3 f4 (upd f5 (mn - 1) (nI (c - 48))) (nI mn)]) (v := .int 6) (C := RX4) (T := TX4) (N := 3) (ci := 4) in_X4 tyX4 tyX4_ok nmX4 0 rfl rfl 1 (by decide) mw_3 rfl rfl rfl (Nat.le_of_ble_eq_true rfl) dX4_takesFirstDigit_35 rfl (fun H locs X => ?_)
      refine lv_iconst (v := 1) hx hb dX4_takesFirstDigit_38 (by decide) ?_
      exact hret _ _ _ _ _ _ (by exact ⟨_, _, _, _, _, _, _, _, rfl, Or.inl ⟨rfl, by have h := rd_first hrd hpk hz4 b_1; rwa [if_pos c_26] at h⟩⟩) X dX4_takesFirstDigit_39
  · refine lv_if_ne (tgt := 9) hx hb dX4_takesFirstDigit_4 (by decide) (fun h => absurd (by decide) h) (fun _ => ?_)
    refine lv_iconst (v := 0) hx hb dX4_takesFirstDigit_7 (by decide) ?_
    exact hret _ _ _ _ _ _ (by exact ⟨_, _, _, _, _, _, _, _, rfl, Or.inr ⟨rfl, rd_firstN hz4 b_1⟩⟩) X dX4_takesFirstDigit_8

set_option maxHeartbeats 1000000 in
set_option maxRecDepth 100000 in
theorem c_X4_takesSecondDigit (l : Launch) (D : va_G) (q : xQ) (d0 : Nat) (h0 : Nat) (h1 : Nat) (h2 : Nat) (h3 : Nat) (h4 : Nat) (h5 : Nat) (mn : Nat) (lc : Nat) (f1 : Nat → Int32) (f2 : Nat → Int32) (f3 : Nat → Int32) (f4 : Nat → Int32) (f5 : Nat → Int32) (pa : Int32) (c : Nat) (la : Nat) (op : Int32) (to : Nat → Int32) (hrd : xRd mn la op to lc pa f1 f2 f3 f4 f5) (hpk : x_pk mn la op to) (hc : c < 65536) (hz0 : la ≠ 0) (hz4 : la ≠ 4) (hd : 48 ≤ c ∧ c ≤ 57) : xMi l yX4_takesSecondDigit wsX4_takesSecondDigit { frames := 0, cells := 0, slots := 0, locals := 0 } D q [.ref d0, .int (nI (mn - 1)), .int (nI c)] [rdW q d0 h0 (nI lc) pa, sW q h0 h1 h2 h3 h4 h5 f1 f2 f3 f4 f5 (nI mn)] (fun r gw => ∃ (mn2 : Nat), ∃ (lc2 : Nat), ∃ (pa2 : Int32), ∃ (e1 : Nat → Int32), ∃ (e2 : Nat → Int32), ∃ (e3 : Nat → Int32), ∃ (e4 : Nat → Int32), ∃ (e5 : Nat → Int32), gw = [rdW q d0 h0 (nI lc2) pa2, sW q h0 h1 h2 h3 h4 h5 e1 e2 e3 e4 e5 (nI mn2)] ∧ ((r = 1 ∧ (xRy c mn la op to mn2 lc2 pa2 e1 e2 e3 e4 e5)) ∨ (r = 0 ∧ (x_step c mn la op to = none)))) := by
  refine xMi_of (cc := cX4_takesSecondDigit) (maxL := 3) (rt := .boolean) (by decide) rfl (Nat.le_of_ble_eq_true rfl) (fun v w h => by obtain ⟨_, _, _, _, _, _, _, _, _, (⟨rfl, _⟩ | ⟨rfl, _⟩)⟩ := h <;> rfl) ?_
  intro p9 e9 s9 m9 a9 below meth c9 A9 Z9 ls H locs F X hl hret
  have hx := F.1.1
  have hb := F.1.2.1
  have in_X4 : ∀ w ∈ wsX40, w ∈ wsX4_takesSecondDigit := by decide +kernel
  have in_X5 : ∀ w ∈ wsX50, w ∈ wsX4_takesSecondDigit := by decide +kernel
  have mw_0 : Cond.fieldLink RX4 18 "HatWinds$Reader" "last" "I" ∈ wsX4_takesSecondDigit := by decide +kernel
  have mw_1 : Cond.fieldLink RX4 12 "HatWinds$Reader" "streets" "LHatWinds$Streets;" ∈ wsX4_takesSecondDigit := by decide +kernel
  have mw_2 : Cond.fieldLink RX4 94 "HatWinds$Streets" "people" "[I" ∈ wsX4_takesSecondDigit := by decide +kernel
  have hl : lv_has ls 3 [(0, .ref d0), (1, .int (nI (mn - 1))), (2, .int (nI c))] := hl
  have hm20 := hpk.1
  have hl7 : lc ≤ 7 := hrd.1 ▸ x_lcle hpk.2.1
  refine lv_aload_n hx hb dX4_takesSecondDigit_0 rfl (lv_at hl 0 rfl) ?_
  refine x_get F X (v := .int (nI lc)) (C := RX4) (T := TX4) (N := 3) (ci := 4) in_X4 0 rfl rfl 1 (by decide) mw_0 rfl dX4_takesSecondDigit_1 ?_
  refine lv_iconst (v := 5) hx hb dX4_takesSecondDigit_4 (by decide) ?_
  refine lv_icmp_eq (tgt := 10) hx hb dX4_takesSecondDigit_5 (by decide) (fun c_5 => ?_) (fun c_5 => ?_)
  · have c_5 : lc = 5 := (nI_eq (a := lc) (b := 5) (by omega) (by omega)).mp c_5
    refine lv_aload_n hx hb dX4_takesSecondDigit_10 rfl (lv_at hl 0 rfl) ?_
    refine x_get F X (v := .ref h0) (C := RX4) (T := TX4) (N := 3) (ci := 4) in_X4 0 rfl rfl 0 (by decide) mw_1 rfl dX4_takesSecondDigit_11 ?_
    refine x_get F X (v := .ref h5) (C := RX5) (T := TX5) (N := 6) (ci := 5) in_X5 1 rfl rfl 4 (by decide) mw_2 rfl dX4_takesSecondDigit_14 ?_
    refine lv_iload_n hx hb dX4_takesSecondDigit_17 rfl (lv_at hl 1 rfl) ?_
    refine lv_bipush (v := 10) hx hb dX4_takesSecondDigit_18 (by decide) ?_
    refine lv_aload_n hx hb dX4_takesSecondDigit_20 rfl (lv_at hl 0 rfl) ?_
    refine x_get F X (v := .ref h0) (C := RX4) (T := TX4) (N := 3) (ci := 4) in_X4 0 rfl rfl 0 (by decide) mw_1 rfl dX4_takesSecondDigit_21 ?_
    refine x_get F X (v := .ref h5) (C := RX5) (T := TX5) (N := 6) (ci := 5) in_X5 1 rfl rfl 4 (by decide) mw_2 rfl dX4_takesSecondDigit_24 ?_
    refine lv_iload_n hx hb dX4_takesSecondDigit_27 rfl (lv_at hl 1 rfl) ?_
    refine x_iald F X (v := (f5 (mn - 1))) (n := 20) (f := f5) 6 rfl (vp_in_nI (by omega) (by omega)) (x_cl (by omega)) dX4_takesSecondDigit_28 ?_
    refine lv_imul hx hb dX4_takesSecondDigit_29 ?_
    refine lv_iload_n hx hb dX4_takesSecondDigit_30 rfl (lv_at hl 2 rfl) ?_
    refine lv_iadd hx hb dX4_takesSecondDigit_31 ?_
    refine lv_bipush (v := 48) hx hb dX4_takesSecondDigit_32 (by decide) ?_
    refine lv_isub hx hb dX4_takesSecondDigit_34 ?_
    refine x_iast F X (gs' := [rdW q d0 h0 (nI lc) pa, sW q h0 h1 h2 h3 h4 h5 f1 f2 f3 f4 (upd f5 (mn - 1) (((10 * (f5 (mn - 1))) + (nI c)) - 48)) (nI mn)]) (n := 20) (f := f5) (k := (mn - 1)) 6 rfl (vp_in_nI (by omega) (by omega)) (nI_clamp (by omega)) dX4_takesSecondDigit_35 rfl (fun H locs X => ?_)
    refine lv_aload_n hx hb dX4_takesSecondDigit_36 rfl (lv_at hl 0 rfl) ?_
    refine lv_bipush (v := 6) hx hb dX4_takesSecondDigit_37 (by decide) ?_
    refine x_put F X (gs' := [rdW q d0 h0 6 pa, sW q h0 h1 h2 h3 h4 h5 f1 f2 f3 f4 (upd f5 (mn - 1) (((10 * (f5 (mn - 1))) + (nI c)) - 48)) (nI mn)]) (v := .int 6) (C := RX4) (T := TX4) (N := 3) (ci := 4) in_X4 tyX4 tyX4_ok nmX4 0 rfl rfl 1 (by decide) mw_0 rfl rfl rfl (Nat.le_of_ble_eq_true rfl) dX4_takesSecondDigit_39 rfl (fun H locs X => ?_)
    refine lv_iconst (v := 1) hx hb dX4_takesSecondDigit_42 (by decide) ?_
    exact hret _ _ _ _ _ _ (by exact ⟨_, _, _, _, _, _, _, _, rfl, Or.inl ⟨rfl, rd_second hrd hpk c_5 hd⟩⟩) X dX4_takesSecondDigit_43
  · have c_5 : ¬ (lc = 5) := fun h => c_5 ((nI_eq (a := lc) (b := 5) (by omega) (by omega)).mpr h)
    refine lv_iconst (v := 0) hx hb dX4_takesSecondDigit_8 (by decide) ?_
    exact hret _ _ _ _ _ _ (by exact ⟨_, _, _, _, _, _, _, _, rfl, Or.inr ⟨rfl, rd_secondN hrd hz0 hz4 hd c_5⟩⟩) X dX4_takesSecondDigit_9

set_option maxHeartbeats 1000000 in
set_option maxRecDepth 100000 in
theorem c_X4_opens (l : Launch) (D : va_G) (q : xQ) (d0 : Nat) (h0 : Nat) (h1 : Nat) (h2 : Nat) (h3 : Nat) (h4 : Nat) (h5 : Nat) (mn : Nat) (lc : Nat) (f1 : Nat → Int32) (f2 : Nat → Int32) (f3 : Nat → Int32) (f4 : Nat → Int32) (f5 : Nat → Int32) (pa : Int32) (c : Nat) (la : Nat) (op : Int32) (to : Nat → Int32) (hrd : xRd mn la op to lc pa f1 f2 f3 f4 f5) (hpk : x_pk mn la op to) (hz0 : la ≠ 0) (hc : c = 40) : xMi l yX4_opens wsX4_opens { frames := 1, cells := 0, slots := 0, locals := 22 } D q [.ref d0, .int (nI (mn - 1))] [rdW q d0 h0 (nI lc) pa, sW q h0 h1 h2 h3 h4 h5 f1 f2 f3 f4 f5 (nI mn)] (fun r gw => ∃ (mn2 : Nat), ∃ (lc2 : Nat), ∃ (pa2 : Int32), ∃ (e1 : Nat → Int32), ∃ (e2 : Nat → Int32), ∃ (e3 : Nat → Int32), ∃ (e4 : Nat → Int32), ∃ (e5 : Nat → Int32), gw = [rdW q d0 h0 (nI lc2) pa2, sW q h0 h1 h2 h3 h4 h5 e1 e2 e3 e4 e5 (nI mn2)] ∧ ((r = 1 ∧ (xRy c mn la op to mn2 lc2 pa2 e1 e2 e3 e4 e5)) ∨ (r = 0 ∧ (x_step c mn la op to = none)))) := by
  refine xMi_of (cc := cX4_opens) (maxL := 2) (rt := .boolean) (by decide) rfl (Nat.le_of_ble_eq_true rfl) (fun v w h => by obtain ⟨_, _, _, _, _, _, _, _, _, (⟨rfl, _⟩ | ⟨rfl, _⟩)⟩ := h <;> rfl) ?_
  intro p9 e9 s9 m9 a9 below meth c9 A9 Z9 ls H locs F X hl hret
  have hx := F.1.1
  have hb := F.1.2.1
  have in_X4 : ∀ w ∈ wsX40, w ∈ wsX4_opens := by decide +kernel
  have mw_0 : Cond.fieldLink RX4 18 "HatWinds$Reader" "last" "I" ∈ wsX4_opens := by decide +kernel
  have mw_1 : Cond.initialized RX7 ∈ wsX4_opens := by decide +kernel
  have mw_2 : Cond.static yX7_isWithin ∈ wsX4_opens := by decide +kernel
  have mw_3 : Cond.fieldLink RX4 22 "HatWinds$Reader" "parent" "I" ∈ wsX4_opens := by decide +kernel
  have hl : lv_has ls 2 [(0, .ref d0), (1, .int (nI (mn - 1)))] := hl
  have hm20 := hpk.1
  have hl7 : lc ≤ 7 := hrd.1 ▸ x_lcle hpk.2.1
  refine lv_aload_n hx hb dX4_opens_0 rfl (lv_at hl 0 rfl) ?_
  refine x_get F X (v := .int (nI lc)) (C := RX4) (T := TX4) (N := 3) (ci := 4) in_X4 0 rfl rfl 1 (by decide) mw_0 rfl dX4_opens_1 ?_
  refine lv_iconst (v := 2) hx hb dX4_opens_4 (by decide) ?_
  refine lv_bipush (v := 6) hx hb dX4_opens_5 (by decide) ?_
  refine x_cNi F X (gc := []) (gr := [rdW q d0 h0 (nI lc) pa, sW q h0 h1 h2 h3 h4 h5 f1 f2 f3 f4 f5 (nI mn)]) (xp_idx (n := 2) [0, 1] (by decide +kernel) rfl rfl) (c_X7_isWithinN l D q lc 2 6 (by first | assumption | omega) (by first | assumption | omega) (by first | assumption | omega)) ⟨va_cnB (host := "HatWinds") 3 F.1.2.2.2.2 gX4_opens_X7_isWithin_n76 rfl rfl rfl (F.2.2 _ (List.mem_of_getElem? (i := 6) rfl)) (F.1.2.2.2.2 _ mw_1) (by decide +kernel) ⟨Nat.le_of_ble_eq_true rfl, Nat.le_of_ble_eq_true rfl⟩, F.1.2.2.2.2 _ mw_2, trivial⟩ rfl rfl hl.1 ⟨Nat.le_of_ble_eq_true rfl, Nat.le_of_ble_eq_true rfl⟩ (Nat.le_of_ble_eq_true rfl) dX4_opens_7 (fun r_7 g1 H locs hp X => ?_)
  obtain ⟨rfl, hz⟩ := hp
  have X : xS D A9 s9 [rdW q d0 h0 (nI lc) pa, sW q h0 h1 h2 h3 h4 h5 f1 f2 f3 f4 f5 (nI mn)] H locs := X
  rcases hz with ⟨rfl, b_7⟩ | ⟨rfl, b_7⟩
  · refine lv_if_ne (tgt := 15) hx hb dX4_opens_10 (by decide) (fun _ => ?_) (fun h => absurd h (by decide))
    refine lv_aload_n hx hb dX4_opens_15 rfl (lv_at hl 0 rfl) ?_
    refine lv_iload_n hx hb dX4_opens_16 rfl (lv_at hl 1 rfl) ?_
    refine x_put F X (gs' := [rdW q d0 h0 (nI lc) (nI (mn - 1)), sW q h0 h1 h2 h3 h4 h5 f1 f2 f3 f4 f5 (nI mn)]) (v := .int (nI (mn - 1))) (C := RX4) (T := TX4) (N := 3) (ci := 4) in_X4 tyX4 tyX4_ok nmX4 0 rfl rfl 2 (by decide) mw_3 rfl rfl rfl (Nat.le_of_ble_eq_true rfl) dX4_opens_17 rfl (fun H locs X => ?_)
    refine lv_aload_n hx hb dX4_opens_20 rfl (lv_at hl 0 rfl) ?_
    refine lv_iconst (v := 0) hx hb dX4_opens_21 (by decide) ?_
    refine x_put F X (gs' := [rdW q d0 h0 0 (nI (mn - 1)), sW q h0 h1 h2 h3 h4 h5 f1 f2 f3 f4 f5 (nI mn)]) (v := .int 0) (C := RX4) (T := TX4) (N := 3) (ci := 4) in_X4 tyX4 tyX4_ok nmX4 0 rfl rfl 1 (by decide) mw_0 rfl rfl rfl (Nat.le_of_ble_eq_true rfl) dX4_opens_22 rfl (fun H locs X => ?_)
    refine lv_iconst (v := 1) hx hb dX4_opens_25 (by decide) ?_
    exact hret _ _ _ _ _ _ (by exact ⟨_, _, _, _, _, _, _, _, rfl, Or.inl ⟨rfl, rd_open hrd hpk hc b_7⟩⟩) X dX4_opens_26
  · refine lv_if_ne (tgt := 15) hx hb dX4_opens_10 (by decide) (fun h => absurd (by decide) h) (fun _ => ?_)
    refine lv_iconst (v := 0) hx hb dX4_opens_13 (by decide) ?_
    exact hret _ _ _ _ _ _ (by exact ⟨_, _, _, _, _, _, _, _, rfl, Or.inr ⟨rfl, rd_openN hrd hpk hz0 hc b_7⟩⟩) X dX4_opens_14

set_option maxHeartbeats 1000000 in
set_option maxRecDepth 100000 in
theorem c_X4_goesOn (l : Launch) (D : va_G) (q : xQ) (d0 : Nat) (h0 : Nat) (h1 : Nat) (h2 : Nat) (h3 : Nat) (h4 : Nat) (h5 : Nat) (mn : Nat) (lc : Nat) (f1 : Nat → Int32) (f2 : Nat → Int32) (f3 : Nat → Int32) (f4 : Nat → Int32) (f5 : Nat → Int32) (pa : Int32) (c : Nat) (la : Nat) (op : Int32) (to : Nat → Int32) (hrd : xRd mn la op to lc pa f1 f2 f3 f4 f5) (hpk : x_pk mn la op to) (hz0 : la ≠ 0) (hz4 : la ≠ 4) (hc : c = 44) : xMi l yX4_goesOn wsX4_goesOn { frames := 2, cells := 0, slots := 0, locals := 42 } D q [.ref d0] [rdW q d0 h0 (nI lc) pa, sW q h0 h1 h2 h3 h4 h5 f1 f2 f3 f4 f5 (nI mn)] (fun r gw => ∃ (mn2 : Nat), ∃ (lc2 : Nat), ∃ (pa2 : Int32), ∃ (e1 : Nat → Int32), ∃ (e2 : Nat → Int32), ∃ (e3 : Nat → Int32), ∃ (e4 : Nat → Int32), ∃ (e5 : Nat → Int32), gw = [rdW q d0 h0 (nI lc2) pa2, sW q h0 h1 h2 h3 h4 h5 e1 e2 e3 e4 e5 (nI mn2)] ∧ ((r = 1 ∧ (xRy c mn la op to mn2 lc2 pa2 e1 e2 e3 e4 e5)) ∨ (r = 0 ∧ (x_step c mn la op to = none)))) := by
  refine xMi_of (cc := cX4_goesOn) (maxL := 1) (rt := .boolean) (by decide) rfl (Nat.le_of_ble_eq_true rfl) (fun v w h => by obtain ⟨_, _, _, _, _, _, _, _, _, (⟨rfl, _⟩ | ⟨rfl, _⟩)⟩ := h <;> rfl) ?_
  intro p9 e9 s9 m9 a9 below meth c9 A9 Z9 ls H locs F X hl hret
  have hx := F.1.1
  have hb := F.1.2.1
  have in_X4 : ∀ w ∈ wsX40, w ∈ wsX4_goesOn := by decide +kernel
  have mw_0 : Cond.fieldLink RX4 12 "HatWinds$Reader" "streets" "LHatWinds$Streets;" ∈ wsX4_goesOn := by decide +kernel
  have mw_1 : Cond.fieldLink RX4 22 "HatWinds$Reader" "parent" "I" ∈ wsX4_goesOn := by decide +kernel
  have mw_2 : Cond.initialized RX5 ∈ wsX4_goesOn := by decide +kernel
  have mw_3 : Cond.fieldLink RX4 18 "HatWinds$Reader" "last" "I" ∈ wsX4_goesOn := by decide +kernel
  have hl : lv_has ls 1 [(0, .ref d0)] := hl
  have hm20 := hpk.1
  have hl7 : lc ≤ 7 := hrd.1 ▸ x_lcle hpk.2.1
  refine lv_aload_n hx hb dX4_goesOn_0 rfl (lv_at hl 0 rfl) ?_
  refine x_get F X (v := .ref h0) (C := RX4) (T := TX4) (N := 3) (ci := 4) in_X4 0 rfl rfl 0 (by decide) mw_0 rfl dX4_goesOn_1 ?_
  refine lv_aload_n hx hb dX4_goesOn_4 rfl (lv_at hl 0 rfl) ?_
  refine x_get F X (v := .int pa) (C := RX4) (T := TX4) (N := 3) (ci := 4) in_X4 0 rfl rfl 2 (by decide) mw_1 rfl dX4_goesOn_5 ?_
  refine x_cVi F X (gc := [sW q h0 h1 h2 h3 h4 h5 f1 f2 f3 f4 f5 (nI mn)]) (gr := [rdW q d0 h0 (nI lc) pa]) (xp_idx (n := 2) [1, 0] (by decide +kernel) rfl rfl) (c_X5_has l D q h0 h1 h2 h3 h4 h5 mn f1 f2 f3 f4 f5 pa (by first | assumption | omega)) (cwV 1 F.1.2.2.2.2 gX4_goesOn_X5_has rfl rfl rfl (by decide +kernel) ⟨Nat.le_of_ble_eq_true rfl, Nat.le_of_ble_eq_true rfl⟩) rfl rfl (r0 := 0) (ci := 5) (T := TX5) (N := 6) rfl rfl hl.1 ⟨Nat.le_of_ble_eq_true rfl, Nat.le_of_ble_eq_true rfl⟩ (Nat.le_of_ble_eq_true rfl) dX4_goesOn_8 (fun r_8 g1 H locs hp X => ?_)
  obtain ⟨rfl, hz⟩ := hp
  have X := X.perm (gs' := [rdW q d0 h0 (nI lc) pa, sW q h0 h1 h2 h3 h4 h5 f1 f2 f3 f4 f5 (nI mn)]) (xp_idx (n := 2) [1, 0] (by decide +kernel) rfl rfl)
  rcases hz with ⟨rfl, b_8⟩ | ⟨rfl, b_8⟩
  · refine lv_if_ne (tgt := 16) hx hb dX4_goesOn_11 (by decide) (fun _ => ?_) (fun h => absurd h (by decide))
    refine lv_aload_n hx hb dX4_goesOn_16 rfl (lv_at hl 0 rfl) ?_
    refine lv_iconst (v := 0) hx hb dX4_goesOn_17 (by decide) ?_
    refine x_put F X (gs' := [rdW q d0 h0 0 pa, sW q h0 h1 h2 h3 h4 h5 f1 f2 f3 f4 f5 (nI mn)]) (v := .int 0) (C := RX4) (T := TX4) (N := 3) (ci := 4) in_X4 tyX4 tyX4_ok nmX4 0 rfl rfl 1 (by decide) mw_3 rfl rfl rfl (Nat.le_of_ble_eq_true rfl) dX4_goesOn_18 rfl (fun H locs X => ?_)
    refine lv_iconst (v := 1) hx hb dX4_goesOn_21 (by decide) ?_
    exact hret _ _ _ _ _ _ (by exact ⟨_, _, _, _, _, _, _, _, rfl, Or.inl ⟨rfl, rd_goes hrd hpk hz0 hz4 hc b_8⟩⟩) X dX4_goesOn_22
  · refine lv_if_ne (tgt := 16) hx hb dX4_goesOn_11 (by decide) (fun h => absurd (by decide) h) (fun _ => ?_)
    refine lv_iconst (v := 0) hx hb dX4_goesOn_14 (by decide) ?_
    exact hret _ _ _ _ _ _ (by exact ⟨_, _, _, _, _, _, _, _, rfl, Or.inr ⟨rfl, rd_goesN hrd hpk hz0 hc b_8⟩⟩) X dX4_goesOn_15

set_option maxHeartbeats 1000000 in
set_option maxRecDepth 100000 in
theorem c_X4_closes (l : Launch) (D : va_G) (q : xQ) (d0 : Nat) (h0 : Nat) (h1 : Nat) (h2 : Nat) (h3 : Nat) (h4 : Nat) (h5 : Nat) (mn : Nat) (lc : Nat) (f1 : Nat → Int32) (f2 : Nat → Int32) (f3 : Nat → Int32) (f4 : Nat → Int32) (f5 : Nat → Int32) (pa : Int32) (c : Nat) (la : Nat) (op : Int32) (to : Nat → Int32) (hrd : xRd mn la op to lc pa f1 f2 f3 f4 f5) (hpk : x_pk mn la op to) (hz0 : la ≠ 0) (hz4 : la ≠ 4) (hc : c = 41) : xMi l yX4_closes wsX4_closes { frames := 2, cells := 0, slots := 0, locals := 42 } D q [.ref d0] [rdW q d0 h0 (nI lc) pa, sW q h0 h1 h2 h3 h4 h5 f1 f2 f3 f4 f5 (nI mn)] (fun r gw => ∃ (mn2 : Nat), ∃ (lc2 : Nat), ∃ (pa2 : Int32), ∃ (e1 : Nat → Int32), ∃ (e2 : Nat → Int32), ∃ (e3 : Nat → Int32), ∃ (e4 : Nat → Int32), ∃ (e5 : Nat → Int32), gw = [rdW q d0 h0 (nI lc2) pa2, sW q h0 h1 h2 h3 h4 h5 e1 e2 e3 e4 e5 (nI mn2)] ∧ ((r = 1 ∧ (xRy c mn la op to mn2 lc2 pa2 e1 e2 e3 e4 e5)) ∨ (r = 0 ∧ (x_step c mn la op to = none)))) := by
  refine xMi_of (cc := cX4_closes) (maxL := 1) (rt := .boolean) (by decide) rfl (Nat.le_of_ble_eq_true rfl) (fun v w h => by obtain ⟨_, _, _, _, _, _, _, _, _, (⟨rfl, _⟩ | ⟨rfl, _⟩)⟩ := h <;> rfl) ?_
  intro p9 e9 s9 m9 a9 below meth c9 A9 Z9 ls H locs F X hl hret
  have hx := F.1.1
  have hb := F.1.2.1
  have in_X4 : ∀ w ∈ wsX40, w ∈ wsX4_closes := by decide +kernel
  have in_X5 : ∀ w ∈ wsX50, w ∈ wsX4_closes := by decide +kernel
  have mw_0 : Cond.fieldLink RX4 12 "HatWinds$Reader" "streets" "LHatWinds$Streets;" ∈ wsX4_closes := by decide +kernel
  have mw_1 : Cond.fieldLink RX4 22 "HatWinds$Reader" "parent" "I" ∈ wsX4_closes := by decide +kernel
  have mw_2 : Cond.initialized RX5 ∈ wsX4_closes := by decide +kernel
  have mw_3 : Cond.fieldLink RX4 100 "HatWinds$Streets" "from" "[I" ∈ wsX4_closes := by decide +kernel
  have mw_4 : Cond.fieldLink RX4 18 "HatWinds$Reader" "last" "I" ∈ wsX4_closes := by decide +kernel
  have hl : lv_has ls 1 [(0, .ref d0)] := hl
  have hm20 := hpk.1
  have hl7 : lc ≤ 7 := hrd.1 ▸ x_lcle hpk.2.1
  refine lv_aload_n hx hb dX4_closes_0 rfl (lv_at hl 0 rfl) ?_
  refine x_get F X (v := .ref h0) (C := RX4) (T := TX4) (N := 3) (ci := 4) in_X4 0 rfl rfl 0 (by decide) mw_0 rfl dX4_closes_1 ?_
  refine lv_aload_n hx hb dX4_closes_4 rfl (lv_at hl 0 rfl) ?_
  refine x_get F X (v := .int pa) (C := RX4) (T := TX4) (N := 3) (ci := 4) in_X4 0 rfl rfl 2 (by decide) mw_1 rfl dX4_closes_5 ?_
  refine x_cVi F X (gc := [sW q h0 h1 h2 h3 h4 h5 f1 f2 f3 f4 f5 (nI mn)]) (gr := [rdW q d0 h0 (nI lc) pa]) (xp_idx (n := 2) [1, 0] (by decide +kernel) rfl rfl) (c_X5_has l D q h0 h1 h2 h3 h4 h5 mn f1 f2 f3 f4 f5 pa (by first | assumption | omega)) (cwV 1 F.1.2.2.2.2 gX4_closes_X5_has rfl rfl rfl (by decide +kernel) ⟨Nat.le_of_ble_eq_true rfl, Nat.le_of_ble_eq_true rfl⟩) rfl rfl (r0 := 0) (ci := 5) (T := TX5) (N := 6) rfl rfl hl.1 ⟨Nat.le_of_ble_eq_true rfl, Nat.le_of_ble_eq_true rfl⟩ (Nat.le_of_ble_eq_true rfl) dX4_closes_8 (fun r_8 g1 H locs hp X => ?_)
  obtain ⟨rfl, hz⟩ := hp
  have X := X.perm (gs' := [rdW q d0 h0 (nI lc) pa, sW q h0 h1 h2 h3 h4 h5 f1 f2 f3 f4 f5 (nI mn)]) (xp_idx (n := 2) [1, 0] (by decide +kernel) rfl rfl)
  rcases hz with ⟨rfl, b_8⟩ | ⟨rfl, b_8⟩
  · refine lv_if_ne (tgt := 16) hx hb dX4_closes_11 (by decide) (fun _ => ?_) (fun h => absurd h (by decide))
    obtain ⟨o, ho, eo⟩ := b_8
    refine lv_aload_n hx hb dX4_closes_16 rfl (lv_at hl 0 rfl) ?_
    refine lv_aload_n hx hb dX4_closes_17 rfl (lv_at hl 0 rfl) ?_
    refine x_get F X (v := .ref h0) (C := RX4) (T := TX4) (N := 3) (ci := 4) in_X4 0 rfl rfl 0 (by decide) mw_0 rfl dX4_closes_18 ?_
    refine x_get F X (v := .ref h1) (C := RX5) (T := TX5) (N := 6) (ci := 5) in_X5 1 rfl rfl 0 (by decide) mw_3 rfl dX4_closes_21 ?_
    refine lv_aload_n hx hb dX4_closes_24 rfl (lv_at hl 0 rfl) ?_
    refine x_get F X (v := .int pa) (C := RX4) (T := TX4) (N := 3) (ci := 4) in_X4 0 rfl rfl 2 (by decide) mw_1 rfl dX4_closes_25 ?_
    refine x_iald F X (v := (f1 o)) (n := 20) (f := f1) 2 rfl (by rw [eo]; exact vp_in_nI (by omega) (by omega)) (by rw [eo]; exact x_cl (by omega)) dX4_closes_28 ?_
    refine x_put F X (gs' := [rdW q d0 h0 (nI lc) (f1 o), sW q h0 h1 h2 h3 h4 h5 f1 f2 f3 f4 f5 (nI mn)]) (v := .int (f1 o)) (C := RX4) (T := TX4) (N := 3) (ci := 4) in_X4 tyX4 tyX4_ok nmX4 0 rfl rfl 2 (by decide) mw_1 rfl rfl rfl (Nat.le_of_ble_eq_true rfl) dX4_closes_29 rfl (fun H locs X => ?_)
    refine lv_aload_n hx hb dX4_closes_32 rfl (lv_at hl 0 rfl) ?_
    refine lv_bipush (v := 7) hx hb dX4_closes_33 (by decide) ?_
    refine x_put F X (gs' := [rdW q d0 h0 7 (f1 o), sW q h0 h1 h2 h3 h4 h5 f1 f2 f3 f4 f5 (nI mn)]) (v := .int 7) (C := RX4) (T := TX4) (N := 3) (ci := 4) in_X4 tyX4 tyX4_ok nmX4 0 rfl rfl 1 (by decide) mw_4 rfl rfl rfl (Nat.le_of_ble_eq_true rfl) dX4_closes_35 rfl (fun H locs X => ?_)
    refine lv_iconst (v := 1) hx hb dX4_closes_38 (by decide) ?_
    exact hret _ _ _ _ _ _ (by exact ⟨_, _, _, _, _, _, _, _, rfl, Or.inl ⟨rfl, rd_close hrd hpk hz0 hz4 hc ho eo⟩⟩) X dX4_closes_39
  · refine lv_if_ne (tgt := 16) hx hb dX4_closes_11 (by decide) (fun h => absurd (by decide) h) (fun _ => ?_)
    refine lv_iconst (v := 0) hx hb dX4_closes_14 (by decide) ?_
    exact hret _ _ _ _ _ _ (by exact ⟨_, _, _, _, _, _, _, _, rfl, Or.inr ⟨rfl, rd_closeN hrd hpk hz0 hc b_8⟩⟩) X dX4_closes_15

set_option maxHeartbeats 1000000 in
set_option maxRecDepth 100000 in
theorem c_X4_takes (l : Launch) (D : va_G) (q : xQ) (d0 : Nat) (h0 : Nat) (h1 : Nat) (h2 : Nat) (h3 : Nat) (h4 : Nat) (h5 : Nat) (mn : Nat) (lc : Nat) (f1 : Nat → Int32) (f2 : Nat → Int32) (f3 : Nat → Int32) (f4 : Nat → Int32) (f5 : Nat → Int32) (pa : Int32) (c : Nat) (la : Nat) (op : Int32) (to : Nat → Int32) (hrd : xRd mn la op to lc pa f1 f2 f3 f4 f5) (hpk : x_pk mn la op to) (hc : c < 65536) : xMi l yX4_takes wsX4_takes { frames := 3, cells := 0, slots := 0, locals := 65 } D q [.ref d0, .int (nI c)] [rdW q d0 h0 (nI lc) pa, sW q h0 h1 h2 h3 h4 h5 f1 f2 f3 f4 f5 (nI mn)] (fun r gw => ∃ (mn2 : Nat), ∃ (lc2 : Nat), ∃ (pa2 : Int32), ∃ (e1 : Nat → Int32), ∃ (e2 : Nat → Int32), ∃ (e3 : Nat → Int32), ∃ (e4 : Nat → Int32), ∃ (e5 : Nat → Int32), gw = [rdW q d0 h0 (nI lc2) pa2, sW q h0 h1 h2 h3 h4 h5 e1 e2 e3 e4 e5 (nI mn2)] ∧ ((r = 1 ∧ (xRy c mn la op to mn2 lc2 pa2 e1 e2 e3 e4 e5)) ∨ (r = 0 ∧ (x_step c mn la op to = none)))) := by
  refine xMi_of (cc := cX4_takes) (maxL := 3) (rt := .boolean) (by decide) rfl (Nat.le_of_ble_eq_true rfl) (fun v w h => by obtain ⟨_, _, _, _, _, _, _, _, _, (⟨rfl, _⟩ | ⟨rfl, _⟩)⟩ := h <;> rfl) ?_
  intro p9 e9 s9 m9 a9 below meth c9 A9 Z9 ls H locs F X hl hret
  have hx := F.1.1
  have hb := F.1.2.1
  have in_X4 : ∀ w ∈ wsX40, w ∈ wsX4_takes := by decide +kernel
  have in_X5 : ∀ w ∈ wsX50, w ∈ wsX4_takes := by decide +kernel
  have mw_0 : Cond.fieldLink RX4 12 "HatWinds$Reader" "streets" "LHatWinds$Streets;" ∈ wsX4_takes := by decide +kernel
  have mw_1 : Cond.fieldLink RX4 41 "HatWinds$Streets" "number" "I" ∈ wsX4_takes := by decide +kernel
  have mw_2 : Cond.fieldLink RX4 18 "HatWinds$Reader" "last" "I" ∈ wsX4_takes := by decide +kernel
  have mw_3 : Cond.initialized RX4 ∈ wsX4_takes := by decide +kernel
  have hl : lv_has ls 3 [(0, .ref d0), (1, .int (nI c))] := hl
  have hm20 := hpk.1
  have hl7 : lc ≤ 7 := hrd.1 ▸ x_lcle hpk.2.1
  refine lv_aload_n hx hb dX4_takes_0 rfl (lv_at hl 0 rfl) ?_
  refine x_get F X (v := .ref h0) (C := RX4) (T := TX4) (N := 3) (ci := 4) in_X4 0 rfl rfl 0 (by decide) mw_0 rfl dX4_takes_1 ?_
  refine x_get F X (v := .int (nI mn)) (C := RX5) (T := TX5) (N := 6) (ci := 5) in_X5 1 rfl rfl 5 (by decide) mw_1 rfl dX4_takes_4 ?_
  refine lv_iconst (v := 1) hx hb dX4_takes_7 (by decide) ?_
  refine lv_isub hx hb dX4_takes_8 ?_
  refine lv_istore_n (lv' := [(2, .int ((nI mn) - 1)), (0, .ref d0), (1, .int (nI c))]) hx hb dX4_takes_9 rfl hl (by decide) rfl (fun ls hl => ?_)
  refine lv_aload_n hx hb dX4_takes_10 rfl (lv_at hl 1 rfl) ?_
  refine x_get F X (v := .int (nI lc)) (C := RX4) (T := TX4) (N := 3) (ci := 4) in_X4 0 rfl rfl 1 (by decide) mw_2 rfl dX4_takes_11 ?_
  refine lv_if_eq (tgt := 21) hx hb dX4_takes_14 (by decide) (fun c_14 => ?_) (fun c_14 => ?_)
  · have c_14 : lc = 0 := (nI_eq (a := lc) (b := 0) (by omega) (by omega)).mp c_14
    refine lv_aload_n hx hb dX4_takes_21 rfl (lv_at hl 1 rfl) ?_
    refine lv_iload_n hx hb dX4_takes_22 rfl (lv_at hl 2 rfl) ?_
    refine x_cVi F X (gc := [rdW q d0 h0 (nI lc) pa, sW q h0 h1 h2 h3 h4 h5 f1 f2 f3 f4 f5 (nI mn)]) (gr := []) (xp_idx (n := 2) [0, 1] (by decide +kernel) rfl rfl) (c_X4_takesWidth l D q d0 h0 h1 h2 h3 h4 h5 mn lc f1 f2 f3 f4 f5 pa c la op to (by first | assumption | omega) (by first | assumption | omega) (by first | assumption | omega) (by exact x_lc0.mp (hrd.1 ▸ c_14))) (cwV 1 F.1.2.2.2.2 gX4_takes_X4_takesWidth rfl rfl rfl (by decide +kernel) ⟨Nat.le_of_ble_eq_true rfl, Nat.le_of_ble_eq_true rfl⟩) rfl rfl (r0 := 0) (ci := 4) (T := TX4) (N := 3) rfl rfl hl.1 ⟨Nat.le_of_ble_eq_true rfl, Nat.le_of_ble_eq_true rfl⟩ (Nat.le_of_ble_eq_true rfl) dX4_takes_23 (fun r_23 g1 H locs hp X => ?_)
    obtain ⟨mn2_23, lc2_23, pa2_23, e1_23, e2_23, e3_23, e4_23, e5_23, rfl, hz⟩ := hp
    have X : xS D A9 s9 [rdW q d0 h0 (nI lc2_23) pa2_23, sW q h0 h1 h2 h3 h4 h5 e1_23 e2_23 e3_23 e4_23 e5_23 (nI mn2_23)] H locs := X
    rcases hz with ⟨rfl, b_23⟩ | ⟨rfl, b_23⟩
    · exact hret _ _ _ _ _ _ (by exact ⟨_, _, _, _, _, _, _, _, rfl, Or.inl ⟨rfl, b_23⟩⟩) X dX4_takes_26
    · exact hret _ _ _ _ _ _ (by exact ⟨_, _, _, _, _, _, _, _, rfl, Or.inr ⟨rfl, b_23⟩⟩) X dX4_takes_26
  · have c_14 : ¬ (lc = 0) := fun h => c_14 ((nI_eq (a := lc) (b := 0) (by omega) (by omega)).mpr h)
    have hz0 : la ≠ 0 := fun e => c_14 (by rw [hrd.1]; exact x_lc0.mpr e)
    have hmn : 1 ≤ mn := x_pk_mn hpk hz0
    refine lv_iload_n hx hb dX4_takes_17 rfl (lv_at hl 0 rfl) ?_
    refine x_i (y := (nI (mn - 1))) (x_pred hmn) ?_
    refine lv_if_ge (tgt := 27) hx hb dX4_takes_18 (by decide) (fun c_18 => ?_) (fun c_18 => ?_)
    rotate_left
    · exfalso
      have c_18 : mn - 1 < 0 := Nat.not_le.mp (fun h => c_18 ((nI_leI (a := 0) (b := mn - 1) (by omega) (by omega)).mpr h))
      omega
    have c_18 : 0 ≤ mn - 1 := (nI_leI (a := 0) (b := mn - 1) (by omega) (by omega)).mp c_18
    refine lv_aload_n hx hb dX4_takes_27 rfl (lv_at hl 1 rfl) ?_
    refine x_get F X (v := .int (nI lc)) (C := RX4) (T := TX4) (N := 3) (ci := 4) in_X4 0 rfl rfl 1 (by decide) mw_2 rfl dX4_takes_28 ?_
    refine lv_iconst (v := 1) hx hb dX4_takes_31 (by decide) ?_
    refine lv_icmp_ne (tgt := 42) hx hb dX4_takes_32 (by decide) (fun c_32 => ?_) (fun c_32 => ?_)
    · have c_32 : ¬ (lc = 1) := fun h => c_32 ((nI_eq (a := lc) (b := 1) (by omega) (by omega)).mpr h)
      have hz4 : la ≠ 4 := fun e => c_32 (by rw [hrd.1]; exact x_lc1.mpr e)
      refine lv_iload_n hx hb dX4_takes_42 rfl (lv_at hl 2 rfl) ?_
      have D_43 : (c ≠ 33 ∧ c ≠ 40 ∧ c ≠ 41 ∧ c ≠ 42 ∧ c ≠ 44) → W p9 l e9 { frames := 3, cells := 0, slots := 0, locals := 65 } s9 m9 a9 below meth c9 H locs 0 0 Z9 (F0 m9 131 ls []) := by
        intro c_43
        refine lv_iload_n hx hb dX4_takes_131 rfl (lv_at hl 2 rfl) ?_
        refine x_cSi F X (gc := []) (gr := [rdW q d0 h0 (nI lc) pa, sW q h0 h1 h2 h3 h4 h5 f1 f2 f3 f4 f5 (nI mn)]) (xp_idx (n := 2) [0, 1] (by decide +kernel) rfl rfl) (c_X4_isDigit l D q c (by first | assumption | omega)) (va_cwS 1 F.1.2.2.2.2 gX4_takes_X4_isDigit rfl rfl rfl (by decide +kernel) ⟨Nat.le_of_ble_eq_true rfl, Nat.le_of_ble_eq_true rfl⟩) rfl rfl hl.1 ⟨Nat.le_of_ble_eq_true rfl, Nat.le_of_ble_eq_true rfl⟩ (Nat.le_of_ble_eq_true rfl) dX4_takes_132 (fun r_132 g1 H locs hp X => ?_)
        obtain ⟨rfl, hz⟩ := hp
        have X : xS D A9 s9 [rdW q d0 h0 (nI lc) pa, sW q h0 h1 h2 h3 h4 h5 f1 f2 f3 f4 f5 (nI mn)] H locs := X
        rcases hz with ⟨rfl, b_132⟩ | ⟨rfl, b_132⟩
        · refine lv_if_eq (tgt := 147) hx hb dX4_takes_135 (by decide) (fun h => absurd h (by decide)) (fun _ => ?_)
          refine lv_aload_n hx hb dX4_takes_138 rfl (lv_at hl 1 rfl) ?_
          refine lv_iload_n hx hb dX4_takes_139 rfl (lv_at hl 0 rfl) ?_
          refine x_i (y := (nI (mn - 1))) (x_pred hmn) ?_
          refine lv_iload_n hx hb dX4_takes_140 rfl (lv_at hl 2 rfl) ?_
          refine x_cVi F X (gc := [rdW q d0 h0 (nI lc) pa, sW q h0 h1 h2 h3 h4 h5 f1 f2 f3 f4 f5 (nI mn)]) (gr := []) (xp_idx (n := 2) [0, 1] (by decide +kernel) rfl rfl) (c_X4_takesSecondDigit l D q d0 h0 h1 h2 h3 h4 h5 mn lc f1 f2 f3 f4 f5 pa c la op to (by first | assumption | omega) (by first | assumption | omega) (by first | assumption | omega) (by first | assumption | omega) (by first | assumption | omega) (by exact b_132)) (cwV 2 F.1.2.2.2.2 gX4_takes_X4_takesSecondDigit rfl rfl rfl (by decide +kernel) ⟨Nat.le_of_ble_eq_true rfl, Nat.le_of_ble_eq_true rfl⟩) rfl rfl (r0 := 0) (ci := 4) (T := TX4) (N := 3) rfl rfl hl.1 ⟨Nat.le_of_ble_eq_true rfl, Nat.le_of_ble_eq_true rfl⟩ (Nat.le_of_ble_eq_true rfl) dX4_takes_141 (fun r_141 g1 H locs hp X => ?_)
          obtain ⟨mn2_141, lc2_141, pa2_141, e1_141, e2_141, e3_141, e4_141, e5_141, rfl, hz⟩ := hp
          have X : xS D A9 s9 [rdW q d0 h0 (nI lc2_141) pa2_141, sW q h0 h1 h2 h3 h4 h5 e1_141 e2_141 e3_141 e4_141 e5_141 (nI mn2_141)] H locs := X
          rcases hz with ⟨rfl, b_141⟩ | ⟨rfl, b_141⟩
          · refine lv_goto (tgt := 153) hx hb dX4_takes_144 (by decide) ?_
            exact hret _ _ _ _ _ _ (by exact ⟨_, _, _, _, _, _, _, _, rfl, Or.inl ⟨rfl, b_141⟩⟩) X dX4_takes_153
          · refine lv_goto (tgt := 153) hx hb dX4_takes_144 (by decide) ?_
            exact hret _ _ _ _ _ _ (by exact ⟨_, _, _, _, _, _, _, _, rfl, Or.inr ⟨rfl, b_141⟩⟩) X dX4_takes_153
        · refine lv_if_eq (tgt := 147) hx hb dX4_takes_135 (by decide) (fun _ => ?_) (fun h => absurd (by decide) h)
          refine lv_aload_n hx hb dX4_takes_147 rfl (lv_at hl 1 rfl) ?_
          refine lv_iload_n hx hb dX4_takes_148 rfl (lv_at hl 0 rfl) ?_
          refine x_i (y := (nI (mn - 1))) (x_pred hmn) ?_
          refine lv_iload_n hx hb dX4_takes_149 rfl (lv_at hl 2 rfl) ?_
          refine x_cVi F X (gc := [rdW q d0 h0 (nI lc) pa, sW q h0 h1 h2 h3 h4 h5 f1 f2 f3 f4 f5 (nI mn)]) (gr := []) (xp_idx (n := 2) [0, 1] (by decide +kernel) rfl rfl) (c_X4_takesFlag l D q d0 h0 h1 h2 h3 h4 h5 mn lc f1 f2 f3 f4 f5 pa c la op to (by first | assumption | omega) (by first | assumption | omega) (by first | assumption | omega) (by first | assumption | omega) (by first | assumption | omega) (by omega) (by exact b_132)) (cwV 2 F.1.2.2.2.2 gX4_takes_X4_takesFlag rfl rfl rfl (by decide +kernel) ⟨Nat.le_of_ble_eq_true rfl, Nat.le_of_ble_eq_true rfl⟩) rfl rfl (r0 := 0) (ci := 4) (T := TX4) (N := 3) rfl rfl hl.1 ⟨Nat.le_of_ble_eq_true rfl, Nat.le_of_ble_eq_true rfl⟩ (Nat.le_of_ble_eq_true rfl) dX4_takes_150 (fun r_150 g1 H locs hp X => ?_)
          obtain ⟨mn2_150, lc2_150, pa2_150, e1_150, e2_150, e3_150, e4_150, e5_150, rfl, hz⟩ := hp
          have X : xS D A9 s9 [rdW q d0 h0 (nI lc2_150) pa2_150, sW q h0 h1 h2 h3 h4 h5 e1_150 e2_150 e3_150 e4_150 e5_150 (nI mn2_150)] H locs := X
          rcases hz with ⟨rfl, b_150⟩ | ⟨rfl, b_150⟩
          · exact hret _ _ _ _ _ _ (by exact ⟨_, _, _, _, _, _, _, _, rfl, Or.inl ⟨rfl, b_150⟩⟩) X dX4_takes_153
          · exact hret _ _ _ _ _ _ (by exact ⟨_, _, _, _, _, _, _, _, rfl, Or.inr ⟨rfl, b_150⟩⟩) X dX4_takes_153
      rcases x_swn c 33 44 with c_43 | c_43
      · exact lv_tableOut (tgt := 131) hx hb dX4_takes_43 (x_swo (by omega) c_43 (by decide) (by decide)) (by decide) (D_43 (by omega))
      rcases (show c = 33 ∨ c = 34 ∨ c = 35 ∨ c = 36 ∨ c = 37 ∨ c = 38 ∨ c = 39 ∨ c = 40 ∨ c = 41 ∨ c = 42 ∨ c = 43 ∨ c = 44 by omega) with c_43e | c_43e | c_43e | c_43e | c_43e | c_43e | c_43e | c_43e | c_43e | c_43e | c_43e | c_43e
      · refine x_i (y := 33) (by rw [c_43e]; rfl) (lv_tableIn (off := 61) (tgt := 104) hx hb dX4_takes_43 (by decide) (by decide) (by decide) (by decide) ?_)
        refine lv_aload_n hx hb dX4_takes_104 rfl (lv_at hl 1 rfl) ?_
        refine lv_iload_n hx hb dX4_takes_105 rfl (lv_at hl 0 rfl) ?_
        refine x_i (y := (nI (mn - 1))) (x_pred hmn) ?_
        refine x_cVi F X (gc := [rdW q d0 h0 (nI lc) pa, sW q h0 h1 h2 h3 h4 h5 f1 f2 f3 f4 f5 (nI mn)]) (gr := []) (xp_idx (n := 2) [0, 1] (by decide +kernel) rfl rfl) (c_X4_takesSmoke l D q d0 h0 h1 h2 h3 h4 h5 mn lc f1 f2 f3 f4 f5 pa c la op to (by first | assumption | omega) (by first | assumption | omega) (by first | assumption | omega) (by first | assumption | omega)) (cwV 1 F.1.2.2.2.2 gX4_takes_X4_takesSmoke rfl rfl rfl (by decide +kernel) ⟨Nat.le_of_ble_eq_true rfl, Nat.le_of_ble_eq_true rfl⟩) rfl rfl (r0 := 0) (ci := 4) (T := TX4) (N := 3) rfl rfl hl.1 ⟨Nat.le_of_ble_eq_true rfl, Nat.le_of_ble_eq_true rfl⟩ (Nat.le_of_ble_eq_true rfl) dX4_takes_106 (fun r_106 g1 H locs hp X => ?_)
        obtain ⟨mn2_106, lc2_106, pa2_106, e1_106, e2_106, e3_106, e4_106, e5_106, rfl, hz⟩ := hp
        have X : xS D A9 s9 [rdW q d0 h0 (nI lc2_106) pa2_106, sW q h0 h1 h2 h3 h4 h5 e1_106 e2_106 e3_106 e4_106 e5_106 (nI mn2_106)] H locs := X
        rcases hz with ⟨rfl, b_106⟩ | ⟨rfl, b_106⟩
        · exact hret _ _ _ _ _ _ (by exact ⟨_, _, _, _, _, _, _, _, rfl, Or.inl ⟨rfl, b_106⟩⟩) X dX4_takes_109
        · exact hret _ _ _ _ _ _ (by exact ⟨_, _, _, _, _, _, _, _, rfl, Or.inr ⟨rfl, b_106⟩⟩) X dX4_takes_109
      · refine x_i (y := 34) (by rw [c_43e]; rfl) (lv_tableIn (off := 88) (tgt := 131) hx hb dX4_takes_43 (by decide) (by decide) (by decide) (by decide) ?_)
        exact D_43 (by omega)
      · refine x_i (y := 35) (by rw [c_43e]; rfl) (lv_tableIn (off := 88) (tgt := 131) hx hb dX4_takes_43 (by decide) (by decide) (by decide) (by decide) ?_)
        exact D_43 (by omega)
      · refine x_i (y := 36) (by rw [c_43e]; rfl) (lv_tableIn (off := 88) (tgt := 131) hx hb dX4_takes_43 (by decide) (by decide) (by decide) (by decide) ?_)
        exact D_43 (by omega)
      · refine x_i (y := 37) (by rw [c_43e]; rfl) (lv_tableIn (off := 88) (tgt := 131) hx hb dX4_takes_43 (by decide) (by decide) (by decide) (by decide) ?_)
        exact D_43 (by omega)
      · refine x_i (y := 38) (by rw [c_43e]; rfl) (lv_tableIn (off := 88) (tgt := 131) hx hb dX4_takes_43 (by decide) (by decide) (by decide) (by decide) ?_)
        exact D_43 (by omega)
      · refine x_i (y := 39) (by rw [c_43e]; rfl) (lv_tableIn (off := 88) (tgt := 131) hx hb dX4_takes_43 (by decide) (by decide) (by decide) (by decide) ?_)
        exact D_43 (by omega)
      · refine x_i (y := 40) (by rw [c_43e]; rfl) (lv_tableIn (off := 72) (tgt := 115) hx hb dX4_takes_43 (by decide) (by decide) (by decide) (by decide) ?_)
        refine lv_aload_n hx hb dX4_takes_115 rfl (lv_at hl 1 rfl) ?_
        refine lv_iload_n hx hb dX4_takes_116 rfl (lv_at hl 0 rfl) ?_
        refine x_i (y := (nI (mn - 1))) (x_pred hmn) ?_
        refine x_cVi F X (gc := [rdW q d0 h0 (nI lc) pa, sW q h0 h1 h2 h3 h4 h5 f1 f2 f3 f4 f5 (nI mn)]) (gr := []) (xp_idx (n := 2) [0, 1] (by decide +kernel) rfl rfl) (c_X4_opens l D q d0 h0 h1 h2 h3 h4 h5 mn lc f1 f2 f3 f4 f5 pa c la op to (by first | assumption | omega) (by first | assumption | omega) (by first | assumption | omega) (by first | assumption | omega)) (cwV 1 F.1.2.2.2.2 gX4_takes_X4_opens rfl rfl rfl (by decide +kernel) ⟨Nat.le_of_ble_eq_true rfl, Nat.le_of_ble_eq_true rfl⟩) rfl rfl (r0 := 0) (ci := 4) (T := TX4) (N := 3) rfl rfl hl.1 ⟨Nat.le_of_ble_eq_true rfl, Nat.le_of_ble_eq_true rfl⟩ (Nat.le_of_ble_eq_true rfl) dX4_takes_117 (fun r_117 g1 H locs hp X => ?_)
        obtain ⟨mn2_117, lc2_117, pa2_117, e1_117, e2_117, e3_117, e4_117, e5_117, rfl, hz⟩ := hp
        have X : xS D A9 s9 [rdW q d0 h0 (nI lc2_117) pa2_117, sW q h0 h1 h2 h3 h4 h5 e1_117 e2_117 e3_117 e4_117 e5_117 (nI mn2_117)] H locs := X
        rcases hz with ⟨rfl, b_117⟩ | ⟨rfl, b_117⟩
        · exact hret _ _ _ _ _ _ (by exact ⟨_, _, _, _, _, _, _, _, rfl, Or.inl ⟨rfl, b_117⟩⟩) X dX4_takes_120
        · exact hret _ _ _ _ _ _ (by exact ⟨_, _, _, _, _, _, _, _, rfl, Or.inr ⟨rfl, b_117⟩⟩) X dX4_takes_120
      · refine x_i (y := 41) (by rw [c_43e]; rfl) (lv_tableIn (off := 83) (tgt := 126) hx hb dX4_takes_43 (by decide) (by decide) (by decide) (by decide) ?_)
        refine lv_aload_n hx hb dX4_takes_126 rfl (lv_at hl 1 rfl) ?_
        refine x_cVi F X (gc := [rdW q d0 h0 (nI lc) pa, sW q h0 h1 h2 h3 h4 h5 f1 f2 f3 f4 f5 (nI mn)]) (gr := []) (xp_idx (n := 2) [0, 1] (by decide +kernel) rfl rfl) (c_X4_closes l D q d0 h0 h1 h2 h3 h4 h5 mn lc f1 f2 f3 f4 f5 pa c la op to (by first | assumption | omega) (by first | assumption | omega) (by first | assumption | omega) (by first | assumption | omega) (by first | assumption | omega)) (cwV 0 F.1.2.2.2.2 gX4_takes_X4_closes rfl rfl rfl (by decide +kernel) ⟨Nat.le_of_ble_eq_true rfl, Nat.le_of_ble_eq_true rfl⟩) rfl rfl (r0 := 0) (ci := 4) (T := TX4) (N := 3) rfl rfl hl.1 ⟨Nat.le_of_ble_eq_true rfl, Nat.le_of_ble_eq_true rfl⟩ (Nat.le_of_ble_eq_true rfl) dX4_takes_127 (fun r_127 g1 H locs hp X => ?_)
        obtain ⟨mn2_127, lc2_127, pa2_127, e1_127, e2_127, e3_127, e4_127, e5_127, rfl, hz⟩ := hp
        have X : xS D A9 s9 [rdW q d0 h0 (nI lc2_127) pa2_127, sW q h0 h1 h2 h3 h4 h5 e1_127 e2_127 e3_127 e4_127 e5_127 (nI mn2_127)] H locs := X
        rcases hz with ⟨rfl, b_127⟩ | ⟨rfl, b_127⟩
        · exact hret _ _ _ _ _ _ (by exact ⟨_, _, _, _, _, _, _, _, rfl, Or.inl ⟨rfl, b_127⟩⟩) X dX4_takes_130
        · exact hret _ _ _ _ _ _ (by exact ⟨_, _, _, _, _, _, _, _, rfl, Or.inr ⟨rfl, b_127⟩⟩) X dX4_takes_130
      · refine x_i (y := 42) (by rw [c_43e]; rfl) (lv_tableIn (off := 67) (tgt := 110) hx hb dX4_takes_43 (by decide) (by decide) (by decide) (by decide) ?_)
        refine lv_aload_n hx hb dX4_takes_110 rfl (lv_at hl 1 rfl) ?_
        refine x_cVi F X (gc := [rdW q d0 h0 (nI lc) pa, sW q h0 h1 h2 h3 h4 h5 f1 f2 f3 f4 f5 (nI mn)]) (gr := []) (xp_idx (n := 2) [0, 1] (by decide +kernel) rfl rfl) (c_X4_takesStar l D q d0 h0 h1 h2 h3 h4 h5 mn lc f1 f2 f3 f4 f5 pa c la op to (by first | assumption | omega) (by first | assumption | omega) (by first | assumption | omega) (by first | assumption | omega)) (cwV 0 F.1.2.2.2.2 gX4_takes_X4_takesStar rfl rfl rfl (by decide +kernel) ⟨Nat.le_of_ble_eq_true rfl, Nat.le_of_ble_eq_true rfl⟩) rfl rfl (r0 := 0) (ci := 4) (T := TX4) (N := 3) rfl rfl hl.1 ⟨Nat.le_of_ble_eq_true rfl, Nat.le_of_ble_eq_true rfl⟩ (Nat.le_of_ble_eq_true rfl) dX4_takes_111 (fun r_111 g1 H locs hp X => ?_)
        obtain ⟨mn2_111, lc2_111, pa2_111, e1_111, e2_111, e3_111, e4_111, e5_111, rfl, hz⟩ := hp
        have X : xS D A9 s9 [rdW q d0 h0 (nI lc2_111) pa2_111, sW q h0 h1 h2 h3 h4 h5 e1_111 e2_111 e3_111 e4_111 e5_111 (nI mn2_111)] H locs := X
        rcases hz with ⟨rfl, b_111⟩ | ⟨rfl, b_111⟩
        · exact hret _ _ _ _ _ _ (by exact ⟨_, _, _, _, _, _, _, _, rfl, Or.inl ⟨rfl, b_111⟩⟩) X dX4_takes_114
        · exact hret _ _ _ _ _ _ (by exact ⟨_, _, _, _, _, _, _, _, rfl, Or.inr ⟨rfl, b_111⟩⟩) X dX4_takes_114
      · refine x_i (y := 43) (by rw [c_43e]; rfl) (lv_tableIn (off := 88) (tgt := 131) hx hb dX4_takes_43 (by decide) (by decide) (by decide) (by decide) ?_)
        exact D_43 (by omega)
      · refine x_i (y := 44) (by rw [c_43e]; rfl) (lv_tableIn (off := 78) (tgt := 121) hx hb dX4_takes_43 (by decide) (by decide) (by decide) (by decide) ?_)
        refine lv_aload_n hx hb dX4_takes_121 rfl (lv_at hl 1 rfl) ?_
        refine x_cVi F X (gc := [rdW q d0 h0 (nI lc) pa, sW q h0 h1 h2 h3 h4 h5 f1 f2 f3 f4 f5 (nI mn)]) (gr := []) (xp_idx (n := 2) [0, 1] (by decide +kernel) rfl rfl) (c_X4_goesOn l D q d0 h0 h1 h2 h3 h4 h5 mn lc f1 f2 f3 f4 f5 pa c la op to (by first | assumption | omega) (by first | assumption | omega) (by first | assumption | omega) (by first | assumption | omega) (by first | assumption | omega)) (cwV 0 F.1.2.2.2.2 gX4_takes_X4_goesOn rfl rfl rfl (by decide +kernel) ⟨Nat.le_of_ble_eq_true rfl, Nat.le_of_ble_eq_true rfl⟩) rfl rfl (r0 := 0) (ci := 4) (T := TX4) (N := 3) rfl rfl hl.1 ⟨Nat.le_of_ble_eq_true rfl, Nat.le_of_ble_eq_true rfl⟩ (Nat.le_of_ble_eq_true rfl) dX4_takes_122 (fun r_122 g1 H locs hp X => ?_)
        obtain ⟨mn2_122, lc2_122, pa2_122, e1_122, e2_122, e3_122, e4_122, e5_122, rfl, hz⟩ := hp
        have X : xS D A9 s9 [rdW q d0 h0 (nI lc2_122) pa2_122, sW q h0 h1 h2 h3 h4 h5 e1_122 e2_122 e3_122 e4_122 e5_122 (nI mn2_122)] H locs := X
        rcases hz with ⟨rfl, b_122⟩ | ⟨rfl, b_122⟩
        · exact hret _ _ _ _ _ _ (by exact ⟨_, _, _, _, _, _, _, _, rfl, Or.inl ⟨rfl, b_122⟩⟩) X dX4_takes_125
        · exact hret _ _ _ _ _ _ (by exact ⟨_, _, _, _, _, _, _, _, rfl, Or.inr ⟨rfl, b_122⟩⟩) X dX4_takes_125
    · have c_32 : lc = 1 := (nI_eq (a := lc) (b := 1) (by omega) (by omega)).mp c_32
      refine lv_aload_n hx hb dX4_takes_35 rfl (lv_at hl 1 rfl) ?_
      refine lv_iload_n hx hb dX4_takes_36 rfl (lv_at hl 0 rfl) ?_
      refine x_i (y := (nI (mn - 1))) (x_pred hmn) ?_
      refine lv_iload_n hx hb dX4_takes_37 rfl (lv_at hl 2 rfl) ?_
      refine x_cVi F X (gc := [rdW q d0 h0 (nI lc) pa, sW q h0 h1 h2 h3 h4 h5 f1 f2 f3 f4 f5 (nI mn)]) (gr := []) (xp_idx (n := 2) [0, 1] (by decide +kernel) rfl rfl) (c_X4_takesFirstDigit l D q d0 h0 h1 h2 h3 h4 h5 mn lc f1 f2 f3 f4 f5 pa c la op to (by first | assumption | omega) (by first | assumption | omega) (by first | assumption | omega) (by exact x_lc1.mp (hrd.1 ▸ c_32))) (cwV 2 F.1.2.2.2.2 gX4_takes_X4_takesFirstDigit rfl rfl rfl (by decide +kernel) ⟨Nat.le_of_ble_eq_true rfl, Nat.le_of_ble_eq_true rfl⟩) rfl rfl (r0 := 0) (ci := 4) (T := TX4) (N := 3) rfl rfl hl.1 ⟨Nat.le_of_ble_eq_true rfl, Nat.le_of_ble_eq_true rfl⟩ (Nat.le_of_ble_eq_true rfl) dX4_takes_38 (fun r_38 g1 H locs hp X => ?_)
      obtain ⟨mn2_38, lc2_38, pa2_38, e1_38, e2_38, e3_38, e4_38, e5_38, rfl, hz⟩ := hp
      have X : xS D A9 s9 [rdW q d0 h0 (nI lc2_38) pa2_38, sW q h0 h1 h2 h3 h4 h5 e1_38 e2_38 e3_38 e4_38 e5_38 (nI mn2_38)] H locs := X
      rcases hz with ⟨rfl, b_38⟩ | ⟨rfl, b_38⟩
      · exact hret _ _ _ _ _ _ (by exact ⟨_, _, _, _, _, _, _, _, rfl, Or.inl ⟨rfl, b_38⟩⟩) X dX4_takes_41
      · exact hret _ _ _ _ _ _ (by exact ⟨_, _, _, _, _, _, _, _, rfl, Or.inr ⟨rfl, b_38⟩⟩) X dX4_takes_41
