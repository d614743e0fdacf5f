/-! The law, behind the constructor. -/
abbrev xz0 : xZt := (x_s0, fun _ => 0, fun _ => 0, 0, 0)
theorem lw_two {a t : va_W} {gs : List va_W} (e : a ++ t = gs.flatten) : gs.flatten = [a, t].flatten := by
  rw [← e]
  show a ++ t = a ++ (t ++ [])
  rw [List.append_nil]
set_option maxHeartbeats 1000000 in
set_option maxRecDepth 100000 in
theorem lw_run {p9 : Program} {l : Launch} {e9 : Env} {s9 : State} {m9 : MethodId} {a9 : Array Value} {below : List Frame} {meth : Method} {c9 : Code} {A9 : Nat → Prop} {Z9 : State → Prop} {b L : Nat} {xs : Nat → Int32} {D : va_G} {q : xQ} {A : xAd} {ob0 : va_W} (hL : L ≤ 260) (hX : va_X b L xs s9 s9.heap) (hbl : b < s9.heap.size) (hbA : ¬ A9 b) (F : xF p9 m9 c9 cL_law 4 s9 a9 wsL_law RL D q) (hret : ∀ (gs : List va_W) (H : Heap) (locs : List Loc) (pc : Nat) (ls : Array Slot), xS D A9 s9 gs H locs → decode cL_law pc = .ok (.ireturn, 1) → W p9 l e9 room_1 s9 m9 a9 below meth c9 H locs 600000 7302250 Z9 (F0 m9 pc ls [.int 1])) (hob0 : xOb q A xz0 ob0) {H : Heap} {locs : List Loc} {ls : Array Slot} (X : xS D A9 s9 [xoA q A, ob0] H locs) (hl : lv_has ls 4 [(1, .ref (A.1 0)), (0, .ref b)]) : W p9 l e9 room_1 s9 m9 a9 below meth c9 H locs 600000 7302250 Z9 (F0 m9 8 ls []) := by
  have hx := F.1.1
  have hb := F.1.2.1
  have hw0 : xW xz0 := ⟨0, by omega, rfl⟩
  have hn0 : tN (zS xz0) = 1 := rfl
  refine lv_aload_n hx hb dL_law_8 rfl (lv_at hl 0 rfl) ?_
  refine x_cSi F X (gc := [xoA q A, ob0]) (gr := []) (xp_idx (n := 2) [0, 1] (by decide +kernel) rfl rfl) (c_L_areAll l D q A xz0 ob0 (by first | assumption | omega) (by first | assumption | omega)) (va_cwS 1 F.1.2.2.2.2 gL_law_L_areAll rfl rfl rfl (by decide +kernel) ⟨Nat.le_of_ble_eq_true rfl, Nat.le_of_ble_eq_true rfl⟩) rfl rfl hl.1 ⟨Nat.le_of_ble_eq_true rfl, Nat.le_of_ble_eq_true rfl⟩ (Nat.le_of_ble_eq_true rfl) dL_law_9 (fun r_9 g1 H locs hp X => ?_)
  obtain ⟨ob2_9, rfl, rfl, hob2_9⟩ := hp
  have X : xS D A9 s9 [xoA q A, ob2_9] H locs := X
  refine lv_if_eq (tgt := 61) hx hb dL_law_12 (by decide) (fun h => absurd h (by decide)) (fun _ => ?_)
  refine lv_aload_n hx hb dL_law_15 rfl (lv_at hl 0 rfl) ?_
  refine lv_iconst (v := 0) hx hb dL_law_16 (by decide) ?_
  refine x_cVi F X (gc := [xoA q A, ob2_9]) (gr := []) (xp_idx (n := 2) [0, 1] (by decide +kernel) rfl rfl) (c_G_count0 l D q A xz0 ob2_9 (by first | assumption | omega)) (cwV 1 F.1.2.2.2.2 gL_law_X7_count rfl rfl rfl (by decide +kernel) ⟨Nat.le_of_ble_eq_true rfl, Nat.le_of_ble_eq_true rfl⟩) rfl rfl (r0 := 0) (ci := 7) (T := TX7) (N := 8) rfl rfl hl.1 ⟨Nat.le_of_ble_eq_true rfl, Nat.le_of_ble_eq_true rfl⟩ (Nat.le_of_ble_eq_true rfl) dL_law_17 (fun r_17 g1 H locs hp X => ?_)
  obtain ⟨ob2_17, rfl, rfl, hob2_17⟩ := hp
  have X : xS D A9 s9 [xoA q A, ob2_17] H locs := X
  refine lv_iconst (v := 1) hx hb dL_law_20 (by decide) ?_
  refine lv_icmp_ne (tgt := 61) hx hb dL_law_21 (by decide) (fun c_21 => ?_) (fun c_21 => ?_)
  · exfalso
    exact c_21 rfl
  refine lv_aload_n hx hb dL_law_24 rfl (lv_at hl 0 rfl) ?_
  refine lv_bipush (v := 13) hx hb dL_law_25 (by decide) ?_
  refine x_cVi F X (gc := [xoA q A, ob2_17]) (gr := []) (xp_idx (n := 2) [0, 1] (by decide +kernel) rfl rfl) (c_G_count13 l D q A xz0 ob2_17 (by first | assumption | omega)) (cwV 1 F.1.2.2.2.2 gL_law_X7_count rfl rfl rfl (by decide +kernel) ⟨Nat.le_of_ble_eq_true rfl, Nat.le_of_ble_eq_true rfl⟩) rfl rfl (r0 := 0) (ci := 7) (T := TX7) (N := 8) rfl rfl hl.1 ⟨Nat.le_of_ble_eq_true rfl, Nat.le_of_ble_eq_true rfl⟩ (Nat.le_of_ble_eq_true rfl) dL_law_27 (fun r_27 g1 H locs hp X => ?_)
  obtain ⟨ob2_27, rfl, rfl, hob2_27⟩ := hp
  have X : xS D A9 s9 [xoA q A, ob2_27] H locs := X
  refine lv_if_ne (tgt := 61) hx hb dL_law_30 (by decide) (fun c_30 => ?_) (fun c_30 => ?_)
  · exfalso
    exact c_30 rfl
  refine lv_aload_n hx hb dL_law_33 rfl (lv_at hl 0 rfl) ?_
  refine lv_iconst (v := 0) hx hb dL_law_34 (by decide) ?_
  refine lv_iconst (v := 0) hx hb dL_law_35 (by decide) ?_
  refine x_cVi F X (gc := [xoA q A, ob2_27]) (gr := []) (xp_idx (n := 2) [0, 1] (by decide +kernel) rfl rfl) (c_G_recordN l D q A xz0 ob2_27 0 0 (by first | assumption | omega) (by rfl) (by first | assumption | omega) (by first | assumption | omega) (by first | assumption | omega)) (cwV 2 F.1.2.2.2.2 gL_law_X7_record rfl rfl rfl (by decide +kernel) ⟨Nat.le_of_ble_eq_true rfl, Nat.le_of_ble_eq_true rfl⟩) rfl rfl (r0 := 0) (ci := 7) (T := TX7) (N := 8) rfl rfl hl.1 ⟨Nat.le_of_ble_eq_true rfl, Nat.le_of_ble_eq_true rfl⟩ (Nat.le_of_ble_eq_true rfl) dL_law_36 (fun r_36 g1 H locs hp X => ?_)
  obtain ⟨ob2_36, rfl, rfl, hob2_36⟩ := hp
  have X : xS D A9 s9 [xoA q A, ob2_36] H locs := X
  refine lv_iconst (v := (-1)) hx hb dL_law_39 (by decide) ?_
  refine lv_icmp_ne (tgt := 61) hx hb dL_law_40 (by decide) (fun h => absurd (by decide) h) (fun _ => ?_)
  refine lv_aload_n hx hb dL_law_43 rfl (lv_at hl 0 rfl) ?_
  refine x_cVi F X (gc := [xoA q A, ob2_36]) (gr := []) (xp_idx (n := 2) [0, 1] (by decide +kernel) rfl rfl) (c_G_undoN l D q A xz0 ob2_36 (by first | assumption | omega) (by rfl)) (cwV 0 F.1.2.2.2.2 gL_law_X7_undo rfl rfl rfl (by decide +kernel) ⟨Nat.le_of_ble_eq_true rfl, Nat.le_of_ble_eq_true rfl⟩) rfl rfl (r0 := 0) (ci := 7) (T := TX7) (N := 8) rfl rfl hl.1 ⟨Nat.le_of_ble_eq_true rfl, Nat.le_of_ble_eq_true rfl⟩ (Nat.le_of_ble_eq_true rfl) dL_law_44 (fun r_44 g1 H locs hp X => ?_)
  obtain ⟨ob2_44, rfl, rfl, hob2_44⟩ := hp
  have X : xS D A9 s9 [xoA q A, ob2_44] H locs := X
  refine lv_bipush (v := (-5)) hx hb dL_law_47 (by decide) ?_
  refine lv_icmp_ne (tgt := 61) hx hb dL_law_49 (by decide) (fun h => absurd (by decide) h) (fun _ => ?_)
  refine lv_aload_n hx hb dL_law_52 rfl (lv_at hl 0 rfl) ?_
  refine x_cVi F X (gc := [xoA q A, ob2_44]) (gr := []) (xp_idx (n := 2) [0, 1] (by decide +kernel) rfl rfl) (c_G_buildN l D q A xz0 ob2_44 (nI 0) (fun _ => 0) (by first | assumption | omega) (by exact Or.inr ⟨0, 0, -1, _, rfl, (if_neg (fun q => q.2.1 rfl)).symm⟩) (by decide)) (cwV 0 F.1.2.2.2.2 gL_law_X7_build rfl rfl rfl (by decide +kernel) ⟨Nat.le_of_ble_eq_true rfl, Nat.le_of_ble_eq_true rfl⟩) rfl rfl (r0 := 0) (ci := 7) (T := TX7) (N := 8) rfl rfl hl.1 ⟨Nat.le_of_ble_eq_true rfl, Nat.le_of_ble_eq_true rfl⟩ (Nat.le_of_ble_eq_true rfl) dL_law_53 (fun r_53 g1 H locs hp X => ?_)
  obtain ⟨ob2_53, rfl, rfl, hob2_53⟩ := hp
  have X : xS D A9 s9 [xoA q A, ob2_53] H locs := X
  refine lv_bipush (v := (-3)) hx hb dL_law_56 (by decide) ?_
  refine lv_icmp_eq (tgt := 63) hx hb dL_law_58 (by decide) (fun _ => ?_) (fun h => absurd (by decide) h)
  refine lv_iconst (v := 0) hx hb dL_law_63 (by decide) ?_
  refine lv_istore_n (lv' := [(2, .int 0), (1, .ref (A.1 0)), (0, .ref b)]) hx hb dL_law_64 rfl hl (by decide) rfl (fun ls hl => ?_)
  have L_65 : ∀ (nn : Nat) (ob : va_W) (z : xZt) (i : Nat) (H : Heap) (locs : List Loc) (ls : Array Slot), xS D A9 s9 [xoA q A, ob] H locs → lv_has ls 4 [(2, .int (nI i)), (1, .ref (A.1 0)), (0, .ref b)] → (110 < i + nn) → (xOb q A z ob) → (xW z) → (i ≤ 110) → W p9 l e9 room_1 s9 m9 a9 below meth c9 H locs 600000 7302250 Z9 (F0 m9 65 ls []) := by
    intro nn
    induction nn with
    | zero => intro ob z i H locs ls X hl hfuel hob hw4 hi; exact absurd hfuel (by omega)
    | succ nn ih_65 =>
      intro ob z i H locs ls X hl hfuel hob hw4 hi
      refine lv_iload_n hx hb dL_law_65 rfl (lv_at hl 0 rfl) ?_
      refine lv_bipush (v := 110) hx hb dL_law_66 (by decide) ?_
      refine lv_icmp_ge (tgt := 144) hx hb dL_law_68 (by decide) (fun c_68 => ?_) (fun c_68 => ?_)
      · have c_68 : 110 ≤ i := (nI_leI (a := 110) (b := i) (by omega) (by omega)).mp c_68
        refine lv_aload_n hx hb dL_law_144 rfl (lv_at hl 1 rfl) ?_
        refine lv_bipush (v := 20) hx hb dL_law_145 (by decide) ?_
        refine lv_iconst (v := 1) hx hb dL_law_147 (by decide) ?_
        refine x_cVi F X (gc := [xoA q A, ob]) (gr := []) (xp_idx (n := 2) [0, 1] (by decide +kernel) rfl rfl) (c_G_street20 l D q A z ob (by first | assumption | omega)) (cwV 2 F.1.2.2.2.2 gL_law_X7_street rfl rfl rfl (by decide +kernel) ⟨Nat.le_of_ble_eq_true rfl, Nat.le_of_ble_eq_true rfl⟩) rfl rfl (r0 := 0) (ci := 7) (T := TX7) (N := 8) rfl rfl hl.1 ⟨Nat.le_of_ble_eq_true rfl, Nat.le_of_ble_eq_true rfl⟩ (Nat.le_of_ble_eq_true rfl) dL_law_148 (fun r_148 g1 H locs hp X => ?_)
        obtain ⟨ob2_148, rfl, rfl, hob2_148⟩ := hp
        have X : xS D A9 s9 [xoA q A, ob2_148] H locs := X
        refine lv_iconst (v := (-1)) hx hb dL_law_151 (by decide) ?_
        refine lv_icmp_ne (tgt := 259) hx hb dL_law_152 (by decide) (fun h => absurd (by decide) h) (fun _ => ?_)
        refine lv_aload_n hx hb dL_law_155 rfl (lv_at hl 1 rfl) ?_
        refine lv_iconst (v := 0) hx hb dL_law_156 (by decide) ?_
        refine lv_bipush (v := 10) hx hb dL_law_157 (by decide) ?_
        refine x_cVi F X (gc := [xoA q A, ob2_148]) (gr := []) (xp_idx (n := 2) [0, 1] (by decide +kernel) rfl rfl) (c_G_street10 l D q A z ob2_148 (by first | assumption | omega)) (cwV 2 F.1.2.2.2.2 gL_law_X7_street rfl rfl rfl (by decide +kernel) ⟨Nat.le_of_ble_eq_true rfl, Nat.le_of_ble_eq_true rfl⟩) rfl rfl (r0 := 0) (ci := 7) (T := TX7) (N := 8) rfl rfl hl.1 ⟨Nat.le_of_ble_eq_true rfl, Nat.le_of_ble_eq_true rfl⟩ (Nat.le_of_ble_eq_true rfl) dL_law_159 (fun r_159 g1 H locs hp X => ?_)
        obtain ⟨ob2_159, rfl, rfl, hob2_159⟩ := hp
        have X : xS D A9 s9 [xoA q A, ob2_159] H locs := X
        refine lv_bipush (v := (-2)) hx hb dL_law_162 (by decide) ?_
        refine lv_icmp_ne (tgt := 259) hx hb dL_law_164 (by decide) (fun h => absurd (by decide) h) (fun _ => ?_)
        refine lv_aload_n hx hb dL_law_167 rfl (lv_at hl 1 rfl) ?_
        refine lv_iconst (v := 0) hx hb dL_law_168 (by decide) ?_
        refine lv_iconst (v := 4) hx hb dL_law_169 (by decide) ?_
        refine lv_iconst (v := 1) hx hb dL_law_170 (by decide) ?_
        refine x_cVi F X (gc := [xoA q A, ob2_159]) (gr := []) (xp_idx (n := 2) [0, 1] (by decide +kernel) rfl rfl) (c_G_changeN l D q A z ob2_159 (by first | assumption | omega)) (cwV 3 F.1.2.2.2.2 gL_law_X7_change rfl rfl rfl (by decide +kernel) ⟨Nat.le_of_ble_eq_true rfl, Nat.le_of_ble_eq_true rfl⟩) rfl rfl (r0 := 0) (ci := 7) (T := TX7) (N := 8) rfl rfl hl.1 ⟨Nat.le_of_ble_eq_true rfl, Nat.le_of_ble_eq_true rfl⟩ (Nat.le_of_ble_eq_true rfl) dL_law_171 (fun r_171 g1 H locs hp X => ?_)
        obtain ⟨ob2_171, rfl, rfl, hob2_171⟩ := hp
        have X : xS D A9 s9 [xoA q A, ob2_171] H locs := X
        refine lv_bipush (v := (-2)) hx hb dL_law_174 (by decide) ?_
        refine lv_icmp_ne (tgt := 259) hx hb dL_law_176 (by decide) (fun h => absurd (by decide) h) (fun _ => ?_)
        refine lv_aload_n hx hb dL_law_179 rfl (lv_at hl 1 rfl) ?_
        refine lv_sipush (v := 201) hx hb dL_law_180 (by decide) ?_
        refine x_cVi F X (gc := [xoA q A, ob2_171]) (gr := []) (xp_idx (n := 2) [0, 1] (by decide +kernel) rfl rfl) (c_G_windN l D q A z ob2_171 (by first | assumption | omega)) (cwV 1 F.1.2.2.2.2 gL_law_X7_wind rfl rfl rfl (by decide +kernel) ⟨Nat.le_of_ble_eq_true rfl, Nat.le_of_ble_eq_true rfl⟩) rfl rfl (r0 := 0) (ci := 7) (T := TX7) (N := 8) rfl rfl hl.1 ⟨Nat.le_of_ble_eq_true rfl, Nat.le_of_ble_eq_true rfl⟩ (Nat.le_of_ble_eq_true rfl) dL_law_183 (fun r_183 g1 H locs hp X => ?_)
        obtain ⟨ob2_183, rfl, rfl, hob2_183⟩ := hp
        have X : xS D A9 s9 [xoA q A, ob2_183] H locs := X
        refine lv_bipush (v := (-2)) hx hb dL_law_186 (by decide) ?_
        refine lv_icmp_ne (tgt := 259) hx hb dL_law_188 (by decide) (fun h => absurd (by decide) h) (fun _ => ?_)
        refine lv_aload_n hx hb dL_law_191 rfl (lv_at hl 1 rfl) ?_
        refine lv_bipush (v := 25) hx hb dL_law_192 (by decide) ?_
        refine x_cVi F X (gc := [xoA q A, ob2_183]) (gr := []) (xp_idx (n := 2) [0, 1] (by decide +kernel) rfl rfl) (c_G_pass25 l D q A z ob2_183 (by first | assumption | omega)) (cwV 1 F.1.2.2.2.2 gL_law_X7_pass rfl rfl rfl (by decide +kernel) ⟨Nat.le_of_ble_eq_true rfl, Nat.le_of_ble_eq_true rfl⟩) rfl rfl (r0 := 0) (ci := 7) (T := TX7) (N := 8) rfl rfl hl.1 ⟨Nat.le_of_ble_eq_true rfl, Nat.le_of_ble_eq_true rfl⟩ (Nat.le_of_ble_eq_true rfl) dL_law_194 (fun r_194 g1 H locs hp X => ?_)
        obtain ⟨ob2_194, rfl, rfl, hob2_194⟩ := hp
        have X : xS D A9 s9 [xoA q A, ob2_194] H locs := X
        refine lv_bipush (v := (-2)) hx hb dL_law_197 (by decide) ?_
        refine lv_icmp_ne (tgt := 259) hx hb dL_law_199 (by decide) (fun h => absurd (by decide) h) (fun _ => ?_)
        refine lv_aload_n hx hb dL_law_202 rfl (lv_at hl 1 rfl) ?_
        refine lv_iconst (v := 4) hx hb dL_law_203 (by decide) ?_
        refine lv_iconst (v := 1) hx hb dL_law_204 (by decide) ?_
        refine x_cVi F X (gc := [xoA q A, ob2_194]) (gr := []) (xp_idx (n := 2) [0, 1] (by decide +kernel) rfl rfl) (c_G_setN l D q A z ob2_194 (by first | assumption | omega)) (cwV 2 F.1.2.2.2.2 gL_law_X7_set rfl rfl rfl (by decide +kernel) ⟨Nat.le_of_ble_eq_true rfl, Nat.le_of_ble_eq_true rfl⟩) rfl rfl (r0 := 0) (ci := 7) (T := TX7) (N := 8) rfl rfl hl.1 ⟨Nat.le_of_ble_eq_true rfl, Nat.le_of_ble_eq_true rfl⟩ (Nat.le_of_ble_eq_true rfl) dL_law_205 (fun r_205 g1 H locs hp X => ?_)
        obtain ⟨ob2_205, rfl, rfl, hob2_205⟩ := hp
        have X : xS D A9 s9 [xoA q A, ob2_205] H locs := X
        refine lv_bipush (v := (-2)) hx hb dL_law_208 (by decide) ?_
        refine lv_icmp_ne (tgt := 259) hx hb dL_law_210 (by decide) (fun h => absurd (by decide) h) (fun _ => ?_)
        refine lv_aload_n hx hb dL_law_213 rfl (lv_at hl 1 rfl) ?_
        refine lv_iconst (v := (-1)) hx hb dL_law_214 (by decide) ?_
        refine x_cVi F X (gc := [xoA q A, ob2_205]) (gr := []) (xp_idx (n := 2) [0, 1] (by decide +kernel) rfl rfl) (c_G_ifWindN l D q A z ob2_205 (by first | assumption | omega)) (cwV 1 F.1.2.2.2.2 gL_law_X7_ifWind rfl rfl rfl (by decide +kernel) ⟨Nat.le_of_ble_eq_true rfl, Nat.le_of_ble_eq_true rfl⟩) rfl rfl (r0 := 0) (ci := 7) (T := TX7) (N := 8) rfl rfl hl.1 ⟨Nat.le_of_ble_eq_true rfl, Nat.le_of_ble_eq_true rfl⟩ (Nat.le_of_ble_eq_true rfl) dL_law_215 (fun r_215 g1 H locs hp X => ?_)
        obtain ⟨ob2_215, rfl, rfl, hob2_215⟩ := hp
        have X : xS D A9 s9 [xoA q A, ob2_215] H locs := X
        refine lv_bipush (v := (-2)) hx hb dL_law_218 (by decide) ?_
        refine lv_icmp_ne (tgt := 259) hx hb dL_law_220 (by decide) (fun h => absurd (by decide) h) (fun _ => ?_)
        refine lv_aload_n hx hb dL_law_223 rfl (lv_at hl 1 rfl) ?_
        refine lv_iconst (v := 0) hx hb dL_law_224 (by decide) ?_
        refine x_cVi F X (gc := [xoA q A, ob2_215]) (gr := []) (xp_idx (n := 2) [0, 1] (by decide +kernel) rfl rfl) (c_G_windForN l D q A z ob2_215 (by first | assumption | omega)) (cwV 1 F.1.2.2.2.2 gL_law_X7_windFor rfl rfl rfl (by decide +kernel) ⟨Nat.le_of_ble_eq_true rfl, Nat.le_of_ble_eq_true rfl⟩) rfl rfl (r0 := 0) (ci := 7) (T := TX7) (N := 8) rfl rfl hl.1 ⟨Nat.le_of_ble_eq_true rfl, Nat.le_of_ble_eq_true rfl⟩ (Nat.le_of_ble_eq_true rfl) dL_law_225 (fun r_225 g1 H locs hp X => ?_)
        obtain ⟨ob2_225, rfl, rfl, hob2_225⟩ := hp
        have X : xS D A9 s9 [xoA q A, ob2_225] H locs := X
        refine lv_bipush (v := (-2)) hx hb dL_law_228 (by decide) ?_
        refine lv_icmp_ne (tgt := 259) hx hb dL_law_230 (by decide) (fun h => absurd (by decide) h) (fun _ => ?_)
        refine lv_aload_n hx hb dL_law_233 rfl (lv_at hl 1 rfl) ?_
        refine lv_iconst (v := 0) hx hb dL_law_234 (by decide) ?_
        refine lv_iconst (v := 5) hx hb dL_law_235 (by decide) ?_
        refine x_cVi F X (gc := [xoA q A, ob2_225]) (gr := []) (xp_idx (n := 2) [0, 1] (by decide +kernel) rfl rfl) (c_G_now5 l D q A z ob2_225 (by first | assumption | omega)) (cwV 2 F.1.2.2.2.2 gL_law_X7_now rfl rfl rfl (by decide +kernel) ⟨Nat.le_of_ble_eq_true rfl, Nat.le_of_ble_eq_true rfl⟩) rfl rfl (r0 := 0) (ci := 7) (T := TX7) (N := 8) rfl rfl hl.1 ⟨Nat.le_of_ble_eq_true rfl, Nat.le_of_ble_eq_true rfl⟩ (Nat.le_of_ble_eq_true rfl) dL_law_236 (fun r_236 g1 H locs hp X => ?_)
        obtain ⟨ob2_236, rfl, rfl, hob2_236⟩ := hp
        have X : xS D A9 s9 [xoA q A, ob2_236] H locs := X
        refine lv_bipush (v := (-2)) hx hb dL_law_239 (by decide) ?_
        refine lv_icmp_ne (tgt := 259) hx hb dL_law_241 (by decide) (fun h => absurd (by decide) h) (fun _ => ?_)
        refine lv_aload_n hx hb dL_law_244 rfl (lv_at hl 1 rfl) ?_
        refine lv_bipush (v := 14) hx hb dL_law_245 (by decide) ?_
        refine x_cVi F X (gc := [xoA q A, ob2_236]) (gr := []) (xp_idx (n := 2) [0, 1] (by decide +kernel) rfl rfl) (c_G_count14 l D q A z ob2_236 (by first | assumption | omega)) (cwV 1 F.1.2.2.2.2 gL_law_X7_count rfl rfl rfl (by decide +kernel) ⟨Nat.le_of_ble_eq_true rfl, Nat.le_of_ble_eq_true rfl⟩) rfl rfl (r0 := 0) (ci := 7) (T := TX7) (N := 8) rfl rfl hl.1 ⟨Nat.le_of_ble_eq_true rfl, Nat.le_of_ble_eq_true rfl⟩ (Nat.le_of_ble_eq_true rfl) dL_law_247 (fun r_247 g1 H locs hp X => ?_)
        obtain ⟨ob2_247, rfl, rfl, hob2_247⟩ := hp
        have X : xS D A9 s9 [xoA q A, ob2_247] H locs := X
        refine lv_bipush (v := (-2)) hx hb dL_law_250 (by decide) ?_
        refine lv_icmp_ne (tgt := 259) hx hb dL_law_252 (by decide) (fun h => absurd (by decide) h) (fun _ => ?_)
        refine lv_iconst (v := 1) hx hb dL_law_255 (by decide) ?_
        refine lv_goto (tgt := 260) hx hb dL_law_256 (by decide) ?_
        exact hret _ _ _ _ _ X dL_law_260
      · have c_68 : i < 110 := Nat.not_le.mp (fun h => c_68 ((nI_leI (a := 110) (b := i) (by omega) (by omega)).mpr h))
        refine lv_aload_n hx hb dL_law_71 rfl (lv_at hl 2 rfl) ?_
        refine lv_iconst (v := 2) hx hb dL_law_72 (by decide) ?_
        refine lv_iload_n hx hb dL_law_73 rfl (lv_at hl 0 rfl) ?_
        refine lv_imul hx hb dL_law_74 ?_
        refine x_i (y := (nI (2 * i))) (pk_mul 2 i) ?_
        refine x_cSiE hX hbl hbA F X (gc := []) (gr := [xoA q A, ob]) (List.Perm.refl _) (c_L_cell l D q b L xs (2 * i) hL (by omega)) (va_cwS 2 F.1.2.2.2.2 gL_law_L_cell rfl rfl rfl (by decide +kernel) ⟨Nat.le_of_ble_eq_true rfl, Nat.le_of_ble_eq_true rfl⟩) rfl rfl hl.1 ⟨Nat.le_of_ble_eq_true rfl, Nat.le_of_ble_eq_true rfl⟩ (Nat.le_of_ble_eq_true rfl) dL_law_75 (fun r_75 g1 H locs hp X => ?_)
        subst hp
        have X : xS D A9 s9 [xoA q A, ob] H locs := X
        refine lv_istore_n (lv' := [(3, .int r_75), (2, .int (nI i)), (1, .ref (A.1 0)), (0, .ref b)]) hx hb dL_law_78 rfl hl (by decide) rfl (fun ls hl => ?_)
        refine lv_aload_n hx hb dL_law_79 rfl (lv_at hl 2 rfl) ?_
        refine lv_iload_n hx hb dL_law_80 rfl (lv_at hl 0 rfl) ?_
        refine lv_aload_n hx hb dL_law_81 rfl (lv_at hl 3 rfl) ?_
        refine lv_iconst (v := 2) hx hb dL_law_82 (by decide) ?_
        refine lv_iload_n hx hb dL_law_83 rfl (lv_at hl 1 rfl) ?_
        refine lv_imul hx hb dL_law_84 ?_
        refine x_i (y := (nI (2 * i))) (pk_mul 2 i) ?_
        refine lv_iconst (v := 1) hx hb dL_law_85 (by decide) ?_
        refine lv_iadd hx hb dL_law_86 ?_
        refine x_i (y := (nI (2 * i + 1))) (nI_add (2 * i) 1) ?_
        refine x_cSiE hX hbl hbA F X (gc := []) (gr := [xoA q A, ob]) (List.Perm.refl _) (c_L_cell l D q b L xs (2 * i + 1) hL (by omega)) (va_cwS 2 F.1.2.2.2.2 gL_law_L_cell rfl rfl rfl (by decide +kernel) ⟨Nat.le_of_ble_eq_true rfl, Nat.le_of_ble_eq_true rfl⟩) rfl rfl hl.1 ⟨Nat.le_of_ble_eq_true rfl, Nat.le_of_ble_eq_true rfl⟩ (Nat.le_of_ble_eq_true rfl) dL_law_87 (fun r_87 g1 H locs hp X => ?_)
        subst hp
        have X : xS D A9 s9 [xoA q A, ob] H locs := X
        refine x_cSi F X (gc := [xoA q A, ob]) (gr := []) (xp_idx (n := 2) [0, 1] (by decide +kernel) rfl rfl) (c_L_does l D q A z ob r_75 r_87 (by first | assumption | omega) (by first | assumption | omega)) (va_cwS 3 F.1.2.2.2.2 gL_law_L_does rfl rfl rfl (by decide +kernel) ⟨Nat.le_of_ble_eq_true rfl, Nat.le_of_ble_eq_true rfl⟩) rfl rfl hl.1 ⟨Nat.le_of_ble_eq_true rfl, Nat.le_of_ble_eq_true rfl⟩ (Nat.le_of_ble_eq_true rfl) dL_law_90 (fun r_90 g1 H locs hp X => ?_)
        obtain ⟨ob2_90, z2_90, rfl, rfl, hob2_90, hw2_90⟩ := hp
        have X : xS D A9 s9 [xoA q A, ob2_90] H locs := X
        refine lv_if_eq (tgt := 136) hx hb dL_law_93 (by decide) (fun h => absurd h (by decide)) (fun _ => ?_)
        have hok2 := hob2_90.ok
        have hn2 := hok2.1
        have hn21 := hok2.2.1
        refine lv_iload_n hx hb dL_law_96 rfl (lv_at hl 1 rfl) ?_
        refine lv_iconst (v := 3) hx hb dL_law_97 (by decide) ?_
        refine lv_irem hx hb dL_law_98 (by decide) ?_
        refine x_i (y := (nI (i % 3))) (pk_rem (a := i) (d := 3) (by omega) (by omega) (by omega)) ?_
        refine lv_iconst (v := 1) hx hb dL_law_99 (by decide) ?_
        refine lv_icmp_ne (tgt := 122) hx hb dL_law_100 (by decide) (fun c_100 => ?_) (fun c_100 => ?_)
        · have c_100 : ¬ (i % 3 = 1) := fun h => c_100 ((nI_eq (a := i % 3) (b := 1) (by omega) (by omega)).mpr h)
          refine lv_iload_n hx hb dL_law_122 rfl (lv_at hl 1 rfl) ?_
          refine lv_iconst (v := 4) hx hb dL_law_123 (by decide) ?_
          refine lv_irem hx hb dL_law_124 (by decide) ?_
          refine x_i (y := (nI (i % 4))) (pk_rem (a := i) (d := 4) (by omega) (by omega) (by omega)) ?_
          refine lv_iconst (v := 3) hx hb dL_law_125 (by decide) ?_
          refine lv_icmp_ne (tgt := 138) hx hb dL_law_126 (by decide) (fun c_126 => ?_) (fun c_126 => ?_)
          · have c_126 : ¬ (i % 4 = 3) := fun h => c_126 ((nI_eq (a := i % 4) (b := 3) (by omega) (by omega)).mpr h)
            refine lv_iinc (v := (nI (i + 1))) (lv' := [(2, .int (nI (i + 1))), (3, .int r_75), (1, .ref (A.1 0)), (0, .ref b)]) hx hb dL_law_138 hl (k := 1) rfl (nI_add i 1) (by decide) rfl (fun ls hl => ?_)
            refine lv_goto (tgt := 65) hx hb dL_law_141 (by decide) ?_
            exact ih_65 _ z2_90 (i + 1) _ _ _ X (lv_sub hl [0, 2, 3] rfl) (by omega) (by assumption) (by assumption) (by omega)
          · have c_126 : i % 4 = 3 := (nI_eq (a := i % 4) (b := 3) (by omega) (by omega)).mp c_126
            refine lv_aload_n hx hb dL_law_129 rfl (lv_at hl 2 rfl) ?_
            refine x_cSi F X (gc := [xoA q A, ob2_90]) (gr := []) (xp_idx (n := 2) [0, 1] (by decide +kernel) rfl rfl) (c_L_areAll l D q A z2_90 ob2_90 (by first | assumption | omega) (by first | assumption | omega)) (va_cwS 1 F.1.2.2.2.2 gL_law_L_areAll rfl rfl rfl (by decide +kernel) ⟨Nat.le_of_ble_eq_true rfl, Nat.le_of_ble_eq_true rfl⟩) rfl rfl hl.1 ⟨Nat.le_of_ble_eq_true rfl, Nat.le_of_ble_eq_true rfl⟩ (Nat.le_of_ble_eq_true rfl) dL_law_130 (fun r_130 g1 H locs hp X => ?_)
            obtain ⟨ob2_130, rfl, rfl, hob2_130⟩ := hp
            have X : xS D A9 s9 [xoA q A, ob2_130] H locs := X
            refine lv_if_ne (tgt := 138) hx hb dL_law_133 (by decide) (fun _ => ?_) (fun h => absurd h (by decide))
            refine lv_iinc (v := (nI (i + 1))) (lv' := [(2, .int (nI (i + 1))), (3, .int r_75), (1, .ref (A.1 0)), (0, .ref b)]) hx hb dL_law_138 hl (k := 1) rfl (nI_add i 1) (by decide) rfl (fun ls hl => ?_)
            refine lv_goto (tgt := 65) hx hb dL_law_141 (by decide) ?_
            exact ih_65 _ z2_90 (i + 1) _ _ _ X (lv_sub hl [0, 2, 3] rfl) (by omega) (by assumption) (by assumption) (by omega)
        · have c_100 : i % 3 = 1 := (nI_eq (a := i % 3) (b := 1) (by omega) (by omega)).mp c_100
          refine lv_aload_n hx hb dL_law_103 rfl (lv_at hl 2 rfl) ?_
          refine lv_iload_n hx hb dL_law_104 rfl (lv_at hl 0 rfl) ?_
          refine lv_bipush (v := 7) hx hb dL_law_105 (by decide) ?_
          refine lv_ishr hx hb dL_law_107 ?_
          refine lv_aload_n hx hb dL_law_108 rfl (lv_at hl 2 rfl) ?_
          refine lv_iconst (v := 0) hx hb dL_law_109 (by decide) ?_
          refine x_cVi F X (gc := [xoA q A, ob2_90]) (gr := []) (xp_idx (n := 2) [0, 1] (by decide +kernel) rfl rfl) (c_G_count0 l D q A z2_90 ob2_90 (by first | assumption | omega)) (cwV 1 F.1.2.2.2.2 gL_law_X7_count rfl rfl rfl (by decide +kernel) ⟨Nat.le_of_ble_eq_true rfl, Nat.le_of_ble_eq_true rfl⟩) rfl rfl (r0 := 0) (ci := 7) (T := TX7) (N := 8) rfl rfl hl.1 ⟨Nat.le_of_ble_eq_true rfl, Nat.le_of_ble_eq_true rfl⟩ (Nat.le_of_ble_eq_true rfl) dL_law_110 (fun r_110 g1 H locs hp X => ?_)
          obtain ⟨ob2_110, rfl, rfl, hob2_110⟩ := hp
          have X : xS D A9 s9 [xoA q A, ob2_110] H locs := X
          refine x_cSi F X (gc := []) (gr := [xoA q A, ob2_110]) (xp_idx (n := 2) [0, 1] (by decide +kernel) rfl rfl) (c_L_low l D q (r_75 >>> (7 &&& 31)) (tN (zS z2_90)) (by first | assumption | omega) (by first | assumption | omega)) (va_cwS 2 F.1.2.2.2.2 gL_law_L_low rfl rfl rfl (by decide +kernel) ⟨Nat.le_of_ble_eq_true rfl, Nat.le_of_ble_eq_true rfl⟩) rfl rfl hl.1 ⟨Nat.le_of_ble_eq_true rfl, Nat.le_of_ble_eq_true rfl⟩ (Nat.le_of_ble_eq_true rfl) dL_law_113 (fun r_113 g1 H locs hp X => ?_)
          obtain ⟨rfl, rfl, hlt_113⟩ := hp
          have X : xS D A9 s9 [xoA q A, ob2_110] H locs := X
          refine x_cSi F X (gc := [xoA q A, ob2_110]) (gr := []) (xp_idx (n := 2) [0, 1] (by decide +kernel) rfl rfl) (c_L_isStreet l D q A z2_90 ob2_110 (x_low (r_75 >>> (7 &&& 31)) (tN (zS z2_90))) (by first | assumption | omega) (by first | assumption | omega)) (va_cwS 2 F.1.2.2.2.2 gL_law_L_isStreet rfl rfl rfl (by decide +kernel) ⟨Nat.le_of_ble_eq_true rfl, Nat.le_of_ble_eq_true rfl⟩) rfl rfl hl.1 ⟨Nat.le_of_ble_eq_true rfl, Nat.le_of_ble_eq_true rfl⟩ (Nat.le_of_ble_eq_true rfl) dL_law_116 (fun r_116 g1 H locs hp X => ?_)
          obtain ⟨ob2_116, rfl, rfl, hob2_116⟩ := hp
          have X : xS D A9 s9 [xoA q A, ob2_116] H locs := X
          refine lv_if_eq (tgt := 136) hx hb dL_law_119 (by decide) (fun h => absurd h (by decide)) (fun _ => ?_)
          refine lv_iload_n hx hb dL_law_122 rfl (lv_at hl 1 rfl) ?_
          refine lv_iconst (v := 4) hx hb dL_law_123 (by decide) ?_
          refine lv_irem hx hb dL_law_124 (by decide) ?_
          refine x_i (y := (nI (i % 4))) (pk_rem (a := i) (d := 4) (by omega) (by omega) (by omega)) ?_
          refine lv_iconst (v := 3) hx hb dL_law_125 (by decide) ?_
          refine lv_icmp_ne (tgt := 138) hx hb dL_law_126 (by decide) (fun c_126 => ?_) (fun c_126 => ?_)
          · have c_126 : ¬ (i % 4 = 3) := fun h => c_126 ((nI_eq (a := i % 4) (b := 3) (by omega) (by omega)).mpr h)
            refine lv_iinc (v := (nI (i + 1))) (lv' := [(2, .int (nI (i + 1))), (3, .int r_75), (1, .ref (A.1 0)), (0, .ref b)]) hx hb dL_law_138 hl (k := 1) rfl (nI_add i 1) (by decide) rfl (fun ls hl => ?_)
            refine lv_goto (tgt := 65) hx hb dL_law_141 (by decide) ?_
            exact ih_65 _ z2_90 (i + 1) _ _ _ X (lv_sub hl [0, 2, 3] rfl) (by omega) (by assumption) (by assumption) (by omega)
          · have c_126 : i % 4 = 3 := (nI_eq (a := i % 4) (b := 3) (by omega) (by omega)).mp c_126
            refine lv_aload_n hx hb dL_law_129 rfl (lv_at hl 2 rfl) ?_
            refine x_cSi F X (gc := [xoA q A, ob2_116]) (gr := []) (xp_idx (n := 2) [0, 1] (by decide +kernel) rfl rfl) (c_L_areAll l D q A z2_90 ob2_116 (by first | assumption | omega) (by first | assumption | omega)) (va_cwS 1 F.1.2.2.2.2 gL_law_L_areAll rfl rfl rfl (by decide +kernel) ⟨Nat.le_of_ble_eq_true rfl, Nat.le_of_ble_eq_true rfl⟩) rfl rfl hl.1 ⟨Nat.le_of_ble_eq_true rfl, Nat.le_of_ble_eq_true rfl⟩ (Nat.le_of_ble_eq_true rfl) dL_law_130 (fun r_130 g1 H locs hp X => ?_)
            obtain ⟨ob2_130, rfl, rfl, hob2_130⟩ := hp
            have X : xS D A9 s9 [xoA q A, ob2_130] H locs := X
            refine lv_if_ne (tgt := 138) hx hb dL_law_133 (by decide) (fun _ => ?_) (fun h => absurd h (by decide))
            refine lv_iinc (v := (nI (i + 1))) (lv' := [(2, .int (nI (i + 1))), (3, .int r_75), (1, .ref (A.1 0)), (0, .ref b)]) hx hb dL_law_138 hl (k := 1) rfl (nI_add i 1) (by decide) rfl (fun ls hl => ?_)
            refine lv_goto (tgt := 65) hx hb dL_law_141 (by decide) ?_
            exact ih_65 _ z2_90 (i + 1) _ _ _ X (lv_sub hl [0, 2, 3] rfl) (by omega) (by assumption) (by assumption) (by omega)
  exact L_65 (111) _ xz0 0 _ _ _ X (lv_sub hl [0, 1, 2] rfl) (by omega) (by assumption) (by assumption) (by omega)
set_option maxHeartbeats 4000000 in
set_option maxRecDepth 100000 in
theorem lw_first {p9 : Program} {l : Launch} {e9 : Env} {s9 : State} {m9 : MethodId} {below : List Frame} {meth : Method} {c9 : Code} {b L : Nat} {xs : Nat → Int32} {D : va_G} {q : xQ} (hL : L ≤ 260) (hr : meth.sig.returnType = ret) (hlocks : meth.locks = false) (hX : va_X b L xs s9 s9.heap) (hbl : b < s9.heap.size) (F : xF p9 m9 c9 cL_law 4 s9 #[Value.ref b] wsL_law RL D q) {ls : Array Slot} (X : xS D (fun r : Nat => s9.heap.size ≤ r) s9 [] s9.heap []) (hl : lv_has ls 4 [(0, .ref b)]) : W p9 l e9 room_1 s9 m9 #[Value.ref b] below meth c9 s9.heap [] 0 0 (lw_Z below #[Value.ref b] s9) (F0 m9 0 ls []) := by
  have hx := F.1.1
  have hb := F.1.2.1
  have mw_0 : Cond.classLink RL 9 RX7 ∈ wsL_law := by decide +kernel
  have mw_1 : Cond.instantiable RX7 8 ∈ wsL_law := by decide +kernel
  have mw_2 : Cond.initialized RX7 ∈ wsL_law := by decide +kernel
  have mw_3 : Cond.initialized RX7 ∈ wsL_law := by decide +kernel
  have mw_4 : Cond.methodLink RL 101 yX7_init ∈ wsL_law := by decide +kernel
  have mw_5 : Cond.instanceMethod yX7_init ∈ wsL_law := by decide +kernel
  refine x_nu F X (C := RX7) (T := TX7) (N := 8) (ci := 7) (fs := [.null, .null, .null, .null, .null, .null, .null, .null]) inlX7 tyX7 tyX7_ok mw_0 mw_1 mw_2 rfl (fun j hj => match j, hj with | 0, _ => rfl | 1, _ => rfl | 2, _ => rfl | 3, _ => rfl | 4, _ => rfl | 5, _ => rfl | 6, _ => rfl | 7, _ => rfl | (k + 8), h => absurd h (by omega)) (Nat.le_of_ble_eq_true rfl) (Nat.le_of_ble_eq_true rfl) dL_law_0 (fun x0 H X => ?_)
  have X : xS D (fun r : Nat => s9.heap.size ≤ r) s9 [[(x0, .inr (7, [.null, .null, .null, .null, .null, .null, .null, .null]))]] H [] := X
  refine lv_dup hx hb dL_law_3 rfl ?_
  refine x_cI F X (gc := [[(x0, .inr (7, [.null, .null, .null, .null, .null, .null, .null, .null]))]]) (gr := []) (List.Perm.refl _) (c_X7_init l D q x0) (cwI 0 F.1.2.2.2.2 gL_law_X7_init rfl rfl rfl (F.1.2.2.2.2 _ mw_3) (F.1.2.2.2.2 _ mw_4) (F.1.2.2.2.2 _ mw_5) rfl (by decide +kernel) ⟨Nat.le_of_ble_eq_true rfl, Nat.le_of_ble_eq_true rfl⟩) rfl rfl hl.1 ⟨Nat.le_of_ble_eq_true rfl, Nat.le_of_ble_eq_true rfl⟩ (Nat.le_of_ble_eq_true rfl) dL_law_4 (fun g1 H locs hp X => ?_)
  obtain ⟨ta, aa, tb, ad, sd, ha, t1, t2, t3, hh, h1, hs, hf, hp, p1, hd, d1, hr0, s0, s1, s2, s3, s4, s5, rfl, had, hsd⟩ := hp
  have X : xS D (fun r : Nat => s9.heap.size ≤ r) s9 [xoW q x0 (ta 0) ha hh hs hf hp hd hr0, tG q ta x_T0, aW q ha t1 t2 t3 (fun _ => 0) (fun _ => 0) (fun _ => 0), hiW q hh h1 ad 0 0, tG q (aa 0) x_T0, tG q (aa 1) x_T0, tG q (aa 2) x_T0, tG q (aa 3) x_T0, tG q (aa 4) x_T0, tG q (aa 5) x_T0, slW q hs sd, fiW q hf (fun _ => 0), pW q hp p1 (fun _ => 0) 0 0, pW q hd d1 (fun _ => 0) 0 0, rdW q hr0 s0 0 (-6), sW q s0 s1 s2 s3 s4 s5 (fun _ => 0) (fun _ => 0) (fun _ => 0) (fun _ => 0) (fun _ => 0) 0, tG q (tb 0) x_T0, tG q (tb 1) x_T0] H locs := X
  have X := X.perm (gs' := xoC q ((fun i => match i with | 0 => x0 | 1 => ha | 2 => hh | 3 => hs | 4 => hf | 5 => hp | 6 => hd | 7 => hr0 | 8 => t1 | 9 => t2 | 10 => t3 | 11 => h1 | 12 => p1 | 13 => d1 | 14 => s0 | 15 => s1 | 16 => s2 | 17 => s3 | 18 => s4 | _ => s5), ta, aa, tb, ad, sd) x_T0 (fun _ => x_T0) (fun _ => x_T0) (fun _ _ => 0) x_I0) (xp_idx (n := 18) [0, 3, 1, 2, 10, 11, 12, 13, 14, 15, 16, 17, 4, 5, 6, 7, 8, 9] (by decide +kernel) rfl rfl)
  have e0 : xoA q ((fun i => match i with | 0 => x0 | 1 => ha | 2 => hh | 3 => hs | 4 => hf | 5 => hp | 6 => hd | 7 => hr0 | 8 => t1 | 9 => t2 | 10 => t3 | 11 => h1 | 12 => p1 | 13 => d1 | 14 => s0 | 15 => s1 | 16 => s2 | 17 => s3 | 18 => s4 | _ => s5), ta, aa, tb, ad, sd) ++ (xoC q ((fun i => match i with | 0 => x0 | 1 => ha | 2 => hh | 3 => hs | 4 => hf | 5 => hp | 6 => hd | 7 => hr0 | 8 => t1 | 9 => t2 | 10 => t3 | 11 => h1 | 12 => p1 | 13 => d1 | 14 => s0 | 15 => s1 | 16 => s2 | 17 => s3 | 18 => s4 | _ => s5), ta, aa, tb, ad, sd) x_T0 (fun _ => x_T0) (fun _ => x_T0) (fun _ _ => 0) x_I0).flatten.tail = (xoC q ((fun i => match i with | 0 => x0 | 1 => ha | 2 => hh | 3 => hs | 4 => hf | 5 => hp | 6 => hd | 7 => hr0 | 8 => t1 | 9 => t2 | 10 => t3 | 11 => h1 | 12 => p1 | 13 => d1 | 14 => s0 | 15 => s1 | 16 => s2 | 17 => s3 | 18 => s4 | _ => s5), ta, aa, tb, ad, sd) x_T0 (fun _ => x_T0) (fun _ => x_T0) (fun _ _ => 0) x_I0).flatten := rfl
  have X : xS D (fun r : Nat => s9.heap.size ≤ r) s9 [xoA q ((fun i => match i with | 0 => x0 | 1 => ha | 2 => hh | 3 => hs | 4 => hf | 5 => hp | 6 => hd | 7 => hr0 | 8 => t1 | 9 => t2 | 10 => t3 | 11 => h1 | 12 => p1 | 13 => d1 | 14 => s0 | 15 => s1 | 16 => s2 | 17 => s3 | 18 => s4 | _ => s5), ta, aa, tb, ad, sd), (xoC q ((fun i => match i with | 0 => x0 | 1 => ha | 2 => hh | 3 => hs | 4 => hf | 5 => hp | 6 => hd | 7 => hr0 | 8 => t1 | 9 => t2 | 10 => t3 | 11 => h1 | 12 => p1 | 13 => d1 | 14 => s0 | 15 => s1 | 16 => s2 | 17 => s3 | 18 => s4 | _ => s5), ta, aa, tb, ad, sd) x_T0 (fun _ => x_T0) (fun _ => x_T0) (fun _ _ => 0) x_I0).flatten.tail] H locs := X.same (lw_two e0)
  refine lv_astore_n (lv' := [(1, .ref x0), (0, .ref b)]) hx hb dL_law_7 rfl hl (by decide) rfl (fun ls hl => ?_)
  refine W.widen (k := 600000) (n := 7302250) (Nat.le_of_ble_eq_true rfl) (Nat.le_of_ble_eq_true rfl) ?_
  exact lw_run (A := ((fun i => match i with | 0 => x0 | 1 => ha | 2 => hh | 3 => hs | 4 => hf | 5 => hp | 6 => hd | 7 => hr0 | 8 => t1 | 9 => t2 | 10 => t3 | 11 => h1 | 12 => p1 | 13 => d1 | 14 => s0 | 15 => s1 | 16 => s2 | 17 => s3 | 18 => s4 | _ => s5), ta, aa, tb, ad, sd)) hL hX hbl (Nat.not_le.mpr hbl) F (fun gs H locs pc ls X hdg => va_forget X.2.2.1.2.2 (lw_ret hx hb hr hlocks hdg)) ⟨had, hsd, x_T0, (fun _ => x_T0), (fun _ => x_T0), (fun _ _ => 0), x_I0, (fun _ => 0), (fun _ => 0), e0, x_rel0.cn⟩ X hl
/-- YOUR PART of the skeleton: from the entry -/
theorem whole_start {p : Program} {e : Env} {s : State} {m : MethodId} {below : List Frame} {meth : Method} {c : Code} (l : Launch) (hflags : l.flags = flags0) {b L : Nat} {xs : Nat → Int32} (hL : L ≤ 260) (C0 : lw_At p s m meth c b L xs) : W p l e room_1 s m #[Value.ref b] below meth c s.heap [] 0 0 (lw_Z below #[Value.ref b] s) (entryFrame m ([Value.ref b] : List Value).toArray 4) := by
  obtain ⟨hx, hb, hr, hml, hown, hts, hX, hbl, hlocks, hgv⟩ := id C0
  obtain ⟨D, q, hK⟩ := x_K0 hts
  have hZ := x_Z0 hts hgv
  have hN : xN s := xN_of (fun w hw => hts w (xNs_tbl w hw))
  have F : xF p m c cL_law 4 s #[Value.ref b] wsL_law RL D q := ⟨⟨hx, hb, hml, hown, fun w h => hts w (wsL_law_in w h)⟩, hK, hN⟩
  have X : xS D (fun r : Nat => s.heap.size ≤ r) s [] s.heap [] := ⟨fun k q h => by simp at h, ⟨fun i j p q h => by simp at h, fun k q h => by simp at h⟩, va_S.rf, fun _ h => h, hZ⟩
  have hl := lv_entry ([.ref b]) (n := 4) (Nat.le_of_ble_eq_true rfl)
  rw [lg_entry_eq]
  generalize (lg_sl ([.ref b]) ++ List.replicate (4 - (lg_sl ([.ref b])).length) Slot.unset).toArray = ls at hl ⊢
  have hl : lv_has ls 4 [(0, .ref b)] := hl
  exact lw_first hL hr hlocks hX hbl F X hl
