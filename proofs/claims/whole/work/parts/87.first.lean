set_option maxHeartbeats 4000000 in
set_option maxRecDepth 100000 in
theorem lw_first {p9 : Program} {l : Launch} {e9 : Env} {s9 : State} {m9 : MethodId} {below : List Frame} {meth : Method} {c9 : Code} {b L : Nat} {xs : Nat → Int32} {D : va_G} {q : xQ} (hL : L ≤ 2048) (hr : meth.sig.returnType = ret) (hlocks : meth.locks = false) (hX : va_X b L xs s9 s9.heap) (hbl : b < s9.heap.size) (F : xF p9 m9 c9 cL_law 4 s9 #[Value.ref b] wsL_law RL D q) {ls : Array Slot} (X : xS D (fun r : Nat => s9.heap.size ≤ r) s9 [] s9.heap []) (hl : lv_has ls 4 [(0, .ref b)]) : W p9 l e9 room_1 s9 m9 #[Value.ref b] below meth c9 s9.heap [] 0 0 (lw_Z below #[Value.ref b] s9) (F0 m9 0 ls []) := by
  have hx := F.1.1
  have hb := F.1.2.1
  have mw_0 : Cond.classLink RL 7 RX7 ∈ wsL_law := by decide +kernel
  have mw_1 : Cond.instantiable RX7 8 ∈ wsL_law := by decide +kernel
  have mw_2 : Cond.initialized RX7 ∈ wsL_law := by decide +kernel
  have mw_3 : Cond.initialized RX7 ∈ wsL_law := by decide +kernel
  have mw_4 : Cond.methodLink RL 9 yX7_init ∈ wsL_law := by decide +kernel
  have mw_5 : Cond.instanceMethod yX7_init ∈ wsL_law := by decide +kernel
  have mw_6 : Cond.classLink RL 10 RX8 ∈ wsL_law := by decide +kernel
  have mw_7 : Cond.instantiable RX8 14 ∈ wsL_law := by decide +kernel
  have mw_8 : Cond.initialized RX8 ∈ wsL_law := by decide +kernel
  have mw_9 : Cond.initialized RX8 ∈ wsL_law := by decide +kernel
  have mw_10 : Cond.methodLink RL 12 yX8_init ∈ wsL_law := by decide +kernel
  have mw_11 : Cond.instanceMethod yX8_init ∈ wsL_law := by decide +kernel
  refine x_nu F X (C := RX7) (T := TX7) (N := 8) (ci := 7) (fs := [.null, .null, .null, .null, .null, .null, .null, .null]) inlX7 tyX7 tyX7_ok mw_0 mw_1 mw_2 rfl (fun j hj => match j, hj with | 0, _ => rfl | 1, _ => rfl | 2, _ => rfl | 3, _ => rfl | 4, _ => rfl | 5, _ => rfl | 6, _ => rfl | 7, _ => rfl | (k + 8), h => absurd h (by omega)) (Nat.le_of_ble_eq_true rfl) (Nat.le_of_ble_eq_true rfl) dL_law_0 (fun x0 H X => ?_)
  have X : xS D (fun r : Nat => s9.heap.size ≤ r) s9 ([[(x0, .inr (7, [.null, .null, .null, .null, .null, .null, .null, .null]))]]) H [] := X
  refine lv_dup hx hb dL_law_3 rfl ?_
  refine x_cI F X (gc := [[(x0, .inr (7, [.null, .null, .null, .null, .null, .null, .null, .null]))]]) (gr := []) (List.Perm.refl _) (c_X7_init l D q x0) (cwI 0 F.1.2.2.2.2 gL_law_X7_init rfl rfl rfl (F.1.2.2.2.2 _ mw_3) (F.1.2.2.2.2 _ mw_4) (F.1.2.2.2.2 _ mw_5) rfl (by decide +kernel) ⟨Nat.le_of_ble_eq_true rfl, Nat.le_of_ble_eq_true rfl⟩) rfl rfl hl.1 ⟨Nat.le_of_ble_eq_true rfl, Nat.le_of_ble_eq_true rfl⟩ (Nat.le_of_ble_eq_true rfl) dL_law_4 (fun g1 H locs hp X => ?_)
  obtain ⟨ta, aa, tb, ad, sd, ha, t1, t2, t3, hh, h1, hs, hf, hp, p1, hd, d1, hr0, s0, s1, s2, s3, s4, s5, rfl, had, hsd⟩ := hp
  have X : xS D (fun r : Nat => s9.heap.size ≤ r) s9 [xoW q x0 (ta 0) ha hh hs hf hp hd hr0, tG q ta x_T0, aW q ha t1 t2 t3 (fun _ => 0) (fun _ => 0) (fun _ => 0), hiW q hh h1 ad 0 0, tG q (aa 0) x_T0, tG q (aa 1) x_T0, tG q (aa 2) x_T0, tG q (aa 3) x_T0, tG q (aa 4) x_T0, tG q (aa 5) x_T0, slW q hs sd, fiW q hf (fun _ => 0), pW q hp p1 (fun _ => 0) 0 0, pW q hd d1 (fun _ => 0) 0 0, rdW q hr0 s0 0 (-6), sW q s0 s1 s2 s3 s4 s5 (fun _ => 0) (fun _ => 0) (fun _ => 0) (fun _ => 0) (fun _ => 0) 0, tG q (tb 0) x_T0, tG q (tb 1) x_T0] H locs := X
  refine lv_astore_n (lv' := [(1, .ref x0), (0, .ref b)]) hx hb dL_law_7 rfl hl (by decide) rfl (fun ls hl => ?_)
  refine x_nu F X (C := RX8) (T := TX8) (N := 14) (ci := 8) (fs := [.null, .null, .int 0, .null, .null, .null, .int 0, .null, .null, .int 0, .int 0, .int 0, .null, .int 0]) inlX8 tyX8 tyX8_ok mw_6 mw_7 mw_8 rfl (fun j hj => match j, hj with | 0, _ => rfl | 1, _ => rfl | 2, _ => rfl | 3, _ => rfl | 4, _ => rfl | 5, _ => rfl | 6, _ => rfl | 7, _ => rfl | 8, _ => rfl | 9, _ => rfl | 10, _ => rfl | 11, _ => rfl | 12, _ => rfl | 13, _ => rfl | (k + 14), h => absurd h (by omega)) (Nat.le_of_ble_eq_true rfl) (Nat.le_of_ble_eq_true rfl) dL_law_8 (fun y0 H X => ?_)
  refine lv_dup hx hb dL_law_11 rfl ?_
  refine x_cI F X (gc := [[(y0, .inr (8, [.null, .null, .int 0, .null, .null, .null, .int 0, .null, .null, .int 0, .int 0, .int 0, .null, .int 0]))]]) (gr := [xoW q x0 (ta 0) ha hh hs hf hp hd hr0, tG q ta x_T0, aW q ha t1 t2 t3 (fun _ => 0) (fun _ => 0) (fun _ => 0), hiW q hh h1 ad 0 0, tG q (aa 0) x_T0, tG q (aa 1) x_T0, tG q (aa 2) x_T0, tG q (aa 3) x_T0, tG q (aa 4) x_T0, tG q (aa 5) x_T0, slW q hs sd, fiW q hf (fun _ => 0), pW q hp p1 (fun _ => 0) 0 0, pW q hd d1 (fun _ => 0) 0 0, rdW q hr0 s0 0 (-6), sW q s0 s1 s2 s3 s4 s5 (fun _ => 0) (fun _ => 0) (fun _ => 0) (fun _ => 0) (fun _ => 0) 0, tG q (tb 0) x_T0, tG q (tb 1) x_T0]) List.perm_append_comm (c_X8_init l D q y0) (cwI 0 F.1.2.2.2.2 gL_law_X8_init rfl rfl rfl (F.1.2.2.2.2 _ mw_9) (F.1.2.2.2.2 _ mw_10) (F.1.2.2.2.2 _ mw_11) rfl (by decide +kernel) ⟨Nat.le_of_ble_eq_true rfl, Nat.le_of_ble_eq_true rfl⟩) rfl rfl hl.1 ⟨Nat.le_of_ble_eq_true rfl, Nat.le_of_ble_eq_true rfl⟩ (Nat.le_of_ble_eq_true rfl) dL_law_12 (fun g1 H locs hp X => ?_)
  obtain ⟨b1, b2, b3, b4, b5, b6, b7, b8, rfl⟩ := hp
  have X := X.perm (gs' := cW q (fun i => match i with | 0 => x0 | 1 => ha | 2 => hh | 3 => hs | 4 => hf | 5 => hp | 6 => hd | 7 => hr0 | 8 => t1 | 9 => t2 | 10 => t3 | 11 => h1 | 12 => p1 | 13 => d1 | 14 => s0 | 15 => s1 | 16 => s2 | 17 => s3 | 18 => s4 | _ => s5) ta aa tb ad sd x_T0 (fun _ => x_T0) (fun _ => x_T0) (fun _ _ => 0) x_I0 ++ [mW q ((fun i => match i with | 0 => y0 | 1 => b1 | 2 => b2 | 3 => b3 | 4 => b4 | 5 => b5 | 6 => b6 | 7 => b7 | _ => b8) 0) ((fun i => match i with | 0 => y0 | 1 => b1 | 2 => b2 | 3 => b3 | 4 => b4 | 5 => b5 | 6 => b6 | 7 => b7 | _ => b8) 1) ((fun i => match i with | 0 => y0 | 1 => b1 | 2 => b2 | 3 => b3 | 4 => b4 | 5 => b5 | 6 => b6 | 7 => b7 | _ => b8) 2) ((fun i => match i with | 0 => y0 | 1 => b1 | 2 => b2 | 3 => b3 | 4 => b4 | 5 => b5 | 6 => b6 | 7 => b7 | _ => b8) 3) ((fun i => match i with | 0 => y0 | 1 => b1 | 2 => b2 | 3 => b3 | 4 => b4 | 5 => b5 | 6 => b6 | 7 => b7 | _ => b8) 4) ((fun i => match i with | 0 => y0 | 1 => b1 | 2 => b2 | 3 => b3 | 4 => b4 | 5 => b5 | 6 => b6 | 7 => b7 | _ => b8) 5) ((fun i => match i with | 0 => y0 | 1 => b1 | 2 => b2 | 3 => b3 | 4 => b4 | 5 => b5 | 6 => b6 | 7 => b7 | _ => b8) 6) ((fun i => match i with | 0 => y0 | 1 => b1 | 2 => b2 | 3 => b3 | 4 => b4 | 5 => b5 | 6 => b6 | 7 => b7 | _ => b8) 7) ((fun i => match i with | 0 => y0 | 1 => b1 | 2 => b2 | 3 => b3 | 4 => b4 | 5 => b5 | 6 => b6 | 7 => b7 | _ => b8) 8) x_s0 (fun _ => 0) (fun _ => 0) (fun _ => 0) (fun _ => 0) (fun _ => 0) (fun _ => 0) (fun _ => 0) (nI 0) (nI 0) 0 0 0 0]) (xp_idx (n := 19) [1, 4, 2, 3, 11, 12, 13, 14, 15, 16, 17, 18, 5, 6, 7, 8, 9, 10, 0] (by decide +kernel) rfl rfl)
  refine lv_astore_n (lv' := [(2, .ref y0), (1, .ref x0), (0, .ref b)]) hx hb dL_law_15 rfl hl (by decide) rfl (fun ls hl => ?_)
  refine lv_iconst (v := 0) hx hb dL_law_16 (by decide) ?_
  refine lv_istore_n (lv' := [(3, .int 0), (2, .ref y0), (1, .ref x0), (0, .ref b)]) hx hb dL_law_17 rfl hl (by decide) rfl (fun ls hl => ?_)
  refine W.widen (k := 600000) (n := 7302250) (Nat.le_of_ble_eq_true rfl) (Nat.le_of_ble_eq_true rfl) ?_
  exact lw_loop (ca := (fun i => match i with | 0 => x0 | 1 => ha | 2 => hh | 3 => hs | 4 => hf | 5 => hp | 6 => hd | 7 => hr0 | 8 => t1 | 9 => t2 | 10 => t3 | 11 => h1 | 12 => p1 | 13 => d1 | 14 => s0 | 15 => s1 | 16 => s2 | 17 => s3 | 18 => s4 | _ => s5)) (mb := (fun i => match i with | 0 => y0 | 1 => b1 | 2 => b2 | 3 => b3 | 4 => b4 | 5 => b5 | 6 => b6 | 7 => b7 | _ => b8)) hL hr hlocks hX hbl F had hsd rfl (L + 1) 0 _ _ _ _ (by omega) (Nat.zero_le L) ⟨_, _, _, _, _, _, _, _, _, _, _, _, _, 0, 0, _, _, _, _, _, _, rfl, x_rel0⟩ X (lv_sub hl [0, 3, 2, 1] rfl)
/-- YOUR PART of the skeleton: from the entry -/
theorem whole_start {p : Program} {e : Env} {s : State} {m : MethodId} {below : List Frame} {meth : Method} {c : Code} (l : Launch) (hflags : l.flags = flags0) {b L : Nat} {xs : Nat → Int32} (hL : L ≤ 2048) (C0 : lw_At p s m meth c b L xs) : W p l e room_1 s m #[Value.ref b] below meth c s.heap [] 0 0 (lw_Z below #[Value.ref b] s) (entryFrame m ([Value.ref b] : List Value).toArray 4) := by
  obtain ⟨hx, hb, hr, hml, hown, hts, hX, hbl, hlocks, hgv⟩ := id C0
  obtain ⟨D, q, hK⟩ := x_K0 hts
  have hZ := x_Z0 hts hgv
  have hN : xN s := xN_of (fun w hw => hts w (xNs_tbl w hw))
  have F : xF p m c cL_law 4 s #[Value.ref b] wsL_law RL D q := ⟨⟨hx, hb, hml, hown, fun w h => hts w (wsL_law_in w h)⟩, hK, hN⟩
  have X : xS D (fun r : Nat => s.heap.size ≤ r) s [] s.heap [] := ⟨fun k q h => by simp at h, ⟨fun i j p q h => by simp at h, fun k q h => by simp at h⟩, va_S.rf, fun _ h => h, hZ⟩
  have hl := lv_entry ([.ref b]) (n := 4) (Nat.le_of_ble_eq_true rfl)
  rw [lg_entry_eq]
  generalize (lg_sl ([.ref b]) ++ List.replicate (4 - (lg_sl ([.ref b])).length) Slot.unset).toArray = ls at hl ⊢
  have hl : lv_has ls 4 [(0, .ref b)] := hl
  exact lw_first hL hr hlocks hX hbl F X hl
