/-! The law's loop, and its start. -/
theorem lw_cmp {i L : Nat} (hi : i ≤ L) (hL : L ≤ 2048) : nI L - 4 < nI i ↔ L < i + 4 := by
  rw [x_toInt_lt, show (4 : Int32) = nI 4 from rfl, pk_sub_toInt (by omega) (by omega), nI_toInt (by omega)]
  omega
set_option maxHeartbeats 1000000 in
set_option maxRecDepth 100000 in
theorem lw_loop {p9 : Program} {l : Launch} {e9 : Env} {s9 : State} {m9 : MethodId} {below : List Frame} {meth : Method} {c9 : Code} {Z9 : State → Prop} {b L : Nat} {xs : Nat → Int32} {D : va_G} {q : xQ} {ca ta mb : Nat → Nat} {aa tb : Nat → Nat → Nat} {ad sd : Nat → Option Nat} (hL : L ≤ 2048) (hr : meth.sig.returnType = ret) (hlocks : meth.locks = false) (hX : va_X b L xs s9 s9.heap) (hbl : b < s9.heap.size) (F : xF p9 m9 c9 cL_law 4 s9 #[Value.ref b] wsL_law RL D q) (had : ∀ i, i < 6 → ad i = some (aa i 0)) (hsd : ∀ i, i < 2 → sd i = some (tb i 0)) (hZ9 : Z9 = lw_Z below #[Value.ref b] s9) : ∀ (nn i : Nat) (gs : List va_W) (H : Heap) (locs : List Loc) (ls : Array Slot), L < i + nn → i ≤ L → xInv q ca ta aa tb ad sd mb gs → xS D (fun r : Nat => s9.heap.size ≤ r) s9 gs H locs → lv_has ls 4 [(3, .int (nI i)), (0, .ref b), (1, .ref (ca 0)), (2, .ref (mb 0))] → W p9 l e9 room_1 s9 m9 #[Value.ref b] below meth c9 H locs 600000 7302250 Z9 (F0 m9 18 ls []) := by
  have hx := F.1.1
  have hb := F.1.2.1
  intro nn
  induction nn with
  | zero => intro i gs H locs ls h1 h2; omega
  | succ nn ih =>
    intro i gs H locs ls hfuel hiL hinv X hl
    refine lv_iload_n hx hb dL_law_18 rfl (lv_at hl 0 rfl) ?_
    refine lv_aload_n hx hb dL_law_19 rfl (lv_at hl 1 rfl) ?_
    refine va_slen hx hb hX hbl (Nat.not_le.mpr hbl) X.2.2.1 dL_law_20 ?_
    refine x_i (y := nI L) rfl ?_
    refine lv_iconst (v := 4) hx hb dL_law_21 (by decide) ?_
    refine lv_isub hx hb dL_law_22 ?_
    refine lv_icmp_gt (tgt := 735) hx hb dL_law_23 (by decide) (fun _ => ?_) (fun hc => ?_)
    · refine lv_iconst (v := 1) hx hb dL_law_735 (by decide) ?_
      refine va_forget X.2.2.1.2.2 ?_
      rw [hZ9]
      exact lw_ret hx hb hr hlocks dL_law_736
    · have hi : i + 4 ≤ L := Nat.not_lt.mp (fun h => hc ((lw_cmp hiL hL).mpr h))
      have K : ∀ (gs : List va_W) (H : Heap) (locs : List Loc) (ls : Array Slot), xInv q ca ta aa tb ad sd mb gs → xS D (fun r : Nat => s9.heap.size ≤ r) s9 gs H locs → lv_has ls 4 [(3, .int (nI i)), (0, .ref b), (1, .ref (ca 0)), (2, .ref (mb 0))] → W p9 l e9 room_1 s9 m9 #[Value.ref b] below meth c9 H locs 600000 7302250 Z9 (F0 m9 729 ls []) := by
        intro gs H locs ls hinv X hl
        refine lv_iinc (v := nI (i + 4)) (lv' := [(3, .int (nI (i + 4))), (0, .ref b), (1, .ref (ca 0)), (2, .ref (mb 0))]) hx hb dL_law_729 hl (k := 0) rfl (nI_add i 4) (by decide) rfl (fun ls hl => ?_)
        refine lv_goto (tgt := 18) hx hb dL_law_732 (by decide) ?_
        exact ih (i + 4) gs H locs ls (by omega) (by omega) hinv X hl
      refine lv_aload_n hx hb dL_law_26 rfl (lv_at hl 1 rfl) ?_
      refine lv_iload_n hx hb dL_law_27 rfl (lv_at hl 0 rfl) ?_
      refine lw_sl F X hX hbl hL (i := i) (by omega) dL_law_28 ?_
      refine lv_bipush (v := 31) hx hb dL_law_29 (by decide) ?_
      refine lv_iand hx hb dL_law_31 ?_
      rcases x_sw (xs i &&& 31) 0 22 (by decide) with hc2 | ⟨j, hj1, hj2, ej⟩
      · refine lv_tableOut (tgt := 729) hx hb dL_law_32 hc2 (by decide) ?_
        exact K gs H locs ls hinv X hl
      · rcases (show j = 0 ∨ j = 1 ∨ j = 2 ∨ j = 3 ∨ j = 4 ∨ j = 5 ∨ j = 6 ∨ j = 7 ∨ j = 8 ∨ j = 9 ∨ j = 10 ∨ j = 11 ∨ j = 12 ∨ j = 13 ∨ j = 14 ∨ j = 15 ∨ j = 16 ∨ j = 17 ∨ j = 18 ∨ j = 19 ∨ j = 20 ∨ j = 21 ∨ j = 22 by omega) with rfl | rfl | rfl | rfl | rfl | rfl | rfl | rfl | rfl | rfl | rfl | rfl | rfl | rfl | rfl | rfl | rfl | rfl | rfl | rfl | rfl | rfl | rfl
        · exact x_i ej (lv_tableIn (off := 108) (tgt := 140) hx hb dL_law_32 (by decide) (by decide) (by decide) (by decide) (lw_c0 hL hX hbl F had hsd hi hinv X hl K))
        · exact x_i ej (lv_tableIn (off := 141) (tgt := 173) hx hb dL_law_32 (by decide) (by decide) (by decide) (by decide) (lw_c1 hL hX hbl F had hsd hi hinv X hl K))
        · exact x_i ej (lv_tableIn (off := 154) (tgt := 186) hx hb dL_law_32 (by decide) (by decide) (by decide) (by decide) (lw_c2 hL hX hbl F had hsd hi hinv X hl K))
        · exact x_i ej (lv_tableIn (off := 187) (tgt := 219) hx hb dL_law_32 (by decide) (by decide) (by decide) (by decide) (lw_c3 hL hX hbl F had hsd hi hinv X hl K))
        · exact x_i ej (lv_tableIn (off := 230) (tgt := 262) hx hb dL_law_32 (by decide) (by decide) (by decide) (by decide) (lw_c4 hL hX hbl F had hsd hi hinv X hl K))
        · exact x_i ej (lv_tableIn (off := 253) (tgt := 285) hx hb dL_law_32 (by decide) (by decide) (by decide) (by decide) (lw_c5 hL hX hbl F had hsd hi hinv X hl K))
        · exact x_i ej (lv_tableIn (off := 276) (tgt := 308) hx hb dL_law_32 (by decide) (by decide) (by decide) (by decide) (lw_c6 hL hX hbl F had hsd hi hinv X hl K))
        · exact x_i ej (lv_tableIn (off := 289) (tgt := 321) hx hb dL_law_32 (by decide) (by decide) (by decide) (by decide) (lw_c7 hL hX hbl F had hsd hi hinv X hl K))
        · exact x_i ej (lv_tableIn (off := 322) (tgt := 354) hx hb dL_law_32 (by decide) (by decide) (by decide) (by decide) (lw_c8 hL hX hbl F had hsd hi hinv X hl K))
        · exact x_i ej (lv_tableIn (off := 355) (tgt := 387) hx hb dL_law_32 (by decide) (by decide) (by decide) (by decide) (lw_c9 hL hX hbl F had hsd hi hinv X hl K))
        · exact x_i ej (lv_tableIn (off := 388) (tgt := 420) hx hb dL_law_32 (by decide) (by decide) (by decide) (by decide) (lw_c10 hL hX hbl F had hsd hi hinv X hl K))
        · exact x_i ej (lv_tableIn (off := 411) (tgt := 443) hx hb dL_law_32 (by decide) (by decide) (by decide) (by decide) (lw_c11 hL hX hbl F had hsd hi hinv X hl K))
        · exact x_i ej (lv_tableIn (off := 434) (tgt := 466) hx hb dL_law_32 (by decide) (by decide) (by decide) (by decide) (lw_c12 hL hX hbl F had hsd hi hinv X hl K))
        · exact x_i ej (lv_tableIn (off := 457) (tgt := 489) hx hb dL_law_32 (by decide) (by decide) (by decide) (by decide) (lw_c13 hL hX hbl F had hsd hi hinv X hl K))
        · exact x_i ej (lv_tableIn (off := 480) (tgt := 512) hx hb dL_law_32 (by decide) (by decide) (by decide) (by decide) (lw_c14 hL hX hbl F had hsd hi hinv X hl K))
        · exact x_i ej (lv_tableIn (off := 513) (tgt := 545) hx hb dL_law_32 (by decide) (by decide) (by decide) (by decide) (lw_c15 hL hX hbl F had hsd hi hinv X hl K))
        · exact x_i ej (lv_tableIn (off := 546) (tgt := 578) hx hb dL_law_32 (by decide) (by decide) (by decide) (by decide) (lw_c16 hL hX hbl F had hsd hi hinv X hl K))
        · exact x_i ej (lv_tableIn (off := 559) (tgt := 591) hx hb dL_law_32 (by decide) (by decide) (by decide) (by decide) (lw_c17 hL hX hbl F had hsd hi hinv X hl K))
        · exact x_i ej (lv_tableIn (off := 612) (tgt := 644) hx hb dL_law_32 (by decide) (by decide) (by decide) (by decide) (lw_c18 hL hX hbl F had hsd hi hinv X hl K))
        · exact x_i ej (lv_tableIn (off := 625) (tgt := 657) hx hb dL_law_32 (by decide) (by decide) (by decide) (by decide) (lw_c19 hL hX hbl F had hsd hi hinv X hl K))
        · exact x_i ej (lv_tableIn (off := 638) (tgt := 670) hx hb dL_law_32 (by decide) (by decide) (by decide) (by decide) (lw_c20 hL hX hbl F had hsd hi hinv X hl K))
        · exact x_i ej (lv_tableIn (off := 651) (tgt := 683) hx hb dL_law_32 (by decide) (by decide) (by decide) (by decide) (lw_c21 hL hX hbl F had hsd hi hinv X hl K))
        · exact x_i ej (lv_tableIn (off := 674) (tgt := 706) hx hb dL_law_32 (by decide) (by decide) (by decide) (by decide) (lw_c22 hL hX hbl F had hsd hi hinv X hl K))
