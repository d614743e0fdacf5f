/-! The town that is built of what was written. -/
/-- 1 if something branches off k -/
def x_it (pr : Nat → Nat) (n k : Nat) : Nat := if x_nb pr n k k < n then 1 else 0
theorem xl_tl (ws : Nat → List Nat) (pr : Nat → Nat) {n : Nat} : ∀ f k j, j < n → k ≤ j → n - j ≤ f → (x_tl ws pr n f k j).length = x_lk (fun o => 1 + ((ws o).length + x_it pr n o)) (xd_l pr n f k j) + (if j = k then x_it pr n k else 1)
  | 0, k, j, hj, hk, hf => by omega
  | f + 1, k, j, hj, hk, hf => by
    obtain ⟨⟨b1, b2⟩, -, -⟩ := x_nb_ok pr (n := n) (k := k) hj
    rw [x_tl, xd_l]
    by_cases c : x_nb pr n k j < n
    · have ih1 := xl_tl ws pr f (x_nb pr n k j) (x_nb pr n k j) c (Nat.le_refl _) (by omega)
      have ih2 := xl_tl ws pr f k (x_nb pr n k j) c (by omega) (by omega)
      rw [if_pos rfl] at ih1
      rw [if_neg (by omega)] at ih2
      have hit : (if j = k then x_it pr n k else 1) = 1 := by
        by_cases z : j = k
        · rw [if_pos z]
          rw [z] at c
          unfold x_it
          rw [if_pos c]
        · rw [if_neg z]
      rw [if_pos c, if_pos c, hit, List.length_cons, List.length_append, List.length_append, ih1, ih2, x_lk, x_lk_app]
      omega
    · rw [if_neg c, if_neg c]
      by_cases z : j = k
      · rw [if_pos z, if_pos z]
        rw [z] at c
        unfold x_it
        rw [if_neg c]
        rfl
      · rw [if_neg z, if_neg z]
        rfl
theorem xl_tx (T : Nat → Int32) {pr : Nat → Nat} {n : Nat} (hp : ∀ o, 1 ≤ o → o < n → pr o < o) (hn : 1 ≤ n) : (x_tx T pr n).length + 1 = x_kn (fun o => 1 + ((x_wT T o).length + x_it pr n o)) n := by
  have h1 := xl_tl (x_wT T) pr (n := n) n 0 0 (by omega) (Nat.le_refl 0) (by omega)
  have h2 : x_lk (fun o => 1 + ((x_wT T o).length + x_it pr n o)) (xd_o pr n) = x_kn (fun o => 1 + ((x_wT T o).length + x_it pr n o)) n := by
    rw [x_lk_perm _ (xd_perm hp hn), x_lk_rg]
  rw [if_pos rfl] at h1
  unfold x_tx x_tt
  rw [List.length_append, h1, ← h2]
  unfold xd_o
  rw [x_lk]
  omega
/-- a text of at most 10 streets is not too long -/
theorem xl_tx10 (T : Nat → Int32) {pr : Nat → Nat} {n : Nat} (hp : ∀ o, 1 ≤ o → o < n → pr o < o) (hn : 1 ≤ n) (h10 : n ≤ 10) : (x_tx T pr n).length ≤ 80 := by
  have h1 := x_tl_len (ws := x_wT T) hp (fun o _ => x_ws_len _ _ _ _ o) n 0 0 (Nat.le_refl 0) (by omega)
  have h2 : (x_wT T 0).length ≤ 6 := x_ws_len (x_tW T) (x_tC T) (x_tM T) (x_tP T) 0
  have h3 : x_cg pr n 0 0 ≤ n - 1 := x_kn_le (by rw [xt_0]; rfl) (fun o => by split <;> omega) n
  rw [if_pos rfl] at h1
  unfold x_tx x_tt
  rw [List.length_append]
  omega
theorem x_kn_pos {g : Nat → Nat} {o : Nat} : ∀ {n}, o < n → 1 ≤ g o → 1 ≤ x_kn g n
  | 0, h, _ => by omega
  | n + 1, h, h1 => by
    rw [x_kn]
    by_cases e : o = n
    · subst e; omega
    · have := x_kn_pos (g := g) (o := o) (n := n) (by omega) h1
      omega
theorem x_it_ct {T : Nat → Int32} {pr : Nat → Nat} {n k : Nat} (hok : x_ok T n pr) (hk : k < n) : x_it pr n k = if x_ct (x_tF T) (nI k) n = 0 then 0 else 1 := by
  have hn := hok.1
  have hpr := hok.2.2.2.2.1
  obtain ⟨⟨b1, b2⟩, b3, b4⟩ := x_nb_ok pr (n := n) (k := k) hk
  rw [x_ct_kn]
  unfold x_it
  by_cases c : x_nb pr n k k < n
  · have h : 1 ≤ x_kn (x_bk T k) n := x_kn_pos c (by
      have e : x_tF T (x_nb pr n k k) = nI (pr (x_nb pr n k k)) := (hpr _ (by omega) c).1
      unfold x_bk
      rw [e, b3 c, if_pos rfl]
      exact Nat.le_refl 1)
    rw [if_pos c, if_neg (by omega)]
  · have h : x_kn (x_bk T k) n = 0 := x_kn_z (fun o ho => by
      unfold x_bk
      refine if_neg (fun q => ?_)
      rcases Nat.eq_zero_or_pos o with rfl | h1
      · have e0 : x_tF T 0 = -1 := hok.2.2.2.1
        rw [e0] at q
        exact x_m1 k (by omega) q
      · have e : x_tF T o = nI (pr o) := (hpr o h1 ho).1
        have h2 := (hpr o h1 ho).2
        rw [e] at q
        have := (nI_eq (by omega) (by omega)).mp q
        exact b4 o (by omega) (by omega) this)
    rw [if_neg c, if_pos h]
section
variable {T to : Nat → Int32} {e fi : Nat → Nat}
theorem nt_row {n i w : Nat} (hi : i < n) (hw : w < 5) : x_bld T to n (33 + 5 * i + w) = to (5 * i + w) := by
  unfold x_bld
  rw [pk_un (by omega), x_pt_in (by omega) (by omega)]
  exact congrArg to (by omega)
theorem nt_out {n i : Nat} (hi : i < 33) (h5 : i ≠ 5) : x_bld T to n i = T i := by
  unfold x_bld
  rw [pk_un h5, x_pt_out (by omega)]
theorem nt_n {n : Nat} (hn : n < 2 ^ 31) : tN (x_bld T to n) = n := by
  unfold tN x_bld
  rw [pk_us, nI_clamp hn]
theorem nt_F {T to : Nat → Int32} {e fi : Nat → Nat} (hr : x_ri T e fi (tN T) to) {i : Nat} (hi : i < tN T) : x_tF (x_bld T to (tN T)) i = x_par T fi (e i) ∧ x_tW (x_bld T to (tN T)) i = x_tW T (e i) ∧ x_tC (x_bld T to (tN T)) i = x_tC T (e i) ∧ x_tM (x_bld T to (tN T)) i = x_tM T (e i) ∧ x_tP (x_bld T to (tN T)) i = x_tP T (e i) := by
  obtain ⟨r0, r1, r2, r3, r4⟩ := hr i hi
  exact ⟨(nt_row hi (by omega)).trans r0, (nt_row hi (by omega)).trans r1, (nt_row hi (by omega)).trans r2, (nt_row hi (by omega)).trans r3, (nt_row hi (by omega)).trans r4⟩
theorem x_par_eq {T : Nat → Int32} {e fi : Nat → Nat} (hok : x_ok T (tN T) (tR T)) (hq : xq_ord (tN T) e fi) {o u : Nat} (ho : o < tN T) (hu : u < tN T) : x_par T fi o = x_par T fi u ↔ x_tF T o = x_tF T u := by
  have hn := hok.1
  rcases Nat.eq_zero_or_pos u with rfl | h1
  · have e0 : x_tF T 0 = -1 := hok.2.2.2.1
    rcases Nat.eq_zero_or_pos o with rfl | h2
    · exact ⟨fun _ => rfl, fun _ => rfl⟩
    · have e1 : x_tF T o = nI (tR T o) := (hok.2.2.2.2.1 o h2 ho).1
      have h3 := (hok.2.2.2.2.1 o h2 ho).2
      have h4 := hq.2.1 (tR T o) (by omega)
      unfold x_par
      rw [if_neg (by omega), if_pos rfl, e0, e1]
      exact ⟨fun z => absurd z.symm (x_m1 _ (by omega)), fun z => absurd z.symm (x_m1 _ (by omega))⟩
  · have e1 : x_tF T u = nI (tR T u) := (hok.2.2.2.2.1 u h1 hu).1
    have h3 := (hok.2.2.2.2.1 u h1 hu).2
    have e2 : x_par T fi u = nI (fi (tR T u)) := by unfold x_par; rw [if_neg (by omega)]
    rw [e1, e2]
    exact x_par_k hok hq ho (by omega)
theorem nt_FF {T to : Nat → Int32} {e fi : Nat → Nat} (hok : x_ok T (tN T) (tR T)) (hq : xq_ord (tN T) e fi) (hr : x_ri T e fi (tN T) to) {i j : Nat} (hi : i < tN T) (hj : j < tN T) : x_tF (x_bld T to (tN T)) j = x_tF (x_bld T to (tN T)) i ↔ x_tF T (e j) = x_tF T (e i) := by
  rw [(nt_F hr hi).1, (nt_F hr hj).1]
  exact x_par_eq hok hq (hq.1 j hj).1 (hq.1 i hi).1
theorem nt_tR {T to : Nat → Int32} {e fi : Nat → Nat} (hok : x_ok T (tN T) (tR T)) (hq : xq_ord (tN T) e fi) (he0 : e 0 = 0) (hr : x_ri T e fi (tN T) to) {i : Nat} (h1 : 1 ≤ i) (hi : i < tN T) : 1 ≤ e i ∧ e (tR (x_bld T to (tN T)) i) = tR T (e i) := by
  have hn := hok.1
  have h2 : 1 ≤ e i := by
    rcases Nat.eq_zero_or_pos (e i) with z | z
    · have a := (hq.1 i hi).2
      have b := (hq.1 0 (by omega)).2
      rw [z] at a
      rw [he0] at b
      omega
    · exact z
  have hei := (hq.1 i hi).1
  have h3 := (hok.2.2.2.2.1 (e i) h2 hei).2
  have h4 := hq.2.1 (tR T (e i)) (by omega)
  refine ⟨h2, ?_⟩
  have h5 : tR (x_bld T to (tN T)) i = fi (tR T (e i)) := by
    have h6 : x_tF (x_bld T to (tN T)) i = nI (fi (tR T (e i))) := by
      rw [(nt_F hr hi).1]
      unfold x_par
      rw [if_neg (by omega)]
    show (x_tF (x_bld T to (tN T)) i).toNatClampNeg = _
    rw [h6, nI_clamp (by omega)]
  rw [h5, h4.2]
theorem nt_fc {T to : Nat → Int32} {e fi : Nat → Nat} (hok : x_ok T (tN T) (tR T)) (hq : xq_ord (tN T) e fi) (he0 : e 0 = 0) (hr : x_ri T e fi (tN T) to) (hp' : ∀ o, 1 ≤ o → o < tN T → tR (x_bld T to (tN T)) o < o) (top : Int32) : ∀ i, i < tN T → x_FT (x_bld T to (tN T)) (tR (x_bld T to (tN T))) (tN T) (-6) top i = x_FT T (tR T) (tN T) (-6) top (e i) := by
  have hn := hok.1
  intro i
  induction i using Nat.strongRecOn with
  | _ i ih =>
    intro hi
    rcases Nat.eq_zero_or_pos i with rfl | h1
    · rw [he0, x_FT_0, x_FT_0]
    · obtain ⟨h2, h3⟩ := nt_tR hok hq he0 hr h1 hi
      have h4 := hp' i h1 hi
      have hei := (hq.1 i hi).1
      have h5 := (hok.2.2.2.2.1 (e i) h2 hei).2
      rw [x_FT_s _ _ _ _ _ h1 h4, x_FT_s _ _ _ _ _ h2 h5, ih _ h4 (by omega), h3]
      have hc : ∀ j, j < tN T → ((nI j ≠ -6 ∧ x_tF (x_bld T to (tN T)) j = x_tF (x_bld T to (tN T)) i) ↔ (nI (e j) ≠ -6 ∧ x_tF T (e j) = x_tF T (e i))) := fun j hj => by
        have hej := (hq.1 j hj).1
        rw [nt_FF hok hq hr hi hj]
        exact ⟨fun z => ⟨fun y => x_m6 _ (by omega) y.symm, z.2⟩, fun z => ⟨fun y => x_m6 _ (by omega) y.symm, z.2⟩⟩
      have e1 : x_sm (x_tg (x_tF (x_bld T to (tN T))) (x_tW (x_bld T to (tN T))) (-6) i) (tN T) = x_sm (x_tg (x_tF T) (x_tW T) (-6) (e i)) (tN T) := by
        rw [← hq.2.2.1 (x_tg (x_tF T) (x_tW T) (-6) (e i))]
        refine x_sm_cong (fun j hj => ?_)
        unfold x_tg
        by_cases c : nI (e j) ≠ -6 ∧ x_tF T (e j) = x_tF T (e i)
        · rw [if_pos c, if_pos ((hc j hj).mpr c), (nt_F hr hj).2.1]
        · rw [if_neg c, if_neg (fun z => c ((hc j hj).mp z))]
      have e2 : x_sm (x_nr (x_tF (x_bld T to (tN T))) (x_tW (x_bld T to (tN T))) (-6) i) (tN T) = x_sm (x_nr (x_tF T) (x_tW T) (-6) (e i)) (tN T) := by
        rw [← hq.2.2.1 (x_nr (x_tF T) (x_tW T) (-6) (e i))]
        refine x_sm_cong (fun j hj => ?_)
        unfold x_nr
        rw [(nt_F hr hj).2.1, (nt_F hr hi).2.1]
        by_cases c : (nI (e j) ≠ -6 ∧ x_tF T (e j) = x_tF T (e i)) ∧ x_tW T (e j) < x_tW T (e i)
        · rw [if_pos c, if_pos ⟨(hc j hj).mpr c.1, c.2⟩]
        · rw [if_neg c, if_neg (fun z => c ⟨(hc j hj).mp z.1, z.2⟩)]
      unfold x_sh
      dsimp only
      rw [e1, e2, (nt_F hr hi).2.1]
/-- what the new town has of the old one -/
theorem nt_all {T to : Nat → Int32} {e fi : Nat → Nat} (hok : x_ok T (tN T) (tR T)) (hq : xq_ord (tN T) e fi) (he0 : e 0 = 0) (hr : x_ri T e fi (tN T) to) (hok' : x_ok (x_bld T to (tN T)) (tN (x_bld T to (tN T))) (tR (x_bld T to (tN T)))) :
    tN (x_bld T to (tN T)) = tN T ∧ x_sm (x_hc (x_bld T to (tN T)) (tF (x_bld T to (tN T)))) (tN (x_bld T to (tN T))) = x_sm (x_hc T (tF T)) (tN T) ∧ x_sm (x_tP (x_bld T to (tN T))) (tN (x_bld T to (tN T))) = x_sm (x_tP T) (tN T) ∧ x_tW (x_bld T to (tN T)) 0 = x_tW T 0 ∧ x_on (x_bs (x_bld T to (tN T)) (tN (x_bld T to (tN T))) 0) = x_on (x_bs T (tN T) 0) ∧ (x_tx (x_bld T to (tN T)) (tR (x_bld T to (tN T))) (tN (x_bld T to (tN T)))).length = (x_tx T (tR T) (tN T)).length := by
  have hn := hok.1
  have hn1 := hok.2.1
  have en : tN (x_bld T to (tN T)) = tN T := nt_n (by omega)
  rw [en] at hok' ⊢
  have hp' := xv_hp hok'
  have e4 : x_bld T to (tN T) 4 = T 4 := nt_out (by omega) (by omega)
  have hct : ∀ i, i < tN T → x_ct (x_tF (x_bld T to (tN T))) (nI i) (tN T) = x_ct (x_tF T) (nI (e i)) (tN T) := fun i hi => by
    have hei := hq.1 i hi
    rw [x_ct_kn, x_ct_kn, ← hq.2.2.2 (x_bk T (e i))]
    refine x_kn_cong (fun j hj => ?_)
    have hpk := x_par_k hok hq (hq.1 j hj).1 hei.1
    rw [hei.2] at hpk
    unfold x_bk
    rw [(nt_F hr hj).1]
    by_cases c : x_tF T (e j) = nI (e i)
    · rw [if_pos c, if_pos (hpk.mpr c)]
    · rw [if_neg c, if_neg (fun z => c (hpk.mp z))]
  refine ⟨rfl, ?_, ?_, ?_, ?_, ?_⟩
  · rw [← hq.2.2.1 (x_hc T (tF T))]
    refine x_sm_cong (fun i hi => ?_)
    have hf := nt_fc hok hq he0 hr hp' (T 4) i hi
    unfold x_hc tF
    rw [en, e4, hf, (nt_F hr hi).2.2.2.2]
    unfold x_ha x_gu
    rw [nt_out (i := 1) (by omega) (by omega), nt_out (i := 2) (by omega) (by omega)]
  · rw [← hq.2.2.1 (x_tP T)]
    exact x_sm_cong (fun i hi => (nt_F hr hi).2.2.2.2)
  · rw [(nt_F hr (show 0 < tN T by omega)).2.1, he0]
  · unfold x_bs
    rw [x_on_ct _ _ hn, x_on_ct _ _ hn, hct 0 (by omega), he0]
  · have h1 := xl_tx (x_bld T to (tN T)) hp' hn1
    have h2 := xl_tx T (xv_hp hok) hn1
    rw [← hq.2.2.2 (fun o => 1 + ((x_wT T o).length + x_it (tR T) (tN T) o))] at h2
    have h3 : x_kn (fun o => 1 + ((x_wT (x_bld T to (tN T)) o).length + x_it (tR (x_bld T to (tN T))) (tN T) o)) (tN T) = x_kn (fun i => 1 + ((x_wT T (e i)).length + x_it (tR T) (tN T) (e i))) (tN T) := by
      refine x_kn_cong (fun i hi => ?_)
      have hei := hq.1 i hi
      rw [x_it_ct hok' hi, x_it_ct hok hei.1, hct i hi]
      obtain ⟨-, w1, w2, w3, w4⟩ := nt_F hr hi
      show 1 + ((x_wsf (x_tW (x_bld T to (tN T)) i).toNatClampNeg (x_tC (x_bld T to (tN T)) i).toNatClampNeg (x_tM (x_bld T to (tN T)) i).toNatClampNeg (x_tP (x_bld T to (tN T)) i).toNatClampNeg).length + _) = 1 + ((x_wsf (x_tW T (e i)).toNatClampNeg (x_tC T (e i)).toNatClampNeg (x_tM T (e i)).toNatClampNeg (x_tP T (e i)).toNatClampNeg).length + _)
      rw [w1, w2, w3, w4]
    omega
end
