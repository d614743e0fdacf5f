section
-- ===== PART A: goes FIRST, ahead of the names: the tables' words, and 'selects' of the private methods out of them =====
/-- a private method of a class that the tables say can be made, by its rows of tables_1 -/
def lw_okq (q : MethodName × Nat) : Prop := (q.1.cls ≠ "java/lang/invoke/MethodHandle" ∧ q.1.cls ≠ "java/lang/invoke/VarHandle") ∧ Cond.instantiable q.1.cls q.2 ∈ tables_1 ∧ Cond.privateMethod q.1 ∈ tables_1 ∧ Cond.instanceMethod q.1 ∈ tables_1
theorem lw_p0 : lw_okq (⟨"HatWinds$Reader", "takes", "(I)Z"⟩, 3) := ⟨⟨by decide +kernel, by decide +kernel⟩, List.mem_of_getElem? (i := 191) (by decide +kernel), List.mem_of_getElem? (i := 289) (by decide +kernel), List.mem_of_getElem? (i := 290) (by decide +kernel)⟩
theorem lw_p1 : lw_okq (⟨"HatWinds$Reader", "takesWidth", "(I)Z"⟩, 3) := ⟨⟨by decide +kernel, by decide +kernel⟩, List.mem_of_getElem? (i := 191) (by decide +kernel), List.mem_of_getElem? (i := 293) (by decide +kernel), List.mem_of_getElem? (i := 294) (by decide +kernel)⟩
theorem lw_p2 : lw_okq (⟨"HatWinds$Reader", "takesFirstDigit", "(II)Z"⟩, 3) := ⟨⟨by decide +kernel, by decide +kernel⟩, List.mem_of_getElem? (i := 191) (by decide +kernel), List.mem_of_getElem? (i := 313) (by decide +kernel), List.mem_of_getElem? (i := 314) (by decide +kernel)⟩
theorem lw_p3 : lw_okq (⟨"HatWinds$Reader", "takesSmoke", "(I)Z"⟩, 3) := ⟨⟨by decide +kernel, by decide +kernel⟩, List.mem_of_getElem? (i := 191) (by decide +kernel), List.mem_of_getElem? (i := 320) (by decide +kernel), List.mem_of_getElem? (i := 321) (by decide +kernel)⟩
theorem lw_p4 : lw_okq (⟨"HatWinds$Reader", "takesStar", "()Z"⟩, 3) := ⟨⟨by decide +kernel, by decide +kernel⟩, List.mem_of_getElem? (i := 191) (by decide +kernel), List.mem_of_getElem? (i := 324) (by decide +kernel), List.mem_of_getElem? (i := 325) (by decide +kernel)⟩
theorem lw_p5 : lw_okq (⟨"HatWinds$Reader", "opens", "(I)Z"⟩, 3) := ⟨⟨by decide +kernel, by decide +kernel⟩, List.mem_of_getElem? (i := 191) (by decide +kernel), List.mem_of_getElem? (i := 328) (by decide +kernel), List.mem_of_getElem? (i := 329) (by decide +kernel)⟩
theorem lw_p6 : lw_okq (⟨"HatWinds$Reader", "goesOn", "()Z"⟩, 3) := ⟨⟨by decide +kernel, by decide +kernel⟩, List.mem_of_getElem? (i := 191) (by decide +kernel), List.mem_of_getElem? (i := 332) (by decide +kernel), List.mem_of_getElem? (i := 333) (by decide +kernel)⟩
theorem lw_p7 : lw_okq (⟨"HatWinds$Reader", "closes", "()Z"⟩, 3) := ⟨⟨by decide +kernel, by decide +kernel⟩, List.mem_of_getElem? (i := 191) (by decide +kernel), List.mem_of_getElem? (i := 341) (by decide +kernel), List.mem_of_getElem? (i := 342) (by decide +kernel)⟩
theorem lw_p8 : lw_okq (⟨"HatWinds$Reader", "takesSecondDigit", "(II)Z"⟩, 3) := ⟨⟨by decide +kernel, by decide +kernel⟩, List.mem_of_getElem? (i := 191) (by decide +kernel), List.mem_of_getElem? (i := 345) (by decide +kernel), List.mem_of_getElem? (i := 346) (by decide +kernel)⟩
theorem lw_p9 : lw_okq (⟨"HatWinds$Reader", "takesFlag", "(II)Z"⟩, 3) := ⟨⟨by decide +kernel, by decide +kernel⟩, List.mem_of_getElem? (i := 191) (by decide +kernel), List.mem_of_getElem? (i := 349) (by decide +kernel), List.mem_of_getElem? (i := 350) (by decide +kernel)⟩
theorem lw_p10 : lw_okq (⟨"HatWinds$Air", "shareOf", "(LHatWinds$Streets;II)I"⟩, 3) := ⟨⟨by decide +kernel, by decide +kernel⟩, List.mem_of_getElem? (i := 131) (by decide +kernel), List.mem_of_getElem? (i := 401) (by decide +kernel), List.mem_of_getElem? (i := 402) (by decide +kernel)⟩
theorem lw_p11 : lw_okq (⟨"HatWinds", "hatsBy", "(I)I"⟩, 8) := ⟨⟨by decide +kernel, by decide +kernel⟩, List.mem_of_getElem? (i := 14) (by decide +kernel), List.mem_of_getElem? (i := 500) (by decide +kernel), List.mem_of_getElem? (i := 501) (by decide +kernel)⟩
theorem lw_p12 : lw_okq (⟨"HatWinds", "shelters", "()I"⟩, 8) := ⟨⟨by decide +kernel, by decide +kernel⟩, List.mem_of_getElem? (i := 14) (by decide +kernel), List.mem_of_getElem? (i := 506) (by decide +kernel), List.mem_of_getElem? (i := 507) (by decide +kernel)⟩
theorem lw_p13 : lw_okq (⟨"HatWinds", "calmest", "()I"⟩, 8) := ⟨⟨by decide +kernel, by decide +kernel⟩, List.mem_of_getElem? (i := 14) (by decide +kernel), List.mem_of_getElem? (i := 510) (by decide +kernel), List.mem_of_getElem? (i := 511) (by decide +kernel)⟩
theorem lw_p14 : lw_okq (⟨"HatWindsModel", "remembers", "()V"⟩, 14) := ⟨⟨by decide +kernel, by decide +kernel⟩, List.mem_of_getElem? (i := 567) (by decide +kernel), List.mem_of_getElem? (i := 626) (by decide +kernel), List.mem_of_getElem? (i := 627) (by decide +kernel)⟩
theorem lw_p15 : lw_okq (⟨"HatWindsModel", "anHour", "()I"⟩, 14) := ⟨⟨by decide +kernel, by decide +kernel⟩, List.mem_of_getElem? (i := 567) (by decide +kernel), List.mem_of_getElem? (i := 630) (by decide +kernel), List.mem_of_getElem? (i := 631) (by decide +kernel)⟩
def lw_privs_1 : List (MethodName × Nat) := [(⟨"HatWinds$Reader", "takes", "(I)Z"⟩, 3), (⟨"HatWinds$Reader", "takesWidth", "(I)Z"⟩, 3), (⟨"HatWinds$Reader", "takesFirstDigit", "(II)Z"⟩, 3), (⟨"HatWinds$Reader", "takesSmoke", "(I)Z"⟩, 3), (⟨"HatWinds$Reader", "takesStar", "()Z"⟩, 3), (⟨"HatWinds$Reader", "opens", "(I)Z"⟩, 3), (⟨"HatWinds$Reader", "goesOn", "()Z"⟩, 3), (⟨"HatWinds$Reader", "closes", "()Z"⟩, 3), (⟨"HatWinds$Reader", "takesSecondDigit", "(II)Z"⟩, 3), (⟨"HatWinds$Reader", "takesFlag", "(II)Z"⟩, 3), (⟨"HatWinds$Air", "shareOf", "(LHatWinds$Streets;II)I"⟩, 3), (⟨"HatWinds", "hatsBy", "(I)I"⟩, 8), (⟨"HatWinds", "shelters", "()I"⟩, 8), (⟨"HatWinds", "calmest", "()I"⟩, 8), (⟨"HatWindsModel", "remembers", "()V"⟩, 14), (⟨"HatWindsModel", "anHour", "()I"⟩, 14)]
theorem lw_r1 : ∀ q ∈ lw_privs_1, lw_okq q := List.forall_mem_cons.mpr ⟨lw_p0, List.forall_mem_cons.mpr ⟨lw_p1, List.forall_mem_cons.mpr ⟨lw_p2, List.forall_mem_cons.mpr ⟨lw_p3, List.forall_mem_cons.mpr ⟨lw_p4, List.forall_mem_cons.mpr ⟨lw_p5, List.forall_mem_cons.mpr ⟨lw_p6, List.forall_mem_cons.mpr ⟨lw_p7, List.forall_mem_cons.mpr ⟨lw_p8, List.forall_mem_cons.mpr ⟨lw_p9, List.forall_mem_cons.mpr ⟨lw_p10, List.forall_mem_cons.mpr ⟨lw_p11, List.forall_mem_cons.mpr ⟨lw_p12, List.forall_mem_cons.mpr ⟨lw_p13, List.forall_mem_cons.mpr ⟨lw_p14, List.forall_mem_cons.mpr ⟨lw_p15, fun _ h => absurd h List.not_mem_nil⟩⟩⟩⟩⟩⟩⟩⟩⟩⟩⟩⟩⟩⟩⟩⟩
theorem lw_p16 : lw_okq (⟨"HatWindsModel", "hatsBy", "(I)I"⟩, 14) := ⟨⟨by decide +kernel, by decide +kernel⟩, List.mem_of_getElem? (i := 567) (by decide +kernel), List.mem_of_getElem? (i := 634) (by decide +kernel), List.mem_of_getElem? (i := 635) (by decide +kernel)⟩
theorem lw_p17 : lw_okq (⟨"HatWindsModel", "blows", "(I)V"⟩, 14) := ⟨⟨by decide +kernel, by decide +kernel⟩, List.mem_of_getElem? (i := 567) (by decide +kernel), List.mem_of_getElem? (i := 638) (by decide +kernel), List.mem_of_getElem? (i := 639) (by decide +kernel)⟩
theorem lw_p18 : lw_okq (⟨"HatWindsModel", "parted", "(II)I"⟩, 14) := ⟨⟨by decide +kernel, by decide +kernel⟩, List.mem_of_getElem? (i := 567) (by decide +kernel), List.mem_of_getElem? (i := 642) (by decide +kernel), List.mem_of_getElem? (i := 643) (by decide +kernel)⟩
theorem lw_p19 : lw_okq (⟨"HatWindsModel", "its", "(II)I"⟩, 14) := ⟨⟨by decide +kernel, by decide +kernel⟩, List.mem_of_getElem? (i := 567) (by decide +kernel), List.mem_of_getElem? (i := 646) (by decide +kernel), List.mem_of_getElem? (i := 647) (by decide +kernel)⟩
theorem lw_p20 : lw_okq (⟨"HatWindsModel", "hatsOf", "(I)I"⟩, 14) := ⟨⟨by decide +kernel, by decide +kernel⟩, List.mem_of_getElem? (i := 567) (by decide +kernel), List.mem_of_getElem? (i := 653) (by decide +kernel), List.mem_of_getElem? (i := 654) (by decide +kernel)⟩
theorem lw_p21 : lw_okq (⟨"HatWindsModel", "gustOf", "(I)I"⟩, 14) := ⟨⟨by decide +kernel, by decide +kernel⟩, List.mem_of_getElem? (i := 567) (by decide +kernel), List.mem_of_getElem? (i := 657) (by decide +kernel), List.mem_of_getElem? (i := 658) (by decide +kernel)⟩
theorem lw_p22 : lw_okq (⟨"HatWindsModel", "isStreet", "(I)Z"⟩, 14) := ⟨⟨by decide +kernel, by decide +kernel⟩, List.mem_of_getElem? (i := 567) (by decide +kernel), List.mem_of_getElem? (i := 672) (by decide +kernel), List.mem_of_getElem? (i := 673) (by decide +kernel)⟩
theorem lw_p23 : lw_okq (⟨"HatWindsModel", "branches", "(I)I"⟩, 14) := ⟨⟨by decide +kernel, by decide +kernel⟩, List.mem_of_getElem? (i := 567) (by decide +kernel), List.mem_of_getElem? (i := 676) (by decide +kernel), List.mem_of_getElem? (i := 677) (by decide +kernel)⟩
theorem lw_p24 : lw_okq (⟨"HatWindsModel", "branchSet", "(I)I"⟩, 14) := ⟨⟨by decide +kernel, by decide +kernel⟩, List.mem_of_getElem? (i := 567) (by decide +kernel), List.mem_of_getElem? (i := 698) (by decide +kernel), List.mem_of_getElem? (i := 699) (by decide +kernel)⟩
theorem lw_p25 : lw_okq (⟨"HatWindsModel", "behind", "(I)I"⟩, 14) := ⟨⟨by decide +kernel, by decide +kernel⟩, List.mem_of_getElem? (i := 567) (by decide +kernel), List.mem_of_getElem? (i := 702) (by decide +kernel), List.mem_of_getElem? (i := 703) (by decide +kernel)⟩
theorem lw_p26 : lw_okq (⟨"HatWindsModel", "depth", "(I)I"⟩, 14) := ⟨⟨by decide +kernel, by decide +kernel⟩, List.mem_of_getElem? (i := 567) (by decide +kernel), List.mem_of_getElem? (i := 706) (by decide +kernel), List.mem_of_getElem? (i := 707) (by decide +kernel)⟩
theorem lw_p27 : lw_okq (⟨"HatWindsModel", "stepsOf", "(I)I"⟩, 14) := ⟨⟨by decide +kernel, by decide +kernel⟩, List.mem_of_getElem? (i := 567) (by decide +kernel), List.mem_of_getElem? (i := 714) (by decide +kernel), List.mem_of_getElem? (i := 715) (by decide +kernel)⟩
theorem lw_p28 : lw_okq (⟨"HatWindsModel", "people", "()I"⟩, 14) := ⟨⟨by decide +kernel, by decide +kernel⟩, List.mem_of_getElem? (i := 567) (by decide +kernel), List.mem_of_getElem? (i := 730) (by decide +kernel), List.mem_of_getElem? (i := 731) (by decide +kernel)⟩
theorem lw_p29 : lw_okq (⟨"HatWindsModel", "calm", "(I)I"⟩, 14) := ⟨⟨by decide +kernel, by decide +kernel⟩, List.mem_of_getElem? (i := 567) (by decide +kernel), List.mem_of_getElem? (i := 734) (by decide +kernel), List.mem_of_getElem? (i := 735) (by decide +kernel)⟩
theorem lw_p30 : lw_okq (⟨"HatWindsModel", "goes", "(I)Z"⟩, 14) := ⟨⟨by decide +kernel, by decide +kernel⟩, List.mem_of_getElem? (i := 567) (by decide +kernel), List.mem_of_getElem? (i := 771) (by decide +kernel), List.mem_of_getElem? (i := 772) (by decide +kernel)⟩
theorem lw_p31 : lw_okq (⟨"HatWindsModel", "begins", "(I)Z"⟩, 14) := ⟨⟨by decide +kernel, by decide +kernel⟩, List.mem_of_getElem? (i := 567) (by decide +kernel), List.mem_of_getElem? (i := 775) (by decide +kernel), List.mem_of_getElem? (i := 776) (by decide +kernel)⟩
def lw_privs_2 : List (MethodName × Nat) := [(⟨"HatWindsModel", "hatsBy", "(I)I"⟩, 14), (⟨"HatWindsModel", "blows", "(I)V"⟩, 14), (⟨"HatWindsModel", "parted", "(II)I"⟩, 14), (⟨"HatWindsModel", "its", "(II)I"⟩, 14), (⟨"HatWindsModel", "hatsOf", "(I)I"⟩, 14), (⟨"HatWindsModel", "gustOf", "(I)I"⟩, 14), (⟨"HatWindsModel", "isStreet", "(I)Z"⟩, 14), (⟨"HatWindsModel", "branches", "(I)I"⟩, 14), (⟨"HatWindsModel", "branchSet", "(I)I"⟩, 14), (⟨"HatWindsModel", "behind", "(I)I"⟩, 14), (⟨"HatWindsModel", "depth", "(I)I"⟩, 14), (⟨"HatWindsModel", "stepsOf", "(I)I"⟩, 14), (⟨"HatWindsModel", "people", "()I"⟩, 14), (⟨"HatWindsModel", "calm", "(I)I"⟩, 14), (⟨"HatWindsModel", "goes", "(I)Z"⟩, 14), (⟨"HatWindsModel", "begins", "(I)Z"⟩, 14)]
theorem lw_r2 : ∀ q ∈ lw_privs_2, lw_okq q := List.forall_mem_cons.mpr ⟨lw_p16, List.forall_mem_cons.mpr ⟨lw_p17, List.forall_mem_cons.mpr ⟨lw_p18, List.forall_mem_cons.mpr ⟨lw_p19, List.forall_mem_cons.mpr ⟨lw_p20, List.forall_mem_cons.mpr ⟨lw_p21, List.forall_mem_cons.mpr ⟨lw_p22, List.forall_mem_cons.mpr ⟨lw_p23, List.forall_mem_cons.mpr ⟨lw_p24, List.forall_mem_cons.mpr ⟨lw_p25, List.forall_mem_cons.mpr ⟨lw_p26, List.forall_mem_cons.mpr ⟨lw_p27, List.forall_mem_cons.mpr ⟨lw_p28, List.forall_mem_cons.mpr ⟨lw_p29, List.forall_mem_cons.mpr ⟨lw_p30, List.forall_mem_cons.mpr ⟨lw_p31, fun _ h => absurd h List.not_mem_nil⟩⟩⟩⟩⟩⟩⟩⟩⟩⟩⟩⟩⟩⟩⟩⟩
theorem lw_p32 : lw_okq (⟨"HatWindsModel", "turns", "(I)Z"⟩, 14) := ⟨⟨by decide +kernel, by decide +kernel⟩, List.mem_of_getElem? (i := 567) (by decide +kernel), List.mem_of_getElem? (i := 779) (by decide +kernel), List.mem_of_getElem? (i := 780) (by decide +kernel)⟩
theorem lw_p33 : lw_okq (⟨"HatWindsModel", "counts", "(I)Z"⟩, 14) := ⟨⟨by decide +kernel, by decide +kernel⟩, List.mem_of_getElem? (i := 567) (by decide +kernel), List.mem_of_getElem? (i := 783) (by decide +kernel), List.mem_of_getElem? (i := 784) (by decide +kernel)⟩
theorem lw_p34 : lw_okq (⟨"HatWindsModel", "writesStreet", "(I)V"⟩, 14) := ⟨⟨by decide +kernel, by decide +kernel⟩, List.mem_of_getElem? (i := 567) (by decide +kernel), List.mem_of_getElem? (i := 796) (by decide +kernel), List.mem_of_getElem? (i := 797) (by decide +kernel)⟩
theorem lw_p35 : lw_okq (⟨"HatWindsModel", "writes", "(I)V"⟩, 14) := ⟨⟨by decide +kernel, by decide +kernel⟩, List.mem_of_getElem? (i := 567) (by decide +kernel), List.mem_of_getElem? (i := 800) (by decide +kernel), List.mem_of_getElem? (i := 801) (by decide +kernel)⟩
theorem lw_p36 : lw_okq (⟨"HatWindsModel", "nextBranch", "(II)I"⟩, 14) := ⟨⟨by decide +kernel, by decide +kernel⟩, List.mem_of_getElem? (i := 567) (by decide +kernel), List.mem_of_getElem? (i := 804) (by decide +kernel), List.mem_of_getElem? (i := 805) (by decide +kernel)⟩
theorem lw_p37 : lw_okq (⟨"HatWindsModel", "goesUp", "(I)I"⟩, 14) := ⟨⟨by decide +kernel, by decide +kernel⟩, List.mem_of_getElem? (i := 567) (by decide +kernel), List.mem_of_getElem? (i := 808) (by decide +kernel), List.mem_of_getElem? (i := 809) (by decide +kernel)⟩
def lw_privs_3 : List (MethodName × Nat) := [(⟨"HatWindsModel", "turns", "(I)Z"⟩, 14), (⟨"HatWindsModel", "counts", "(I)Z"⟩, 14), (⟨"HatWindsModel", "writesStreet", "(I)V"⟩, 14), (⟨"HatWindsModel", "writes", "(I)V"⟩, 14), (⟨"HatWindsModel", "nextBranch", "(II)I"⟩, 14), (⟨"HatWindsModel", "goesUp", "(I)I"⟩, 14)]
theorem lw_r3 : ∀ q ∈ lw_privs_3, lw_okq q := List.forall_mem_cons.mpr ⟨lw_p32, List.forall_mem_cons.mpr ⟨lw_p33, List.forall_mem_cons.mpr ⟨lw_p34, List.forall_mem_cons.mpr ⟨lw_p35, List.forall_mem_cons.mpr ⟨lw_p36, List.forall_mem_cons.mpr ⟨lw_p37, fun _ h => absurd h List.not_mem_nil⟩⟩⟩⟩⟩⟩
def lw_privs : List (MethodName × Nat) := lw_privs_1 ++ (lw_privs_2 ++ (lw_privs_3))
def lw_tbl : List Cond := k2_sels lw_privs ++ tables_1
theorem lw_privs_ok : ∀ q ∈ lw_privs, lw_okq q := by
  show ∀ q ∈ lw_privs_1 ++ (lw_privs_2 ++ (lw_privs_3)), lw_okq q
  exact List.forall_mem_append.mpr ⟨lw_r1, List.forall_mem_append.mpr ⟨lw_r2, lw_r3⟩⟩
-- ===== end of PART A; then your names; then what follows =====
end
section
/-! ===== BEGIN words of one list among another's, by their places ===== -/
theorem goodIn_r {big : List Cond} (ws : List Cond) (ps : List Nat) (hp : ws = ps.filterMap (fun i => big[i]?)) (h : ws.all goodWord = true) : GoodIn big ws := by
  intro w hw
  have h1 := List.all_eq_true.mp h w hw
  rw [hp] at hw
  obtain ⟨i, -, hi⟩ := List.mem_filterMap.mp hw
  have hm : w ∈ big := by first | exact List.mem_of_getElem? hi | exact List.getElem?_mem hi
  exact ⟨hm, good_of_word h1⟩
theorem goodIn_app {big a b : List Cond} (ha : GoodIn big a) (hb : GoodIn big b) : GoodIn big (a ++ b) := fun w h => (List.mem_append.mp h).elim (ha w) (hb w)
theorem goodIn_ca {big a b : List Cond} {c : Cond} (ha : GoodIn big (c :: a)) (hb : GoodIn big b) : GoodIn big (c :: (a ++ b)) := fun w h => (List.mem_cons.mp h).elim (fun e => ha w (List.mem_cons.mpr (Or.inl e))) (fun h => (List.mem_append.mp h).elim (fun h => ha w (List.mem_cons.mpr (Or.inr h))) (hb w))
theorem goodIn_sub {big ws : List Cond} (hm : ∀ w ∈ ws, w ∈ big) (h : ws.all goodWord = true) : GoodIn big ws := fun w hw => ⟨hm w hw, good_of_word (List.all_eq_true.mp h w hw)⟩
/-! ===== END ===== -/

/-! ===== BEGIN printed: names, fields, word lists, decode rows ===== -/
def RX0 : String := "HatWinds$Air"
def TX0 : u_T := fun k => match k with
  | 0 => ("HatWinds$Air", "together", "[I", true)
  | 1 => ("HatWinds$Air", "narrower", "[I", true)
  | _ => ("HatWinds$Air", "force", "[I", true)
def tyX0 : Nat → FieldType := fun k => match k with
  | 0 => .array .int
  | 1 => .array .int
  | _ => .array .int
abbrev wsX00 : List Cond := u_ws RX0 TX0 3
theorem nmX0 : ∀ a, a < 3 → ∀ b, b < 3 → a ≠ b → (TX0 a).2.1 ≠ (TX0 b).2.1 := by decide +kernel
theorem tyX0_ok : ∀ k, k < 3 → parseFieldDescriptor (TX0 k).2.2.1 = some (tyX0 k) := by decide +kernel
abbrev cX0_init : ByteArray := prog_2_method_1_code
def yX0_init : MethodName := ⟨RX0, "<init>", "()V"⟩
abbrev cX0_blowIn : ByteArray := prog_2_method_2_code
def yX0_blowIn : MethodName := ⟨RX0, "blowIn", "(LHatWinds$Town;)V"⟩
abbrev cX0_part : ByteArray := prog_2_method_3_code
def yX0_part : MethodName := ⟨RX0, "part", "(LHatWinds$Streets;I)V"⟩
abbrev cX0_blow : ByteArray := prog_2_method_4_code
def yX0_blow : MethodName := ⟨RX0, "blow", "(LHatWinds$Streets;I)V"⟩
abbrev cX0_shareOf : ByteArray := prog_2_method_5_code
def yX0_shareOf : MethodName := ⟨RX0, "shareOf", "(LHatWinds$Streets;II)I"⟩
abbrev cX0_gustIn : ByteArray := prog_2_method_6_code
def yX0_gustIn : MethodName := ⟨RX0, "gustIn", "(LHatWinds$Town;I)I"⟩
abbrev cX0_flagSteps : ByteArray := prog_2_method_7_code
def yX0_flagSteps : MethodName := ⟨RX0, "flagSteps", "(LHatWinds$Town;I)I"⟩
abbrev cX0_smokeSteps : ByteArray := prog_2_method_8_code
def yX0_smokeSteps : MethodName := ⟨RX0, "smokeSteps", "(LHatWinds$Town;I)I"⟩
abbrev cX0_hatsLostIn : ByteArray := prog_2_method_9_code
def yX0_hatsLostIn : MethodName := ⟨RX0, "hatsLostIn", "(LHatWinds$Town;I)I"⟩
abbrev cX0_hatsLost : ByteArray := prog_2_method_10_code
def yX0_hatsLost : MethodName := ⟨RX0, "hatsLost", "(LHatWinds$Town;)I"⟩
abbrev cX0_worstStreet : ByteArray := prog_2_method_11_code
def yX0_worstStreet : MethodName := ⟨RX0, "worstStreet", "(LHatWinds$Town;)I"⟩
def RX1 : String := "HatWinds$History"
def TX1 : u_T := fun k => match k with
  | 0 => ("HatWinds$History", "states", "[LHatWinds$Town;", true)
  | 1 => ("HatWinds$History", "oldest", "I", false)
  | _ => ("HatWinds$History", "length", "I", false)
def tyX1 : Nat → FieldType := fun k => match k with
  | 0 => .array (.object "HatWinds$Town")
  | 1 => .int
  | _ => .int
abbrev wsX10 : List Cond := u_ws RX1 TX1 3
theorem nmX1 : ∀ a, a < 3 → ∀ b, b < 3 → a ≠ b → (TX1 a).2.1 ≠ (TX1 b).2.1 := by decide +kernel
theorem tyX1_ok : ∀ k, k < 3 → parseFieldDescriptor (TX1 k).2.2.1 = some (tyX1 k) := by decide +kernel
abbrev cX1_init : ByteArray := prog_3_method_1_code
def yX1_init : MethodName := ⟨RX1, "<init>", "()V"⟩
abbrev cX1_keep : ByteArray := prog_3_method_2_code
def yX1_keep : MethodName := ⟨RX1, "keep", "(LHatWinds$Town;)V"⟩
abbrev cX1_takeBack : ByteArray := prog_3_method_3_code
def yX1_takeBack : MethodName := ⟨RX1, "takeBack", "(LHatWinds$Town;)V"⟩
def RX2 : String := "HatWinds$Hours"
def TX2 : u_T := fun k => match k with
  | 0 => ("HatWinds$Hours", "forces", "[I", true)
  | 1 => ("HatWinds$Hours", "lost", "[I", true)
  | 2 => ("HatWinds$Hours", "worst", "[I", true)
  | 3 => ("HatWinds$Hours", "passed", "I", false)
  | _ => ("HatWinds$Hours", "lostSoFar", "I", false)
def tyX2 : Nat → FieldType := fun k => match k with
  | 0 => .array .int
  | 1 => .array .int
  | 2 => .array .int
  | 3 => .int
  | _ => .int
abbrev wsX20 : List Cond := u_ws RX2 TX2 5
theorem nmX2 : ∀ a, a < 5 → ∀ b, b < 5 → a ≠ b → (TX2 a).2.1 ≠ (TX2 b).2.1 := by decide +kernel
theorem tyX2_ok : ∀ k, k < 5 → parseFieldDescriptor (TX2 k).2.2.1 = some (tyX2 k) := by decide +kernel
abbrev cX2_init : ByteArray := prog_4_method_1_code
def yX2_init : MethodName := ⟨RX2, "<init>", "()V"⟩
abbrev cX2_copy : ByteArray := prog_4_method_2_code
def yX2_copy : MethodName := ⟨RX2, "copy", "(LHatWinds$Hours;)V"⟩
abbrev cX2_kept : ByteArray := prog_4_method_3_code
def yX2_kept : MethodName := ⟨RX2, "kept", "()I"⟩
abbrev cX2_add : ByteArray := prog_4_method_4_code
def yX2_add : MethodName := ⟨RX2, "add", "(III)V"⟩
abbrev cX2_pushFirst : ByteArray := prog_4_method_5_code
def yX2_pushFirst : MethodName := ⟨RX2, "pushFirst", "([II)V"⟩
def RX3 : String := "HatWinds$Pad"
def TX3 : u_T := fun k => match k with
  | 0 => ("HatWinds$Pad", "signs", "[C", true)
  | 1 => ("HatWinds$Pad", "length", "I", false)
  | _ => ("HatWinds$Pad", "overflowed", "Z", false)
def tyX3 : Nat → FieldType := fun k => match k with
  | 0 => .array .char
  | 1 => .int
  | _ => .boolean
abbrev wsX30 : List Cond := u_ws RX3 TX3 3
theorem nmX3 : ∀ a, a < 3 → ∀ b, b < 3 → a ≠ b → (TX3 a).2.1 ≠ (TX3 b).2.1 := by decide +kernel
theorem tyX3_ok : ∀ k, k < 3 → parseFieldDescriptor (TX3 k).2.2.1 = some (tyX3 k) := by decide +kernel
abbrev cX3_init : ByteArray := prog_5_method_1_code
def yX3_init : MethodName := ⟨RX3, "<init>", "()V"⟩
abbrev cX3_clear : ByteArray := prog_5_method_2_code
def yX3_clear : MethodName := ⟨RX3, "clear", "()V"⟩
abbrev cX3_add : ByteArray := prog_5_method_3_code
def yX3_add : MethodName := ⟨RX3, "add", "(I)V"⟩
abbrev cX3_copy : ByteArray := prog_5_method_4_code
def yX3_copy : MethodName := ⟨RX3, "copy", "(LHatWinds$Pad;)V"⟩
def RX4 : String := "HatWinds$Reader"
def TX4 : u_T := fun k => match k with
  | 0 => ("HatWinds$Reader", "streets", "LHatWinds$Streets;", true)
  | 1 => ("HatWinds$Reader", "last", "I", false)
  | _ => ("HatWinds$Reader", "parent", "I", false)
def tyX4 : Nat → FieldType := fun k => match k with
  | 0 => .object "HatWinds$Streets"
  | 1 => .int
  | _ => .int
abbrev wsX40 : List Cond := u_ws RX4 TX4 3
theorem nmX4 : ∀ a, a < 3 → ∀ b, b < 3 → a ≠ b → (TX4 a).2.1 ≠ (TX4 b).2.1 := by decide +kernel
theorem tyX4_ok : ∀ k, k < 3 → parseFieldDescriptor (TX4 k).2.2.1 = some (tyX4 k) := by decide +kernel
abbrev cX4_init : ByteArray := prog_6_method_1_code
def yX4_init : MethodName := ⟨RX4, "<init>", "()V"⟩
abbrev cX4_read : ByteArray := prog_6_method_2_code
def yX4_read : MethodName := ⟨RX4, "read", "(LHatWinds$Pad;)I"⟩
abbrev cX4_takes : ByteArray := prog_6_method_3_code
def yX4_takes : MethodName := ⟨RX4, "takes", "(I)Z"⟩
abbrev cX4_takesWidth : ByteArray := prog_6_method_4_code
def yX4_takesWidth : MethodName := ⟨RX4, "takesWidth", "(I)Z"⟩
abbrev cX4_takesFlag : ByteArray := prog_6_method_5_code
def yX4_takesFlag : MethodName := ⟨RX4, "takesFlag", "(II)Z"⟩
abbrev cX4_takesSmoke : ByteArray := prog_6_method_6_code
def yX4_takesSmoke : MethodName := ⟨RX4, "takesSmoke", "(I)Z"⟩
abbrev cX4_takesStar : ByteArray := prog_6_method_7_code
def yX4_takesStar : MethodName := ⟨RX4, "takesStar", "()Z"⟩
abbrev cX4_takesFirstDigit : ByteArray := prog_6_method_8_code
def yX4_takesFirstDigit : MethodName := ⟨RX4, "takesFirstDigit", "(II)Z"⟩
abbrev cX4_takesSecondDigit : ByteArray := prog_6_method_9_code
def yX4_takesSecondDigit : MethodName := ⟨RX4, "takesSecondDigit", "(II)Z"⟩
abbrev cX4_opens : ByteArray := prog_6_method_10_code
def yX4_opens : MethodName := ⟨RX4, "opens", "(I)Z"⟩
abbrev cX4_goesOn : ByteArray := prog_6_method_11_code
def yX4_goesOn : MethodName := ⟨RX4, "goesOn", "()Z"⟩
abbrev cX4_closes : ByteArray := prog_6_method_12_code
def yX4_closes : MethodName := ⟨RX4, "closes", "()Z"⟩
abbrev cX4_isDigit : ByteArray := prog_6_method_13_code
def yX4_isDigit : MethodName := ⟨RX4, "isDigit", "(I)Z"⟩
def RX5 : String := "HatWinds$Streets"
def TX5 : u_T := fun k => match k with
  | 0 => ("HatWinds$Streets", "from", "[I", true)
  | 1 => ("HatWinds$Streets", "width", "[I", true)
  | 2 => ("HatWinds$Streets", "cloth", "[I", true)
  | 3 => ("HatWinds$Streets", "smoke", "[I", true)
  | 4 => ("HatWinds$Streets", "people", "[I", true)
  | _ => ("HatWinds$Streets", "number", "I", false)
def tyX5 : Nat → FieldType := fun k => match k with
  | 0 => .array .int
  | 1 => .array .int
  | 2 => .array .int
  | 3 => .array .int
  | 4 => .array .int
  | _ => .int
abbrev wsX50 : List Cond := u_ws RX5 TX5 6
theorem nmX5 : ∀ a, a < 6 → ∀ b, b < 6 → a ≠ b → (TX5 a).2.1 ≠ (TX5 b).2.1 := by decide +kernel
theorem tyX5_ok : ∀ k, k < 6 → parseFieldDescriptor (TX5 k).2.2.1 = some (tyX5 k) := by decide +kernel
abbrev cX5_init : ByteArray := prog_7_method_1_code
def yX5_init : MethodName := ⟨RX5, "<init>", "()V"⟩
abbrev cX5_copy : ByteArray := prog_7_method_2_code
def yX5_copy : MethodName := ⟨RX5, "copy", "(LHatWinds$Streets;)V"⟩
abbrev cX5_clear : ByteArray := prog_7_method_3_code
def yX5_clear : MethodName := ⟨RX5, "clear", "()V"⟩
abbrev cX5_has : ByteArray := prog_7_method_4_code
def yX5_has : MethodName := ⟨RX5, "has", "(I)Z"⟩
abbrev cX5_hasRoomOff : ByteArray := prog_7_method_5_code
def yX5_hasRoomOff : MethodName := ⟨RX5, "hasRoomOff", "(I)Z"⟩
abbrev cX5_add : ByteArray := prog_7_method_6_code
def yX5_add : MethodName := ⟨RX5, "add", "(II)I"⟩
abbrev cX5_changeable : ByteArray := prog_7_method_7_code
def yX5_changeable : MethodName := ⟨RX5, "changeable", "(I)[I"⟩
abbrev cX5_branchesOff : ByteArray := prog_7_method_8_code
def yX5_branchesOff : MethodName := ⟨RX5, "branchesOff", "(I)I"⟩
abbrev cX5_howManyBehind : ByteArray := prog_7_method_9_code
def yX5_howManyBehind : MethodName := ⟨RX5, "howManyBehind", "(I)I"⟩
abbrev cX5_howFarOff : ByteArray := prog_7_method_10_code
def yX5_howFarOff : MethodName := ⟨RX5, "howFarOff", "(I)I"⟩
abbrev cX5_peopleOfAll : ByteArray := prog_7_method_11_code
def yX5_peopleOfAll : MethodName := ⟨RX5, "peopleOfAll", "()I"⟩
def RX6 : String := "HatWinds$Town"
def TX6 : u_T := fun k => match k with
  | 0 => ("HatWinds$Town", "settings", "[I", true)
  | 1 => ("HatWinds$Town", "streets", "LHatWinds$Streets;", true)
  | 2 => ("HatWinds$Town", "hours", "LHatWinds$Hours;", true)
  | _ => ("HatWinds$Town", "force", "I", false)
def tyX6 : Nat → FieldType := fun k => match k with
  | 0 => .array .int
  | 1 => .object "HatWinds$Streets"
  | 2 => .object "HatWinds$Hours"
  | _ => .int
abbrev wsX60 : List Cond := u_ws RX6 TX6 4
theorem nmX6 : ∀ a, a < 4 → ∀ b, b < 4 → a ≠ b → (TX6 a).2.1 ≠ (TX6 b).2.1 := by decide +kernel
theorem tyX6_ok : ∀ k, k < 4 → parseFieldDescriptor (TX6 k).2.2.1 = some (tyX6 k) := by decide +kernel
abbrev cX6_init : ByteArray := prog_8_method_1_code
def yX6_init : MethodName := ⟨RX6, "<init>", "()V"⟩
abbrev cX6_copy : ByteArray := prog_8_method_2_code
def yX6_copy : MethodName := ⟨RX6, "copy", "(LHatWinds$Town;)V"⟩
def RX7 : String := "HatWinds"
def TX7 : u_T := fun k => match k with
  | 0 => ("HatWinds", "town", "LHatWinds$Town;", true)
  | 1 => ("HatWinds", "air", "LHatWinds$Air;", true)
  | 2 => ("HatWinds", "history", "LHatWinds$History;", true)
  | 3 => ("HatWinds", "slots", "[LHatWinds$Town;", true)
  | 4 => ("HatWinds", "filled", "[Z", true)
  | 5 => ("HatWinds", "pad", "LHatWinds$Pad;", true)
  | 6 => ("HatWinds", "draft", "LHatWinds$Pad;", true)
  | _ => ("HatWinds", "reader", "LHatWinds$Reader;", true)
def tyX7 : Nat → FieldType := fun k => match k with
  | 0 => .object "HatWinds$Town"
  | 1 => .object "HatWinds$Air"
  | 2 => .object "HatWinds$History"
  | 3 => .array (.object "HatWinds$Town")
  | 4 => .array .boolean
  | 5 => .object "HatWinds$Pad"
  | 6 => .object "HatWinds$Pad"
  | _ => .object "HatWinds$Reader"
abbrev wsX70 : List Cond := u_ws RX7 TX7 8
theorem nmX7 : ∀ a, a < 8 → ∀ b, b < 8 → a ≠ b → (TX7 a).2.1 ≠ (TX7 b).2.1 := by decide +kernel
theorem tyX7_ok : ∀ k, k < 8 → parseFieldDescriptor (TX7 k).2.2.1 = some (tyX7 k) := by decide +kernel
abbrev cX7_init : ByteArray := prog_1_method_1_code
def yX7_init : MethodName := ⟨RX7, "<init>", "()V"⟩
abbrev cX7_set : ByteArray := prog_1_method_2_code
def yX7_set : MethodName := ⟨RX7, "set", "(II)I"⟩
abbrev cX7_build : ByteArray := prog_1_method_3_code
def yX7_build : MethodName := ⟨RX7, "build", "()I"⟩
abbrev cX7_street : ByteArray := prog_1_method_4_code
def yX7_street : MethodName := ⟨RX7, "street", "(II)I"⟩
abbrev cX7_change : ByteArray := prog_1_method_5_code
def yX7_change : MethodName := ⟨RX7, "change", "(III)I"⟩
abbrev cX7_wind : ByteArray := prog_1_method_6_code
def yX7_wind : MethodName := ⟨RX7, "wind", "(I)I"⟩
abbrev cX7_pass : ByteArray := prog_1_method_7_code
def yX7_pass : MethodName := ⟨RX7, "pass", "(I)I"⟩
abbrev cX7_write : ByteArray := prog_1_method_8_code
def yX7_write : MethodName := ⟨RX7, "write", "()I"⟩
abbrev cX7_of : ByteArray := prog_1_method_9_code
def yX7_of : MethodName := ⟨RX7, "of", "(II)I"⟩
abbrev cX7_now : ByteArray := prog_1_method_10_code
def yX7_now : MethodName := ⟨RX7, "now", "(II)I"⟩
abbrev cX7_record : ByteArray := prog_1_method_11_code
def yX7_record : MethodName := ⟨RX7, "record", "(II)I"⟩
abbrev cX7_sign : ByteArray := prog_1_method_12_code
def yX7_sign : MethodName := ⟨RX7, "sign", "(I)I"⟩
abbrev cX7_count : ByteArray := prog_1_method_13_code
def yX7_count : MethodName := ⟨RX7, "count", "(I)I"⟩
abbrev cX7_ifWind : ByteArray := prog_1_method_14_code
def yX7_ifWind : MethodName := ⟨RX7, "ifWind", "(I)I"⟩
abbrev cX7_windFor : ByteArray := prog_1_method_15_code
def yX7_windFor : MethodName := ⟨RX7, "windFor", "(I)I"⟩
abbrev cX7_windOfFlag : ByteArray := prog_1_method_16_code
def yX7_windOfFlag : MethodName := ⟨RX7, "windOfFlag", "(II)I"⟩
abbrev cX7_without : ByteArray := prog_1_method_17_code
def yX7_without : MethodName := ⟨RX7, "without", "(II)I"⟩
abbrev cX7_windiest : ByteArray := prog_1_method_18_code
def yX7_windiest : MethodName := ⟨RX7, "windiest", "()I"⟩
abbrev cX7_put : ByteArray := prog_1_method_19_code
def yX7_put : MethodName := ⟨RX7, "put", "(J)I"⟩
abbrev cX7_wipe : ByteArray := prog_1_method_20_code
def yX7_wipe : MethodName := ⟨RX7, "wipe", "()I"⟩
abbrev cX7_fault : ByteArray := prog_1_method_21_code
def yX7_fault : MethodName := ⟨RX7, "fault", "()I"⟩
abbrev cX7_undo : ByteArray := prog_1_method_22_code
def yX7_undo : MethodName := ⟨RX7, "undo", "()I"⟩
abbrev cX7_save : ByteArray := prog_1_method_23_code
def yX7_save : MethodName := ⟨RX7, "save", "(I)I"⟩
abbrev cX7_restore : ByteArray := prog_1_method_24_code
def yX7_restore : MethodName := ⟨RX7, "restore", "(I)I"⟩
abbrev cX7_hatsBy : ByteArray := prog_1_method_25_code
def yX7_hatsBy : MethodName := ⟨RX7, "hatsBy", "(I)I"⟩
abbrev cX7_shelters : ByteArray := prog_1_method_26_code
def yX7_shelters : MethodName := ⟨RX7, "shelters", "()I"⟩
abbrev cX7_calmest : ByteArray := prog_1_method_27_code
def yX7_calmest : MethodName := ⟨RX7, "calmest", "()I"⟩
abbrev cX7_isWithin : ByteArray := prog_1_method_28_code
def yX7_isWithin : MethodName := ⟨RX7, "isWithin", "(III)Z"⟩
abbrev cX7_isIndexOf : ByteArray := prog_1_method_29_code
def yX7_isIndexOf : MethodName := ⟨RX7, "isIndexOf", "(II)Z"⟩
abbrev cX7_isForce : ByteArray := prog_1_method_30_code
def yX7_isForce : MethodName := ⟨RX7, "isForce", "(I)Z"⟩
abbrev cX7_quotient : ByteArray := prog_1_method_31_code
def yX7_quotient : MethodName := ⟨RX7, "quotient", "(II)I"⟩
abbrev cX7_signsIn : ByteArray := prog_1_method_32_code
def yX7_signsIn : MethodName := ⟨RX7, "signsIn", "(J)I"⟩
abbrev cX7_tell : ByteArray := prog_1_method_33_code
def yX7_tell : MethodName := ⟨RX7, "tell", "(LHatWinds$Streets;IILHatWinds$Pad;)V"⟩
abbrev cX7_tellAlone : ByteArray := prog_1_method_34_code
def yX7_tellAlone : MethodName := ⟨RX7, "tellAlone", "(LHatWinds$Streets;ILHatWinds$Pad;)V"⟩
abbrev cX7_copyRow : ByteArray := prog_1_method_35_code
def yX7_copyRow : MethodName := ⟨RX7, "copyRow", "([I[I)V"⟩
def RX8 : String := "HatWindsModel"
def TX8 : u_T := fun k => match k with
  | 0 => ("HatWindsModel", "s", "[I", true)
  | 1 => ("HatWindsModel", "past", "[I", true)
  | 2 => ("HatWindsModel", "known", "I", false)
  | 3 => ("HatWindsModel", "slots", "[I", true)
  | 4 => ("HatWindsModel", "isSaved", "[Z", true)
  | 5 => ("HatWindsModel", "pad", "[I", true)
  | 6 => ("HatWindsModel", "length", "I", false)
  | 7 => ("HatWindsModel", "forces", "[I", true)
  | 8 => ("HatWindsModel", "told", "[I", true)
  | 9 => ("HatWindsModel", "many", "I", false)
  | 10 => ("HatWindsModel", "last", "I", false)
  | 11 => ("HatWindsModel", "open", "I", false)
  | 12 => ("HatWindsModel", "out", "[I", true)
  | _ => ("HatWindsModel", "written", "I", false)
def tyX8 : Nat → FieldType := fun k => match k with
  | 0 => .array .int
  | 1 => .array .int
  | 2 => .int
  | 3 => .array .int
  | 4 => .array .boolean
  | 5 => .array .int
  | 6 => .int
  | 7 => .array .int
  | 8 => .array .int
  | 9 => .int
  | 10 => .int
  | 11 => .int
  | 12 => .array .int
  | _ => .int
abbrev wsX80 : List Cond := u_ws RX8 TX8 14
theorem nmX8 : ∀ a, a < 14 → ∀ b, b < 14 → a ≠ b → (TX8 a).2.1 ≠ (TX8 b).2.1 := by decide +kernel
theorem tyX8_ok : ∀ k, k < 14 → parseFieldDescriptor (TX8 k).2.2.1 = some (tyX8 k) := by decide +kernel
abbrev cX8_init : ByteArray := prog_10_method_1_code
def yX8_init : MethodName := ⟨RX8, "<init>", "()V"⟩
abbrev cX8_in : ByteArray := prog_10_method_3_code
def yX8_in : MethodName := ⟨RX8, "in", "(III)Z"⟩
abbrev cX8_less : ByteArray := prog_10_method_4_code
def yX8_less : MethodName := ⟨RX8, "less", "(II)I"⟩
abbrev cX8_at : ByteArray := prog_10_method_5_code
def yX8_at : MethodName := ⟨RX8, "at", "(II)I"⟩
abbrev cX8_its : ByteArray := prog_10_method_6_code
def yX8_its : MethodName := ⟨RX8, "its", "(II)I"⟩
abbrev cX8_isStreet : ByteArray := prog_10_method_7_code
def yX8_isStreet : MethodName := ⟨RX8, "isStreet", "(I)Z"⟩
abbrev cX8_remembers : ByteArray := prog_10_method_8_code
def yX8_remembers : MethodName := ⟨RX8, "remembers", "()V"⟩
abbrev cX8_parted : ByteArray := prog_10_method_9_code
def yX8_parted : MethodName := ⟨RX8, "parted", "(II)I"⟩
abbrev cX8_blows : ByteArray := prog_10_method_10_code
def yX8_blows : MethodName := ⟨RX8, "blows", "(I)V"⟩
abbrev cX8_gustOf : ByteArray := prog_10_method_11_code
def yX8_gustOf : MethodName := ⟨RX8, "gustOf", "(I)I"⟩
abbrev cX8_hatsOf : ByteArray := prog_10_method_12_code
def yX8_hatsOf : MethodName := ⟨RX8, "hatsOf", "(I)I"⟩
abbrev cX8_hatsBy : ByteArray := prog_10_method_13_code
def yX8_hatsBy : MethodName := ⟨RX8, "hatsBy", "(I)I"⟩
abbrev cX8_stepsOf : ByteArray := prog_10_method_14_code
def yX8_stepsOf : MethodName := ⟨RX8, "stepsOf", "(I)I"⟩
abbrev cX8_anHour : ByteArray := prog_10_method_15_code
def yX8_anHour : MethodName := ⟨RX8, "anHour", "()I"⟩
abbrev cX8_pass : ByteArray := prog_10_method_16_code
def yX8_pass : MethodName := ⟨RX8, "pass", "(I)I"⟩
abbrev cX8_canSet : ByteArray := prog_10_method_17_code
def yX8_canSet : MethodName := ⟨RX8, "canSet", "(II)Z"⟩
abbrev cX8_set : ByteArray := prog_10_method_18_code
def yX8_set : MethodName := ⟨RX8, "set", "(II)I"⟩
abbrev cX8_branches : ByteArray := prog_10_method_19_code
def yX8_branches : MethodName := ⟨RX8, "branches", "(I)I"⟩
abbrev cX8_street : ByteArray := prog_10_method_20_code
def yX8_street : MethodName := ⟨RX8, "street", "(II)I"⟩
abbrev cX8_kept : ByteArray := prog_10_method_21_code
def yX8_kept : MethodName := ⟨RX8, "kept", "(I)I"⟩
abbrev cX8_canChange : ByteArray := prog_10_method_22_code
def yX8_canChange : MethodName := ⟨RX8, "canChange", "(II)Z"⟩
abbrev cX8_change : ByteArray := prog_10_method_23_code
def yX8_change : MethodName := ⟨RX8, "change", "(III)I"⟩
abbrev cX8_wind : ByteArray := prog_10_method_24_code
def yX8_wind : MethodName := ⟨RX8, "wind", "(I)I"⟩
abbrev cX8_branchSet : ByteArray := prog_10_method_25_code
def yX8_branchSet : MethodName := ⟨RX8, "branchSet", "(I)I"⟩
abbrev cX8_behind : ByteArray := prog_10_method_26_code
def yX8_behind : MethodName := ⟨RX8, "behind", "(I)I"⟩
abbrev cX8_depth : ByteArray := prog_10_method_27_code
def yX8_depth : MethodName := ⟨RX8, "depth", "(I)I"⟩
abbrev cX8_of : ByteArray := prog_10_method_28_code
def yX8_of : MethodName := ⟨RX8, "of", "(II)I"⟩
abbrev cX8_now : ByteArray := prog_10_method_29_code
def yX8_now : MethodName := ⟨RX8, "now", "(II)I"⟩
abbrev cX8_record : ByteArray := prog_10_method_30_code
def yX8_record : MethodName := ⟨RX8, "record", "(II)I"⟩
abbrev cX8_sign : ByteArray := prog_10_method_31_code
def yX8_sign : MethodName := ⟨RX8, "sign", "(I)I"⟩
abbrev cX8_people : ByteArray := prog_10_method_32_code
def yX8_people : MethodName := ⟨RX8, "people", "()I"⟩
abbrev cX8_calm : ByteArray := prog_10_method_33_code
def yX8_calm : MethodName := ⟨RX8, "calm", "(I)I"⟩
abbrev cX8_count : ByteArray := prog_10_method_34_code
def yX8_count : MethodName := ⟨RX8, "count", "(I)I"⟩
abbrev cX8_ifWind : ByteArray := prog_10_method_35_code
def yX8_ifWind : MethodName := ⟨RX8, "ifWind", "(I)I"⟩
abbrev cX8_windFor : ByteArray := prog_10_method_36_code
def yX8_windFor : MethodName := ⟨RX8, "windFor", "(I)I"⟩
abbrev cX8_windOfFlag : ByteArray := prog_10_method_37_code
def yX8_windOfFlag : MethodName := ⟨RX8, "windOfFlag", "(II)I"⟩
abbrev cX8_without : ByteArray := prog_10_method_38_code
def yX8_without : MethodName := ⟨RX8, "without", "(II)I"⟩
abbrev cX8_windiest : ByteArray := prog_10_method_39_code
def yX8_windiest : MethodName := ⟨RX8, "windiest", "()I"⟩
abbrev cX8_put : ByteArray := prog_10_method_40_code
def yX8_put : MethodName := ⟨RX8, "put", "(J)I"⟩
abbrev cX8_wipe : ByteArray := prog_10_method_41_code
def yX8_wipe : MethodName := ⟨RX8, "wipe", "()I"⟩
abbrev cX8_begins : ByteArray := prog_10_method_42_code
def yX8_begins : MethodName := ⟨RX8, "begins", "(I)Z"⟩
abbrev cX8_counts : ByteArray := prog_10_method_43_code
def yX8_counts : MethodName := ⟨RX8, "counts", "(I)Z"⟩
abbrev cX8_turns : ByteArray := prog_10_method_44_code
def yX8_turns : MethodName := ⟨RX8, "turns", "(I)Z"⟩
abbrev cX8_goes : ByteArray := prog_10_method_45_code
def yX8_goes : MethodName := ⟨RX8, "goes", "(I)Z"⟩
abbrev cX8_fault : ByteArray := prog_10_method_46_code
def yX8_fault : MethodName := ⟨RX8, "fault", "()I"⟩
abbrev cX8_build : ByteArray := prog_10_method_47_code
def yX8_build : MethodName := ⟨RX8, "build", "()I"⟩
abbrev cX8_writes : ByteArray := prog_10_method_48_code
def yX8_writes : MethodName := ⟨RX8, "writes", "(I)V"⟩
abbrev cX8_writesStreet : ByteArray := prog_10_method_49_code
def yX8_writesStreet : MethodName := ⟨RX8, "writesStreet", "(I)V"⟩
abbrev cX8_nextBranch : ByteArray := prog_10_method_50_code
def yX8_nextBranch : MethodName := ⟨RX8, "nextBranch", "(II)I"⟩
abbrev cX8_goesUp : ByteArray := prog_10_method_51_code
def yX8_goesUp : MethodName := ⟨RX8, "goesUp", "(I)I"⟩
abbrev cX8_write : ByteArray := prog_10_method_52_code
def yX8_write : MethodName := ⟨RX8, "write", "()I"⟩
abbrev cX8_undo : ByteArray := prog_10_method_53_code
def yX8_undo : MethodName := ⟨RX8, "undo", "()I"⟩
abbrev cX8_save : ByteArray := prog_10_method_54_code
def yX8_save : MethodName := ⟨RX8, "save", "(I)I"⟩
abbrev cX8_restore : ByteArray := prog_10_method_55_code
def yX8_restore : MethodName := ⟨RX8, "restore", "(I)I"⟩
def RJx8e188 : String := "java/lang/Cloneable"
def TJx8e188 : u_T := fun k => match k with
  | _ => ("", "", "", false)
def tyJx8e188 : Nat → FieldType := fun k => match k with
  | _ => .int
abbrev wsJx8e1880 : List Cond := u_ws RJx8e188 TJx8e188 0
theorem nmJx8e188 : ∀ a, a < 0 → ∀ b, b < 0 → a ≠ b → (TJx8e188 a).2.1 ≠ (TJx8e188 b).2.1 := by decide +kernel
theorem tyJx8e188_ok : ∀ k, k < 0 → parseFieldDescriptor (TJx8e188 k).2.2.1 = some (tyJx8e188 k) := by decide +kernel
def RJ6 : String := "java/lang/Integer"
def TJ6 : u_T := fun k => match k with
  | _ => ("", "", "", false)
def tyJ6 : Nat → FieldType := fun k => match k with
  | _ => .int
abbrev wsJ60 : List Cond := u_ws RJ6 TJ6 0
theorem nmJ6 : ∀ a, a < 0 → ∀ b, b < 0 → a ≠ b → (TJ6 a).2.1 ≠ (TJ6 b).2.1 := by decide +kernel
theorem tyJ6_ok : ∀ k, k < 0 → parseFieldDescriptor (TJ6 k).2.2.1 = some (tyJ6 k) := by decide +kernel
abbrev cJ6_bitCount_0f7a4 : ByteArray := prog_12_method_49_code
def yJ6_bitCount_0f7a4 : MethodName := ⟨RJ6, "bitCount", "(I)I"⟩
def RJ9 : String := "java/lang/Math"
def TJ9 : u_T := fun k => match k with
  | _ => ("", "", "", false)
def tyJ9 : Nat → FieldType := fun k => match k with
  | _ => .int
abbrev wsJ90 : List Cond := u_ws RJ9 TJ9 0
theorem nmJ9 : ∀ a, a < 0 → ∀ b, b < 0 → a ≠ b → (TJ9 a).2.1 ≠ (TJ9 b).2.1 := by decide +kernel
theorem tyJ9_ok : ∀ k, k < 0 → parseFieldDescriptor (TJ9 k).2.2.1 = some (tyJ9 k) := by decide +kernel
abbrev cJ9_min_7cf53 : ByteArray := prog_13_method_69_code
def yJ9_min_7cf53 : MethodName := ⟨RJ9, "min", "(II)I"⟩
def RJ10 : String := "java/lang/System"
def TJ10 : u_T := fun k => match k with
  | _ => ("", "", "", false)
def tyJ10 : Nat → FieldType := fun k => match k with
  | _ => .int
abbrev wsJ100 : List Cond := u_ws RJ10 TJ10 0
theorem nmJ10 : ∀ a, a < 0 → ∀ b, b < 0 → a ≠ b → (TJ10 a).2.1 ≠ (TJ10 b).2.1 := by decide +kernel
theorem tyJ10_ok : ∀ k, k < 0 → parseFieldDescriptor (TJ10 k).2.2.1 = some (tyJ10 k) := by decide +kernel
def RL : String := "HatWindsLaw"
abbrev cL_law : ByteArray := code
def yL_law : MethodName := ⟨RL, "law", "([I)Z"⟩
def wsX0_init : List Cond := .code yX0_init cX0_init 1 none :: ([.methodLink RX0 3 objectInit, .instanceMethod objectInit, .code objectInit ⟨#[0xb1]⟩ 1 none, .arrayClass .int, .fieldLink RX0 9 "HatWinds$Air" "together" "[I", .fieldLink RX0 15 "HatWinds$Air" "narrower" "[I", .fieldLink RX0 18 "HatWinds$Air" "force" "[I"] ++ wsX00)
def wsX0_part : List Cond := .code yX0_part cX0_part 5 none :: ([.fieldLink RX0 37 "HatWinds$Streets" "number" "I", .fieldLink RX0 9 "HatWinds$Air" "together" "[I", .fieldLink RX0 15 "HatWinds$Air" "narrower" "[I", .fieldLink RX0 42 "HatWinds$Streets" "from" "[I", .fieldLink RX0 45 "HatWinds$Streets" "width" "[I"] ++ wsX50 ++ wsX00)
def wsX7_isIndexOf : List Cond := .code yX7_isIndexOf cX7_isIndexOf 2 (some .boolean) :: ([])
def wsX5_has : List Cond := .code yX5_has cX5_has 2 (some .boolean) :: ([.fieldLink RX5 27 "HatWinds$Streets" "number" "I", .static yX7_isIndexOf, .initialized RX7, .code yX7_isIndexOf cX7_isIndexOf 2 (some .boolean)] ++ wsX50)
def wsX7_quotient : List Cond := .code yX7_quotient cX7_quotient 2 (some .int) :: ([])
def wsX0_shareOf : List Cond := .code yX0_shareOf cX0_shareOf 5 (some .int) :: ([.fieldLink RX0 45 "HatWinds$Streets" "width" "[I", .fieldLink RX0 9 "HatWinds$Air" "together" "[I", .fieldLink RX0 15 "HatWinds$Air" "narrower" "[I", .methodLink RX0 60 Lib.Math.min.name, .static Lib.Math.min.name, .initialized "java/lang/Math", .code Lib.Math.min.name Lib.Math.min.code 2 (some .int), .static yX7_quotient, .initialized RX7, .code yX7_quotient cX7_quotient 2 (some .int)] ++ wsX50 ++ wsX00)
def wsX0_blow_r1 : List Cond := [Cond.fieldLink RX0 37 "HatWinds$Streets" "number" "I", Cond.fieldLink RX0 42 "HatWinds$Streets" "from" "[I", Cond.fieldLink RX0 18 "HatWinds$Air" "force" "[I", Cond.methodLink RX0 48 yX5_has, Cond.instanceMethod yX5_has, Cond.selects RX5 yX5_has yX5_has, Cond.initialized RX5, Cond.code yX5_has cX5_has 2 (some .boolean), Cond.fieldLink RX5 27 "HatWinds$Streets" "number" "I", Cond.static yX7_isIndexOf, Cond.initialized RX7, Cond.code yX7_isIndexOf cX7_isIndexOf 2 (some .boolean), Cond.methodLink RX0 52 yX0_shareOf, Cond.instanceMethod yX0_shareOf, Cond.selects RX0 yX0_shareOf yX0_shareOf, Cond.initialized RX0, Cond.code yX0_shareOf cX0_shareOf 5 (some .int), Cond.fieldLink RX0 45 "HatWinds$Streets" "width" "[I", Cond.fieldLink RX0 9 "HatWinds$Air" "together" "[I", Cond.fieldLink RX0 15 "HatWinds$Air" "narrower" "[I", Cond.methodLink RX0 60 Lib.Math.min.name, Cond.static Lib.Math.min.name, Cond.initialized "java/lang/Math", Cond.code Lib.Math.min.name Lib.Math.min.code 2 (some .int)]
def wsX0_blow_r2 : List Cond := [Cond.static yX7_quotient, Cond.code yX7_quotient cX7_quotient 2 (some .int)]
def wsX0_blow : List Cond := .code yX0_blow cX0_blow 5 none :: ((wsX0_blow_r1 ++ wsX0_blow_r2) ++ wsX50 ++ wsX00)
def wsX0_blowIn_r1 : List Cond := [Cond.fieldLink RX0 21 "HatWinds$Town" "streets" "LHatWinds$Streets;", Cond.fieldLink RX0 31 "HatWinds$Town" "force" "I", Cond.methodLink RX0 27 yX0_part, Cond.instanceMethod yX0_part, Cond.selects RX0 yX0_part yX0_part, Cond.initialized RX0, Cond.code yX0_part cX0_part 5 none, Cond.fieldLink RX0 37 "HatWinds$Streets" "number" "I", Cond.fieldLink RX0 9 "HatWinds$Air" "together" "[I", Cond.fieldLink RX0 15 "HatWinds$Air" "narrower" "[I", Cond.fieldLink RX0 42 "HatWinds$Streets" "from" "[I", Cond.fieldLink RX0 45 "HatWinds$Streets" "width" "[I", Cond.methodLink RX0 34 yX0_blow, Cond.instanceMethod yX0_blow, Cond.selects RX0 yX0_blow yX0_blow, Cond.code yX0_blow cX0_blow 5 none, Cond.fieldLink RX0 18 "HatWinds$Air" "force" "[I", Cond.methodLink RX0 48 yX5_has, Cond.instanceMethod yX5_has, Cond.selects RX5 yX5_has yX5_has, Cond.initialized RX5, Cond.code yX5_has cX5_has 2 (some .boolean), Cond.fieldLink RX5 27 "HatWinds$Streets" "number" "I", Cond.static yX7_isIndexOf]
def wsX0_blowIn_r2 : List Cond := [Cond.initialized RX7, Cond.code yX7_isIndexOf cX7_isIndexOf 2 (some .boolean), Cond.methodLink RX0 52 yX0_shareOf, Cond.instanceMethod yX0_shareOf, Cond.selects RX0 yX0_shareOf yX0_shareOf, Cond.code yX0_shareOf cX0_shareOf 5 (some .int), Cond.methodLink RX0 60 Lib.Math.min.name, Cond.static Lib.Math.min.name, Cond.initialized "java/lang/Math", Cond.code Lib.Math.min.name Lib.Math.min.code 2 (some .int), Cond.static yX7_quotient, Cond.code yX7_quotient cX7_quotient 2 (some .int)]
def wsX0_blowIn : List Cond := .code yX0_blowIn cX0_blowIn 2 none :: ((wsX0_blowIn_r1 ++ wsX0_blowIn_r2) ++ wsX60 ++ wsX50 ++ wsX00)
def wsX0_gustIn : List Cond := .code yX0_gustIn cX0_gustIn 3 (some .int) :: ([.fieldLink RX0 18 "HatWinds$Air" "force" "[I", .fieldLink RX0 65 "HatWinds$Town" "settings" "[I"] ++ wsX00 ++ wsX60)
def wsX0_flagSteps : List Cond := .code yX0_flagSteps cX0_flagSteps 4 (some .int) :: ([.fieldLink RX0 21 "HatWinds$Town" "streets" "LHatWinds$Streets;", .fieldLink RX0 68 "HatWinds$Streets" "cloth" "[I", .fieldLink RX0 18 "HatWinds$Air" "force" "[I", .fieldLink RX0 65 "HatWinds$Town" "settings" "[I", .methodLink RX0 60 Lib.Math.min.name, .static Lib.Math.min.name, .initialized "java/lang/Math", .code Lib.Math.min.name Lib.Math.min.code 2 (some .int), .static yX7_quotient, .initialized RX7, .code yX7_quotient cX7_quotient 2 (some .int)] ++ wsX60 ++ wsX50 ++ wsX00)
def wsX0_smokeSteps : List Cond := .code yX0_smokeSteps cX0_smokeSteps 3 (some .int) :: ([.fieldLink RX0 21 "HatWinds$Town" "streets" "LHatWinds$Streets;", .fieldLink RX0 71 "HatWinds$Streets" "smoke" "[I", .fieldLink RX0 18 "HatWinds$Air" "force" "[I", .fieldLink RX0 65 "HatWinds$Town" "settings" "[I", .methodLink RX0 60 Lib.Math.min.name, .static Lib.Math.min.name, .initialized "java/lang/Math", .code Lib.Math.min.name Lib.Math.min.code 2 (some .int), .static yX7_quotient, .initialized RX7, .code yX7_quotient cX7_quotient 2 (some .int)] ++ wsX60 ++ wsX50 ++ wsX00)
def wsX0_hatsLostIn : List Cond := .code yX0_hatsLostIn cX0_hatsLostIn 4 (some .int) :: ([.fieldLink RX0 65 "HatWinds$Town" "settings" "[I", .fieldLink RX0 21 "HatWinds$Town" "streets" "LHatWinds$Streets;", .fieldLink RX0 78 "HatWinds$Streets" "people" "[I", .methodLink RX0 60 Lib.Math.min.name, .static Lib.Math.min.name, .initialized "java/lang/Math", .code Lib.Math.min.name Lib.Math.min.code 2 (some .int), .methodLink RX0 74 yX0_gustIn, .instanceMethod yX0_gustIn, .selects RX0 yX0_gustIn yX0_gustIn, .initialized RX0, .code yX0_gustIn cX0_gustIn 3 (some .int), .fieldLink RX0 18 "HatWinds$Air" "force" "[I"] ++ wsX60 ++ wsX50 ++ wsX00)
def wsX0_hatsLost : List Cond := .code yX0_hatsLost cX0_hatsLost 4 (some .int) :: ([.fieldLink RX0 21 "HatWinds$Town" "streets" "LHatWinds$Streets;", .fieldLink RX0 37 "HatWinds$Streets" "number" "I", .methodLink RX0 81 yX0_hatsLostIn, .instanceMethod yX0_hatsLostIn, .selects RX0 yX0_hatsLostIn yX0_hatsLostIn, .initialized RX0, .code yX0_hatsLostIn cX0_hatsLostIn 4 (some .int), .fieldLink RX0 65 "HatWinds$Town" "settings" "[I", .fieldLink RX0 78 "HatWinds$Streets" "people" "[I", .methodLink RX0 60 Lib.Math.min.name, .static Lib.Math.min.name, .initialized "java/lang/Math", .code Lib.Math.min.name Lib.Math.min.code 2 (some .int), .methodLink RX0 74 yX0_gustIn, .instanceMethod yX0_gustIn, .selects RX0 yX0_gustIn yX0_gustIn, .code yX0_gustIn cX0_gustIn 3 (some .int), .fieldLink RX0 18 "HatWinds$Air" "force" "[I"] ++ wsX60 ++ wsX50 ++ wsX00)
def wsX0_worstStreet : List Cond := .code yX0_worstStreet cX0_worstStreet 6 (some .int) :: ([.fieldLink RX0 21 "HatWinds$Town" "streets" "LHatWinds$Streets;", .fieldLink RX0 37 "HatWinds$Streets" "number" "I", .methodLink RX0 81 yX0_hatsLostIn, .instanceMethod yX0_hatsLostIn, .selects RX0 yX0_hatsLostIn yX0_hatsLostIn, .initialized RX0, .code yX0_hatsLostIn cX0_hatsLostIn 4 (some .int), .fieldLink RX0 65 "HatWinds$Town" "settings" "[I", .fieldLink RX0 78 "HatWinds$Streets" "people" "[I", .methodLink RX0 60 Lib.Math.min.name, .static Lib.Math.min.name, .initialized "java/lang/Math", .code Lib.Math.min.name Lib.Math.min.code 2 (some .int), .methodLink RX0 74 yX0_gustIn, .instanceMethod yX0_gustIn, .selects RX0 yX0_gustIn yX0_gustIn, .code yX0_gustIn cX0_gustIn 3 (some .int), .fieldLink RX0 18 "HatWinds$Air" "force" "[I"] ++ wsX60 ++ wsX50 ++ wsX00)
def wsX5_init : List Cond := .code yX5_init cX5_init 1 none :: ([.methodLink RX5 3 objectInit, .instanceMethod objectInit, .code objectInit ⟨#[0xb1]⟩ 1 none, .arrayClass .int, .fieldLink RX5 9 "HatWinds$Streets" "from" "[I", .fieldLink RX5 15 "HatWinds$Streets" "width" "[I", .fieldLink RX5 18 "HatWinds$Streets" "cloth" "[I", .fieldLink RX5 21 "HatWinds$Streets" "smoke" "[I", .fieldLink RX5 24 "HatWinds$Streets" "people" "[I", .fieldLink RX5 27 "HatWinds$Streets" "number" "I"] ++ wsX50)
def wsX2_init : List Cond := .code yX2_init cX2_init 1 none :: ([.methodLink RX2 3 objectInit, .instanceMethod objectInit, .code objectInit ⟨#[0xb1]⟩ 1 none, .arrayClass .int, .fieldLink RX2 9 "HatWinds$Hours" "forces" "[I", .fieldLink RX2 15 "HatWinds$Hours" "lost" "[I", .fieldLink RX2 18 "HatWinds$Hours" "worst" "[I", .fieldLink RX2 21 "HatWinds$Hours" "passed" "I", .fieldLink RX2 25 "HatWinds$Hours" "lostSoFar" "I"] ++ wsX20)
def wsX5_add : List Cond := .code yX5_add cX5_add 3 (some .int) :: ([.fieldLink RX5 27 "HatWinds$Streets" "number" "I", .fieldLink RX5 9 "HatWinds$Streets" "from" "[I", .fieldLink RX5 15 "HatWinds$Streets" "width" "[I", .fieldLink RX5 18 "HatWinds$Streets" "cloth" "[I", .fieldLink RX5 21 "HatWinds$Streets" "smoke" "[I", .fieldLink RX5 24 "HatWinds$Streets" "people" "[I"] ++ wsX50)
def wsX6_init_r1 : List Cond := [Cond.methodLink RX6 3 objectInit, Cond.instanceMethod objectInit, Cond.code objectInit ⟨#[0xb1]⟩ 1 none, Cond.methodLink RX6 13 ⟨"[I", "clone", "()Ljava/lang/Object;"⟩, Cond.sameMethod "[I" "java/lang/Object" "clone" "()Ljava/lang/Object;", Cond.native ⟨"java/lang/Object", "clone", "()Ljava/lang/Object;"⟩, Cond.instanceMethod ⟨"java/lang/Object", "clone", "()Ljava/lang/Object;"⟩, Cond.selects "[I" ⟨"[I", "clone", "()Ljava/lang/Object;"⟩ ⟨"java/lang/Object", "clone", "()Ljava/lang/Object;"⟩, Cond.classLink RX6 14 "[I", Cond.fieldLink RX6 18 "HatWinds$Town" "settings" "[I", Cond.classLink RX6 23 RX5, Cond.instantiable RX5 6, Cond.initialized RX5, Cond.fieldLink RX6 26 "HatWinds$Town" "streets" "LHatWinds$Streets;", Cond.classLink RX6 30 RX2, Cond.instantiable RX2 5, Cond.initialized RX2, Cond.fieldLink RX6 33 "HatWinds$Town" "hours" "LHatWinds$Hours;", Cond.fieldLink RX6 37 "HatWinds$Town" "force" "I", Cond.instanceMethod yX5_init, Cond.code yX5_init cX5_init 1 none, Cond.methodLink RX5 3 objectInit, Cond.arrayClass .int, Cond.fieldLink RX5 9 "HatWinds$Streets" "from" "[I"]
def wsX6_init_r2 : List Cond := [Cond.fieldLink RX5 15 "HatWinds$Streets" "width" "[I", Cond.fieldLink RX5 18 "HatWinds$Streets" "cloth" "[I", Cond.fieldLink RX5 21 "HatWinds$Streets" "smoke" "[I", Cond.fieldLink RX5 24 "HatWinds$Streets" "people" "[I", Cond.fieldLink RX5 27 "HatWinds$Streets" "number" "I", Cond.instanceMethod yX2_init, Cond.code yX2_init cX2_init 1 none, Cond.methodLink RX2 3 objectInit, Cond.fieldLink RX2 9 "HatWinds$Hours" "forces" "[I", Cond.fieldLink RX2 15 "HatWinds$Hours" "lost" "[I", Cond.fieldLink RX2 18 "HatWinds$Hours" "worst" "[I", Cond.fieldLink RX2 21 "HatWinds$Hours" "passed" "I", Cond.fieldLink RX2 25 "HatWinds$Hours" "lostSoFar" "I", Cond.methodLink RX6 41 yX5_add, Cond.instanceMethod yX5_add, Cond.selects RX5 yX5_add yX5_add, Cond.code yX5_add cX5_add 3 (some .int)]
def wsX6_init : List Cond := .code yX6_init cX6_init 1 none :: ((wsX6_init_r1 ++ wsX6_init_r2) ++ wsX60 ++ wsX50 ++ wsX20)
def wsX1_init_r1 : List Cond := [Cond.methodLink RX1 3 objectInit, Cond.instanceMethod objectInit, Cond.code objectInit ⟨#[0xb1]⟩ 1 none, Cond.classLink RX1 9 RX6, Cond.fieldLink RX1 11 "HatWinds$History" "states" "[LHatWinds$Town;", Cond.fieldLink RX1 17 "HatWinds$History" "oldest" "I", Cond.fieldLink RX1 21 "HatWinds$History" "length" "I", Cond.instantiable RX6 4, Cond.initialized RX6, Cond.methodLink RX1 24 yX6_init, Cond.instanceMethod yX6_init, Cond.code yX6_init cX6_init 1 none, Cond.methodLink RX6 3 objectInit, Cond.methodLink RX6 13 ⟨"[I", "clone", "()Ljava/lang/Object;"⟩, Cond.sameMethod "[I" "java/lang/Object" "clone" "()Ljava/lang/Object;", Cond.native ⟨"java/lang/Object", "clone", "()Ljava/lang/Object;"⟩, Cond.instanceMethod ⟨"java/lang/Object", "clone", "()Ljava/lang/Object;"⟩, Cond.selects "[I" ⟨"[I", "clone", "()Ljava/lang/Object;"⟩ ⟨"java/lang/Object", "clone", "()Ljava/lang/Object;"⟩, Cond.classLink RX6 14 "[I", Cond.fieldLink RX6 18 "HatWinds$Town" "settings" "[I", Cond.classLink RX6 23 RX5, Cond.instantiable RX5 6, Cond.initialized RX5, Cond.fieldLink RX6 26 "HatWinds$Town" "streets" "LHatWinds$Streets;"]
def wsX1_init_r2 : List Cond := [Cond.classLink RX6 30 RX2, Cond.instantiable RX2 5, Cond.initialized RX2, Cond.fieldLink RX6 33 "HatWinds$Town" "hours" "LHatWinds$Hours;", Cond.fieldLink RX6 37 "HatWinds$Town" "force" "I", Cond.instanceMethod yX5_init, Cond.code yX5_init cX5_init 1 none, Cond.methodLink RX5 3 objectInit, Cond.arrayClass .int, Cond.fieldLink RX5 9 "HatWinds$Streets" "from" "[I", Cond.fieldLink RX5 15 "HatWinds$Streets" "width" "[I", Cond.fieldLink RX5 18 "HatWinds$Streets" "cloth" "[I", Cond.fieldLink RX5 21 "HatWinds$Streets" "smoke" "[I", Cond.fieldLink RX5 24 "HatWinds$Streets" "people" "[I", Cond.fieldLink RX5 27 "HatWinds$Streets" "number" "I", Cond.instanceMethod yX2_init, Cond.code yX2_init cX2_init 1 none, Cond.methodLink RX2 3 objectInit, Cond.fieldLink RX2 9 "HatWinds$Hours" "forces" "[I", Cond.fieldLink RX2 15 "HatWinds$Hours" "lost" "[I", Cond.fieldLink RX2 18 "HatWinds$Hours" "worst" "[I", Cond.fieldLink RX2 21 "HatWinds$Hours" "passed" "I", Cond.fieldLink RX2 25 "HatWinds$Hours" "lostSoFar" "I", Cond.methodLink RX6 41 yX5_add]
def wsX1_init_r3 : List Cond := [Cond.instanceMethod yX5_add, Cond.selects RX5 yX5_add yX5_add, Cond.code yX5_add cX5_add 3 (some .int)]
def wsX1_init : List Cond := .code yX1_init cX1_init 2 none :: ((wsX1_init_r1 ++ (wsX1_init_r2 ++ wsX1_init_r3)) ++ wsX10 ++ wsX60 ++ wsX50 ++ wsX20)
def wsX7_copyRow : List Cond := .code yX7_copyRow cX7_copyRow 2 none :: ([.methodLink RX7 263 Lib.Math.min.name, .static Lib.Math.min.name, .initialized "java/lang/Math", .code Lib.Math.min.name Lib.Math.min.code 2 (some .int), .methodLink RX7 268 arraycopyName, .native arraycopyName, .static arraycopyName, .initialized "java/lang/System"])
def wsX5_copy : List Cond := .code yX5_copy cX5_copy 2 none :: ([.fieldLink RX5 9 "HatWinds$Streets" "from" "[I", .fieldLink RX5 15 "HatWinds$Streets" "width" "[I", .fieldLink RX5 18 "HatWinds$Streets" "cloth" "[I", .fieldLink RX5 21 "HatWinds$Streets" "smoke" "[I", .fieldLink RX5 24 "HatWinds$Streets" "people" "[I", .fieldLink RX5 27 "HatWinds$Streets" "number" "I", .static yX7_copyRow, .initialized RX7, .code yX7_copyRow cX7_copyRow 2 none, .methodLink RX7 263 Lib.Math.min.name, .static Lib.Math.min.name, .initialized "java/lang/Math", .code Lib.Math.min.name Lib.Math.min.code 2 (some .int), .methodLink RX7 268 arraycopyName, .native arraycopyName, .static arraycopyName, .initialized "java/lang/System"] ++ wsX50)
def wsX2_copy : List Cond := .code yX2_copy cX2_copy 2 none :: ([.fieldLink RX2 9 "HatWinds$Hours" "forces" "[I", .fieldLink RX2 15 "HatWinds$Hours" "lost" "[I", .fieldLink RX2 18 "HatWinds$Hours" "worst" "[I", .fieldLink RX2 21 "HatWinds$Hours" "passed" "I", .fieldLink RX2 25 "HatWinds$Hours" "lostSoFar" "I", .static yX7_copyRow, .initialized RX7, .code yX7_copyRow cX7_copyRow 2 none, .methodLink RX7 263 Lib.Math.min.name, .static Lib.Math.min.name, .initialized "java/lang/Math", .code Lib.Math.min.name Lib.Math.min.code 2 (some .int), .methodLink RX7 268 arraycopyName, .native arraycopyName, .static arraycopyName, .initialized "java/lang/System"] ++ wsX20)
def wsX6_copy_r1 : List Cond := [Cond.fieldLink RX6 18 "HatWinds$Town" "settings" "[I", Cond.fieldLink RX6 26 "HatWinds$Town" "streets" "LHatWinds$Streets;", Cond.fieldLink RX6 33 "HatWinds$Town" "hours" "LHatWinds$Hours;", Cond.fieldLink RX6 37 "HatWinds$Town" "force" "I", Cond.static yX7_copyRow, Cond.initialized RX7, Cond.code yX7_copyRow cX7_copyRow 2 none, Cond.methodLink RX7 263 Lib.Math.min.name, Cond.static Lib.Math.min.name, Cond.initialized "java/lang/Math", Cond.code Lib.Math.min.name Lib.Math.min.code 2 (some .int), Cond.methodLink RX7 268 arraycopyName, Cond.native arraycopyName, Cond.static arraycopyName, Cond.initialized "java/lang/System", Cond.methodLink RX6 49 yX5_copy, Cond.instanceMethod yX5_copy, Cond.selects RX5 yX5_copy yX5_copy, Cond.initialized RX5, Cond.code yX5_copy cX5_copy 2 none, Cond.fieldLink RX5 9 "HatWinds$Streets" "from" "[I", Cond.fieldLink RX5 15 "HatWinds$Streets" "width" "[I", Cond.fieldLink RX5 18 "HatWinds$Streets" "cloth" "[I", Cond.fieldLink RX5 21 "HatWinds$Streets" "smoke" "[I"]
def wsX6_copy_r2 : List Cond := [Cond.fieldLink RX5 24 "HatWinds$Streets" "people" "[I", Cond.fieldLink RX5 27 "HatWinds$Streets" "number" "I", Cond.methodLink RX6 53 yX2_copy, Cond.instanceMethod yX2_copy, Cond.selects RX2 yX2_copy yX2_copy, Cond.initialized RX2, Cond.code yX2_copy cX2_copy 2 none, Cond.fieldLink RX2 9 "HatWinds$Hours" "forces" "[I", Cond.fieldLink RX2 15 "HatWinds$Hours" "lost" "[I", Cond.fieldLink RX2 18 "HatWinds$Hours" "worst" "[I", Cond.fieldLink RX2 21 "HatWinds$Hours" "passed" "I", Cond.fieldLink RX2 25 "HatWinds$Hours" "lostSoFar" "I"]
def wsX6_copy : List Cond := .code yX6_copy cX6_copy 2 none :: ((wsX6_copy_r1 ++ wsX6_copy_r2) ++ wsX60 ++ wsX50 ++ wsX20)
def wsX1_keep_r1 : List Cond := [Cond.fieldLink RX1 21 "HatWinds$History" "length" "I", Cond.fieldLink RX1 17 "HatWinds$History" "oldest" "I", Cond.fieldLink RX1 11 "HatWinds$History" "states" "[LHatWinds$Town;", Cond.methodLink RX1 25 yX6_copy, Cond.instanceMethod yX6_copy, Cond.selects RX6 yX6_copy yX6_copy, Cond.initialized RX6, Cond.code yX6_copy cX6_copy 2 none, Cond.fieldLink RX6 18 "HatWinds$Town" "settings" "[I", Cond.fieldLink RX6 26 "HatWinds$Town" "streets" "LHatWinds$Streets;", Cond.fieldLink RX6 33 "HatWinds$Town" "hours" "LHatWinds$Hours;", Cond.fieldLink RX6 37 "HatWinds$Town" "force" "I", Cond.static yX7_copyRow, Cond.initialized RX7, Cond.code yX7_copyRow cX7_copyRow 2 none, Cond.methodLink RX7 263 Lib.Math.min.name, Cond.static Lib.Math.min.name, Cond.initialized "java/lang/Math", Cond.code Lib.Math.min.name Lib.Math.min.code 2 (some .int), Cond.methodLink RX7 268 arraycopyName, Cond.native arraycopyName, Cond.static arraycopyName, Cond.initialized "java/lang/System", Cond.methodLink RX6 49 yX5_copy]
def wsX1_keep_r2 : List Cond := [Cond.instanceMethod yX5_copy, Cond.selects RX5 yX5_copy yX5_copy, Cond.initialized RX5, Cond.code yX5_copy cX5_copy 2 none, Cond.fieldLink RX5 9 "HatWinds$Streets" "from" "[I", Cond.fieldLink RX5 15 "HatWinds$Streets" "width" "[I", Cond.fieldLink RX5 18 "HatWinds$Streets" "cloth" "[I", Cond.fieldLink RX5 21 "HatWinds$Streets" "smoke" "[I", Cond.fieldLink RX5 24 "HatWinds$Streets" "people" "[I", Cond.fieldLink RX5 27 "HatWinds$Streets" "number" "I", Cond.methodLink RX6 53 yX2_copy, Cond.instanceMethod yX2_copy, Cond.selects RX2 yX2_copy yX2_copy, Cond.initialized RX2, Cond.code yX2_copy cX2_copy 2 none, Cond.fieldLink RX2 9 "HatWinds$Hours" "forces" "[I", Cond.fieldLink RX2 15 "HatWinds$Hours" "lost" "[I", Cond.fieldLink RX2 18 "HatWinds$Hours" "worst" "[I", Cond.fieldLink RX2 21 "HatWinds$Hours" "passed" "I", Cond.fieldLink RX2 25 "HatWinds$Hours" "lostSoFar" "I"]
def wsX1_keep : List Cond := .code yX1_keep cX1_keep 2 none :: ((wsX1_keep_r1 ++ wsX1_keep_r2) ++ wsX10 ++ wsX60 ++ wsX50 ++ wsX20)
def wsX1_takeBack_r1 : List Cond := [Cond.fieldLink RX1 21 "HatWinds$History" "length" "I", Cond.fieldLink RX1 11 "HatWinds$History" "states" "[LHatWinds$Town;", Cond.fieldLink RX1 17 "HatWinds$History" "oldest" "I", Cond.methodLink RX1 25 yX6_copy, Cond.instanceMethod yX6_copy, Cond.selects RX6 yX6_copy yX6_copy, Cond.initialized RX6, Cond.code yX6_copy cX6_copy 2 none, Cond.fieldLink RX6 18 "HatWinds$Town" "settings" "[I", Cond.fieldLink RX6 26 "HatWinds$Town" "streets" "LHatWinds$Streets;", Cond.fieldLink RX6 33 "HatWinds$Town" "hours" "LHatWinds$Hours;", Cond.fieldLink RX6 37 "HatWinds$Town" "force" "I", Cond.static yX7_copyRow, Cond.initialized RX7, Cond.code yX7_copyRow cX7_copyRow 2 none, Cond.methodLink RX7 263 Lib.Math.min.name, Cond.static Lib.Math.min.name, Cond.initialized "java/lang/Math", Cond.code Lib.Math.min.name Lib.Math.min.code 2 (some .int), Cond.methodLink RX7 268 arraycopyName, Cond.native arraycopyName, Cond.static arraycopyName, Cond.initialized "java/lang/System", Cond.methodLink RX6 49 yX5_copy]
def wsX1_takeBack_r2 : List Cond := [Cond.instanceMethod yX5_copy, Cond.selects RX5 yX5_copy yX5_copy, Cond.initialized RX5, Cond.code yX5_copy cX5_copy 2 none, Cond.fieldLink RX5 9 "HatWinds$Streets" "from" "[I", Cond.fieldLink RX5 15 "HatWinds$Streets" "width" "[I", Cond.fieldLink RX5 18 "HatWinds$Streets" "cloth" "[I", Cond.fieldLink RX5 21 "HatWinds$Streets" "smoke" "[I", Cond.fieldLink RX5 24 "HatWinds$Streets" "people" "[I", Cond.fieldLink RX5 27 "HatWinds$Streets" "number" "I", Cond.methodLink RX6 53 yX2_copy, Cond.instanceMethod yX2_copy, Cond.selects RX2 yX2_copy yX2_copy, Cond.initialized RX2, Cond.code yX2_copy cX2_copy 2 none, Cond.fieldLink RX2 9 "HatWinds$Hours" "forces" "[I", Cond.fieldLink RX2 15 "HatWinds$Hours" "lost" "[I", Cond.fieldLink RX2 18 "HatWinds$Hours" "worst" "[I", Cond.fieldLink RX2 21 "HatWinds$Hours" "passed" "I", Cond.fieldLink RX2 25 "HatWinds$Hours" "lostSoFar" "I"]
def wsX1_takeBack : List Cond := .code yX1_takeBack cX1_takeBack 2 none :: ((wsX1_takeBack_r1 ++ wsX1_takeBack_r2) ++ wsX10 ++ wsX60 ++ wsX50 ++ wsX20)
def wsX2_kept : List Cond := .code yX2_kept cX2_kept 1 (some .int) :: ([.fieldLink RX2 21 "HatWinds$Hours" "passed" "I", .methodLink RX2 32 Lib.Math.min.name, .static Lib.Math.min.name, .initialized "java/lang/Math", .code Lib.Math.min.name Lib.Math.min.code 2 (some .int)] ++ wsX20)
def wsX2_pushFirst : List Cond := .code yX2_pushFirst cX2_pushFirst 3 none :: ([])
def wsX2_add : List Cond := .code yX2_add cX2_add 4 none :: ([.fieldLink RX2 9 "HatWinds$Hours" "forces" "[I", .fieldLink RX2 15 "HatWinds$Hours" "lost" "[I", .fieldLink RX2 18 "HatWinds$Hours" "worst" "[I", .fieldLink RX2 21 "HatWinds$Hours" "passed" "I", .fieldLink RX2 25 "HatWinds$Hours" "lostSoFar" "I", .methodLink RX2 38 yX2_pushFirst, .static yX2_pushFirst, .initialized RX2, .code yX2_pushFirst cX2_pushFirst 3 none] ++ wsX20)
def wsX3_init : List Cond := .code yX3_init cX3_init 1 none :: ([.methodLink RX3 3 objectInit, .instanceMethod objectInit, .code objectInit ⟨#[0xb1]⟩ 1 none, .arrayClass .char, .fieldLink RX3 9 "HatWinds$Pad" "signs" "[C", .fieldLink RX3 15 "HatWinds$Pad" "length" "I", .fieldLink RX3 19 "HatWinds$Pad" "overflowed" "Z"] ++ wsX30)
def wsX3_clear : List Cond := .code yX3_clear cX3_clear 1 none :: ([.fieldLink RX3 15 "HatWinds$Pad" "length" "I", .fieldLink RX3 19 "HatWinds$Pad" "overflowed" "Z"] ++ wsX30)
def wsX3_add : List Cond := .code yX3_add cX3_add 2 none :: ([.fieldLink RX3 15 "HatWinds$Pad" "length" "I", .fieldLink RX3 19 "HatWinds$Pad" "overflowed" "Z", .fieldLink RX3 9 "HatWinds$Pad" "signs" "[C"] ++ wsX30)
def wsX3_copy : List Cond := .code yX3_copy cX3_copy 2 none :: ([.fieldLink RX3 9 "HatWinds$Pad" "signs" "[C", .methodLink RX3 23 arraycopyName, .native arraycopyName, .static arraycopyName, .initialized "java/lang/System", .fieldLink RX3 15 "HatWinds$Pad" "length" "I", .fieldLink RX3 19 "HatWinds$Pad" "overflowed" "Z"] ++ wsX30)
def wsX4_init : List Cond := .code yX4_init cX4_init 1 none :: ([.methodLink RX4 3 objectInit, .instanceMethod objectInit, .code objectInit ⟨#[0xb1]⟩ 1 none, .classLink RX4 9 RX5, .instantiable RX5 6, .initialized RX5, .fieldLink RX4 12 "HatWinds$Reader" "streets" "LHatWinds$Streets;", .fieldLink RX4 18 "HatWinds$Reader" "last" "I", .fieldLink RX4 22 "HatWinds$Reader" "parent" "I", .instanceMethod yX5_init, .code yX5_init cX5_init 1 none, .methodLink RX5 3 objectInit, .arrayClass .int, .fieldLink RX5 9 "HatWinds$Streets" "from" "[I", .fieldLink RX5 15 "HatWinds$Streets" "width" "[I", .fieldLink RX5 18 "HatWinds$Streets" "cloth" "[I", .fieldLink RX5 21 "HatWinds$Streets" "smoke" "[I", .fieldLink RX5 24 "HatWinds$Streets" "people" "[I", .fieldLink RX5 27 "HatWinds$Streets" "number" "I"] ++ wsX50 ++ wsX40)
def wsX5_clear : List Cond := .code yX5_clear cX5_clear 1 none :: ([.fieldLink RX5 27 "HatWinds$Streets" "number" "I"] ++ wsX50)
def wsX7_isWithin : List Cond := .code yX7_isWithin cX7_isWithin 3 (some .boolean) :: ([])
def wsX5_branchesOff : List Cond := .code yX5_branchesOff cX5_branchesOff 4 (some .int) :: ([.fieldLink RX5 27 "HatWinds$Streets" "number" "I", .fieldLink RX5 9 "HatWinds$Streets" "from" "[I"] ++ wsX50)
def wsJ6_bitCount_0f7a4 : List Cond := .code yJ6_bitCount_0f7a4 cJ6_bitCount_0f7a4 1 (some .int) :: ([.constant RJ6 265 (1431655765), .constant RJ6 266 (858993459), .constant RJ6 267 (252645135)])
def wsX5_hasRoomOff : List Cond := .code yX5_hasRoomOff cX5_hasRoomOff 2 (some .boolean) :: ([.fieldLink RX5 27 "HatWinds$Streets" "number" "I", .methodLink RX5 39 yX5_branchesOff, .instanceMethod yX5_branchesOff, .selects RX5 yX5_branchesOff yX5_branchesOff, .initialized RX5, .code yX5_branchesOff cX5_branchesOff 4 (some .int), .fieldLink RX5 9 "HatWinds$Streets" "from" "[I", .methodLink RX5 43 yJ6_bitCount_0f7a4, .static yJ6_bitCount_0f7a4, .initialized RJ6, .code yJ6_bitCount_0f7a4 cJ6_bitCount_0f7a4 1 (some .int), .constant RJ6 265 (1431655765), .constant RJ6 266 (858993459), .constant RJ6 267 (252645135)] ++ wsX50)
def wsX4_takesWidth_r1 : List Cond := [Cond.fieldLink RX4 12 "HatWinds$Reader" "streets" "LHatWinds$Streets;", Cond.fieldLink RX4 22 "HatWinds$Reader" "parent" "I", Cond.fieldLink RX4 18 "HatWinds$Reader" "last" "I", Cond.static yX7_isWithin, Cond.initialized RX7, Cond.code yX7_isWithin cX7_isWithin 3 (some .boolean), Cond.methodLink RX4 80 yX5_hasRoomOff, Cond.instanceMethod yX5_hasRoomOff, Cond.selects RX5 yX5_hasRoomOff yX5_hasRoomOff, Cond.initialized RX5, Cond.code yX5_hasRoomOff cX5_hasRoomOff 2 (some .boolean), Cond.fieldLink RX5 27 "HatWinds$Streets" "number" "I", Cond.methodLink RX5 39 yX5_branchesOff, Cond.instanceMethod yX5_branchesOff, Cond.selects RX5 yX5_branchesOff yX5_branchesOff, Cond.code yX5_branchesOff cX5_branchesOff 4 (some .int), Cond.fieldLink RX5 9 "HatWinds$Streets" "from" "[I", Cond.methodLink RX5 43 yJ6_bitCount_0f7a4, Cond.static yJ6_bitCount_0f7a4, Cond.initialized RJ6, Cond.code yJ6_bitCount_0f7a4 cJ6_bitCount_0f7a4 1 (some .int), Cond.constant RJ6 265 (1431655765), Cond.constant RJ6 266 (858993459), Cond.constant RJ6 267 (252645135)]
def wsX4_takesWidth_r2 : List Cond := [Cond.methodLink RX4 83 yX5_add, Cond.instanceMethod yX5_add, Cond.selects RX5 yX5_add yX5_add, Cond.code yX5_add cX5_add 3 (some .int), Cond.fieldLink RX5 15 "HatWinds$Streets" "width" "[I", Cond.fieldLink RX5 18 "HatWinds$Streets" "cloth" "[I", Cond.fieldLink RX5 21 "HatWinds$Streets" "smoke" "[I", Cond.fieldLink RX5 24 "HatWinds$Streets" "people" "[I"]
def wsX4_takesWidth : List Cond := .code yX4_takesWidth cX4_takesWidth 2 (some .boolean) :: ((wsX4_takesWidth_r1 ++ wsX4_takesWidth_r2) ++ wsX40 ++ wsX50)
def wsX4_isDigit : List Cond := .code yX4_isDigit cX4_isDigit 1 (some .boolean) :: ([.static yX7_isWithin, .initialized RX7, .code yX7_isWithin cX7_isWithin 3 (some .boolean)])
def wsX4_takesFirstDigit : List Cond := .code yX4_takesFirstDigit cX4_takesFirstDigit 3 (some .boolean) :: ([.fieldLink RX4 12 "HatWinds$Reader" "streets" "LHatWinds$Streets;", .fieldLink RX4 94 "HatWinds$Streets" "people" "[I", .fieldLink RX4 18 "HatWinds$Reader" "last" "I", .methodLink RX4 67 yX4_isDigit, .static yX4_isDigit, .initialized RX4, .code yX4_isDigit cX4_isDigit 1 (some .boolean), .static yX7_isWithin, .initialized RX7, .code yX7_isWithin cX7_isWithin 3 (some .boolean)] ++ wsX40 ++ wsX50)
def wsX4_takesSmoke : List Cond := .code yX4_takesSmoke cX4_takesSmoke 2 (some .boolean) :: ([.fieldLink RX4 18 "HatWinds$Reader" "last" "I", .fieldLink RX4 12 "HatWinds$Reader" "streets" "LHatWinds$Streets;", .fieldLink RX4 91 "HatWinds$Streets" "smoke" "[I", .static yX7_isWithin, .initialized RX7, .code yX7_isWithin cX7_isWithin 3 (some .boolean)] ++ wsX40 ++ wsX50)
def wsX4_takesStar : List Cond := .code yX4_takesStar cX4_takesStar 1 (some .boolean) :: ([.fieldLink RX4 18 "HatWinds$Reader" "last" "I", .static yX7_isWithin, .initialized RX7, .code yX7_isWithin cX7_isWithin 3 (some .boolean)] ++ wsX40)
def wsX4_opens : List Cond := .code yX4_opens cX4_opens 2 (some .boolean) :: ([.fieldLink RX4 18 "HatWinds$Reader" "last" "I", .fieldLink RX4 22 "HatWinds$Reader" "parent" "I", .static yX7_isWithin, .initialized RX7, .code yX7_isWithin cX7_isWithin 3 (some .boolean)] ++ wsX40)
def wsX4_goesOn : List Cond := .code yX4_goesOn cX4_goesOn 1 (some .boolean) :: ([.fieldLink RX4 12 "HatWinds$Reader" "streets" "LHatWinds$Streets;", .fieldLink RX4 22 "HatWinds$Reader" "parent" "I", .fieldLink RX4 18 "HatWinds$Reader" "last" "I", .methodLink RX4 97 yX5_has, .instanceMethod yX5_has, .selects RX5 yX5_has yX5_has, .initialized RX5, .code yX5_has cX5_has 2 (some .boolean), .fieldLink RX5 27 "HatWinds$Streets" "number" "I", .static yX7_isIndexOf, .initialized RX7, .code yX7_isIndexOf cX7_isIndexOf 2 (some .boolean)] ++ wsX40 ++ wsX50)
def wsX4_closes : List Cond := .code yX4_closes cX4_closes 1 (some .boolean) :: ([.fieldLink RX4 12 "HatWinds$Reader" "streets" "LHatWinds$Streets;", .fieldLink RX4 22 "HatWinds$Reader" "parent" "I", .fieldLink RX4 100 "HatWinds$Streets" "from" "[I", .fieldLink RX4 18 "HatWinds$Reader" "last" "I", .methodLink RX4 97 yX5_has, .instanceMethod yX5_has, .selects RX5 yX5_has yX5_has, .initialized RX5, .code yX5_has cX5_has 2 (some .boolean), .fieldLink RX5 27 "HatWinds$Streets" "number" "I", .static yX7_isIndexOf, .initialized RX7, .code yX7_isIndexOf cX7_isIndexOf 2 (some .boolean)] ++ wsX40 ++ wsX50)
def wsX4_takesSecondDigit : List Cond := .code yX4_takesSecondDigit cX4_takesSecondDigit 3 (some .boolean) :: ([.fieldLink RX4 18 "HatWinds$Reader" "last" "I", .fieldLink RX4 12 "HatWinds$Reader" "streets" "LHatWinds$Streets;", .fieldLink RX4 94 "HatWinds$Streets" "people" "[I"] ++ wsX40 ++ wsX50)
def wsX4_takesFlag : List Cond := .code yX4_takesFlag cX4_takesFlag 3 (some .boolean) :: ([.fieldLink RX4 18 "HatWinds$Reader" "last" "I", .fieldLink RX4 12 "HatWinds$Reader" "streets" "LHatWinds$Streets;", .fieldLink RX4 87 "HatWinds$Streets" "cloth" "[I", .static yX7_isWithin, .initialized RX7, .code yX7_isWithin cX7_isWithin 3 (some .boolean)] ++ wsX40 ++ wsX50)
def wsX4_takes_r1 : List Cond := [Cond.fieldLink RX4 12 "HatWinds$Reader" "streets" "LHatWinds$Streets;", Cond.fieldLink RX4 41 "HatWinds$Streets" "number" "I", Cond.fieldLink RX4 18 "HatWinds$Reader" "last" "I", Cond.methodLink RX4 44 yX4_takesWidth, Cond.instanceMethod yX4_takesWidth, Cond.selects RX4 yX4_takesWidth yX4_takesWidth, Cond.initialized RX4, Cond.code yX4_takesWidth cX4_takesWidth 2 (some .boolean), Cond.fieldLink RX4 22 "HatWinds$Reader" "parent" "I", Cond.static yX7_isWithin, Cond.initialized RX7, Cond.code yX7_isWithin cX7_isWithin 3 (some .boolean), Cond.methodLink RX4 80 yX5_hasRoomOff, Cond.instanceMethod yX5_hasRoomOff, Cond.selects RX5 yX5_hasRoomOff yX5_hasRoomOff, Cond.initialized RX5, Cond.code yX5_hasRoomOff cX5_hasRoomOff 2 (some .boolean), Cond.fieldLink RX5 27 "HatWinds$Streets" "number" "I", Cond.methodLink RX5 39 yX5_branchesOff, Cond.instanceMethod yX5_branchesOff, Cond.selects RX5 yX5_branchesOff yX5_branchesOff, Cond.code yX5_branchesOff cX5_branchesOff 4 (some .int), Cond.fieldLink RX5 9 "HatWinds$Streets" "from" "[I", Cond.methodLink RX5 43 yJ6_bitCount_0f7a4]
def wsX4_takes_r2 : List Cond := [Cond.static yJ6_bitCount_0f7a4, Cond.initialized RJ6, Cond.code yJ6_bitCount_0f7a4 cJ6_bitCount_0f7a4 1 (some .int), Cond.constant RJ6 265 (1431655765), Cond.constant RJ6 266 (858993459), Cond.constant RJ6 267 (252645135), Cond.methodLink RX4 83 yX5_add, Cond.instanceMethod yX5_add, Cond.selects RX5 yX5_add yX5_add, Cond.code yX5_add cX5_add 3 (some .int), Cond.fieldLink RX5 15 "HatWinds$Streets" "width" "[I", Cond.fieldLink RX5 18 "HatWinds$Streets" "cloth" "[I", Cond.fieldLink RX5 21 "HatWinds$Streets" "smoke" "[I", Cond.fieldLink RX5 24 "HatWinds$Streets" "people" "[I", Cond.methodLink RX4 47 yX4_takesFirstDigit, Cond.instanceMethod yX4_takesFirstDigit, Cond.selects RX4 yX4_takesFirstDigit yX4_takesFirstDigit, Cond.code yX4_takesFirstDigit cX4_takesFirstDigit 3 (some .boolean), Cond.fieldLink RX4 94 "HatWinds$Streets" "people" "[I", Cond.methodLink RX4 67 yX4_isDigit, Cond.static yX4_isDigit, Cond.code yX4_isDigit cX4_isDigit 1 (some .boolean), Cond.methodLink RX4 51 yX4_takesSmoke, Cond.instanceMethod yX4_takesSmoke]
def wsX4_takes_r3 : List Cond := [Cond.selects RX4 yX4_takesSmoke yX4_takesSmoke, Cond.code yX4_takesSmoke cX4_takesSmoke 2 (some .boolean), Cond.fieldLink RX4 91 "HatWinds$Streets" "smoke" "[I", Cond.methodLink RX4 54 yX4_takesStar, Cond.instanceMethod yX4_takesStar, Cond.selects RX4 yX4_takesStar yX4_takesStar, Cond.code yX4_takesStar cX4_takesStar 1 (some .boolean), Cond.methodLink RX4 58 yX4_opens, Cond.instanceMethod yX4_opens, Cond.selects RX4 yX4_opens yX4_opens, Cond.code yX4_opens cX4_opens 2 (some .boolean), Cond.methodLink RX4 61 yX4_goesOn, Cond.instanceMethod yX4_goesOn, Cond.selects RX4 yX4_goesOn yX4_goesOn, Cond.code yX4_goesOn cX4_goesOn 1 (some .boolean), Cond.methodLink RX4 97 yX5_has, Cond.instanceMethod yX5_has, Cond.selects RX5 yX5_has yX5_has, Cond.code yX5_has cX5_has 2 (some .boolean), Cond.static yX7_isIndexOf, Cond.code yX7_isIndexOf cX7_isIndexOf 2 (some .boolean), Cond.methodLink RX4 64 yX4_closes, Cond.instanceMethod yX4_closes, Cond.selects RX4 yX4_closes yX4_closes]
def wsX4_takes_r4 : List Cond := [Cond.code yX4_closes cX4_closes 1 (some .boolean), Cond.fieldLink RX4 100 "HatWinds$Streets" "from" "[I", Cond.methodLink RX4 70 yX4_takesSecondDigit, Cond.instanceMethod yX4_takesSecondDigit, Cond.selects RX4 yX4_takesSecondDigit yX4_takesSecondDigit, Cond.code yX4_takesSecondDigit cX4_takesSecondDigit 3 (some .boolean), Cond.methodLink RX4 73 yX4_takesFlag, Cond.instanceMethod yX4_takesFlag, Cond.selects RX4 yX4_takesFlag yX4_takesFlag, Cond.code yX4_takesFlag cX4_takesFlag 3 (some .boolean), Cond.fieldLink RX4 87 "HatWinds$Streets" "cloth" "[I"]
def wsX4_takes : List Cond := .code yX4_takes cX4_takes 3 (some .boolean) :: ((wsX4_takes_r1 ++ (wsX4_takes_r2 ++ (wsX4_takes_r3 ++ wsX4_takes_r4))) ++ wsX40 ++ wsX50)
def wsX4_read_r1 : List Cond := [Cond.fieldLink RX4 12 "HatWinds$Reader" "streets" "LHatWinds$Streets;", Cond.fieldLink RX4 18 "HatWinds$Reader" "last" "I", Cond.fieldLink RX4 22 "HatWinds$Reader" "parent" "I", Cond.fieldLink RX4 28 "HatWinds$Pad" "length" "I", Cond.fieldLink RX4 33 "HatWinds$Pad" "signs" "[C", Cond.methodLink RX4 25 yX5_clear, Cond.instanceMethod yX5_clear, Cond.selects RX5 yX5_clear yX5_clear, Cond.initialized RX5, Cond.code yX5_clear cX5_clear 1 none, Cond.fieldLink RX5 27 "HatWinds$Streets" "number" "I", Cond.methodLink RX4 37 yX4_takes, Cond.instanceMethod yX4_takes, Cond.selects RX4 yX4_takes yX4_takes, Cond.initialized RX4, Cond.code yX4_takes cX4_takes 3 (some .boolean), Cond.fieldLink RX4 41 "HatWinds$Streets" "number" "I", Cond.methodLink RX4 44 yX4_takesWidth, Cond.instanceMethod yX4_takesWidth, Cond.selects RX4 yX4_takesWidth yX4_takesWidth, Cond.code yX4_takesWidth cX4_takesWidth 2 (some .boolean), Cond.static yX7_isWithin, Cond.initialized RX7, Cond.code yX7_isWithin cX7_isWithin 3 (some .boolean)]
def wsX4_read_r2 : List Cond := [Cond.methodLink RX4 80 yX5_hasRoomOff, Cond.instanceMethod yX5_hasRoomOff, Cond.selects RX5 yX5_hasRoomOff yX5_hasRoomOff, Cond.code yX5_hasRoomOff cX5_hasRoomOff 2 (some .boolean), Cond.methodLink RX5 39 yX5_branchesOff, Cond.instanceMethod yX5_branchesOff, Cond.selects RX5 yX5_branchesOff yX5_branchesOff, Cond.code yX5_branchesOff cX5_branchesOff 4 (some .int), Cond.fieldLink RX5 9 "HatWinds$Streets" "from" "[I", Cond.methodLink RX5 43 yJ6_bitCount_0f7a4, Cond.static yJ6_bitCount_0f7a4, Cond.initialized RJ6, Cond.code yJ6_bitCount_0f7a4 cJ6_bitCount_0f7a4 1 (some .int), Cond.constant RJ6 265 (1431655765), Cond.constant RJ6 266 (858993459), Cond.constant RJ6 267 (252645135), Cond.methodLink RX4 83 yX5_add, Cond.instanceMethod yX5_add, Cond.selects RX5 yX5_add yX5_add, Cond.code yX5_add cX5_add 3 (some .int), Cond.fieldLink RX5 15 "HatWinds$Streets" "width" "[I", Cond.fieldLink RX5 18 "HatWinds$Streets" "cloth" "[I", Cond.fieldLink RX5 21 "HatWinds$Streets" "smoke" "[I", Cond.fieldLink RX5 24 "HatWinds$Streets" "people" "[I"]
def wsX4_read_r3 : List Cond := [Cond.methodLink RX4 47 yX4_takesFirstDigit, Cond.instanceMethod yX4_takesFirstDigit, Cond.selects RX4 yX4_takesFirstDigit yX4_takesFirstDigit, Cond.code yX4_takesFirstDigit cX4_takesFirstDigit 3 (some .boolean), Cond.fieldLink RX4 94 "HatWinds$Streets" "people" "[I", Cond.methodLink RX4 67 yX4_isDigit, Cond.static yX4_isDigit, Cond.code yX4_isDigit cX4_isDigit 1 (some .boolean), Cond.methodLink RX4 51 yX4_takesSmoke, Cond.instanceMethod yX4_takesSmoke, Cond.selects RX4 yX4_takesSmoke yX4_takesSmoke, Cond.code yX4_takesSmoke cX4_takesSmoke 2 (some .boolean), Cond.fieldLink RX4 91 "HatWinds$Streets" "smoke" "[I", Cond.methodLink RX4 54 yX4_takesStar, Cond.instanceMethod yX4_takesStar, Cond.selects RX4 yX4_takesStar yX4_takesStar, Cond.code yX4_takesStar cX4_takesStar 1 (some .boolean), Cond.methodLink RX4 58 yX4_opens, Cond.instanceMethod yX4_opens, Cond.selects RX4 yX4_opens yX4_opens, Cond.code yX4_opens cX4_opens 2 (some .boolean), Cond.methodLink RX4 61 yX4_goesOn, Cond.instanceMethod yX4_goesOn, Cond.selects RX4 yX4_goesOn yX4_goesOn]
def wsX4_read_r4 : List Cond := [Cond.code yX4_goesOn cX4_goesOn 1 (some .boolean), Cond.methodLink RX4 97 yX5_has, Cond.instanceMethod yX5_has, Cond.selects RX5 yX5_has yX5_has, Cond.code yX5_has cX5_has 2 (some .boolean), Cond.static yX7_isIndexOf, Cond.code yX7_isIndexOf cX7_isIndexOf 2 (some .boolean), Cond.methodLink RX4 64 yX4_closes, Cond.instanceMethod yX4_closes, Cond.selects RX4 yX4_closes yX4_closes, Cond.code yX4_closes cX4_closes 1 (some .boolean), Cond.fieldLink RX4 100 "HatWinds$Streets" "from" "[I", Cond.methodLink RX4 70 yX4_takesSecondDigit, Cond.instanceMethod yX4_takesSecondDigit, Cond.selects RX4 yX4_takesSecondDigit yX4_takesSecondDigit, Cond.code yX4_takesSecondDigit cX4_takesSecondDigit 3 (some .boolean), Cond.methodLink RX4 73 yX4_takesFlag, Cond.instanceMethod yX4_takesFlag, Cond.selects RX4 yX4_takesFlag yX4_takesFlag, Cond.code yX4_takesFlag cX4_takesFlag 3 (some .boolean), Cond.fieldLink RX4 87 "HatWinds$Streets" "cloth" "[I"]
def wsX4_read : List Cond := .code yX4_read cX4_read 3 (some .int) :: ((wsX4_read_r1 ++ (wsX4_read_r2 ++ (wsX4_read_r3 ++ wsX4_read_r4))) ++ wsX40 ++ wsX30 ++ wsX50)
def wsX5_changeable : List Cond := .code yX5_changeable cX5_changeable 2 (some (.array .int)) :: ([.fieldLink RX5 18 "HatWinds$Streets" "cloth" "[I", .fieldLink RX5 21 "HatWinds$Streets" "smoke" "[I", .fieldLink RX5 24 "HatWinds$Streets" "people" "[I", .fieldLink RX5 15 "HatWinds$Streets" "width" "[I"] ++ wsX50)
def wsX5_howManyBehind : List Cond := .code yX5_howManyBehind cX5_howManyBehind 4 (some .int) :: ([.fieldLink RX5 27 "HatWinds$Streets" "number" "I", .fieldLink RX5 9 "HatWinds$Streets" "from" "[I", .methodLink RX5 43 yJ6_bitCount_0f7a4, .static yJ6_bitCount_0f7a4, .initialized RJ6, .code yJ6_bitCount_0f7a4 cJ6_bitCount_0f7a4 1 (some .int), .constant RJ6 265 (1431655765), .constant RJ6 266 (858993459), .constant RJ6 267 (252645135)] ++ wsX50)
def wsX5_howFarOff : List Cond := .code yX5_howFarOff cX5_howFarOff 4 (some .int) :: ([.fieldLink RX5 9 "HatWinds$Streets" "from" "[I", .methodLink RX5 48 yX5_has, .instanceMethod yX5_has, .selects RX5 yX5_has yX5_has, .initialized RX5, .code yX5_has cX5_has 2 (some .boolean), .fieldLink RX5 27 "HatWinds$Streets" "number" "I", .static yX7_isIndexOf, .initialized RX7, .code yX7_isIndexOf cX7_isIndexOf 2 (some .boolean)] ++ wsX50)
def wsX5_peopleOfAll : List Cond := .code yX5_peopleOfAll cX5_peopleOfAll 3 (some .int) :: ([.fieldLink RX5 27 "HatWinds$Streets" "number" "I", .fieldLink RX5 24 "HatWinds$Streets" "people" "[I"] ++ wsX50)
def wsX7_init_r1 : List Cond := [Cond.methodLink RX7 1 objectInit, Cond.instanceMethod objectInit, Cond.code objectInit ⟨#[0xb1]⟩ 1 none, Cond.classLink RX7 7 RX6, Cond.instantiable RX6 4, Cond.initialized RX6, Cond.fieldLink RX7 10 "HatWinds" "town" "LHatWinds$Town;", Cond.classLink RX7 16 RX0, Cond.instantiable RX0 3, Cond.initialized RX0, Cond.fieldLink RX7 19 "HatWinds" "air" "LHatWinds$Air;", Cond.classLink RX7 23 RX1, Cond.instantiable RX1 3, Cond.initialized RX1, Cond.fieldLink RX7 26 "HatWinds" "history" "LHatWinds$History;", Cond.fieldLink RX7 30 "HatWinds" "slots" "[LHatWinds$Town;", Cond.arrayClass .boolean, Cond.fieldLink RX7 34 "HatWinds" "filled" "[Z", Cond.classLink RX7 38 RX3, Cond.instantiable RX3 3, Cond.initialized RX3, Cond.fieldLink RX7 41 "HatWinds" "pad" "LHatWinds$Pad;", Cond.fieldLink RX7 45 "HatWinds" "draft" "LHatWinds$Pad;", Cond.classLink RX7 48 RX4]
def wsX7_init_r2 : List Cond := [Cond.instantiable RX4 3, Cond.initialized RX4, Cond.fieldLink RX7 51 "HatWinds" "reader" "LHatWinds$Reader;", Cond.methodLink RX7 9 yX6_init, Cond.instanceMethod yX6_init, Cond.code yX6_init cX6_init 1 none, Cond.methodLink RX6 3 objectInit, Cond.methodLink RX6 13 ⟨"[I", "clone", "()Ljava/lang/Object;"⟩, Cond.sameMethod "[I" "java/lang/Object" "clone" "()Ljava/lang/Object;", Cond.native ⟨"java/lang/Object", "clone", "()Ljava/lang/Object;"⟩, Cond.instanceMethod ⟨"java/lang/Object", "clone", "()Ljava/lang/Object;"⟩, Cond.selects "[I" ⟨"[I", "clone", "()Ljava/lang/Object;"⟩ ⟨"java/lang/Object", "clone", "()Ljava/lang/Object;"⟩, Cond.classLink RX6 14 "[I", Cond.fieldLink RX6 18 "HatWinds$Town" "settings" "[I", Cond.classLink RX6 23 RX5, Cond.instantiable RX5 6, Cond.initialized RX5, Cond.fieldLink RX6 26 "HatWinds$Town" "streets" "LHatWinds$Streets;", Cond.classLink RX6 30 RX2, Cond.instantiable RX2 5, Cond.initialized RX2, Cond.fieldLink RX6 33 "HatWinds$Town" "hours" "LHatWinds$Hours;", Cond.fieldLink RX6 37 "HatWinds$Town" "force" "I", Cond.instanceMethod yX5_init]
def wsX7_init_r3 : List Cond := [Cond.code yX5_init cX5_init 1 none, Cond.methodLink RX5 3 objectInit, Cond.arrayClass .int, Cond.fieldLink RX5 9 "HatWinds$Streets" "from" "[I", Cond.fieldLink RX5 15 "HatWinds$Streets" "width" "[I", Cond.fieldLink RX5 18 "HatWinds$Streets" "cloth" "[I", Cond.fieldLink RX5 21 "HatWinds$Streets" "smoke" "[I", Cond.fieldLink RX5 24 "HatWinds$Streets" "people" "[I", Cond.fieldLink RX5 27 "HatWinds$Streets" "number" "I", Cond.instanceMethod yX2_init, Cond.code yX2_init cX2_init 1 none, Cond.methodLink RX2 3 objectInit, Cond.fieldLink RX2 9 "HatWinds$Hours" "forces" "[I", Cond.fieldLink RX2 15 "HatWinds$Hours" "lost" "[I", Cond.fieldLink RX2 18 "HatWinds$Hours" "worst" "[I", Cond.fieldLink RX2 21 "HatWinds$Hours" "passed" "I", Cond.fieldLink RX2 25 "HatWinds$Hours" "lostSoFar" "I", Cond.methodLink RX6 41 yX5_add, Cond.instanceMethod yX5_add, Cond.selects RX5 yX5_add yX5_add, Cond.code yX5_add cX5_add 3 (some .int), Cond.instanceMethod yX0_init, Cond.code yX0_init cX0_init 1 none, Cond.methodLink RX0 3 objectInit]
def wsX7_init_r4 : List Cond := [Cond.fieldLink RX0 9 "HatWinds$Air" "together" "[I", Cond.fieldLink RX0 15 "HatWinds$Air" "narrower" "[I", Cond.fieldLink RX0 18 "HatWinds$Air" "force" "[I", Cond.methodLink RX7 25 yX1_init, Cond.instanceMethod yX1_init, Cond.code yX1_init cX1_init 2 none, Cond.methodLink RX1 3 objectInit, Cond.classLink RX1 9 RX6, Cond.fieldLink RX1 11 "HatWinds$History" "states" "[LHatWinds$Town;", Cond.fieldLink RX1 17 "HatWinds$History" "oldest" "I", Cond.fieldLink RX1 21 "HatWinds$History" "length" "I", Cond.methodLink RX1 24 yX6_init, Cond.instanceMethod yX3_init, Cond.code yX3_init cX3_init 1 none, Cond.methodLink RX3 3 objectInit, Cond.arrayClass .char, Cond.fieldLink RX3 9 "HatWinds$Pad" "signs" "[C", Cond.fieldLink RX3 15 "HatWinds$Pad" "length" "I", Cond.fieldLink RX3 19 "HatWinds$Pad" "overflowed" "Z", Cond.instanceMethod yX4_init, Cond.code yX4_init cX4_init 1 none, Cond.methodLink RX4 3 objectInit, Cond.classLink RX4 9 RX5, Cond.fieldLink RX4 12 "HatWinds$Reader" "streets" "LHatWinds$Streets;"]
def wsX7_init_r5 : List Cond := [Cond.fieldLink RX4 18 "HatWinds$Reader" "last" "I", Cond.fieldLink RX4 22 "HatWinds$Reader" "parent" "I"]
def wsX7_init : List Cond := .code yX7_init cX7_init 2 none :: ((wsX7_init_r1 ++ (wsX7_init_r2 ++ (wsX7_init_r3 ++ (wsX7_init_r4 ++ wsX7_init_r5)))) ++ wsX60 ++ wsX70 ++ wsX00 ++ wsX10 ++ wsX30 ++ wsX40 ++ wsX50 ++ wsX20)
def wsX7_set_r1 : List Cond := [Cond.fieldLink RX7 55 "HatWinds" "FIRST_SETTINGS" "[I", Cond.fieldLink RX7 63 "HatWinds" "LEAST_SETTINGS" "[I", Cond.fieldLink RX7 66 "HatWinds" "MOST_SETTINGS" "[I", Cond.fieldLink RX7 26 "HatWinds" "history" "LHatWinds$History;", Cond.fieldLink RX7 10 "HatWinds" "town" "LHatWinds$Town;", Cond.fieldLink RX7 77 "HatWinds$Town" "settings" "[I", Cond.methodLink RX7 59 yX7_isIndexOf, Cond.static yX7_isIndexOf, Cond.initialized RX7, Cond.code yX7_isIndexOf cX7_isIndexOf 2 (some .boolean), Cond.methodLink RX7 69 yX7_isWithin, Cond.static yX7_isWithin, Cond.code yX7_isWithin cX7_isWithin 3 (some .boolean), Cond.methodLink RX7 73 yX1_keep, Cond.instanceMethod yX1_keep, Cond.selects RX1 yX1_keep yX1_keep, Cond.initialized RX1, Cond.code yX1_keep cX1_keep 2 none, Cond.fieldLink RX1 21 "HatWinds$History" "length" "I", Cond.fieldLink RX1 17 "HatWinds$History" "oldest" "I", Cond.fieldLink RX1 11 "HatWinds$History" "states" "[LHatWinds$Town;", Cond.methodLink RX1 25 yX6_copy, Cond.instanceMethod yX6_copy, Cond.selects RX6 yX6_copy yX6_copy]
def wsX7_set_r2 : List Cond := [Cond.initialized RX6, Cond.code yX6_copy cX6_copy 2 none, Cond.fieldLink RX6 18 "HatWinds$Town" "settings" "[I", Cond.fieldLink RX6 26 "HatWinds$Town" "streets" "LHatWinds$Streets;", Cond.fieldLink RX6 33 "HatWinds$Town" "hours" "LHatWinds$Hours;", Cond.fieldLink RX6 37 "HatWinds$Town" "force" "I", Cond.static yX7_copyRow, Cond.code yX7_copyRow cX7_copyRow 2 none, Cond.methodLink RX7 263 Lib.Math.min.name, Cond.static Lib.Math.min.name, Cond.initialized "java/lang/Math", Cond.code Lib.Math.min.name Lib.Math.min.code 2 (some .int), Cond.methodLink RX7 268 arraycopyName, Cond.native arraycopyName, Cond.static arraycopyName, Cond.initialized "java/lang/System", Cond.methodLink RX6 49 yX5_copy, Cond.instanceMethod yX5_copy, Cond.selects RX5 yX5_copy yX5_copy, Cond.initialized RX5, Cond.code yX5_copy cX5_copy 2 none, Cond.fieldLink RX5 9 "HatWinds$Streets" "from" "[I", Cond.fieldLink RX5 15 "HatWinds$Streets" "width" "[I", Cond.fieldLink RX5 18 "HatWinds$Streets" "cloth" "[I"]
def wsX7_set_r3 : List Cond := [Cond.fieldLink RX5 21 "HatWinds$Streets" "smoke" "[I", Cond.fieldLink RX5 24 "HatWinds$Streets" "people" "[I", Cond.fieldLink RX5 27 "HatWinds$Streets" "number" "I", Cond.methodLink RX6 53 yX2_copy, Cond.instanceMethod yX2_copy, Cond.selects RX2 yX2_copy yX2_copy, Cond.initialized RX2, Cond.code yX2_copy cX2_copy 2 none, Cond.fieldLink RX2 9 "HatWinds$Hours" "forces" "[I", Cond.fieldLink RX2 15 "HatWinds$Hours" "lost" "[I", Cond.fieldLink RX2 18 "HatWinds$Hours" "worst" "[I", Cond.fieldLink RX2 21 "HatWinds$Hours" "passed" "I", Cond.fieldLink RX2 25 "HatWinds$Hours" "lostSoFar" "I"]
def wsX7_set : List Cond := .code yX7_set cX7_set 4 (some .int) :: ((wsX7_set_r1 ++ (wsX7_set_r2 ++ wsX7_set_r3)) ++ wsX70 ++ wsX60 ++ wsX10 ++ wsX50 ++ wsX20)
def wsX7_build_r1 : List Cond := [Cond.fieldLink RX7 51 "HatWinds" "reader" "LHatWinds$Reader;", Cond.fieldLink RX7 41 "HatWinds" "pad" "LHatWinds$Pad;", Cond.fieldLink RX7 26 "HatWinds" "history" "LHatWinds$History;", Cond.fieldLink RX7 10 "HatWinds" "town" "LHatWinds$Town;", Cond.fieldLink RX7 84 "HatWinds$Town" "streets" "LHatWinds$Streets;", Cond.fieldLink RX7 88 "HatWinds$Reader" "streets" "LHatWinds$Streets;", Cond.fieldLink RX7 98 "HatWinds$Streets" "number" "I", Cond.methodLink RX7 80 yX4_read, Cond.instanceMethod yX4_read, Cond.selects RX4 yX4_read yX4_read, Cond.initialized RX4, Cond.code yX4_read cX4_read 3 (some .int), Cond.fieldLink RX4 12 "HatWinds$Reader" "streets" "LHatWinds$Streets;", Cond.fieldLink RX4 18 "HatWinds$Reader" "last" "I", Cond.fieldLink RX4 22 "HatWinds$Reader" "parent" "I", Cond.fieldLink RX4 28 "HatWinds$Pad" "length" "I", Cond.fieldLink RX4 33 "HatWinds$Pad" "signs" "[C", Cond.methodLink RX4 25 yX5_clear, Cond.instanceMethod yX5_clear, Cond.selects RX5 yX5_clear yX5_clear, Cond.initialized RX5, Cond.code yX5_clear cX5_clear 1 none, Cond.fieldLink RX5 27 "HatWinds$Streets" "number" "I", Cond.methodLink RX4 37 yX4_takes]
def wsX7_build_r2 : List Cond := [Cond.instanceMethod yX4_takes, Cond.selects RX4 yX4_takes yX4_takes, Cond.code yX4_takes cX4_takes 3 (some .boolean), Cond.fieldLink RX4 41 "HatWinds$Streets" "number" "I", Cond.methodLink RX4 44 yX4_takesWidth, Cond.instanceMethod yX4_takesWidth, Cond.selects RX4 yX4_takesWidth yX4_takesWidth, Cond.code yX4_takesWidth cX4_takesWidth 2 (some .boolean), Cond.static yX7_isWithin, Cond.initialized RX7, Cond.code yX7_isWithin cX7_isWithin 3 (some .boolean), Cond.methodLink RX4 80 yX5_hasRoomOff, Cond.instanceMethod yX5_hasRoomOff, Cond.selects RX5 yX5_hasRoomOff yX5_hasRoomOff, Cond.code yX5_hasRoomOff cX5_hasRoomOff 2 (some .boolean), Cond.methodLink RX5 39 yX5_branchesOff, Cond.instanceMethod yX5_branchesOff, Cond.selects RX5 yX5_branchesOff yX5_branchesOff, Cond.code yX5_branchesOff cX5_branchesOff 4 (some .int), Cond.fieldLink RX5 9 "HatWinds$Streets" "from" "[I", Cond.methodLink RX5 43 yJ6_bitCount_0f7a4, Cond.static yJ6_bitCount_0f7a4, Cond.initialized RJ6, Cond.code yJ6_bitCount_0f7a4 cJ6_bitCount_0f7a4 1 (some .int)]
def wsX7_build_r3 : List Cond := [Cond.constant RJ6 265 (1431655765), Cond.constant RJ6 266 (858993459), Cond.constant RJ6 267 (252645135), Cond.methodLink RX4 83 yX5_add, Cond.instanceMethod yX5_add, Cond.selects RX5 yX5_add yX5_add, Cond.code yX5_add cX5_add 3 (some .int), Cond.fieldLink RX5 15 "HatWinds$Streets" "width" "[I", Cond.fieldLink RX5 18 "HatWinds$Streets" "cloth" "[I", Cond.fieldLink RX5 21 "HatWinds$Streets" "smoke" "[I", Cond.fieldLink RX5 24 "HatWinds$Streets" "people" "[I", Cond.methodLink RX4 47 yX4_takesFirstDigit, Cond.instanceMethod yX4_takesFirstDigit, Cond.selects RX4 yX4_takesFirstDigit yX4_takesFirstDigit, Cond.code yX4_takesFirstDigit cX4_takesFirstDigit 3 (some .boolean), Cond.fieldLink RX4 94 "HatWinds$Streets" "people" "[I", Cond.methodLink RX4 67 yX4_isDigit, Cond.static yX4_isDigit, Cond.code yX4_isDigit cX4_isDigit 1 (some .boolean), Cond.methodLink RX4 51 yX4_takesSmoke, Cond.instanceMethod yX4_takesSmoke, Cond.selects RX4 yX4_takesSmoke yX4_takesSmoke, Cond.code yX4_takesSmoke cX4_takesSmoke 2 (some .boolean), Cond.fieldLink RX4 91 "HatWinds$Streets" "smoke" "[I"]
def wsX7_build_r4 : List Cond := [Cond.methodLink RX4 54 yX4_takesStar, Cond.instanceMethod yX4_takesStar, Cond.selects RX4 yX4_takesStar yX4_takesStar, Cond.code yX4_takesStar cX4_takesStar 1 (some .boolean), Cond.methodLink RX4 58 yX4_opens, Cond.instanceMethod yX4_opens, Cond.selects RX4 yX4_opens yX4_opens, Cond.code yX4_opens cX4_opens 2 (some .boolean), Cond.methodLink RX4 61 yX4_goesOn, Cond.instanceMethod yX4_goesOn, Cond.selects RX4 yX4_goesOn yX4_goesOn, Cond.code yX4_goesOn cX4_goesOn 1 (some .boolean), Cond.methodLink RX4 97 yX5_has, Cond.instanceMethod yX5_has, Cond.selects RX5 yX5_has yX5_has, Cond.code yX5_has cX5_has 2 (some .boolean), Cond.static yX7_isIndexOf, Cond.code yX7_isIndexOf cX7_isIndexOf 2 (some .boolean), Cond.methodLink RX4 64 yX4_closes, Cond.instanceMethod yX4_closes, Cond.selects RX4 yX4_closes yX4_closes, Cond.code yX4_closes cX4_closes 1 (some .boolean), Cond.fieldLink RX4 100 "HatWinds$Streets" "from" "[I", Cond.methodLink RX4 70 yX4_takesSecondDigit]
def wsX7_build_r5 : List Cond := [Cond.instanceMethod yX4_takesSecondDigit, Cond.selects RX4 yX4_takesSecondDigit yX4_takesSecondDigit, Cond.code yX4_takesSecondDigit cX4_takesSecondDigit 3 (some .boolean), Cond.methodLink RX4 73 yX4_takesFlag, Cond.instanceMethod yX4_takesFlag, Cond.selects RX4 yX4_takesFlag yX4_takesFlag, Cond.code yX4_takesFlag cX4_takesFlag 3 (some .boolean), Cond.fieldLink RX4 87 "HatWinds$Streets" "cloth" "[I", Cond.methodLink RX7 73 yX1_keep, Cond.instanceMethod yX1_keep, Cond.selects RX1 yX1_keep yX1_keep, Cond.initialized RX1, Cond.code yX1_keep cX1_keep 2 none, Cond.fieldLink RX1 21 "HatWinds$History" "length" "I", Cond.fieldLink RX1 17 "HatWinds$History" "oldest" "I", Cond.fieldLink RX1 11 "HatWinds$History" "states" "[LHatWinds$Town;", Cond.methodLink RX1 25 yX6_copy, Cond.instanceMethod yX6_copy, Cond.selects RX6 yX6_copy yX6_copy, Cond.initialized RX6, Cond.code yX6_copy cX6_copy 2 none, Cond.fieldLink RX6 18 "HatWinds$Town" "settings" "[I", Cond.fieldLink RX6 26 "HatWinds$Town" "streets" "LHatWinds$Streets;", Cond.fieldLink RX6 33 "HatWinds$Town" "hours" "LHatWinds$Hours;"]
def wsX7_build_r6 : List Cond := [Cond.fieldLink RX6 37 "HatWinds$Town" "force" "I", Cond.static yX7_copyRow, Cond.code yX7_copyRow cX7_copyRow 2 none, Cond.methodLink RX7 263 Lib.Math.min.name, Cond.static Lib.Math.min.name, Cond.initialized "java/lang/Math", Cond.code Lib.Math.min.name Lib.Math.min.code 2 (some .int), Cond.methodLink RX7 268 arraycopyName, Cond.native arraycopyName, Cond.static arraycopyName, Cond.initialized "java/lang/System", Cond.methodLink RX6 49 yX5_copy, Cond.instanceMethod yX5_copy, Cond.selects RX5 yX5_copy yX5_copy, Cond.code yX5_copy cX5_copy 2 none, Cond.methodLink RX6 53 yX2_copy, Cond.instanceMethod yX2_copy, Cond.selects RX2 yX2_copy yX2_copy, Cond.initialized RX2, Cond.code yX2_copy cX2_copy 2 none, Cond.fieldLink RX2 9 "HatWinds$Hours" "forces" "[I", Cond.fieldLink RX2 15 "HatWinds$Hours" "lost" "[I", Cond.fieldLink RX2 18 "HatWinds$Hours" "worst" "[I", Cond.fieldLink RX2 21 "HatWinds$Hours" "passed" "I"]
def wsX7_build_r7 : List Cond := [Cond.fieldLink RX2 25 "HatWinds$Hours" "lostSoFar" "I", Cond.methodLink RX7 89 yX5_copy, Cond.methodLink RX7 95 yX3_clear, Cond.instanceMethod yX3_clear, Cond.selects RX3 yX3_clear yX3_clear, Cond.initialized RX3, Cond.code yX3_clear cX3_clear 1 none, Cond.fieldLink RX3 15 "HatWinds$Pad" "length" "I", Cond.fieldLink RX3 19 "HatWinds$Pad" "overflowed" "Z"]
def wsX7_build : List Cond := .code yX7_build cX7_build 1 (some .int) :: ((wsX7_build_r1 ++ (wsX7_build_r2 ++ (wsX7_build_r3 ++ (wsX7_build_r4 ++ (wsX7_build_r5 ++ (wsX7_build_r6 ++ wsX7_build_r7)))))) ++ wsX70 ++ wsX60 ++ wsX40 ++ wsX50 ++ wsX30 ++ wsX10 ++ wsX20)
def wsX7_street_r1 : List Cond := [Cond.fieldLink RX7 10 "HatWinds" "town" "LHatWinds$Town;", Cond.fieldLink RX7 84 "HatWinds$Town" "streets" "LHatWinds$Streets;", Cond.fieldLink RX7 26 "HatWinds" "history" "LHatWinds$History;", Cond.methodLink RX7 102 yX5_has, Cond.instanceMethod yX5_has, Cond.selects RX5 yX5_has yX5_has, Cond.initialized RX5, Cond.code yX5_has cX5_has 2 (some .boolean), Cond.fieldLink RX5 27 "HatWinds$Streets" "number" "I", Cond.static yX7_isIndexOf, Cond.initialized RX7, Cond.code yX7_isIndexOf cX7_isIndexOf 2 (some .boolean), Cond.methodLink RX7 69 yX7_isWithin, Cond.static yX7_isWithin, Cond.code yX7_isWithin cX7_isWithin 3 (some .boolean), Cond.methodLink RX7 106 yX5_hasRoomOff, Cond.instanceMethod yX5_hasRoomOff, Cond.selects RX5 yX5_hasRoomOff yX5_hasRoomOff, Cond.code yX5_hasRoomOff cX5_hasRoomOff 2 (some .boolean), Cond.methodLink RX5 39 yX5_branchesOff, Cond.instanceMethod yX5_branchesOff, Cond.selects RX5 yX5_branchesOff yX5_branchesOff, Cond.code yX5_branchesOff cX5_branchesOff 4 (some .int), Cond.fieldLink RX5 9 "HatWinds$Streets" "from" "[I"]
def wsX7_street_r2 : List Cond := [Cond.methodLink RX5 43 yJ6_bitCount_0f7a4, Cond.static yJ6_bitCount_0f7a4, Cond.initialized RJ6, Cond.code yJ6_bitCount_0f7a4 cJ6_bitCount_0f7a4 1 (some .int), Cond.constant RJ6 265 (1431655765), Cond.constant RJ6 266 (858993459), Cond.constant RJ6 267 (252645135), Cond.methodLink RX7 73 yX1_keep, Cond.instanceMethod yX1_keep, Cond.selects RX1 yX1_keep yX1_keep, Cond.initialized RX1, Cond.code yX1_keep cX1_keep 2 none, Cond.fieldLink RX1 21 "HatWinds$History" "length" "I", Cond.fieldLink RX1 17 "HatWinds$History" "oldest" "I", Cond.fieldLink RX1 11 "HatWinds$History" "states" "[LHatWinds$Town;", Cond.methodLink RX1 25 yX6_copy, Cond.instanceMethod yX6_copy, Cond.selects RX6 yX6_copy yX6_copy, Cond.initialized RX6, Cond.code yX6_copy cX6_copy 2 none, Cond.fieldLink RX6 18 "HatWinds$Town" "settings" "[I", Cond.fieldLink RX6 26 "HatWinds$Town" "streets" "LHatWinds$Streets;", Cond.fieldLink RX6 33 "HatWinds$Town" "hours" "LHatWinds$Hours;", Cond.fieldLink RX6 37 "HatWinds$Town" "force" "I"]
def wsX7_street_r3 : List Cond := [Cond.static yX7_copyRow, Cond.code yX7_copyRow cX7_copyRow 2 none, Cond.methodLink RX7 263 Lib.Math.min.name, Cond.static Lib.Math.min.name, Cond.initialized "java/lang/Math", Cond.code Lib.Math.min.name Lib.Math.min.code 2 (some .int), Cond.methodLink RX7 268 arraycopyName, Cond.native arraycopyName, Cond.static arraycopyName, Cond.initialized "java/lang/System", Cond.methodLink RX6 49 yX5_copy, Cond.instanceMethod yX5_copy, Cond.selects RX5 yX5_copy yX5_copy, Cond.code yX5_copy cX5_copy 2 none, Cond.fieldLink RX5 15 "HatWinds$Streets" "width" "[I", Cond.fieldLink RX5 18 "HatWinds$Streets" "cloth" "[I", Cond.fieldLink RX5 21 "HatWinds$Streets" "smoke" "[I", Cond.fieldLink RX5 24 "HatWinds$Streets" "people" "[I", Cond.methodLink RX6 53 yX2_copy, Cond.instanceMethod yX2_copy, Cond.selects RX2 yX2_copy yX2_copy, Cond.initialized RX2, Cond.code yX2_copy cX2_copy 2 none, Cond.fieldLink RX2 9 "HatWinds$Hours" "forces" "[I"]
def wsX7_street_r4 : List Cond := [Cond.fieldLink RX2 15 "HatWinds$Hours" "lost" "[I", Cond.fieldLink RX2 18 "HatWinds$Hours" "worst" "[I", Cond.fieldLink RX2 21 "HatWinds$Hours" "passed" "I", Cond.fieldLink RX2 25 "HatWinds$Hours" "lostSoFar" "I", Cond.methodLink RX7 109 yX5_add, Cond.instanceMethod yX5_add, Cond.selects RX5 yX5_add yX5_add, Cond.code yX5_add cX5_add 3 (some .int)]
def wsX7_street : List Cond := .code yX7_street cX7_street 3 (some .int) :: ((wsX7_street_r1 ++ (wsX7_street_r2 ++ (wsX7_street_r3 ++ wsX7_street_r4))) ++ wsX70 ++ wsX60 ++ wsX50 ++ wsX10 ++ wsX20)
def wsX7_change_r1 : List Cond := [Cond.fieldLink RX7 10 "HatWinds" "town" "LHatWinds$Town;", Cond.fieldLink RX7 84 "HatWinds$Town" "streets" "LHatWinds$Streets;", Cond.fieldLink RX7 113 "HatWinds" "LEAST_OF_STREET" "[I", Cond.fieldLink RX7 116 "HatWinds" "MOST_OF_STREET" "[I", Cond.fieldLink RX7 26 "HatWinds" "history" "LHatWinds$History;", Cond.methodLink RX7 102 yX5_has, Cond.instanceMethod yX5_has, Cond.selects RX5 yX5_has yX5_has, Cond.initialized RX5, Cond.code yX5_has cX5_has 2 (some .boolean), Cond.fieldLink RX5 27 "HatWinds$Streets" "number" "I", Cond.static yX7_isIndexOf, Cond.initialized RX7, Cond.code yX7_isIndexOf cX7_isIndexOf 2 (some .boolean), Cond.methodLink RX7 59 yX7_isIndexOf, Cond.methodLink RX7 69 yX7_isWithin, Cond.static yX7_isWithin, Cond.code yX7_isWithin cX7_isWithin 3 (some .boolean), Cond.methodLink RX7 73 yX1_keep, Cond.instanceMethod yX1_keep, Cond.selects RX1 yX1_keep yX1_keep, Cond.initialized RX1, Cond.code yX1_keep cX1_keep 2 none, Cond.fieldLink RX1 21 "HatWinds$History" "length" "I"]
def wsX7_change_r2 : List Cond := [Cond.fieldLink RX1 17 "HatWinds$History" "oldest" "I", Cond.fieldLink RX1 11 "HatWinds$History" "states" "[LHatWinds$Town;", Cond.methodLink RX1 25 yX6_copy, Cond.instanceMethod yX6_copy, Cond.selects RX6 yX6_copy yX6_copy, Cond.initialized RX6, Cond.code yX6_copy cX6_copy 2 none, Cond.fieldLink RX6 18 "HatWinds$Town" "settings" "[I", Cond.fieldLink RX6 26 "HatWinds$Town" "streets" "LHatWinds$Streets;", Cond.fieldLink RX6 33 "HatWinds$Town" "hours" "LHatWinds$Hours;", Cond.fieldLink RX6 37 "HatWinds$Town" "force" "I", Cond.static yX7_copyRow, Cond.code yX7_copyRow cX7_copyRow 2 none, Cond.methodLink RX7 263 Lib.Math.min.name, Cond.static Lib.Math.min.name, Cond.initialized "java/lang/Math", Cond.code Lib.Math.min.name Lib.Math.min.code 2 (some .int), Cond.methodLink RX7 268 arraycopyName, Cond.native arraycopyName, Cond.static arraycopyName, Cond.initialized "java/lang/System", Cond.methodLink RX6 49 yX5_copy, Cond.instanceMethod yX5_copy, Cond.selects RX5 yX5_copy yX5_copy]
def wsX7_change_r3 : List Cond := [Cond.code yX5_copy cX5_copy 2 none, Cond.fieldLink RX5 9 "HatWinds$Streets" "from" "[I", Cond.fieldLink RX5 15 "HatWinds$Streets" "width" "[I", Cond.fieldLink RX5 18 "HatWinds$Streets" "cloth" "[I", Cond.fieldLink RX5 21 "HatWinds$Streets" "smoke" "[I", Cond.fieldLink RX5 24 "HatWinds$Streets" "people" "[I", Cond.methodLink RX6 53 yX2_copy, Cond.instanceMethod yX2_copy, Cond.selects RX2 yX2_copy yX2_copy, Cond.initialized RX2, Cond.code yX2_copy cX2_copy 2 none, Cond.fieldLink RX2 9 "HatWinds$Hours" "forces" "[I", Cond.fieldLink RX2 15 "HatWinds$Hours" "lost" "[I", Cond.fieldLink RX2 18 "HatWinds$Hours" "worst" "[I", Cond.fieldLink RX2 21 "HatWinds$Hours" "passed" "I", Cond.fieldLink RX2 25 "HatWinds$Hours" "lostSoFar" "I", Cond.methodLink RX7 119 yX5_changeable, Cond.instanceMethod yX5_changeable, Cond.selects RX5 yX5_changeable yX5_changeable, Cond.code yX5_changeable cX5_changeable 2 (some (.array .int))]
def wsX7_change : List Cond := .code yX7_change cX7_change 6 (some .int) :: ((wsX7_change_r1 ++ (wsX7_change_r2 ++ wsX7_change_r3)) ++ wsX70 ++ wsX60 ++ wsX50 ++ wsX10 ++ wsX20)
def wsX7_isForce : List Cond := .code yX7_isForce cX7_isForce 1 (some .boolean) :: ([.methodLink RX7 69 yX7_isWithin, .static yX7_isWithin, .initialized RX7, .code yX7_isWithin cX7_isWithin 3 (some .boolean)])
def wsX7_wind_r1 : List Cond := [Cond.fieldLink RX7 26 "HatWinds" "history" "LHatWinds$History;", Cond.fieldLink RX7 10 "HatWinds" "town" "LHatWinds$Town;", Cond.fieldLink RX7 126 "HatWinds$Town" "force" "I", Cond.methodLink RX7 123 yX7_isForce, Cond.static yX7_isForce, Cond.initialized RX7, Cond.code yX7_isForce cX7_isForce 1 (some .boolean), Cond.methodLink RX7 69 yX7_isWithin, Cond.static yX7_isWithin, Cond.code yX7_isWithin cX7_isWithin 3 (some .boolean), Cond.methodLink RX7 73 yX1_keep, Cond.instanceMethod yX1_keep, Cond.selects RX1 yX1_keep yX1_keep, Cond.initialized RX1, Cond.code yX1_keep cX1_keep 2 none, Cond.fieldLink RX1 21 "HatWinds$History" "length" "I", Cond.fieldLink RX1 17 "HatWinds$History" "oldest" "I", Cond.fieldLink RX1 11 "HatWinds$History" "states" "[LHatWinds$Town;", Cond.methodLink RX1 25 yX6_copy, Cond.instanceMethod yX6_copy, Cond.selects RX6 yX6_copy yX6_copy, Cond.initialized RX6, Cond.code yX6_copy cX6_copy 2 none, Cond.fieldLink RX6 18 "HatWinds$Town" "settings" "[I"]
def wsX7_wind_r2 : List Cond := [Cond.fieldLink RX6 26 "HatWinds$Town" "streets" "LHatWinds$Streets;", Cond.fieldLink RX6 33 "HatWinds$Town" "hours" "LHatWinds$Hours;", Cond.fieldLink RX6 37 "HatWinds$Town" "force" "I", Cond.static yX7_copyRow, Cond.code yX7_copyRow cX7_copyRow 2 none, Cond.methodLink RX7 263 Lib.Math.min.name, Cond.static Lib.Math.min.name, Cond.initialized "java/lang/Math", Cond.code Lib.Math.min.name Lib.Math.min.code 2 (some .int), Cond.methodLink RX7 268 arraycopyName, Cond.native arraycopyName, Cond.static arraycopyName, Cond.initialized "java/lang/System", Cond.methodLink RX6 49 yX5_copy, Cond.instanceMethod yX5_copy, Cond.selects RX5 yX5_copy yX5_copy, Cond.initialized RX5, Cond.code yX5_copy cX5_copy 2 none, Cond.fieldLink RX5 9 "HatWinds$Streets" "from" "[I", Cond.fieldLink RX5 15 "HatWinds$Streets" "width" "[I", Cond.fieldLink RX5 18 "HatWinds$Streets" "cloth" "[I", Cond.fieldLink RX5 21 "HatWinds$Streets" "smoke" "[I", Cond.fieldLink RX5 24 "HatWinds$Streets" "people" "[I", Cond.fieldLink RX5 27 "HatWinds$Streets" "number" "I"]
def wsX7_wind_r3 : List Cond := [Cond.methodLink RX6 53 yX2_copy, Cond.instanceMethod yX2_copy, Cond.selects RX2 yX2_copy yX2_copy, Cond.initialized RX2, Cond.code yX2_copy cX2_copy 2 none, Cond.fieldLink RX2 9 "HatWinds$Hours" "forces" "[I", Cond.fieldLink RX2 15 "HatWinds$Hours" "lost" "[I", Cond.fieldLink RX2 18 "HatWinds$Hours" "worst" "[I", Cond.fieldLink RX2 21 "HatWinds$Hours" "passed" "I", Cond.fieldLink RX2 25 "HatWinds$Hours" "lostSoFar" "I"]
def wsX7_wind : List Cond := .code yX7_wind cX7_wind 3 (some .int) :: ((wsX7_wind_r1 ++ (wsX7_wind_r2 ++ wsX7_wind_r3)) ++ wsX70 ++ wsX60 ++ wsX10 ++ wsX50 ++ wsX20)
def wsX7_pass_r1 : List Cond := [Cond.fieldLink RX7 10 "HatWinds" "town" "LHatWinds$Town;", Cond.fieldLink RX7 129 "HatWinds$Town" "hours" "LHatWinds$Hours;", Cond.fieldLink RX7 133 "HatWinds$Hours" "passed" "I", Cond.fieldLink RX7 26 "HatWinds" "history" "LHatWinds$History;", Cond.fieldLink RX7 19 "HatWinds" "air" "LHatWinds$Air;", Cond.fieldLink RX7 126 "HatWinds$Town" "force" "I", Cond.methodLink RX7 69 yX7_isWithin, Cond.static yX7_isWithin, Cond.initialized RX7, Cond.code yX7_isWithin cX7_isWithin 3 (some .boolean), Cond.methodLink RX7 73 yX1_keep, Cond.instanceMethod yX1_keep, Cond.selects RX1 yX1_keep yX1_keep, Cond.initialized RX1, Cond.code yX1_keep cX1_keep 2 none, Cond.fieldLink RX1 21 "HatWinds$History" "length" "I", Cond.fieldLink RX1 17 "HatWinds$History" "oldest" "I", Cond.fieldLink RX1 11 "HatWinds$History" "states" "[LHatWinds$Town;", Cond.methodLink RX1 25 yX6_copy, Cond.instanceMethod yX6_copy, Cond.selects RX6 yX6_copy yX6_copy, Cond.initialized RX6, Cond.code yX6_copy cX6_copy 2 none, Cond.fieldLink RX6 18 "HatWinds$Town" "settings" "[I"]
def wsX7_pass_r2 : List Cond := [Cond.fieldLink RX6 26 "HatWinds$Town" "streets" "LHatWinds$Streets;", Cond.fieldLink RX6 33 "HatWinds$Town" "hours" "LHatWinds$Hours;", Cond.fieldLink RX6 37 "HatWinds$Town" "force" "I", Cond.static yX7_copyRow, Cond.code yX7_copyRow cX7_copyRow 2 none, Cond.methodLink RX7 263 Lib.Math.min.name, Cond.static Lib.Math.min.name, Cond.initialized "java/lang/Math", Cond.code Lib.Math.min.name Lib.Math.min.code 2 (some .int), Cond.methodLink RX7 268 arraycopyName, Cond.native arraycopyName, Cond.static arraycopyName, Cond.initialized "java/lang/System", Cond.methodLink RX6 49 yX5_copy, Cond.instanceMethod yX5_copy, Cond.selects RX5 yX5_copy yX5_copy, Cond.initialized RX5, Cond.code yX5_copy cX5_copy 2 none, Cond.fieldLink RX5 9 "HatWinds$Streets" "from" "[I", Cond.fieldLink RX5 15 "HatWinds$Streets" "width" "[I", Cond.fieldLink RX5 18 "HatWinds$Streets" "cloth" "[I", Cond.fieldLink RX5 21 "HatWinds$Streets" "smoke" "[I", Cond.fieldLink RX5 24 "HatWinds$Streets" "people" "[I", Cond.fieldLink RX5 27 "HatWinds$Streets" "number" "I"]
def wsX7_pass_r3 : List Cond := [Cond.methodLink RX6 53 yX2_copy, Cond.instanceMethod yX2_copy, Cond.selects RX2 yX2_copy yX2_copy, Cond.initialized RX2, Cond.code yX2_copy cX2_copy 2 none, Cond.fieldLink RX2 9 "HatWinds$Hours" "forces" "[I", Cond.fieldLink RX2 15 "HatWinds$Hours" "lost" "[I", Cond.fieldLink RX2 18 "HatWinds$Hours" "worst" "[I", Cond.fieldLink RX2 21 "HatWinds$Hours" "passed" "I", Cond.fieldLink RX2 25 "HatWinds$Hours" "lostSoFar" "I", Cond.methodLink RX7 138 yX0_blowIn, Cond.instanceMethod yX0_blowIn, Cond.selects RX0 yX0_blowIn yX0_blowIn, Cond.initialized RX0, Cond.code yX0_blowIn cX0_blowIn 2 none, Cond.fieldLink RX0 21 "HatWinds$Town" "streets" "LHatWinds$Streets;", Cond.fieldLink RX0 31 "HatWinds$Town" "force" "I", Cond.methodLink RX0 27 yX0_part, Cond.instanceMethod yX0_part, Cond.selects RX0 yX0_part yX0_part, Cond.code yX0_part cX0_part 5 none, Cond.fieldLink RX0 37 "HatWinds$Streets" "number" "I", Cond.fieldLink RX0 9 "HatWinds$Air" "together" "[I", Cond.fieldLink RX0 15 "HatWinds$Air" "narrower" "[I"]
def wsX7_pass_r4 : List Cond := [Cond.fieldLink RX0 42 "HatWinds$Streets" "from" "[I", Cond.fieldLink RX0 45 "HatWinds$Streets" "width" "[I", Cond.methodLink RX0 34 yX0_blow, Cond.instanceMethod yX0_blow, Cond.selects RX0 yX0_blow yX0_blow, Cond.code yX0_blow cX0_blow 5 none, Cond.fieldLink RX0 18 "HatWinds$Air" "force" "[I", Cond.methodLink RX0 48 yX5_has, Cond.instanceMethod yX5_has, Cond.selects RX5 yX5_has yX5_has, Cond.code yX5_has cX5_has 2 (some .boolean), Cond.static yX7_isIndexOf, Cond.code yX7_isIndexOf cX7_isIndexOf 2 (some .boolean), Cond.methodLink RX0 52 yX0_shareOf, Cond.instanceMethod yX0_shareOf, Cond.selects RX0 yX0_shareOf yX0_shareOf, Cond.code yX0_shareOf cX0_shareOf 5 (some .int), Cond.methodLink RX0 60 Lib.Math.min.name, Cond.static yX7_quotient, Cond.code yX7_quotient cX7_quotient 2 (some .int), Cond.methodLink RX7 141 yX0_hatsLost, Cond.instanceMethod yX0_hatsLost, Cond.selects RX0 yX0_hatsLost yX0_hatsLost, Cond.code yX0_hatsLost cX0_hatsLost 4 (some .int)]
def wsX7_pass_r5 : List Cond := [Cond.methodLink RX0 81 yX0_hatsLostIn, Cond.instanceMethod yX0_hatsLostIn, Cond.selects RX0 yX0_hatsLostIn yX0_hatsLostIn, Cond.code yX0_hatsLostIn cX0_hatsLostIn 4 (some .int), Cond.fieldLink RX0 65 "HatWinds$Town" "settings" "[I", Cond.fieldLink RX0 78 "HatWinds$Streets" "people" "[I", Cond.methodLink RX0 74 yX0_gustIn, Cond.instanceMethod yX0_gustIn, Cond.selects RX0 yX0_gustIn yX0_gustIn, Cond.code yX0_gustIn cX0_gustIn 3 (some .int), Cond.methodLink RX7 145 yX0_worstStreet, Cond.instanceMethod yX0_worstStreet, Cond.selects RX0 yX0_worstStreet yX0_worstStreet, Cond.code yX0_worstStreet cX0_worstStreet 6 (some .int), Cond.methodLink RX7 148 yX2_add, Cond.instanceMethod yX2_add, Cond.selects RX2 yX2_add yX2_add, Cond.code yX2_add cX2_add 4 none, Cond.methodLink RX2 38 yX2_pushFirst, Cond.static yX2_pushFirst, Cond.code yX2_pushFirst cX2_pushFirst 3 none]
def wsX7_pass : List Cond := .code yX7_pass cX7_pass 5 (some .int) :: ((wsX7_pass_r1 ++ (wsX7_pass_r2 ++ (wsX7_pass_r3 ++ (wsX7_pass_r4 ++ wsX7_pass_r5)))) ++ wsX70 ++ wsX60 ++ wsX20 ++ wsX10 ++ wsX50 ++ wsX00)
def wsX7_tellAlone : List Cond := .code yX7_tellAlone cX7_tellAlone 4 none :: ([.fieldLink RX7 168 "HatWinds$Streets" "width" "[I", .fieldLink RX7 171 "HatWinds$Streets" "cloth" "[I", .fieldLink RX7 174 "HatWinds$Streets" "smoke" "[I", .fieldLink RX7 177 "HatWinds$Streets" "people" "[I", .methodLink RX7 251 yX3_add, .instanceMethod yX3_add, .selects RX3 yX3_add yX3_add, .initialized RX3, .code yX3_add cX3_add 2 none, .fieldLink RX3 15 "HatWinds$Pad" "length" "I", .fieldLink RX3 19 "HatWinds$Pad" "overflowed" "Z", .fieldLink RX3 9 "HatWinds$Pad" "signs" "[C"] ++ wsX50 ++ wsX30)
def wsX7_tell_r1 : List Cond := [Cond.fieldLink RX7 98 "HatWinds$Streets" "number" "I", Cond.fieldLink RX7 165 "HatWinds$Streets" "from" "[I", Cond.methodLink RX7 102 yX5_has, Cond.instanceMethod yX5_has, Cond.selects RX5 yX5_has yX5_has, Cond.initialized RX5, Cond.code yX5_has cX5_has 2 (some .boolean), Cond.fieldLink RX5 27 "HatWinds$Streets" "number" "I", Cond.static yX7_isIndexOf, Cond.initialized RX7, Cond.code yX7_isIndexOf cX7_isIndexOf 2 (some .boolean), Cond.methodLink RX7 259 yX7_tellAlone, Cond.static yX7_tellAlone, Cond.code yX7_tellAlone cX7_tellAlone 4 none, Cond.fieldLink RX7 168 "HatWinds$Streets" "width" "[I", Cond.fieldLink RX7 171 "HatWinds$Streets" "cloth" "[I", Cond.fieldLink RX7 174 "HatWinds$Streets" "smoke" "[I", Cond.fieldLink RX7 177 "HatWinds$Streets" "people" "[I", Cond.methodLink RX7 251 yX3_add, Cond.instanceMethod yX3_add, Cond.selects RX3 yX3_add yX3_add, Cond.initialized RX3, Cond.code yX3_add cX3_add 2 none, Cond.fieldLink RX3 15 "HatWinds$Pad" "length" "I"]
def wsX7_tell_r2 : List Cond := [Cond.fieldLink RX3 19 "HatWinds$Pad" "overflowed" "Z", Cond.fieldLink RX3 9 "HatWinds$Pad" "signs" "[C", Cond.methodLink RX7 151 yX7_tell, Cond.static yX7_tell]
def wsX7_tell : List Cond := .code yX7_tell cX7_tell 6 none :: ((wsX7_tell_r1 ++ wsX7_tell_r2) ++ wsX50 ++ wsX30)
def wsX7_write_r1 : List Cond := [Cond.fieldLink RX7 45 "HatWinds" "draft" "LHatWinds$Pad;", Cond.fieldLink RX7 10 "HatWinds" "town" "LHatWinds$Town;", Cond.fieldLink RX7 84 "HatWinds$Town" "streets" "LHatWinds$Streets;", Cond.fieldLink RX7 155 "HatWinds$Pad" "overflowed" "Z", Cond.fieldLink RX7 41 "HatWinds" "pad" "LHatWinds$Pad;", Cond.fieldLink RX7 162 "HatWinds$Pad" "length" "I", Cond.methodLink RX7 95 yX3_clear, Cond.instanceMethod yX3_clear, Cond.selects RX3 yX3_clear yX3_clear, Cond.initialized RX3, Cond.code yX3_clear cX3_clear 1 none, Cond.fieldLink RX3 15 "HatWinds$Pad" "length" "I", Cond.fieldLink RX3 19 "HatWinds$Pad" "overflowed" "Z", Cond.methodLink RX7 151 yX7_tell, Cond.static yX7_tell, Cond.initialized RX7, Cond.code yX7_tell cX7_tell 6 none, Cond.fieldLink RX7 98 "HatWinds$Streets" "number" "I", Cond.fieldLink RX7 165 "HatWinds$Streets" "from" "[I", Cond.methodLink RX7 102 yX5_has, Cond.instanceMethod yX5_has, Cond.selects RX5 yX5_has yX5_has, Cond.initialized RX5, Cond.code yX5_has cX5_has 2 (some .boolean)]
def wsX7_write_r2 : List Cond := [Cond.fieldLink RX5 27 "HatWinds$Streets" "number" "I", Cond.static yX7_isIndexOf, Cond.code yX7_isIndexOf cX7_isIndexOf 2 (some .boolean), Cond.methodLink RX7 259 yX7_tellAlone, Cond.static yX7_tellAlone, Cond.code yX7_tellAlone cX7_tellAlone 4 none, Cond.fieldLink RX7 168 "HatWinds$Streets" "width" "[I", Cond.fieldLink RX7 171 "HatWinds$Streets" "cloth" "[I", Cond.fieldLink RX7 174 "HatWinds$Streets" "smoke" "[I", Cond.fieldLink RX7 177 "HatWinds$Streets" "people" "[I", Cond.methodLink RX7 251 yX3_add, Cond.instanceMethod yX3_add, Cond.selects RX3 yX3_add yX3_add, Cond.code yX3_add cX3_add 2 none, Cond.fieldLink RX3 9 "HatWinds$Pad" "signs" "[C", Cond.methodLink RX7 159 yX3_copy, Cond.instanceMethod yX3_copy, Cond.selects RX3 yX3_copy yX3_copy, Cond.code yX3_copy cX3_copy 2 none, Cond.methodLink RX3 23 arraycopyName, Cond.native arraycopyName, Cond.static arraycopyName, Cond.initialized "java/lang/System"]
def wsX7_write : List Cond := .code yX7_write cX7_write 1 (some .int) :: ((wsX7_write_r1 ++ wsX7_write_r2) ++ wsX70 ++ wsX60 ++ wsX30 ++ wsX50)
def wsX7_of_r1 : List Cond := [Cond.fieldLink RX7 10 "HatWinds" "town" "LHatWinds$Town;", Cond.fieldLink RX7 84 "HatWinds$Town" "streets" "LHatWinds$Streets;", Cond.fieldLink RX7 165 "HatWinds$Streets" "from" "[I", Cond.fieldLink RX7 168 "HatWinds$Streets" "width" "[I", Cond.fieldLink RX7 171 "HatWinds$Streets" "cloth" "[I", Cond.fieldLink RX7 174 "HatWinds$Streets" "smoke" "[I", Cond.fieldLink RX7 177 "HatWinds$Streets" "people" "[I", Cond.methodLink RX7 102 yX5_has, Cond.instanceMethod yX5_has, Cond.selects RX5 yX5_has yX5_has, Cond.initialized RX5, Cond.code yX5_has cX5_has 2 (some .boolean), Cond.fieldLink RX5 27 "HatWinds$Streets" "number" "I", Cond.static yX7_isIndexOf, Cond.initialized RX7, Cond.code yX7_isIndexOf cX7_isIndexOf 2 (some .boolean), Cond.methodLink RX7 180 yX5_branchesOff, Cond.instanceMethod yX5_branchesOff, Cond.selects RX5 yX5_branchesOff yX5_branchesOff, Cond.code yX5_branchesOff cX5_branchesOff 4 (some .int), Cond.fieldLink RX5 9 "HatWinds$Streets" "from" "[I", Cond.methodLink RX7 184 yX5_howManyBehind, Cond.instanceMethod yX5_howManyBehind, Cond.selects RX5 yX5_howManyBehind yX5_howManyBehind]
def wsX7_of_r2 : List Cond := [Cond.code yX5_howManyBehind cX5_howManyBehind 4 (some .int), Cond.methodLink RX5 43 yJ6_bitCount_0f7a4, Cond.static yJ6_bitCount_0f7a4, Cond.initialized RJ6, Cond.code yJ6_bitCount_0f7a4 cJ6_bitCount_0f7a4 1 (some .int), Cond.constant RJ6 265 (1431655765), Cond.constant RJ6 266 (858993459), Cond.constant RJ6 267 (252645135), Cond.methodLink RX7 187 yX5_howFarOff, Cond.instanceMethod yX5_howFarOff, Cond.selects RX5 yX5_howFarOff yX5_howFarOff, Cond.code yX5_howFarOff cX5_howFarOff 4 (some .int), Cond.methodLink RX5 48 yX5_has]
def wsX7_of : List Cond := .code yX7_of cX7_of 4 (some .int) :: ((wsX7_of_r1 ++ wsX7_of_r2) ++ wsX70 ++ wsX60 ++ wsX50)
def wsX7_now_r1 : List Cond := [Cond.fieldLink RX7 10 "HatWinds" "town" "LHatWinds$Town;", Cond.fieldLink RX7 84 "HatWinds$Town" "streets" "LHatWinds$Streets;", Cond.fieldLink RX7 19 "HatWinds" "air" "LHatWinds$Air;", Cond.fieldLink RX7 190 "HatWinds$Air" "force" "[I", Cond.methodLink RX7 102 yX5_has, Cond.instanceMethod yX5_has, Cond.selects RX5 yX5_has yX5_has, Cond.initialized RX5, Cond.code yX5_has cX5_has 2 (some .boolean), Cond.fieldLink RX5 27 "HatWinds$Streets" "number" "I", Cond.static yX7_isIndexOf, Cond.initialized RX7, Cond.code yX7_isIndexOf cX7_isIndexOf 2 (some .boolean), Cond.methodLink RX7 138 yX0_blowIn, Cond.instanceMethod yX0_blowIn, Cond.selects RX0 yX0_blowIn yX0_blowIn, Cond.initialized RX0, Cond.code yX0_blowIn cX0_blowIn 2 none, Cond.fieldLink RX0 21 "HatWinds$Town" "streets" "LHatWinds$Streets;", Cond.fieldLink RX0 31 "HatWinds$Town" "force" "I", Cond.methodLink RX0 27 yX0_part, Cond.instanceMethod yX0_part, Cond.selects RX0 yX0_part yX0_part, Cond.code yX0_part cX0_part 5 none]
def wsX7_now_r2 : List Cond := [Cond.fieldLink RX0 37 "HatWinds$Streets" "number" "I", Cond.fieldLink RX0 9 "HatWinds$Air" "together" "[I", Cond.fieldLink RX0 15 "HatWinds$Air" "narrower" "[I", Cond.fieldLink RX0 42 "HatWinds$Streets" "from" "[I", Cond.fieldLink RX0 45 "HatWinds$Streets" "width" "[I", Cond.methodLink RX0 34 yX0_blow, Cond.instanceMethod yX0_blow, Cond.selects RX0 yX0_blow yX0_blow, Cond.code yX0_blow cX0_blow 5 none, Cond.fieldLink RX0 18 "HatWinds$Air" "force" "[I", Cond.methodLink RX0 48 yX5_has, Cond.methodLink RX0 52 yX0_shareOf, Cond.instanceMethod yX0_shareOf, Cond.selects RX0 yX0_shareOf yX0_shareOf, Cond.code yX0_shareOf cX0_shareOf 5 (some .int), Cond.methodLink RX0 60 Lib.Math.min.name, Cond.static Lib.Math.min.name, Cond.initialized "java/lang/Math", Cond.code Lib.Math.min.name Lib.Math.min.code 2 (some .int), Cond.static yX7_quotient, Cond.code yX7_quotient cX7_quotient 2 (some .int), Cond.methodLink RX7 192 yX0_gustIn, Cond.instanceMethod yX0_gustIn, Cond.selects RX0 yX0_gustIn yX0_gustIn]
def wsX7_now_r3 : List Cond := [Cond.code yX0_gustIn cX0_gustIn 3 (some .int), Cond.fieldLink RX0 65 "HatWinds$Town" "settings" "[I", Cond.methodLink RX7 196 yX0_flagSteps, Cond.instanceMethod yX0_flagSteps, Cond.selects RX0 yX0_flagSteps yX0_flagSteps, Cond.code yX0_flagSteps cX0_flagSteps 4 (some .int), Cond.fieldLink RX0 68 "HatWinds$Streets" "cloth" "[I", Cond.methodLink RX7 199 yX0_smokeSteps, Cond.instanceMethod yX0_smokeSteps, Cond.selects RX0 yX0_smokeSteps yX0_smokeSteps, Cond.code yX0_smokeSteps cX0_smokeSteps 3 (some .int), Cond.fieldLink RX0 71 "HatWinds$Streets" "smoke" "[I", Cond.methodLink RX7 202 yX0_hatsLostIn, Cond.instanceMethod yX0_hatsLostIn, Cond.selects RX0 yX0_hatsLostIn yX0_hatsLostIn, Cond.code yX0_hatsLostIn cX0_hatsLostIn 4 (some .int), Cond.fieldLink RX0 78 "HatWinds$Streets" "people" "[I", Cond.methodLink RX0 74 yX0_gustIn]
def wsX7_now : List Cond := .code yX7_now cX7_now 3 (some .int) :: ((wsX7_now_r1 ++ (wsX7_now_r2 ++ wsX7_now_r3)) ++ wsX70 ++ wsX60 ++ wsX00 ++ wsX50)
def wsX7_record : List Cond := .code yX7_record cX7_record 4 (some .int) :: ([.fieldLink RX7 10 "HatWinds" "town" "LHatWinds$Town;", .fieldLink RX7 129 "HatWinds$Town" "hours" "LHatWinds$Hours;", .fieldLink RX7 209 "HatWinds$Hours" "forces" "[I", .fieldLink RX7 212 "HatWinds$Hours" "lost" "[I", .fieldLink RX7 215 "HatWinds$Hours" "worst" "[I", .methodLink RX7 205 yX2_kept, .instanceMethod yX2_kept, .selects RX2 yX2_kept yX2_kept, .initialized RX2, .code yX2_kept cX2_kept 1 (some .int), .fieldLink RX2 21 "HatWinds$Hours" "passed" "I", .methodLink RX2 32 Lib.Math.min.name, .static Lib.Math.min.name, .initialized "java/lang/Math", .code Lib.Math.min.name Lib.Math.min.code 2 (some .int), .methodLink RX7 59 yX7_isIndexOf, .static yX7_isIndexOf, .initialized RX7, .code yX7_isIndexOf cX7_isIndexOf 2 (some .boolean)] ++ wsX70 ++ wsX60 ++ wsX20)
def wsX7_sign : List Cond := .code yX7_sign cX7_sign 2 (some .int) :: ([.fieldLink RX7 41 "HatWinds" "pad" "LHatWinds$Pad;", .fieldLink RX7 162 "HatWinds$Pad" "length" "I", .fieldLink RX7 218 "HatWinds$Pad" "signs" "[C", .methodLink RX7 59 yX7_isIndexOf, .static yX7_isIndexOf, .initialized RX7, .code yX7_isIndexOf cX7_isIndexOf 2 (some .boolean)] ++ wsX70 ++ wsX30)
def wsX7_hatsBy_r1 : List Cond := [Cond.fieldLink RX7 19 "HatWinds" "air" "LHatWinds$Air;", Cond.fieldLink RX7 10 "HatWinds" "town" "LHatWinds$Town;", Cond.fieldLink RX7 84 "HatWinds$Town" "streets" "LHatWinds$Streets;", Cond.methodLink RX7 238 yX0_part, Cond.instanceMethod yX0_part, Cond.selects RX0 yX0_part yX0_part, Cond.initialized RX0, Cond.code yX0_part cX0_part 5 none, Cond.fieldLink RX0 37 "HatWinds$Streets" "number" "I", Cond.fieldLink RX0 9 "HatWinds$Air" "together" "[I", Cond.fieldLink RX0 15 "HatWinds$Air" "narrower" "[I", Cond.fieldLink RX0 42 "HatWinds$Streets" "from" "[I", Cond.fieldLink RX0 45 "HatWinds$Streets" "width" "[I", Cond.methodLink RX7 242 yX0_blow, Cond.instanceMethod yX0_blow, Cond.selects RX0 yX0_blow yX0_blow, Cond.code yX0_blow cX0_blow 5 none, Cond.fieldLink RX0 18 "HatWinds$Air" "force" "[I", Cond.methodLink RX0 48 yX5_has, Cond.instanceMethod yX5_has, Cond.selects RX5 yX5_has yX5_has, Cond.initialized RX5, Cond.code yX5_has cX5_has 2 (some .boolean), Cond.fieldLink RX5 27 "HatWinds$Streets" "number" "I"]
def wsX7_hatsBy_r2 : List Cond := [Cond.static yX7_isIndexOf, Cond.initialized RX7, Cond.code yX7_isIndexOf cX7_isIndexOf 2 (some .boolean), Cond.methodLink RX0 52 yX0_shareOf, Cond.instanceMethod yX0_shareOf, Cond.selects RX0 yX0_shareOf yX0_shareOf, Cond.code yX0_shareOf cX0_shareOf 5 (some .int), Cond.methodLink RX0 60 Lib.Math.min.name, Cond.static Lib.Math.min.name, Cond.initialized "java/lang/Math", Cond.code Lib.Math.min.name Lib.Math.min.code 2 (some .int), Cond.static yX7_quotient, Cond.code yX7_quotient cX7_quotient 2 (some .int), Cond.methodLink RX7 141 yX0_hatsLost, Cond.instanceMethod yX0_hatsLost, Cond.selects RX0 yX0_hatsLost yX0_hatsLost, Cond.code yX0_hatsLost cX0_hatsLost 4 (some .int), Cond.fieldLink RX0 21 "HatWinds$Town" "streets" "LHatWinds$Streets;", Cond.methodLink RX0 81 yX0_hatsLostIn, Cond.instanceMethod yX0_hatsLostIn, Cond.selects RX0 yX0_hatsLostIn yX0_hatsLostIn, Cond.code yX0_hatsLostIn cX0_hatsLostIn 4 (some .int), Cond.fieldLink RX0 65 "HatWinds$Town" "settings" "[I", Cond.fieldLink RX0 78 "HatWinds$Streets" "people" "[I"]
def wsX7_hatsBy_r3 : List Cond := [Cond.methodLink RX0 74 yX0_gustIn, Cond.instanceMethod yX0_gustIn, Cond.selects RX0 yX0_gustIn yX0_gustIn, Cond.code yX0_gustIn cX0_gustIn 3 (some .int)]
def wsX7_hatsBy : List Cond := .code yX7_hatsBy cX7_hatsBy 2 (some .int) :: ((wsX7_hatsBy_r1 ++ (wsX7_hatsBy_r2 ++ wsX7_hatsBy_r3)) ++ wsX70 ++ wsX60 ++ wsX50 ++ wsX00)
def wsX7_shelters_r1 : List Cond := [Cond.fieldLink RX7 19 "HatWinds" "air" "LHatWinds$Air;", Cond.fieldLink RX7 10 "HatWinds" "town" "LHatWinds$Town;", Cond.fieldLink RX7 84 "HatWinds$Town" "streets" "LHatWinds$Streets;", Cond.fieldLink RX7 98 "HatWinds$Streets" "number" "I", Cond.methodLink RX7 138 yX0_blowIn, Cond.instanceMethod yX0_blowIn, Cond.selects RX0 yX0_blowIn yX0_blowIn, Cond.initialized RX0, Cond.code yX0_blowIn cX0_blowIn 2 none, Cond.fieldLink RX0 21 "HatWinds$Town" "streets" "LHatWinds$Streets;", Cond.fieldLink RX0 31 "HatWinds$Town" "force" "I", Cond.methodLink RX0 27 yX0_part, Cond.instanceMethod yX0_part, Cond.selects RX0 yX0_part yX0_part, Cond.code yX0_part cX0_part 5 none, Cond.fieldLink RX0 37 "HatWinds$Streets" "number" "I", Cond.fieldLink RX0 9 "HatWinds$Air" "together" "[I", Cond.fieldLink RX0 15 "HatWinds$Air" "narrower" "[I", Cond.fieldLink RX0 42 "HatWinds$Streets" "from" "[I", Cond.fieldLink RX0 45 "HatWinds$Streets" "width" "[I", Cond.methodLink RX0 34 yX0_blow, Cond.instanceMethod yX0_blow, Cond.selects RX0 yX0_blow yX0_blow, Cond.code yX0_blow cX0_blow 5 none]
def wsX7_shelters_r2 : List Cond := [Cond.fieldLink RX0 18 "HatWinds$Air" "force" "[I", Cond.methodLink RX0 48 yX5_has, Cond.instanceMethod yX5_has, Cond.selects RX5 yX5_has yX5_has, Cond.initialized RX5, Cond.code yX5_has cX5_has 2 (some .boolean), Cond.fieldLink RX5 27 "HatWinds$Streets" "number" "I", Cond.static yX7_isIndexOf, Cond.initialized RX7, Cond.code yX7_isIndexOf cX7_isIndexOf 2 (some .boolean), Cond.methodLink RX0 52 yX0_shareOf, Cond.instanceMethod yX0_shareOf, Cond.selects RX0 yX0_shareOf yX0_shareOf, Cond.code yX0_shareOf cX0_shareOf 5 (some .int), Cond.methodLink RX0 60 Lib.Math.min.name, Cond.static Lib.Math.min.name, Cond.initialized "java/lang/Math", Cond.code Lib.Math.min.name Lib.Math.min.code 2 (some .int), Cond.static yX7_quotient, Cond.code yX7_quotient cX7_quotient 2 (some .int), Cond.methodLink RX7 202 yX0_hatsLostIn, Cond.instanceMethod yX0_hatsLostIn, Cond.selects RX0 yX0_hatsLostIn yX0_hatsLostIn, Cond.code yX0_hatsLostIn cX0_hatsLostIn 4 (some .int)]
def wsX7_shelters_r3 : List Cond := [Cond.fieldLink RX0 65 "HatWinds$Town" "settings" "[I", Cond.fieldLink RX0 78 "HatWinds$Streets" "people" "[I", Cond.methodLink RX0 74 yX0_gustIn, Cond.instanceMethod yX0_gustIn, Cond.selects RX0 yX0_gustIn yX0_gustIn, Cond.code yX0_gustIn cX0_gustIn 3 (some .int)]
def wsX7_shelters : List Cond := .code yX7_shelters cX7_shelters 3 (some .int) :: ((wsX7_shelters_r1 ++ (wsX7_shelters_r2 ++ wsX7_shelters_r3)) ++ wsX70 ++ wsX60 ++ wsX50 ++ wsX00)
def wsX7_calmest_r1 : List Cond := [Cond.fieldLink RX7 19 "HatWinds" "air" "LHatWinds$Air;", Cond.fieldLink RX7 10 "HatWinds" "town" "LHatWinds$Town;", Cond.fieldLink RX7 84 "HatWinds$Town" "streets" "LHatWinds$Streets;", Cond.fieldLink RX7 98 "HatWinds$Streets" "number" "I", Cond.fieldLink RX7 190 "HatWinds$Air" "force" "[I", Cond.methodLink RX7 138 yX0_blowIn, Cond.instanceMethod yX0_blowIn, Cond.selects RX0 yX0_blowIn yX0_blowIn, Cond.initialized RX0, Cond.code yX0_blowIn cX0_blowIn 2 none, Cond.fieldLink RX0 21 "HatWinds$Town" "streets" "LHatWinds$Streets;", Cond.fieldLink RX0 31 "HatWinds$Town" "force" "I", Cond.methodLink RX0 27 yX0_part, Cond.instanceMethod yX0_part, Cond.selects RX0 yX0_part yX0_part, Cond.code yX0_part cX0_part 5 none, Cond.fieldLink RX0 37 "HatWinds$Streets" "number" "I", Cond.fieldLink RX0 9 "HatWinds$Air" "together" "[I", Cond.fieldLink RX0 15 "HatWinds$Air" "narrower" "[I", Cond.fieldLink RX0 42 "HatWinds$Streets" "from" "[I", Cond.fieldLink RX0 45 "HatWinds$Streets" "width" "[I", Cond.methodLink RX0 34 yX0_blow, Cond.instanceMethod yX0_blow, Cond.selects RX0 yX0_blow yX0_blow]
def wsX7_calmest_r2 : List Cond := [Cond.code yX0_blow cX0_blow 5 none, Cond.fieldLink RX0 18 "HatWinds$Air" "force" "[I", Cond.methodLink RX0 48 yX5_has, Cond.instanceMethod yX5_has, Cond.selects RX5 yX5_has yX5_has, Cond.initialized RX5, Cond.code yX5_has cX5_has 2 (some .boolean), Cond.fieldLink RX5 27 "HatWinds$Streets" "number" "I", Cond.static yX7_isIndexOf, Cond.initialized RX7, Cond.code yX7_isIndexOf cX7_isIndexOf 2 (some .boolean), Cond.methodLink RX0 52 yX0_shareOf, Cond.instanceMethod yX0_shareOf, Cond.selects RX0 yX0_shareOf yX0_shareOf, Cond.code yX0_shareOf cX0_shareOf 5 (some .int), Cond.methodLink RX0 60 Lib.Math.min.name, Cond.static Lib.Math.min.name, Cond.initialized "java/lang/Math", Cond.code Lib.Math.min.name Lib.Math.min.code 2 (some .int), Cond.static yX7_quotient, Cond.code yX7_quotient cX7_quotient 2 (some .int)]
def wsX7_calmest : List Cond := .code yX7_calmest cX7_calmest 3 (some .int) :: ((wsX7_calmest_r1 ++ wsX7_calmest_r2) ++ wsX70 ++ wsX60 ++ wsX50 ++ wsX00)
def wsX7_count_r1 : List Cond := [Cond.fieldLink RX7 10 "HatWinds" "town" "LHatWinds$Town;", Cond.fieldLink RX7 84 "HatWinds$Town" "streets" "LHatWinds$Streets;", Cond.fieldLink RX7 98 "HatWinds$Streets" "number" "I", Cond.fieldLink RX7 126 "HatWinds$Town" "force" "I", Cond.fieldLink RX7 129 "HatWinds$Town" "hours" "LHatWinds$Hours;", Cond.fieldLink RX7 133 "HatWinds$Hours" "passed" "I", Cond.fieldLink RX7 222 "HatWinds$Hours" "lostSoFar" "I", Cond.fieldLink RX7 77 "HatWinds$Town" "settings" "[I", Cond.fieldLink RX7 41 "HatWinds" "pad" "LHatWinds$Pad;", Cond.fieldLink RX7 162 "HatWinds$Pad" "length" "I", Cond.fieldLink RX7 26 "HatWinds" "history" "LHatWinds$History;", Cond.fieldLink RX7 237 "HatWinds$History" "length" "I", Cond.methodLink RX7 225 yX5_peopleOfAll, Cond.instanceMethod yX5_peopleOfAll, Cond.selects RX5 yX5_peopleOfAll yX5_peopleOfAll, Cond.initialized RX5, Cond.code yX5_peopleOfAll cX5_peopleOfAll 3 (some .int), Cond.fieldLink RX5 27 "HatWinds$Streets" "number" "I", Cond.fieldLink RX5 24 "HatWinds$Streets" "people" "[I", Cond.methodLink RX7 228 yX7_hatsBy, Cond.instanceMethod yX7_hatsBy, Cond.selects RX7 yX7_hatsBy yX7_hatsBy, Cond.initialized RX7, Cond.code yX7_hatsBy cX7_hatsBy 2 (some .int)]
def wsX7_count_r2 : List Cond := [Cond.fieldLink RX7 19 "HatWinds" "air" "LHatWinds$Air;", Cond.methodLink RX7 238 yX0_part, Cond.instanceMethod yX0_part, Cond.selects RX0 yX0_part yX0_part, Cond.initialized RX0, Cond.code yX0_part cX0_part 5 none, Cond.fieldLink RX0 37 "HatWinds$Streets" "number" "I", Cond.fieldLink RX0 9 "HatWinds$Air" "together" "[I", Cond.fieldLink RX0 15 "HatWinds$Air" "narrower" "[I", Cond.fieldLink RX0 42 "HatWinds$Streets" "from" "[I", Cond.fieldLink RX0 45 "HatWinds$Streets" "width" "[I", Cond.methodLink RX7 242 yX0_blow, Cond.instanceMethod yX0_blow, Cond.selects RX0 yX0_blow yX0_blow, Cond.code yX0_blow cX0_blow 5 none, Cond.fieldLink RX0 18 "HatWinds$Air" "force" "[I", Cond.methodLink RX0 48 yX5_has, Cond.instanceMethod yX5_has, Cond.selects RX5 yX5_has yX5_has, Cond.code yX5_has cX5_has 2 (some .boolean), Cond.static yX7_isIndexOf, Cond.code yX7_isIndexOf cX7_isIndexOf 2 (some .boolean), Cond.methodLink RX0 52 yX0_shareOf, Cond.instanceMethod yX0_shareOf]
def wsX7_count_r3 : List Cond := [Cond.selects RX0 yX0_shareOf yX0_shareOf, Cond.code yX0_shareOf cX0_shareOf 5 (some .int), Cond.methodLink RX0 60 Lib.Math.min.name, Cond.static Lib.Math.min.name, Cond.initialized "java/lang/Math", Cond.code Lib.Math.min.name Lib.Math.min.code 2 (some .int), Cond.static yX7_quotient, Cond.code yX7_quotient cX7_quotient 2 (some .int), Cond.methodLink RX7 141 yX0_hatsLost, Cond.instanceMethod yX0_hatsLost, Cond.selects RX0 yX0_hatsLost yX0_hatsLost, Cond.code yX0_hatsLost cX0_hatsLost 4 (some .int), Cond.fieldLink RX0 21 "HatWinds$Town" "streets" "LHatWinds$Streets;", Cond.methodLink RX0 81 yX0_hatsLostIn, Cond.instanceMethod yX0_hatsLostIn, Cond.selects RX0 yX0_hatsLostIn yX0_hatsLostIn, Cond.code yX0_hatsLostIn cX0_hatsLostIn 4 (some .int), Cond.fieldLink RX0 65 "HatWinds$Town" "settings" "[I", Cond.fieldLink RX0 78 "HatWinds$Streets" "people" "[I", Cond.methodLink RX0 74 yX0_gustIn, Cond.instanceMethod yX0_gustIn, Cond.selects RX0 yX0_gustIn yX0_gustIn, Cond.code yX0_gustIn cX0_gustIn 3 (some .int), Cond.methodLink RX7 231 yX7_shelters]
def wsX7_count_r4 : List Cond := [Cond.instanceMethod yX7_shelters, Cond.selects RX7 yX7_shelters yX7_shelters, Cond.code yX7_shelters cX7_shelters 3 (some .int), Cond.methodLink RX7 138 yX0_blowIn, Cond.instanceMethod yX0_blowIn, Cond.selects RX0 yX0_blowIn yX0_blowIn, Cond.code yX0_blowIn cX0_blowIn 2 none, Cond.fieldLink RX0 31 "HatWinds$Town" "force" "I", Cond.methodLink RX0 27 yX0_part, Cond.methodLink RX0 34 yX0_blow, Cond.methodLink RX7 202 yX0_hatsLostIn, Cond.methodLink RX7 234 yX7_calmest, Cond.instanceMethod yX7_calmest, Cond.selects RX7 yX7_calmest yX7_calmest, Cond.code yX7_calmest cX7_calmest 3 (some .int), Cond.fieldLink RX7 190 "HatWinds$Air" "force" "[I"]
def wsX7_count : List Cond := .code yX7_count cX7_count 2 (some .int) :: ((wsX7_count_r1 ++ (wsX7_count_r2 ++ (wsX7_count_r3 ++ wsX7_count_r4))) ++ wsX70 ++ wsX60 ++ wsX50 ++ wsX20 ++ wsX30 ++ wsX10 ++ wsX00)
def wsX7_ifWind_r1 : List Cond := [Cond.methodLink RX7 123 yX7_isForce, Cond.static yX7_isForce, Cond.initialized RX7, Cond.code yX7_isForce cX7_isForce 1 (some .boolean), Cond.methodLink RX7 69 yX7_isWithin, Cond.static yX7_isWithin, Cond.code yX7_isWithin cX7_isWithin 3 (some .boolean), Cond.methodLink RX7 228 yX7_hatsBy, Cond.instanceMethod yX7_hatsBy, Cond.selects RX7 yX7_hatsBy yX7_hatsBy, Cond.code yX7_hatsBy cX7_hatsBy 2 (some .int), Cond.fieldLink RX7 19 "HatWinds" "air" "LHatWinds$Air;", Cond.fieldLink RX7 10 "HatWinds" "town" "LHatWinds$Town;", Cond.fieldLink RX7 84 "HatWinds$Town" "streets" "LHatWinds$Streets;", Cond.methodLink RX7 238 yX0_part, Cond.instanceMethod yX0_part, Cond.selects RX0 yX0_part yX0_part, Cond.initialized RX0, Cond.code yX0_part cX0_part 5 none, Cond.fieldLink RX0 37 "HatWinds$Streets" "number" "I", Cond.fieldLink RX0 9 "HatWinds$Air" "together" "[I", Cond.fieldLink RX0 15 "HatWinds$Air" "narrower" "[I", Cond.fieldLink RX0 42 "HatWinds$Streets" "from" "[I", Cond.fieldLink RX0 45 "HatWinds$Streets" "width" "[I"]
def wsX7_ifWind_r2 : List Cond := [Cond.methodLink RX7 242 yX0_blow, Cond.instanceMethod yX0_blow, Cond.selects RX0 yX0_blow yX0_blow, Cond.code yX0_blow cX0_blow 5 none, Cond.fieldLink RX0 18 "HatWinds$Air" "force" "[I", Cond.methodLink RX0 48 yX5_has, Cond.instanceMethod yX5_has, Cond.selects RX5 yX5_has yX5_has, Cond.initialized RX5, Cond.code yX5_has cX5_has 2 (some .boolean), Cond.fieldLink RX5 27 "HatWinds$Streets" "number" "I", Cond.static yX7_isIndexOf, Cond.code yX7_isIndexOf cX7_isIndexOf 2 (some .boolean), Cond.methodLink RX0 52 yX0_shareOf, Cond.instanceMethod yX0_shareOf, Cond.selects RX0 yX0_shareOf yX0_shareOf, Cond.code yX0_shareOf cX0_shareOf 5 (some .int), Cond.methodLink RX0 60 Lib.Math.min.name, Cond.static Lib.Math.min.name, Cond.initialized "java/lang/Math", Cond.code Lib.Math.min.name Lib.Math.min.code 2 (some .int), Cond.static yX7_quotient, Cond.code yX7_quotient cX7_quotient 2 (some .int), Cond.methodLink RX7 141 yX0_hatsLost]
def wsX7_ifWind_r3 : List Cond := [Cond.instanceMethod yX0_hatsLost, Cond.selects RX0 yX0_hatsLost yX0_hatsLost, Cond.code yX0_hatsLost cX0_hatsLost 4 (some .int), Cond.fieldLink RX0 21 "HatWinds$Town" "streets" "LHatWinds$Streets;", Cond.methodLink RX0 81 yX0_hatsLostIn, Cond.instanceMethod yX0_hatsLostIn, Cond.selects RX0 yX0_hatsLostIn yX0_hatsLostIn, Cond.code yX0_hatsLostIn cX0_hatsLostIn 4 (some .int), Cond.fieldLink RX0 65 "HatWinds$Town" "settings" "[I", Cond.fieldLink RX0 78 "HatWinds$Streets" "people" "[I", Cond.methodLink RX0 74 yX0_gustIn, Cond.instanceMethod yX0_gustIn, Cond.selects RX0 yX0_gustIn yX0_gustIn, Cond.code yX0_gustIn cX0_gustIn 3 (some .int)]
def wsX7_ifWind : List Cond := .code yX7_ifWind cX7_ifWind 2 (some .int) :: ((wsX7_ifWind_r1 ++ (wsX7_ifWind_r2 ++ wsX7_ifWind_r3)) ++ wsX70 ++ wsX60 ++ wsX50 ++ wsX00)
def wsX7_windFor_r1 : List Cond := [Cond.fieldLink RX7 19 "HatWinds" "air" "LHatWinds$Air;", Cond.fieldLink RX7 10 "HatWinds" "town" "LHatWinds$Town;", Cond.fieldLink RX7 84 "HatWinds$Town" "streets" "LHatWinds$Streets;", Cond.methodLink RX7 69 yX7_isWithin, Cond.static yX7_isWithin, Cond.initialized RX7, Cond.code yX7_isWithin cX7_isWithin 3 (some .boolean), Cond.methodLink RX7 238 yX0_part, Cond.instanceMethod yX0_part, Cond.selects RX0 yX0_part yX0_part, Cond.initialized RX0, Cond.code yX0_part cX0_part 5 none, Cond.fieldLink RX0 37 "HatWinds$Streets" "number" "I", Cond.fieldLink RX0 9 "HatWinds$Air" "together" "[I", Cond.fieldLink RX0 15 "HatWinds$Air" "narrower" "[I", Cond.fieldLink RX0 42 "HatWinds$Streets" "from" "[I", Cond.fieldLink RX0 45 "HatWinds$Streets" "width" "[I", Cond.methodLink RX7 242 yX0_blow, Cond.instanceMethod yX0_blow, Cond.selects RX0 yX0_blow yX0_blow, Cond.code yX0_blow cX0_blow 5 none, Cond.fieldLink RX0 18 "HatWinds$Air" "force" "[I", Cond.methodLink RX0 48 yX5_has, Cond.instanceMethod yX5_has]
def wsX7_windFor_r2 : List Cond := [Cond.selects RX5 yX5_has yX5_has, Cond.initialized RX5, Cond.code yX5_has cX5_has 2 (some .boolean), Cond.fieldLink RX5 27 "HatWinds$Streets" "number" "I", Cond.static yX7_isIndexOf, Cond.code yX7_isIndexOf cX7_isIndexOf 2 (some .boolean), Cond.methodLink RX0 52 yX0_shareOf, Cond.instanceMethod yX0_shareOf, Cond.selects RX0 yX0_shareOf yX0_shareOf, Cond.code yX0_shareOf cX0_shareOf 5 (some .int), Cond.methodLink RX0 60 Lib.Math.min.name, Cond.static Lib.Math.min.name, Cond.initialized "java/lang/Math", Cond.code Lib.Math.min.name Lib.Math.min.code 2 (some .int), Cond.static yX7_quotient, Cond.code yX7_quotient cX7_quotient 2 (some .int), Cond.methodLink RX7 141 yX0_hatsLost, Cond.instanceMethod yX0_hatsLost, Cond.selects RX0 yX0_hatsLost yX0_hatsLost, Cond.code yX0_hatsLost cX0_hatsLost 4 (some .int), Cond.fieldLink RX0 21 "HatWinds$Town" "streets" "LHatWinds$Streets;", Cond.methodLink RX0 81 yX0_hatsLostIn, Cond.instanceMethod yX0_hatsLostIn, Cond.selects RX0 yX0_hatsLostIn yX0_hatsLostIn]
def wsX7_windFor_r3 : List Cond := [Cond.code yX0_hatsLostIn cX0_hatsLostIn 4 (some .int), Cond.fieldLink RX0 65 "HatWinds$Town" "settings" "[I", Cond.fieldLink RX0 78 "HatWinds$Streets" "people" "[I", Cond.methodLink RX0 74 yX0_gustIn, Cond.instanceMethod yX0_gustIn, Cond.selects RX0 yX0_gustIn yX0_gustIn, Cond.code yX0_gustIn cX0_gustIn 3 (some .int)]
def wsX7_windFor : List Cond := .code yX7_windFor cX7_windFor 3 (some .int) :: ((wsX7_windFor_r1 ++ (wsX7_windFor_r2 ++ wsX7_windFor_r3)) ++ wsX70 ++ wsX60 ++ wsX50 ++ wsX00)
def wsX7_windOfFlag_r1 : List Cond := [Cond.fieldLink RX7 10 "HatWinds" "town" "LHatWinds$Town;", Cond.fieldLink RX7 84 "HatWinds$Town" "streets" "LHatWinds$Streets;", Cond.fieldLink RX7 171 "HatWinds$Streets" "cloth" "[I", Cond.fieldLink RX7 19 "HatWinds" "air" "LHatWinds$Air;", Cond.methodLink RX7 102 yX5_has, Cond.instanceMethod yX5_has, Cond.selects RX5 yX5_has yX5_has, Cond.initialized RX5, Cond.code yX5_has cX5_has 2 (some .boolean), Cond.fieldLink RX5 27 "HatWinds$Streets" "number" "I", Cond.static yX7_isIndexOf, Cond.initialized RX7, Cond.code yX7_isIndexOf cX7_isIndexOf 2 (some .boolean), Cond.methodLink RX7 69 yX7_isWithin, Cond.static yX7_isWithin, Cond.code yX7_isWithin cX7_isWithin 3 (some .boolean), Cond.methodLink RX7 238 yX0_part, Cond.instanceMethod yX0_part, Cond.selects RX0 yX0_part yX0_part, Cond.initialized RX0, Cond.code yX0_part cX0_part 5 none, Cond.fieldLink RX0 37 "HatWinds$Streets" "number" "I", Cond.fieldLink RX0 9 "HatWinds$Air" "together" "[I", Cond.fieldLink RX0 15 "HatWinds$Air" "narrower" "[I"]
def wsX7_windOfFlag_r2 : List Cond := [Cond.fieldLink RX0 42 "HatWinds$Streets" "from" "[I", Cond.fieldLink RX0 45 "HatWinds$Streets" "width" "[I", Cond.methodLink RX7 242 yX0_blow, Cond.instanceMethod yX0_blow, Cond.selects RX0 yX0_blow yX0_blow, Cond.code yX0_blow cX0_blow 5 none, Cond.fieldLink RX0 18 "HatWinds$Air" "force" "[I", Cond.methodLink RX0 48 yX5_has, Cond.methodLink RX0 52 yX0_shareOf, Cond.instanceMethod yX0_shareOf, Cond.selects RX0 yX0_shareOf yX0_shareOf, Cond.code yX0_shareOf cX0_shareOf 5 (some .int), Cond.methodLink RX0 60 Lib.Math.min.name, Cond.static Lib.Math.min.name, Cond.initialized "java/lang/Math", Cond.code Lib.Math.min.name Lib.Math.min.code 2 (some .int), Cond.static yX7_quotient, Cond.code yX7_quotient cX7_quotient 2 (some .int), Cond.methodLink RX7 196 yX0_flagSteps, Cond.instanceMethod yX0_flagSteps, Cond.selects RX0 yX0_flagSteps yX0_flagSteps, Cond.code yX0_flagSteps cX0_flagSteps 4 (some .int), Cond.fieldLink RX0 21 "HatWinds$Town" "streets" "LHatWinds$Streets;", Cond.fieldLink RX0 68 "HatWinds$Streets" "cloth" "[I"]
def wsX7_windOfFlag_r3 : List Cond := [Cond.fieldLink RX0 65 "HatWinds$Town" "settings" "[I"]
def wsX7_windOfFlag : List Cond := .code yX7_windOfFlag cX7_windOfFlag 4 (some .int) :: ((wsX7_windOfFlag_r1 ++ (wsX7_windOfFlag_r2 ++ wsX7_windOfFlag_r3)) ++ wsX70 ++ wsX60 ++ wsX50 ++ wsX00)
def wsX7_without_r1 : List Cond := [Cond.fieldLink RX7 10 "HatWinds" "town" "LHatWinds$Town;", Cond.fieldLink RX7 84 "HatWinds$Town" "streets" "LHatWinds$Streets;", Cond.fieldLink RX7 165 "HatWinds$Streets" "from" "[I", Cond.fieldLink RX7 19 "HatWinds" "air" "LHatWinds$Air;", Cond.fieldLink RX7 190 "HatWinds$Air" "force" "[I", Cond.fieldLink RX7 126 "HatWinds$Town" "force" "I", Cond.methodLink RX7 102 yX5_has, Cond.instanceMethod yX5_has, Cond.selects RX5 yX5_has yX5_has, Cond.initialized RX5, Cond.code yX5_has cX5_has 2 (some .boolean), Cond.fieldLink RX5 27 "HatWinds$Streets" "number" "I", Cond.static yX7_isIndexOf, Cond.initialized RX7, Cond.code yX7_isIndexOf cX7_isIndexOf 2 (some .boolean), Cond.methodLink RX7 138 yX0_blowIn, Cond.instanceMethod yX0_blowIn, Cond.selects RX0 yX0_blowIn yX0_blowIn, Cond.initialized RX0, Cond.code yX0_blowIn cX0_blowIn 2 none, Cond.fieldLink RX0 21 "HatWinds$Town" "streets" "LHatWinds$Streets;", Cond.fieldLink RX0 31 "HatWinds$Town" "force" "I", Cond.methodLink RX0 27 yX0_part, Cond.instanceMethod yX0_part]
def wsX7_without_r2 : List Cond := [Cond.selects RX0 yX0_part yX0_part, Cond.code yX0_part cX0_part 5 none, Cond.fieldLink RX0 37 "HatWinds$Streets" "number" "I", Cond.fieldLink RX0 9 "HatWinds$Air" "together" "[I", Cond.fieldLink RX0 15 "HatWinds$Air" "narrower" "[I", Cond.fieldLink RX0 42 "HatWinds$Streets" "from" "[I", Cond.fieldLink RX0 45 "HatWinds$Streets" "width" "[I", Cond.methodLink RX0 34 yX0_blow, Cond.instanceMethod yX0_blow, Cond.selects RX0 yX0_blow yX0_blow, Cond.code yX0_blow cX0_blow 5 none, Cond.fieldLink RX0 18 "HatWinds$Air" "force" "[I", Cond.methodLink RX0 48 yX5_has, Cond.methodLink RX0 52 yX0_shareOf, Cond.instanceMethod yX0_shareOf, Cond.selects RX0 yX0_shareOf yX0_shareOf, Cond.code yX0_shareOf cX0_shareOf 5 (some .int), Cond.methodLink RX0 60 Lib.Math.min.name, Cond.static Lib.Math.min.name, Cond.initialized "java/lang/Math", Cond.code Lib.Math.min.name Lib.Math.min.code 2 (some .int), Cond.static yX7_quotient, Cond.code yX7_quotient cX7_quotient 2 (some .int), Cond.methodLink RX7 238 yX0_part]
def wsX7_without_r3 : List Cond := [Cond.methodLink RX7 242 yX0_blow]
def wsX7_without : List Cond := .code yX7_without cX7_without 5 (some .int) :: ((wsX7_without_r1 ++ (wsX7_without_r2 ++ wsX7_without_r3)) ++ wsX70 ++ wsX60 ++ wsX50 ++ wsX00)
def wsX7_windiest_r1 : List Cond := [Cond.fieldLink RX7 19 "HatWinds" "air" "LHatWinds$Air;", Cond.fieldLink RX7 10 "HatWinds" "town" "LHatWinds$Town;", Cond.fieldLink RX7 84 "HatWinds$Town" "streets" "LHatWinds$Streets;", Cond.fieldLink RX7 98 "HatWinds$Streets" "number" "I", Cond.fieldLink RX7 190 "HatWinds$Air" "force" "[I", Cond.methodLink RX7 138 yX0_blowIn, Cond.instanceMethod yX0_blowIn, Cond.selects RX0 yX0_blowIn yX0_blowIn, Cond.initialized RX0, Cond.code yX0_blowIn cX0_blowIn 2 none, Cond.fieldLink RX0 21 "HatWinds$Town" "streets" "LHatWinds$Streets;", Cond.fieldLink RX0 31 "HatWinds$Town" "force" "I", Cond.methodLink RX0 27 yX0_part, Cond.instanceMethod yX0_part, Cond.selects RX0 yX0_part yX0_part, Cond.code yX0_part cX0_part 5 none, Cond.fieldLink RX0 37 "HatWinds$Streets" "number" "I", Cond.fieldLink RX0 9 "HatWinds$Air" "together" "[I", Cond.fieldLink RX0 15 "HatWinds$Air" "narrower" "[I", Cond.fieldLink RX0 42 "HatWinds$Streets" "from" "[I", Cond.fieldLink RX0 45 "HatWinds$Streets" "width" "[I", Cond.methodLink RX0 34 yX0_blow, Cond.instanceMethod yX0_blow, Cond.selects RX0 yX0_blow yX0_blow]
def wsX7_windiest_r2 : List Cond := [Cond.code yX0_blow cX0_blow 5 none, Cond.fieldLink RX0 18 "HatWinds$Air" "force" "[I", Cond.methodLink RX0 48 yX5_has, Cond.instanceMethod yX5_has, Cond.selects RX5 yX5_has yX5_has, Cond.initialized RX5, Cond.code yX5_has cX5_has 2 (some .boolean), Cond.fieldLink RX5 27 "HatWinds$Streets" "number" "I", Cond.static yX7_isIndexOf, Cond.initialized RX7, Cond.code yX7_isIndexOf cX7_isIndexOf 2 (some .boolean), Cond.methodLink RX0 52 yX0_shareOf, Cond.instanceMethod yX0_shareOf, Cond.selects RX0 yX0_shareOf yX0_shareOf, Cond.code yX0_shareOf cX0_shareOf 5 (some .int), Cond.methodLink RX0 60 Lib.Math.min.name, Cond.static Lib.Math.min.name, Cond.initialized "java/lang/Math", Cond.code Lib.Math.min.name Lib.Math.min.code 2 (some .int), Cond.static yX7_quotient, Cond.code yX7_quotient cX7_quotient 2 (some .int), Cond.methodLink RX7 180 yX5_branchesOff, Cond.instanceMethod yX5_branchesOff, Cond.selects RX5 yX5_branchesOff yX5_branchesOff]
def wsX7_windiest_r3 : List Cond := [Cond.code yX5_branchesOff cX5_branchesOff 4 (some .int), Cond.fieldLink RX5 9 "HatWinds$Streets" "from" "[I"]
def wsX7_windiest : List Cond := .code yX7_windiest cX7_windiest 4 (some .int) :: ((wsX7_windiest_r1 ++ (wsX7_windiest_r2 ++ wsX7_windiest_r3)) ++ wsX70 ++ wsX60 ++ wsX50 ++ wsX00)
def wsX7_signsIn : List Cond := .code yX7_signsIn cX7_signsIn 6 (some .int) :: ([.constantLong RX7 249 (255), .methodLink RX7 69 yX7_isWithin, .static yX7_isWithin, .initialized RX7, .code yX7_isWithin cX7_isWithin 3 (some .boolean)])
def wsX7_put : List Cond := .code yX7_put cX7_put 5 (some .int) :: ([.fieldLink RX7 41 "HatWinds" "pad" "LHatWinds$Pad;", .fieldLink RX7 162 "HatWinds$Pad" "length" "I", .constantLong RX7 249 (255), .methodLink RX7 245 yX7_signsIn, .static yX7_signsIn, .initialized RX7, .code yX7_signsIn cX7_signsIn 6 (some .int), .methodLink RX7 69 yX7_isWithin, .static yX7_isWithin, .code yX7_isWithin cX7_isWithin 3 (some .boolean), .methodLink RX7 251 yX3_add, .instanceMethod yX3_add, .selects RX3 yX3_add yX3_add, .initialized RX3, .code yX3_add cX3_add 2 none, .fieldLink RX3 15 "HatWinds$Pad" "length" "I", .fieldLink RX3 19 "HatWinds$Pad" "overflowed" "Z", .fieldLink RX3 9 "HatWinds$Pad" "signs" "[C"] ++ wsX70 ++ wsX30)
def wsX7_wipe : List Cond := .code yX7_wipe cX7_wipe 2 (some .int) :: ([.fieldLink RX7 41 "HatWinds" "pad" "LHatWinds$Pad;", .fieldLink RX7 162 "HatWinds$Pad" "length" "I", .methodLink RX7 95 yX3_clear, .instanceMethod yX3_clear, .selects RX3 yX3_clear yX3_clear, .initialized RX3, .code yX3_clear cX3_clear 1 none, .fieldLink RX3 15 "HatWinds$Pad" "length" "I", .fieldLink RX3 19 "HatWinds$Pad" "overflowed" "Z"] ++ wsX70 ++ wsX30)
def wsX7_fault_r1 : List Cond := [Cond.fieldLink RX7 51 "HatWinds" "reader" "LHatWinds$Reader;", Cond.fieldLink RX7 41 "HatWinds" "pad" "LHatWinds$Pad;", Cond.methodLink RX7 80 yX4_read, Cond.instanceMethod yX4_read, Cond.selects RX4 yX4_read yX4_read, Cond.initialized RX4, Cond.code yX4_read cX4_read 3 (some .int), Cond.fieldLink RX4 12 "HatWinds$Reader" "streets" "LHatWinds$Streets;", Cond.fieldLink RX4 18 "HatWinds$Reader" "last" "I", Cond.fieldLink RX4 22 "HatWinds$Reader" "parent" "I", Cond.fieldLink RX4 28 "HatWinds$Pad" "length" "I", Cond.fieldLink RX4 33 "HatWinds$Pad" "signs" "[C", Cond.methodLink RX4 25 yX5_clear, Cond.instanceMethod yX5_clear, Cond.selects RX5 yX5_clear yX5_clear, Cond.initialized RX5, Cond.code yX5_clear cX5_clear 1 none, Cond.fieldLink RX5 27 "HatWinds$Streets" "number" "I", Cond.methodLink RX4 37 yX4_takes, Cond.instanceMethod yX4_takes, Cond.selects RX4 yX4_takes yX4_takes, Cond.code yX4_takes cX4_takes 3 (some .boolean), Cond.fieldLink RX4 41 "HatWinds$Streets" "number" "I", Cond.methodLink RX4 44 yX4_takesWidth]
def wsX7_fault_r2 : List Cond := [Cond.instanceMethod yX4_takesWidth, Cond.selects RX4 yX4_takesWidth yX4_takesWidth, Cond.code yX4_takesWidth cX4_takesWidth 2 (some .boolean), Cond.static yX7_isWithin, Cond.initialized RX7, Cond.code yX7_isWithin cX7_isWithin 3 (some .boolean), Cond.methodLink RX4 80 yX5_hasRoomOff, Cond.instanceMethod yX5_hasRoomOff, Cond.selects RX5 yX5_hasRoomOff yX5_hasRoomOff, Cond.code yX5_hasRoomOff cX5_hasRoomOff 2 (some .boolean), Cond.methodLink RX5 39 yX5_branchesOff, Cond.instanceMethod yX5_branchesOff, Cond.selects RX5 yX5_branchesOff yX5_branchesOff, Cond.code yX5_branchesOff cX5_branchesOff 4 (some .int), Cond.fieldLink RX5 9 "HatWinds$Streets" "from" "[I", Cond.methodLink RX5 43 yJ6_bitCount_0f7a4, Cond.static yJ6_bitCount_0f7a4, Cond.initialized RJ6, Cond.code yJ6_bitCount_0f7a4 cJ6_bitCount_0f7a4 1 (some .int), Cond.constant RJ6 265 (1431655765), Cond.constant RJ6 266 (858993459), Cond.constant RJ6 267 (252645135), Cond.methodLink RX4 83 yX5_add, Cond.instanceMethod yX5_add]
def wsX7_fault_r3 : List Cond := [Cond.selects RX5 yX5_add yX5_add, Cond.code yX5_add cX5_add 3 (some .int), Cond.fieldLink RX5 15 "HatWinds$Streets" "width" "[I", Cond.fieldLink RX5 18 "HatWinds$Streets" "cloth" "[I", Cond.fieldLink RX5 21 "HatWinds$Streets" "smoke" "[I", Cond.fieldLink RX5 24 "HatWinds$Streets" "people" "[I", Cond.methodLink RX4 47 yX4_takesFirstDigit, Cond.instanceMethod yX4_takesFirstDigit, Cond.selects RX4 yX4_takesFirstDigit yX4_takesFirstDigit, Cond.code yX4_takesFirstDigit cX4_takesFirstDigit 3 (some .boolean), Cond.fieldLink RX4 94 "HatWinds$Streets" "people" "[I", Cond.methodLink RX4 67 yX4_isDigit, Cond.static yX4_isDigit, Cond.code yX4_isDigit cX4_isDigit 1 (some .boolean), Cond.methodLink RX4 51 yX4_takesSmoke, Cond.instanceMethod yX4_takesSmoke, Cond.selects RX4 yX4_takesSmoke yX4_takesSmoke, Cond.code yX4_takesSmoke cX4_takesSmoke 2 (some .boolean), Cond.fieldLink RX4 91 "HatWinds$Streets" "smoke" "[I", Cond.methodLink RX4 54 yX4_takesStar, Cond.instanceMethod yX4_takesStar, Cond.selects RX4 yX4_takesStar yX4_takesStar, Cond.code yX4_takesStar cX4_takesStar 1 (some .boolean), Cond.methodLink RX4 58 yX4_opens]
def wsX7_fault_r4 : List Cond := [Cond.instanceMethod yX4_opens, Cond.selects RX4 yX4_opens yX4_opens, Cond.code yX4_opens cX4_opens 2 (some .boolean), Cond.methodLink RX4 61 yX4_goesOn, Cond.instanceMethod yX4_goesOn, Cond.selects RX4 yX4_goesOn yX4_goesOn, Cond.code yX4_goesOn cX4_goesOn 1 (some .boolean), Cond.methodLink RX4 97 yX5_has, Cond.instanceMethod yX5_has, Cond.selects RX5 yX5_has yX5_has, Cond.code yX5_has cX5_has 2 (some .boolean), Cond.static yX7_isIndexOf, Cond.code yX7_isIndexOf cX7_isIndexOf 2 (some .boolean), Cond.methodLink RX4 64 yX4_closes, Cond.instanceMethod yX4_closes, Cond.selects RX4 yX4_closes yX4_closes, Cond.code yX4_closes cX4_closes 1 (some .boolean), Cond.fieldLink RX4 100 "HatWinds$Streets" "from" "[I", Cond.methodLink RX4 70 yX4_takesSecondDigit, Cond.instanceMethod yX4_takesSecondDigit, Cond.selects RX4 yX4_takesSecondDigit yX4_takesSecondDigit, Cond.code yX4_takesSecondDigit cX4_takesSecondDigit 3 (some .boolean), Cond.methodLink RX4 73 yX4_takesFlag, Cond.instanceMethod yX4_takesFlag]
def wsX7_fault_r5 : List Cond := [Cond.selects RX4 yX4_takesFlag yX4_takesFlag, Cond.code yX4_takesFlag cX4_takesFlag 3 (some .boolean), Cond.fieldLink RX4 87 "HatWinds$Streets" "cloth" "[I"]
def wsX7_fault : List Cond := .code yX7_fault cX7_fault 1 (some .int) :: ((wsX7_fault_r1 ++ (wsX7_fault_r2 ++ (wsX7_fault_r3 ++ (wsX7_fault_r4 ++ wsX7_fault_r5)))) ++ wsX70 ++ wsX40 ++ wsX30 ++ wsX50)
def wsX7_undo_r1 : List Cond := [Cond.fieldLink RX7 26 "HatWinds" "history" "LHatWinds$History;", Cond.fieldLink RX7 237 "HatWinds$History" "length" "I", Cond.fieldLink RX7 10 "HatWinds" "town" "LHatWinds$Town;", Cond.methodLink RX7 254 yX1_takeBack, Cond.instanceMethod yX1_takeBack, Cond.selects RX1 yX1_takeBack yX1_takeBack, Cond.initialized RX1, Cond.code yX1_takeBack cX1_takeBack 2 none, Cond.fieldLink RX1 21 "HatWinds$History" "length" "I", Cond.fieldLink RX1 11 "HatWinds$History" "states" "[LHatWinds$Town;", Cond.fieldLink RX1 17 "HatWinds$History" "oldest" "I", Cond.methodLink RX1 25 yX6_copy, Cond.instanceMethod yX6_copy, Cond.selects RX6 yX6_copy yX6_copy, Cond.initialized RX6, Cond.code yX6_copy cX6_copy 2 none, Cond.fieldLink RX6 18 "HatWinds$Town" "settings" "[I", Cond.fieldLink RX6 26 "HatWinds$Town" "streets" "LHatWinds$Streets;", Cond.fieldLink RX6 33 "HatWinds$Town" "hours" "LHatWinds$Hours;", Cond.fieldLink RX6 37 "HatWinds$Town" "force" "I", Cond.static yX7_copyRow, Cond.initialized RX7, Cond.code yX7_copyRow cX7_copyRow 2 none, Cond.methodLink RX7 263 Lib.Math.min.name]
def wsX7_undo_r2 : List Cond := [Cond.static Lib.Math.min.name, Cond.initialized "java/lang/Math", Cond.code Lib.Math.min.name Lib.Math.min.code 2 (some .int), Cond.methodLink RX7 268 arraycopyName, Cond.native arraycopyName, Cond.static arraycopyName, Cond.initialized "java/lang/System", Cond.methodLink RX6 49 yX5_copy, Cond.instanceMethod yX5_copy, Cond.selects RX5 yX5_copy yX5_copy, Cond.initialized RX5, Cond.code yX5_copy cX5_copy 2 none, Cond.fieldLink RX5 9 "HatWinds$Streets" "from" "[I", Cond.fieldLink RX5 15 "HatWinds$Streets" "width" "[I", Cond.fieldLink RX5 18 "HatWinds$Streets" "cloth" "[I", Cond.fieldLink RX5 21 "HatWinds$Streets" "smoke" "[I", Cond.fieldLink RX5 24 "HatWinds$Streets" "people" "[I", Cond.fieldLink RX5 27 "HatWinds$Streets" "number" "I", Cond.methodLink RX6 53 yX2_copy, Cond.instanceMethod yX2_copy, Cond.selects RX2 yX2_copy yX2_copy, Cond.initialized RX2, Cond.code yX2_copy cX2_copy 2 none, Cond.fieldLink RX2 9 "HatWinds$Hours" "forces" "[I"]
def wsX7_undo_r3 : List Cond := [Cond.fieldLink RX2 15 "HatWinds$Hours" "lost" "[I", Cond.fieldLink RX2 18 "HatWinds$Hours" "worst" "[I", Cond.fieldLink RX2 21 "HatWinds$Hours" "passed" "I", Cond.fieldLink RX2 25 "HatWinds$Hours" "lostSoFar" "I"]
def wsX7_undo : List Cond := .code yX7_undo cX7_undo 1 (some .int) :: ((wsX7_undo_r1 ++ (wsX7_undo_r2 ++ wsX7_undo_r3)) ++ wsX70 ++ wsX10 ++ wsX60 ++ wsX50 ++ wsX20)
def wsX7_save_r1 : List Cond := [Cond.fieldLink RX7 30 "HatWinds" "slots" "[LHatWinds$Town;", Cond.fieldLink RX7 10 "HatWinds" "town" "LHatWinds$Town;", Cond.fieldLink RX7 34 "HatWinds" "filled" "[Z", Cond.fieldLink RX7 84 "HatWinds$Town" "streets" "LHatWinds$Streets;", Cond.fieldLink RX7 98 "HatWinds$Streets" "number" "I", Cond.methodLink RX7 59 yX7_isIndexOf, Cond.static yX7_isIndexOf, Cond.initialized RX7, Cond.code yX7_isIndexOf cX7_isIndexOf 2 (some .boolean), Cond.methodLink RX7 257 yX6_copy, Cond.instanceMethod yX6_copy, Cond.selects RX6 yX6_copy yX6_copy, Cond.initialized RX6, Cond.code yX6_copy cX6_copy 2 none, Cond.fieldLink RX6 18 "HatWinds$Town" "settings" "[I", Cond.fieldLink RX6 26 "HatWinds$Town" "streets" "LHatWinds$Streets;", Cond.fieldLink RX6 33 "HatWinds$Town" "hours" "LHatWinds$Hours;", Cond.fieldLink RX6 37 "HatWinds$Town" "force" "I", Cond.static yX7_copyRow, Cond.code yX7_copyRow cX7_copyRow 2 none, Cond.methodLink RX7 263 Lib.Math.min.name, Cond.static Lib.Math.min.name, Cond.initialized "java/lang/Math", Cond.code Lib.Math.min.name Lib.Math.min.code 2 (some .int)]
def wsX7_save_r2 : List Cond := [Cond.methodLink RX7 268 arraycopyName, Cond.native arraycopyName, Cond.static arraycopyName, Cond.initialized "java/lang/System", Cond.methodLink RX6 49 yX5_copy, Cond.instanceMethod yX5_copy, Cond.selects RX5 yX5_copy yX5_copy, Cond.initialized RX5, Cond.code yX5_copy cX5_copy 2 none, Cond.fieldLink RX5 9 "HatWinds$Streets" "from" "[I", Cond.fieldLink RX5 15 "HatWinds$Streets" "width" "[I", Cond.fieldLink RX5 18 "HatWinds$Streets" "cloth" "[I", Cond.fieldLink RX5 21 "HatWinds$Streets" "smoke" "[I", Cond.fieldLink RX5 24 "HatWinds$Streets" "people" "[I", Cond.fieldLink RX5 27 "HatWinds$Streets" "number" "I", Cond.methodLink RX6 53 yX2_copy, Cond.instanceMethod yX2_copy, Cond.selects RX2 yX2_copy yX2_copy, Cond.initialized RX2, Cond.code yX2_copy cX2_copy 2 none, Cond.fieldLink RX2 9 "HatWinds$Hours" "forces" "[I", Cond.fieldLink RX2 15 "HatWinds$Hours" "lost" "[I", Cond.fieldLink RX2 18 "HatWinds$Hours" "worst" "[I", Cond.fieldLink RX2 21 "HatWinds$Hours" "passed" "I"]
def wsX7_save_r3 : List Cond := [Cond.fieldLink RX2 25 "HatWinds$Hours" "lostSoFar" "I"]
def wsX7_save : List Cond := .code yX7_save cX7_save 2 (some .int) :: ((wsX7_save_r1 ++ (wsX7_save_r2 ++ wsX7_save_r3)) ++ wsX70 ++ wsX60 ++ wsX50 ++ wsX20)
def wsX7_restore_r1 : List Cond := [Cond.fieldLink RX7 34 "HatWinds" "filled" "[Z", Cond.fieldLink RX7 26 "HatWinds" "history" "LHatWinds$History;", Cond.fieldLink RX7 10 "HatWinds" "town" "LHatWinds$Town;", Cond.fieldLink RX7 30 "HatWinds" "slots" "[LHatWinds$Town;", Cond.fieldLink RX7 84 "HatWinds$Town" "streets" "LHatWinds$Streets;", Cond.fieldLink RX7 98 "HatWinds$Streets" "number" "I", Cond.methodLink RX7 59 yX7_isIndexOf, Cond.static yX7_isIndexOf, Cond.initialized RX7, Cond.code yX7_isIndexOf cX7_isIndexOf 2 (some .boolean), Cond.methodLink RX7 73 yX1_keep, Cond.instanceMethod yX1_keep, Cond.selects RX1 yX1_keep yX1_keep, Cond.initialized RX1, Cond.code yX1_keep cX1_keep 2 none, Cond.fieldLink RX1 21 "HatWinds$History" "length" "I", Cond.fieldLink RX1 17 "HatWinds$History" "oldest" "I", Cond.fieldLink RX1 11 "HatWinds$History" "states" "[LHatWinds$Town;", Cond.methodLink RX1 25 yX6_copy, Cond.instanceMethod yX6_copy, Cond.selects RX6 yX6_copy yX6_copy, Cond.initialized RX6, Cond.code yX6_copy cX6_copy 2 none, Cond.fieldLink RX6 18 "HatWinds$Town" "settings" "[I"]
def wsX7_restore_r2 : List Cond := [Cond.fieldLink RX6 26 "HatWinds$Town" "streets" "LHatWinds$Streets;", Cond.fieldLink RX6 33 "HatWinds$Town" "hours" "LHatWinds$Hours;", Cond.fieldLink RX6 37 "HatWinds$Town" "force" "I", Cond.static yX7_copyRow, Cond.code yX7_copyRow cX7_copyRow 2 none, Cond.methodLink RX7 263 Lib.Math.min.name, Cond.static Lib.Math.min.name, Cond.initialized "java/lang/Math", Cond.code Lib.Math.min.name Lib.Math.min.code 2 (some .int), Cond.methodLink RX7 268 arraycopyName, Cond.native arraycopyName, Cond.static arraycopyName, Cond.initialized "java/lang/System", Cond.methodLink RX6 49 yX5_copy, Cond.instanceMethod yX5_copy, Cond.selects RX5 yX5_copy yX5_copy, Cond.initialized RX5, Cond.code yX5_copy cX5_copy 2 none, Cond.fieldLink RX5 9 "HatWinds$Streets" "from" "[I", Cond.fieldLink RX5 15 "HatWinds$Streets" "width" "[I", Cond.fieldLink RX5 18 "HatWinds$Streets" "cloth" "[I", Cond.fieldLink RX5 21 "HatWinds$Streets" "smoke" "[I", Cond.fieldLink RX5 24 "HatWinds$Streets" "people" "[I", Cond.fieldLink RX5 27 "HatWinds$Streets" "number" "I"]
def wsX7_restore_r3 : List Cond := [Cond.methodLink RX6 53 yX2_copy, Cond.instanceMethod yX2_copy, Cond.selects RX2 yX2_copy yX2_copy, Cond.initialized RX2, Cond.code yX2_copy cX2_copy 2 none, Cond.fieldLink RX2 9 "HatWinds$Hours" "forces" "[I", Cond.fieldLink RX2 15 "HatWinds$Hours" "lost" "[I", Cond.fieldLink RX2 18 "HatWinds$Hours" "worst" "[I", Cond.fieldLink RX2 21 "HatWinds$Hours" "passed" "I", Cond.fieldLink RX2 25 "HatWinds$Hours" "lostSoFar" "I", Cond.methodLink RX7 257 yX6_copy]
def wsX7_restore : List Cond := .code yX7_restore cX7_restore 2 (some .int) :: ((wsX7_restore_r1 ++ (wsX7_restore_r2 ++ wsX7_restore_r3)) ++ wsX70 ++ wsX60 ++ wsX50 ++ wsX10 ++ wsX20)
def wsX8_at : List Cond := .code yX8_at cX8_at 2 (some .int) :: ([])
def wsX8_init : List Cond := .code yX8_init cX8_init 1 none :: ([.methodLink RX8 1 objectInit, .instanceMethod objectInit, .code objectInit ⟨#[0xb1]⟩ 1 none, .arrayClass .int, .fieldLink RX8 7 "HatWindsModel" "s" "[I", .fieldLink RX8 13 "HatWindsModel" "past" "[I", .fieldLink RX8 16 "HatWindsModel" "slots" "[I", .arrayClass .boolean, .fieldLink RX8 19 "HatWindsModel" "isSaved" "[Z", .fieldLink RX8 23 "HatWindsModel" "pad" "[I", .fieldLink RX8 26 "HatWindsModel" "forces" "[I", .fieldLink RX8 29 "HatWindsModel" "told" "[I", .fieldLink RX8 32 "HatWindsModel" "out" "[I", .methodLink RX8 35 yX8_at, .static yX8_at, .initialized RX8, .code yX8_at cX8_at 2 (some .int)] ++ wsX80)
def wsX8_in : List Cond := .code yX8_in cX8_in 3 (some .boolean) :: ([])
def wsX8_less : List Cond := .code yX8_less cX8_less 2 (some .int) :: ([])
def wsX8_its : List Cond := .code yX8_its cX8_its 3 (some .int) :: ([.fieldLink RX8 7 "HatWindsModel" "s" "[I", .methodLink RX8 35 yX8_at, .static yX8_at, .initialized RX8, .code yX8_at cX8_at 2 (some .int)] ++ wsX80)
def wsX8_isStreet : List Cond := .code yX8_isStreet cX8_isStreet 2 (some .boolean) :: ([.fieldLink RX8 7 "HatWindsModel" "s" "[I", .methodLink RX8 39 yX8_in, .static yX8_in, .initialized RX8, .code yX8_in cX8_in 3 (some .boolean)] ++ wsX80)
def wsX8_remembers : List Cond := .code yX8_remembers cX8_remembers 2 none :: ([.fieldLink RX8 43 "HatWindsModel" "known" "I", .fieldLink RX8 13 "HatWindsModel" "past" "[I", .fieldLink RX8 7 "HatWindsModel" "s" "[I"] ++ wsX80)
def wsX8_parted : List Cond := .code yX8_parted cX8_parted 8 (some .int) :: ([.fieldLink RX8 7 "HatWindsModel" "s" "[I", .fieldLink RX8 26 "HatWindsModel" "forces" "[I", .methodLink RX8 47 yX8_its, .instanceMethod yX8_its, .selects RX8 yX8_its yX8_its, .initialized RX8, .code yX8_its cX8_its 3 (some .int), .methodLink RX8 35 yX8_at, .static yX8_at, .code yX8_at cX8_at 2 (some .int), .methodLink RX8 50 yX8_less, .static yX8_less, .code yX8_less cX8_less 2 (some .int)] ++ wsX80)
def wsX8_blows : List Cond := .code yX8_blows cX8_blows 3 none :: ([.fieldLink RX8 26 "HatWindsModel" "forces" "[I", .fieldLink RX8 7 "HatWindsModel" "s" "[I", .methodLink RX8 53 yX8_parted, .instanceMethod yX8_parted, .selects RX8 yX8_parted yX8_parted, .initialized RX8, .code yX8_parted cX8_parted 8 (some .int), .methodLink RX8 47 yX8_its, .instanceMethod yX8_its, .selects RX8 yX8_its yX8_its, .code yX8_its cX8_its 3 (some .int), .methodLink RX8 35 yX8_at, .static yX8_at, .code yX8_at cX8_at 2 (some .int), .methodLink RX8 50 yX8_less, .static yX8_less, .code yX8_less cX8_less 2 (some .int)] ++ wsX80)
def wsX8_gustOf : List Cond := .code yX8_gustOf cX8_gustOf 2 (some .int) :: ([.fieldLink RX8 26 "HatWindsModel" "forces" "[I", .fieldLink RX8 7 "HatWindsModel" "s" "[I"] ++ wsX80)
def wsX8_hatsOf : List Cond := .code yX8_hatsOf cX8_hatsOf 3 (some .int) :: ([.fieldLink RX8 7 "HatWindsModel" "s" "[I", .methodLink RX8 56 yX8_gustOf, .instanceMethod yX8_gustOf, .selects RX8 yX8_gustOf yX8_gustOf, .initialized RX8, .code yX8_gustOf cX8_gustOf 2 (some .int), .fieldLink RX8 26 "HatWindsModel" "forces" "[I", .methodLink RX8 47 yX8_its, .instanceMethod yX8_its, .selects RX8 yX8_its yX8_its, .code yX8_its cX8_its 3 (some .int), .methodLink RX8 35 yX8_at, .static yX8_at, .code yX8_at cX8_at 2 (some .int), .methodLink RX8 50 yX8_less, .static yX8_less, .code yX8_less cX8_less 2 (some .int)] ++ wsX80)
def wsX8_hatsBy_r1 : List Cond := [Cond.fieldLink RX8 7 "HatWindsModel" "s" "[I", Cond.methodLink RX8 60 yX8_blows, Cond.instanceMethod yX8_blows, Cond.selects RX8 yX8_blows yX8_blows, Cond.initialized RX8, Cond.code yX8_blows cX8_blows 3 none, Cond.fieldLink RX8 26 "HatWindsModel" "forces" "[I", Cond.methodLink RX8 53 yX8_parted, Cond.instanceMethod yX8_parted, Cond.selects RX8 yX8_parted yX8_parted, Cond.code yX8_parted cX8_parted 8 (some .int), Cond.methodLink RX8 47 yX8_its, Cond.instanceMethod yX8_its, Cond.selects RX8 yX8_its yX8_its, Cond.code yX8_its cX8_its 3 (some .int), Cond.methodLink RX8 35 yX8_at, Cond.static yX8_at, Cond.code yX8_at cX8_at 2 (some .int), Cond.methodLink RX8 50 yX8_less, Cond.static yX8_less, Cond.code yX8_less cX8_less 2 (some .int), Cond.methodLink RX8 64 yX8_hatsOf, Cond.instanceMethod yX8_hatsOf, Cond.selects RX8 yX8_hatsOf yX8_hatsOf]
def wsX8_hatsBy_r2 : List Cond := [Cond.code yX8_hatsOf cX8_hatsOf 3 (some .int), Cond.methodLink RX8 56 yX8_gustOf, Cond.instanceMethod yX8_gustOf, Cond.selects RX8 yX8_gustOf yX8_gustOf, Cond.code yX8_gustOf cX8_gustOf 2 (some .int)]
def wsX8_hatsBy : List Cond := .code yX8_hatsBy cX8_hatsBy 4 (some .int) :: ((wsX8_hatsBy_r1 ++ wsX8_hatsBy_r2) ++ wsX80)
def wsX8_stepsOf : List Cond := .code yX8_stepsOf cX8_stepsOf 2 (some .int) :: ([.fieldLink RX8 26 "HatWindsModel" "forces" "[I", .fieldLink RX8 7 "HatWindsModel" "s" "[I", .methodLink RX8 47 yX8_its, .instanceMethod yX8_its, .selects RX8 yX8_its yX8_its, .initialized RX8, .code yX8_its cX8_its 3 (some .int), .methodLink RX8 35 yX8_at, .static yX8_at, .code yX8_at cX8_at 2 (some .int), .methodLink RX8 50 yX8_less, .static yX8_less, .code yX8_less cX8_less 2 (some .int)] ++ wsX80)
def wsX8_anHour_r1 : List Cond := [Cond.fieldLink RX8 7 "HatWindsModel" "s" "[I", Cond.methodLink RX8 67 yX8_hatsBy, Cond.instanceMethod yX8_hatsBy, Cond.selects RX8 yX8_hatsBy yX8_hatsBy, Cond.initialized RX8, Cond.code yX8_hatsBy cX8_hatsBy 4 (some .int), Cond.methodLink RX8 60 yX8_blows, Cond.instanceMethod yX8_blows, Cond.selects RX8 yX8_blows yX8_blows, Cond.code yX8_blows cX8_blows 3 none, Cond.fieldLink RX8 26 "HatWindsModel" "forces" "[I", Cond.methodLink RX8 53 yX8_parted, Cond.instanceMethod yX8_parted, Cond.selects RX8 yX8_parted yX8_parted, Cond.code yX8_parted cX8_parted 8 (some .int), Cond.methodLink RX8 47 yX8_its, Cond.instanceMethod yX8_its, Cond.selects RX8 yX8_its yX8_its, Cond.code yX8_its cX8_its 3 (some .int), Cond.methodLink RX8 35 yX8_at, Cond.static yX8_at, Cond.code yX8_at cX8_at 2 (some .int), Cond.methodLink RX8 50 yX8_less, Cond.static yX8_less]
def wsX8_anHour_r2 : List Cond := [Cond.code yX8_less cX8_less 2 (some .int), Cond.methodLink RX8 64 yX8_hatsOf, Cond.instanceMethod yX8_hatsOf, Cond.selects RX8 yX8_hatsOf yX8_hatsOf, Cond.code yX8_hatsOf cX8_hatsOf 3 (some .int), Cond.methodLink RX8 56 yX8_gustOf, Cond.instanceMethod yX8_gustOf, Cond.selects RX8 yX8_gustOf yX8_gustOf, Cond.code yX8_gustOf cX8_gustOf 2 (some .int)]
def wsX8_anHour : List Cond := .code yX8_anHour cX8_anHour 5 (some .int) :: ((wsX8_anHour_r1 ++ wsX8_anHour_r2) ++ wsX80)
def wsX8_pass_r1 : List Cond := [Cond.fieldLink RX8 7 "HatWindsModel" "s" "[I", Cond.methodLink RX8 39 yX8_in, Cond.static yX8_in, Cond.initialized RX8, Cond.code yX8_in cX8_in 3 (some .boolean), Cond.methodLink RX8 70 yX8_remembers, Cond.instanceMethod yX8_remembers, Cond.selects RX8 yX8_remembers yX8_remembers, Cond.code yX8_remembers cX8_remembers 2 none, Cond.fieldLink RX8 43 "HatWindsModel" "known" "I", Cond.fieldLink RX8 13 "HatWindsModel" "past" "[I", Cond.methodLink RX8 73 yX8_anHour, Cond.instanceMethod yX8_anHour, Cond.selects RX8 yX8_anHour yX8_anHour, Cond.code yX8_anHour cX8_anHour 5 (some .int), Cond.methodLink RX8 67 yX8_hatsBy, Cond.instanceMethod yX8_hatsBy, Cond.selects RX8 yX8_hatsBy yX8_hatsBy, Cond.code yX8_hatsBy cX8_hatsBy 4 (some .int), Cond.methodLink RX8 60 yX8_blows, Cond.instanceMethod yX8_blows, Cond.selects RX8 yX8_blows yX8_blows, Cond.code yX8_blows cX8_blows 3 none, Cond.fieldLink RX8 26 "HatWindsModel" "forces" "[I"]
def wsX8_pass_r2 : List Cond := [Cond.methodLink RX8 53 yX8_parted, Cond.instanceMethod yX8_parted, Cond.selects RX8 yX8_parted yX8_parted, Cond.code yX8_parted cX8_parted 8 (some .int), Cond.methodLink RX8 47 yX8_its, Cond.instanceMethod yX8_its, Cond.selects RX8 yX8_its yX8_its, Cond.code yX8_its cX8_its 3 (some .int), Cond.methodLink RX8 35 yX8_at, Cond.static yX8_at, Cond.code yX8_at cX8_at 2 (some .int), Cond.methodLink RX8 50 yX8_less, Cond.static yX8_less, Cond.code yX8_less cX8_less 2 (some .int), Cond.methodLink RX8 64 yX8_hatsOf, Cond.instanceMethod yX8_hatsOf, Cond.selects RX8 yX8_hatsOf yX8_hatsOf, Cond.code yX8_hatsOf cX8_hatsOf 3 (some .int), Cond.methodLink RX8 56 yX8_gustOf, Cond.instanceMethod yX8_gustOf, Cond.selects RX8 yX8_gustOf yX8_gustOf, Cond.code yX8_gustOf cX8_gustOf 2 (some .int)]
def wsX8_pass : List Cond := .code yX8_pass cX8_pass 4 (some .int) :: ((wsX8_pass_r1 ++ wsX8_pass_r2) ++ wsX80)
def wsX8_canSet : List Cond := .code yX8_canSet cX8_canSet 2 (some .boolean) :: ([.methodLink RX8 39 yX8_in, .static yX8_in, .initialized RX8, .code yX8_in cX8_in 3 (some .boolean)])
def wsX8_set : List Cond := .code yX8_set cX8_set 4 (some .int) :: ([.fieldLink RX8 7 "HatWindsModel" "s" "[I", .methodLink RX8 77 yX8_canSet, .static yX8_canSet, .initialized RX8, .code yX8_canSet cX8_canSet 2 (some .boolean), .methodLink RX8 39 yX8_in, .static yX8_in, .code yX8_in cX8_in 3 (some .boolean), .methodLink RX8 70 yX8_remembers, .instanceMethod yX8_remembers, .selects RX8 yX8_remembers yX8_remembers, .code yX8_remembers cX8_remembers 2 none, .fieldLink RX8 43 "HatWindsModel" "known" "I", .fieldLink RX8 13 "HatWindsModel" "past" "[I"] ++ wsX80)
def wsX8_branches : List Cond := .code yX8_branches cX8_branches 4 (some .int) :: ([.fieldLink RX8 7 "HatWindsModel" "s" "[I", .methodLink RX8 47 yX8_its, .instanceMethod yX8_its, .selects RX8 yX8_its yX8_its, .initialized RX8, .code yX8_its cX8_its 3 (some .int), .methodLink RX8 35 yX8_at, .static yX8_at, .code yX8_at cX8_at 2 (some .int)] ++ wsX80)
def wsX8_street_r1 : List Cond := [Cond.fieldLink RX8 7 "HatWindsModel" "s" "[I", Cond.methodLink RX8 81 yX8_isStreet, Cond.instanceMethod yX8_isStreet, Cond.selects RX8 yX8_isStreet yX8_isStreet, Cond.initialized RX8, Cond.code yX8_isStreet cX8_isStreet 2 (some .boolean), Cond.methodLink RX8 39 yX8_in, Cond.static yX8_in, Cond.code yX8_in cX8_in 3 (some .boolean), Cond.methodLink RX8 85 yX8_branches, Cond.instanceMethod yX8_branches, Cond.selects RX8 yX8_branches yX8_branches, Cond.code yX8_branches cX8_branches 4 (some .int), Cond.methodLink RX8 47 yX8_its, Cond.instanceMethod yX8_its, Cond.selects RX8 yX8_its yX8_its, Cond.code yX8_its cX8_its 3 (some .int), Cond.methodLink RX8 35 yX8_at, Cond.static yX8_at, Cond.code yX8_at cX8_at 2 (some .int), Cond.methodLink RX8 70 yX8_remembers, Cond.instanceMethod yX8_remembers, Cond.selects RX8 yX8_remembers yX8_remembers, Cond.code yX8_remembers cX8_remembers 2 none]
def wsX8_street_r2 : List Cond := [Cond.fieldLink RX8 43 "HatWindsModel" "known" "I", Cond.fieldLink RX8 13 "HatWindsModel" "past" "[I"]
def wsX8_street : List Cond := .code yX8_street cX8_street 4 (some .int) :: ((wsX8_street_r1 ++ wsX8_street_r2) ++ wsX80)
def wsX8_kept : List Cond := .code yX8_kept cX8_kept 1 (some .int) :: ([])
def wsX8_canChange : List Cond := .code yX8_canChange cX8_canChange 2 (some .boolean) :: ([.methodLink RX8 39 yX8_in, .static yX8_in, .initialized RX8, .code yX8_in cX8_in 3 (some .boolean)])
def wsX8_change_r1 : List Cond := [Cond.fieldLink RX8 7 "HatWindsModel" "s" "[I", Cond.methodLink RX8 81 yX8_isStreet, Cond.instanceMethod yX8_isStreet, Cond.selects RX8 yX8_isStreet yX8_isStreet, Cond.initialized RX8, Cond.code yX8_isStreet cX8_isStreet 2 (some .boolean), Cond.methodLink RX8 39 yX8_in, Cond.static yX8_in, Cond.code yX8_in cX8_in 3 (some .boolean), Cond.methodLink RX8 88 yX8_canChange, Cond.static yX8_canChange, Cond.code yX8_canChange cX8_canChange 2 (some .boolean), Cond.methodLink RX8 70 yX8_remembers, Cond.instanceMethod yX8_remembers, Cond.selects RX8 yX8_remembers yX8_remembers, Cond.code yX8_remembers cX8_remembers 2 none, Cond.fieldLink RX8 43 "HatWindsModel" "known" "I", Cond.fieldLink RX8 13 "HatWindsModel" "past" "[I", Cond.methodLink RX8 91 yX8_kept, Cond.static yX8_kept, Cond.code yX8_kept cX8_kept 1 (some .int), Cond.methodLink RX8 47 yX8_its, Cond.instanceMethod yX8_its, Cond.selects RX8 yX8_its yX8_its]
def wsX8_change_r2 : List Cond := [Cond.code yX8_its cX8_its 3 (some .int), Cond.methodLink RX8 35 yX8_at, Cond.static yX8_at, Cond.code yX8_at cX8_at 2 (some .int)]
def wsX8_change : List Cond := .code yX8_change cX8_change 5 (some .int) :: ((wsX8_change_r1 ++ wsX8_change_r2) ++ wsX80)
def wsX8_wind : List Cond := .code yX8_wind cX8_wind 3 (some .int) :: ([.fieldLink RX8 7 "HatWindsModel" "s" "[I", .methodLink RX8 39 yX8_in, .static yX8_in, .initialized RX8, .code yX8_in cX8_in 3 (some .boolean), .methodLink RX8 70 yX8_remembers, .instanceMethod yX8_remembers, .selects RX8 yX8_remembers yX8_remembers, .code yX8_remembers cX8_remembers 2 none, .fieldLink RX8 43 "HatWindsModel" "known" "I", .fieldLink RX8 13 "HatWindsModel" "past" "[I"] ++ wsX80)
def wsX8_branchSet : List Cond := .code yX8_branchSet cX8_branchSet 4 (some .int) :: ([.fieldLink RX8 7 "HatWindsModel" "s" "[I", .methodLink RX8 47 yX8_its, .instanceMethod yX8_its, .selects RX8 yX8_its yX8_its, .initialized RX8, .code yX8_its cX8_its 3 (some .int), .methodLink RX8 35 yX8_at, .static yX8_at, .code yX8_at cX8_at 2 (some .int)] ++ wsX80)
def wsX8_behind : List Cond := .code yX8_behind cX8_behind 6 (some .int) :: ([.fieldLink RX8 7 "HatWindsModel" "s" "[I", .methodLink RX8 47 yX8_its, .instanceMethod yX8_its, .selects RX8 yX8_its yX8_its, .initialized RX8, .code yX8_its cX8_its 3 (some .int), .methodLink RX8 35 yX8_at, .static yX8_at, .code yX8_at cX8_at 2 (some .int)] ++ wsX80)
def wsX8_depth : List Cond := .code yX8_depth cX8_depth 4 (some .int) :: ([.methodLink RX8 47 yX8_its, .instanceMethod yX8_its, .selects RX8 yX8_its yX8_its, .initialized RX8, .code yX8_its cX8_its 3 (some .int), .fieldLink RX8 7 "HatWindsModel" "s" "[I", .methodLink RX8 35 yX8_at, .static yX8_at, .code yX8_at cX8_at 2 (some .int)] ++ wsX80)
def wsX8_of_r1 : List Cond := [Cond.methodLink RX8 81 yX8_isStreet, Cond.instanceMethod yX8_isStreet, Cond.selects RX8 yX8_isStreet yX8_isStreet, Cond.initialized RX8, Cond.code yX8_isStreet cX8_isStreet 2 (some .boolean), Cond.fieldLink RX8 7 "HatWindsModel" "s" "[I", Cond.methodLink RX8 39 yX8_in, Cond.static yX8_in, Cond.code yX8_in cX8_in 3 (some .boolean), Cond.methodLink RX8 47 yX8_its, Cond.instanceMethod yX8_its, Cond.selects RX8 yX8_its yX8_its, Cond.code yX8_its cX8_its 3 (some .int), Cond.methodLink RX8 35 yX8_at, Cond.static yX8_at, Cond.code yX8_at cX8_at 2 (some .int), Cond.methodLink RX8 94 yX8_branchSet, Cond.instanceMethod yX8_branchSet, Cond.selects RX8 yX8_branchSet yX8_branchSet, Cond.code yX8_branchSet cX8_branchSet 4 (some .int), Cond.methodLink RX8 97 yX8_behind, Cond.instanceMethod yX8_behind, Cond.selects RX8 yX8_behind yX8_behind, Cond.code yX8_behind cX8_behind 6 (some .int)]
def wsX8_of_r2 : List Cond := [Cond.methodLink RX8 100 yX8_depth, Cond.instanceMethod yX8_depth, Cond.selects RX8 yX8_depth yX8_depth, Cond.code yX8_depth cX8_depth 4 (some .int)]
def wsX8_of : List Cond := .code yX8_of cX8_of 3 (some .int) :: ((wsX8_of_r1 ++ wsX8_of_r2) ++ wsX80)
def wsX8_now_r1 : List Cond := [Cond.fieldLink RX8 7 "HatWindsModel" "s" "[I", Cond.fieldLink RX8 26 "HatWindsModel" "forces" "[I", Cond.methodLink RX8 81 yX8_isStreet, Cond.instanceMethod yX8_isStreet, Cond.selects RX8 yX8_isStreet yX8_isStreet, Cond.initialized RX8, Cond.code yX8_isStreet cX8_isStreet 2 (some .boolean), Cond.methodLink RX8 39 yX8_in, Cond.static yX8_in, Cond.code yX8_in cX8_in 3 (some .boolean), Cond.methodLink RX8 60 yX8_blows, Cond.instanceMethod yX8_blows, Cond.selects RX8 yX8_blows yX8_blows, Cond.code yX8_blows cX8_blows 3 none, Cond.methodLink RX8 53 yX8_parted, Cond.instanceMethod yX8_parted, Cond.selects RX8 yX8_parted yX8_parted, Cond.code yX8_parted cX8_parted 8 (some .int), Cond.methodLink RX8 47 yX8_its, Cond.instanceMethod yX8_its, Cond.selects RX8 yX8_its yX8_its, Cond.code yX8_its cX8_its 3 (some .int), Cond.methodLink RX8 35 yX8_at, Cond.static yX8_at]
def wsX8_now_r2 : List Cond := [Cond.code yX8_at cX8_at 2 (some .int), Cond.methodLink RX8 50 yX8_less, Cond.static yX8_less, Cond.code yX8_less cX8_less 2 (some .int), Cond.methodLink RX8 56 yX8_gustOf, Cond.instanceMethod yX8_gustOf, Cond.selects RX8 yX8_gustOf yX8_gustOf, Cond.code yX8_gustOf cX8_gustOf 2 (some .int), Cond.methodLink RX8 103 yX8_stepsOf, Cond.instanceMethod yX8_stepsOf, Cond.selects RX8 yX8_stepsOf yX8_stepsOf, Cond.code yX8_stepsOf cX8_stepsOf 2 (some .int), Cond.methodLink RX8 64 yX8_hatsOf, Cond.instanceMethod yX8_hatsOf, Cond.selects RX8 yX8_hatsOf yX8_hatsOf, Cond.code yX8_hatsOf cX8_hatsOf 3 (some .int)]
def wsX8_now : List Cond := .code yX8_now cX8_now 3 (some .int) :: ((wsX8_now_r1 ++ wsX8_now_r2) ++ wsX80)
def wsX8_record : List Cond := .code yX8_record cX8_record 3 (some .int) :: ([.fieldLink RX8 7 "HatWindsModel" "s" "[I", .methodLink RX8 39 yX8_in, .static yX8_in, .initialized RX8, .code yX8_in cX8_in 3 (some .boolean)] ++ wsX80)
def wsX8_sign : List Cond := .code yX8_sign cX8_sign 2 (some .int) :: ([.fieldLink RX8 106 "HatWindsModel" "length" "I", .fieldLink RX8 23 "HatWindsModel" "pad" "[I", .methodLink RX8 39 yX8_in, .static yX8_in, .initialized RX8, .code yX8_in cX8_in 3 (some .boolean)] ++ wsX80)
def wsX8_people : List Cond := .code yX8_people cX8_people 3 (some .int) :: ([.fieldLink RX8 7 "HatWindsModel" "s" "[I", .methodLink RX8 47 yX8_its, .instanceMethod yX8_its, .selects RX8 yX8_its yX8_its, .initialized RX8, .code yX8_its cX8_its 3 (some .int), .methodLink RX8 35 yX8_at, .static yX8_at, .code yX8_at cX8_at 2 (some .int)] ++ wsX80)
def wsX8_calm_r1 : List Cond := [Cond.fieldLink RX8 7 "HatWindsModel" "s" "[I", Cond.fieldLink RX8 26 "HatWindsModel" "forces" "[I", Cond.methodLink RX8 60 yX8_blows, Cond.instanceMethod yX8_blows, Cond.selects RX8 yX8_blows yX8_blows, Cond.initialized RX8, Cond.code yX8_blows cX8_blows 3 none, Cond.methodLink RX8 53 yX8_parted, Cond.instanceMethod yX8_parted, Cond.selects RX8 yX8_parted yX8_parted, Cond.code yX8_parted cX8_parted 8 (some .int), Cond.methodLink RX8 47 yX8_its, Cond.instanceMethod yX8_its, Cond.selects RX8 yX8_its yX8_its, Cond.code yX8_its cX8_its 3 (some .int), Cond.methodLink RX8 35 yX8_at, Cond.static yX8_at, Cond.code yX8_at cX8_at 2 (some .int), Cond.methodLink RX8 50 yX8_less, Cond.static yX8_less, Cond.code yX8_less cX8_less 2 (some .int), Cond.methodLink RX8 64 yX8_hatsOf, Cond.instanceMethod yX8_hatsOf, Cond.selects RX8 yX8_hatsOf yX8_hatsOf]
def wsX8_calm_r2 : List Cond := [Cond.code yX8_hatsOf cX8_hatsOf 3 (some .int), Cond.methodLink RX8 56 yX8_gustOf, Cond.instanceMethod yX8_gustOf, Cond.selects RX8 yX8_gustOf yX8_gustOf, Cond.code yX8_gustOf cX8_gustOf 2 (some .int)]
def wsX8_calm : List Cond := .code yX8_calm cX8_calm 5 (some .int) :: ((wsX8_calm_r1 ++ wsX8_calm_r2) ++ wsX80)
def wsX8_count_r1 : List Cond := [Cond.fieldLink RX8 7 "HatWindsModel" "s" "[I", Cond.fieldLink RX8 106 "HatWindsModel" "length" "I", Cond.fieldLink RX8 43 "HatWindsModel" "known" "I", Cond.methodLink RX8 109 yX8_people, Cond.instanceMethod yX8_people, Cond.selects RX8 yX8_people yX8_people, Cond.initialized RX8, Cond.code yX8_people cX8_people 3 (some .int), Cond.methodLink RX8 47 yX8_its, Cond.instanceMethod yX8_its, Cond.selects RX8 yX8_its yX8_its, Cond.code yX8_its cX8_its 3 (some .int), Cond.methodLink RX8 35 yX8_at, Cond.static yX8_at, Cond.code yX8_at cX8_at 2 (some .int), Cond.methodLink RX8 67 yX8_hatsBy, Cond.instanceMethod yX8_hatsBy, Cond.selects RX8 yX8_hatsBy yX8_hatsBy, Cond.code yX8_hatsBy cX8_hatsBy 4 (some .int), Cond.methodLink RX8 60 yX8_blows, Cond.instanceMethod yX8_blows, Cond.selects RX8 yX8_blows yX8_blows, Cond.code yX8_blows cX8_blows 3 none, Cond.fieldLink RX8 26 "HatWindsModel" "forces" "[I"]
def wsX8_count_r2 : List Cond := [Cond.methodLink RX8 53 yX8_parted, Cond.instanceMethod yX8_parted, Cond.selects RX8 yX8_parted yX8_parted, Cond.code yX8_parted cX8_parted 8 (some .int), Cond.methodLink RX8 50 yX8_less, Cond.static yX8_less, Cond.code yX8_less cX8_less 2 (some .int), Cond.methodLink RX8 64 yX8_hatsOf, Cond.instanceMethod yX8_hatsOf, Cond.selects RX8 yX8_hatsOf yX8_hatsOf, Cond.code yX8_hatsOf cX8_hatsOf 3 (some .int), Cond.methodLink RX8 56 yX8_gustOf, Cond.instanceMethod yX8_gustOf, Cond.selects RX8 yX8_gustOf yX8_gustOf, Cond.code yX8_gustOf cX8_gustOf 2 (some .int), Cond.methodLink RX8 112 yX8_calm, Cond.instanceMethod yX8_calm, Cond.selects RX8 yX8_calm yX8_calm, Cond.code yX8_calm cX8_calm 5 (some .int), Cond.methodLink RX8 39 yX8_in, Cond.static yX8_in, Cond.code yX8_in cX8_in 3 (some .boolean)]
def wsX8_count : List Cond := .code yX8_count cX8_count 2 (some .int) :: ((wsX8_count_r1 ++ wsX8_count_r2) ++ wsX80)
def wsX8_ifWind_r1 : List Cond := [Cond.methodLink RX8 39 yX8_in, Cond.static yX8_in, Cond.initialized RX8, Cond.code yX8_in cX8_in 3 (some .boolean), Cond.methodLink RX8 67 yX8_hatsBy, Cond.instanceMethod yX8_hatsBy, Cond.selects RX8 yX8_hatsBy yX8_hatsBy, Cond.code yX8_hatsBy cX8_hatsBy 4 (some .int), Cond.fieldLink RX8 7 "HatWindsModel" "s" "[I", Cond.methodLink RX8 60 yX8_blows, Cond.instanceMethod yX8_blows, Cond.selects RX8 yX8_blows yX8_blows, Cond.code yX8_blows cX8_blows 3 none, Cond.fieldLink RX8 26 "HatWindsModel" "forces" "[I", Cond.methodLink RX8 53 yX8_parted, Cond.instanceMethod yX8_parted, Cond.selects RX8 yX8_parted yX8_parted, Cond.code yX8_parted cX8_parted 8 (some .int), Cond.methodLink RX8 47 yX8_its, Cond.instanceMethod yX8_its, Cond.selects RX8 yX8_its yX8_its, Cond.code yX8_its cX8_its 3 (some .int), Cond.methodLink RX8 35 yX8_at, Cond.static yX8_at]
def wsX8_ifWind_r2 : List Cond := [Cond.code yX8_at cX8_at 2 (some .int), Cond.methodLink RX8 50 yX8_less, Cond.static yX8_less, Cond.code yX8_less cX8_less 2 (some .int), Cond.methodLink RX8 64 yX8_hatsOf, Cond.instanceMethod yX8_hatsOf, Cond.selects RX8 yX8_hatsOf yX8_hatsOf, Cond.code yX8_hatsOf cX8_hatsOf 3 (some .int), Cond.methodLink RX8 56 yX8_gustOf, Cond.instanceMethod yX8_gustOf, Cond.selects RX8 yX8_gustOf yX8_gustOf, Cond.code yX8_gustOf cX8_gustOf 2 (some .int)]
def wsX8_ifWind : List Cond := .code yX8_ifWind cX8_ifWind 2 (some .int) :: ((wsX8_ifWind_r1 ++ wsX8_ifWind_r2) ++ wsX80)
def wsX8_windFor_r1 : List Cond := [Cond.methodLink RX8 39 yX8_in, Cond.static yX8_in, Cond.initialized RX8, Cond.code yX8_in cX8_in 3 (some .boolean), Cond.methodLink RX8 67 yX8_hatsBy, Cond.instanceMethod yX8_hatsBy, Cond.selects RX8 yX8_hatsBy yX8_hatsBy, Cond.code yX8_hatsBy cX8_hatsBy 4 (some .int), Cond.fieldLink RX8 7 "HatWindsModel" "s" "[I", Cond.methodLink RX8 60 yX8_blows, Cond.instanceMethod yX8_blows, Cond.selects RX8 yX8_blows yX8_blows, Cond.code yX8_blows cX8_blows 3 none, Cond.fieldLink RX8 26 "HatWindsModel" "forces" "[I", Cond.methodLink RX8 53 yX8_parted, Cond.instanceMethod yX8_parted, Cond.selects RX8 yX8_parted yX8_parted, Cond.code yX8_parted cX8_parted 8 (some .int), Cond.methodLink RX8 47 yX8_its, Cond.instanceMethod yX8_its, Cond.selects RX8 yX8_its yX8_its, Cond.code yX8_its cX8_its 3 (some .int), Cond.methodLink RX8 35 yX8_at, Cond.static yX8_at]
def wsX8_windFor_r2 : List Cond := [Cond.code yX8_at cX8_at 2 (some .int), Cond.methodLink RX8 50 yX8_less, Cond.static yX8_less, Cond.code yX8_less cX8_less 2 (some .int), Cond.methodLink RX8 64 yX8_hatsOf, Cond.instanceMethod yX8_hatsOf, Cond.selects RX8 yX8_hatsOf yX8_hatsOf, Cond.code yX8_hatsOf cX8_hatsOf 3 (some .int), Cond.methodLink RX8 56 yX8_gustOf, Cond.instanceMethod yX8_gustOf, Cond.selects RX8 yX8_gustOf yX8_gustOf, Cond.code yX8_gustOf cX8_gustOf 2 (some .int)]
def wsX8_windFor : List Cond := .code yX8_windFor cX8_windFor 3 (some .int) :: ((wsX8_windFor_r1 ++ wsX8_windFor_r2) ++ wsX80)
def wsX8_windOfFlag_r1 : List Cond := [Cond.methodLink RX8 81 yX8_isStreet, Cond.instanceMethod yX8_isStreet, Cond.selects RX8 yX8_isStreet yX8_isStreet, Cond.initialized RX8, Cond.code yX8_isStreet cX8_isStreet 2 (some .boolean), Cond.fieldLink RX8 7 "HatWindsModel" "s" "[I", Cond.methodLink RX8 39 yX8_in, Cond.static yX8_in, Cond.code yX8_in cX8_in 3 (some .boolean), Cond.methodLink RX8 47 yX8_its, Cond.instanceMethod yX8_its, Cond.selects RX8 yX8_its yX8_its, Cond.code yX8_its cX8_its 3 (some .int), Cond.methodLink RX8 35 yX8_at, Cond.static yX8_at, Cond.code yX8_at cX8_at 2 (some .int), Cond.methodLink RX8 60 yX8_blows, Cond.instanceMethod yX8_blows, Cond.selects RX8 yX8_blows yX8_blows, Cond.code yX8_blows cX8_blows 3 none, Cond.fieldLink RX8 26 "HatWindsModel" "forces" "[I", Cond.methodLink RX8 53 yX8_parted, Cond.instanceMethod yX8_parted, Cond.selects RX8 yX8_parted yX8_parted]
def wsX8_windOfFlag_r2 : List Cond := [Cond.code yX8_parted cX8_parted 8 (some .int), Cond.methodLink RX8 50 yX8_less, Cond.static yX8_less, Cond.code yX8_less cX8_less 2 (some .int), Cond.methodLink RX8 103 yX8_stepsOf, Cond.instanceMethod yX8_stepsOf, Cond.selects RX8 yX8_stepsOf yX8_stepsOf, Cond.code yX8_stepsOf cX8_stepsOf 2 (some .int)]
def wsX8_windOfFlag : List Cond := .code yX8_windOfFlag cX8_windOfFlag 4 (some .int) :: ((wsX8_windOfFlag_r1 ++ wsX8_windOfFlag_r2) ++ wsX80)
def wsX8_without_r1 : List Cond := [Cond.fieldLink RX8 7 "HatWindsModel" "s" "[I", Cond.fieldLink RX8 26 "HatWindsModel" "forces" "[I", Cond.methodLink RX8 81 yX8_isStreet, Cond.instanceMethod yX8_isStreet, Cond.selects RX8 yX8_isStreet yX8_isStreet, Cond.initialized RX8, Cond.code yX8_isStreet cX8_isStreet 2 (some .boolean), Cond.methodLink RX8 39 yX8_in, Cond.static yX8_in, Cond.code yX8_in cX8_in 3 (some .boolean), Cond.methodLink RX8 47 yX8_its, Cond.instanceMethod yX8_its, Cond.selects RX8 yX8_its yX8_its, Cond.code yX8_its cX8_its 3 (some .int), Cond.methodLink RX8 35 yX8_at, Cond.static yX8_at, Cond.code yX8_at cX8_at 2 (some .int), Cond.methodLink RX8 60 yX8_blows, Cond.instanceMethod yX8_blows, Cond.selects RX8 yX8_blows yX8_blows, Cond.code yX8_blows cX8_blows 3 none, Cond.methodLink RX8 53 yX8_parted, Cond.instanceMethod yX8_parted, Cond.selects RX8 yX8_parted yX8_parted]
def wsX8_without_r2 : List Cond := [Cond.code yX8_parted cX8_parted 8 (some .int), Cond.methodLink RX8 50 yX8_less, Cond.static yX8_less, Cond.code yX8_less cX8_less 2 (some .int)]
def wsX8_without : List Cond := .code yX8_without cX8_without 3 (some .int) :: ((wsX8_without_r1 ++ wsX8_without_r2) ++ wsX80)
def wsX8_windiest_r1 : List Cond := [Cond.fieldLink RX8 7 "HatWindsModel" "s" "[I", Cond.fieldLink RX8 26 "HatWindsModel" "forces" "[I", Cond.methodLink RX8 60 yX8_blows, Cond.instanceMethod yX8_blows, Cond.selects RX8 yX8_blows yX8_blows, Cond.initialized RX8, Cond.code yX8_blows cX8_blows 3 none, Cond.methodLink RX8 53 yX8_parted, Cond.instanceMethod yX8_parted, Cond.selects RX8 yX8_parted yX8_parted, Cond.code yX8_parted cX8_parted 8 (some .int), Cond.methodLink RX8 47 yX8_its, Cond.instanceMethod yX8_its, Cond.selects RX8 yX8_its yX8_its, Cond.code yX8_its cX8_its 3 (some .int), Cond.methodLink RX8 35 yX8_at, Cond.static yX8_at, Cond.code yX8_at cX8_at 2 (some .int), Cond.methodLink RX8 50 yX8_less, Cond.static yX8_less, Cond.code yX8_less cX8_less 2 (some .int), Cond.methodLink RX8 94 yX8_branchSet, Cond.instanceMethod yX8_branchSet, Cond.selects RX8 yX8_branchSet yX8_branchSet]
def wsX8_windiest_r2 : List Cond := [Cond.code yX8_branchSet cX8_branchSet 4 (some .int)]
def wsX8_windiest : List Cond := .code yX8_windiest cX8_windiest 4 (some .int) :: ((wsX8_windiest_r1 ++ wsX8_windiest_r2) ++ wsX80)
def wsX8_put : List Cond := .code yX8_put cX8_put 8 (some .int) :: ([.constantLong RX8 115 (255), .fieldLink RX8 106 "HatWindsModel" "length" "I", .fieldLink RX8 23 "HatWindsModel" "pad" "[I", .methodLink RX8 39 yX8_in, .static yX8_in, .initialized RX8, .code yX8_in cX8_in 3 (some .boolean)] ++ wsX80)
def wsX8_wipe : List Cond := .code yX8_wipe cX8_wipe 2 (some .int) :: ([.fieldLink RX8 106 "HatWindsModel" "length" "I"] ++ wsX80)
def wsX8_begins : List Cond := .code yX8_begins cX8_begins 4 (some .boolean) :: ([.fieldLink RX8 117 "HatWindsModel" "many" "I", .fieldLink RX8 29 "HatWindsModel" "told" "[I", .fieldLink RX8 120 "HatWindsModel" "open" "I", .fieldLink RX8 123 "HatWindsModel" "last" "I", .methodLink RX8 39 yX8_in, .static yX8_in, .initialized RX8, .code yX8_in cX8_in 3 (some .boolean)] ++ wsX80)
def wsX8_counts : List Cond := .code yX8_counts cX8_counts 2 (some .boolean) :: ([.fieldLink RX8 123 "HatWindsModel" "last" "I", .fieldLink RX8 29 "HatWindsModel" "told" "[I", .fieldLink RX8 117 "HatWindsModel" "many" "I"] ++ wsX80)
def wsX8_turns : List Cond := .code yX8_turns cX8_turns 2 (some .boolean) :: ([.fieldLink RX8 123 "HatWindsModel" "last" "I", .fieldLink RX8 120 "HatWindsModel" "open" "I", .fieldLink RX8 117 "HatWindsModel" "many" "I", .fieldLink RX8 29 "HatWindsModel" "told" "[I"] ++ wsX80)
def wsX8_goes : List Cond := .code yX8_goes cX8_goes 3 (some .boolean) :: ([.fieldLink RX8 123 "HatWindsModel" "last" "I", .fieldLink RX8 29 "HatWindsModel" "told" "[I", .fieldLink RX8 117 "HatWindsModel" "many" "I", .methodLink RX8 39 yX8_in, .static yX8_in, .initialized RX8, .code yX8_in cX8_in 3 (some .boolean), .methodLink RX8 126 yX8_begins, .instanceMethod yX8_begins, .selects RX8 yX8_begins yX8_begins, .code yX8_begins cX8_begins 4 (some .boolean), .fieldLink RX8 120 "HatWindsModel" "open" "I", .methodLink RX8 129 yX8_turns, .instanceMethod yX8_turns, .selects RX8 yX8_turns yX8_turns, .code yX8_turns cX8_turns 2 (some .boolean), .methodLink RX8 132 yX8_counts, .instanceMethod yX8_counts, .selects RX8 yX8_counts yX8_counts, .code yX8_counts cX8_counts 2 (some .boolean)] ++ wsX80)
def wsX8_fault_r1 : List Cond := [Cond.fieldLink RX8 117 "HatWindsModel" "many" "I", Cond.fieldLink RX8 123 "HatWindsModel" "last" "I", Cond.fieldLink RX8 120 "HatWindsModel" "open" "I", Cond.fieldLink RX8 106 "HatWindsModel" "length" "I", Cond.fieldLink RX8 23 "HatWindsModel" "pad" "[I", Cond.methodLink RX8 135 yX8_goes, Cond.instanceMethod yX8_goes, Cond.selects RX8 yX8_goes yX8_goes, Cond.initialized RX8, Cond.code yX8_goes cX8_goes 3 (some .boolean), Cond.fieldLink RX8 29 "HatWindsModel" "told" "[I", Cond.methodLink RX8 39 yX8_in, Cond.static yX8_in, Cond.code yX8_in cX8_in 3 (some .boolean), Cond.methodLink RX8 126 yX8_begins, Cond.instanceMethod yX8_begins, Cond.selects RX8 yX8_begins yX8_begins, Cond.code yX8_begins cX8_begins 4 (some .boolean), Cond.methodLink RX8 129 yX8_turns, Cond.instanceMethod yX8_turns, Cond.selects RX8 yX8_turns yX8_turns, Cond.code yX8_turns cX8_turns 2 (some .boolean), Cond.methodLink RX8 132 yX8_counts, Cond.instanceMethod yX8_counts]
def wsX8_fault_r2 : List Cond := [Cond.selects RX8 yX8_counts yX8_counts, Cond.code yX8_counts cX8_counts 2 (some .boolean)]
def wsX8_fault : List Cond := .code yX8_fault cX8_fault 2 (some .int) :: ((wsX8_fault_r1 ++ wsX8_fault_r2) ++ wsX80)
def wsX8_build_r1 : List Cond := [Cond.fieldLink RX8 117 "HatWindsModel" "many" "I", Cond.fieldLink RX8 7 "HatWindsModel" "s" "[I", Cond.fieldLink RX8 29 "HatWindsModel" "told" "[I", Cond.fieldLink RX8 106 "HatWindsModel" "length" "I", Cond.methodLink RX8 138 yX8_fault, Cond.instanceMethod yX8_fault, Cond.selects RX8 yX8_fault yX8_fault, Cond.initialized RX8, Cond.code yX8_fault cX8_fault 2 (some .int), Cond.fieldLink RX8 123 "HatWindsModel" "last" "I", Cond.fieldLink RX8 120 "HatWindsModel" "open" "I", Cond.fieldLink RX8 23 "HatWindsModel" "pad" "[I", Cond.methodLink RX8 135 yX8_goes, Cond.instanceMethod yX8_goes, Cond.selects RX8 yX8_goes yX8_goes, Cond.code yX8_goes cX8_goes 3 (some .boolean), Cond.methodLink RX8 39 yX8_in, Cond.static yX8_in, Cond.code yX8_in cX8_in 3 (some .boolean), Cond.methodLink RX8 126 yX8_begins, Cond.instanceMethod yX8_begins, Cond.selects RX8 yX8_begins yX8_begins, Cond.code yX8_begins cX8_begins 4 (some .boolean), Cond.methodLink RX8 129 yX8_turns]
def wsX8_build_r2 : List Cond := [Cond.instanceMethod yX8_turns, Cond.selects RX8 yX8_turns yX8_turns, Cond.code yX8_turns cX8_turns 2 (some .boolean), Cond.methodLink RX8 132 yX8_counts, Cond.instanceMethod yX8_counts, Cond.selects RX8 yX8_counts yX8_counts, Cond.code yX8_counts cX8_counts 2 (some .boolean), Cond.methodLink RX8 70 yX8_remembers, Cond.instanceMethod yX8_remembers, Cond.selects RX8 yX8_remembers yX8_remembers, Cond.code yX8_remembers cX8_remembers 2 none, Cond.fieldLink RX8 43 "HatWindsModel" "known" "I", Cond.fieldLink RX8 13 "HatWindsModel" "past" "[I"]
def wsX8_build : List Cond := .code yX8_build cX8_build 2 (some .int) :: ((wsX8_build_r1 ++ wsX8_build_r2) ++ wsX80)
def wsX8_writes : List Cond := .code yX8_writes cX8_writes 2 none :: ([.fieldLink RX8 32 "HatWindsModel" "out" "[I", .fieldLink RX8 141 "HatWindsModel" "written" "I"] ++ wsX80)
def wsX8_writesStreet : List Cond := .code yX8_writesStreet cX8_writesStreet 3 none :: ([.methodLink RX8 47 yX8_its, .instanceMethod yX8_its, .selects RX8 yX8_its yX8_its, .initialized RX8, .code yX8_its cX8_its 3 (some .int), .fieldLink RX8 7 "HatWindsModel" "s" "[I", .methodLink RX8 35 yX8_at, .static yX8_at, .code yX8_at cX8_at 2 (some .int), .methodLink RX8 144 yX8_writes, .instanceMethod yX8_writes, .selects RX8 yX8_writes yX8_writes, .code yX8_writes cX8_writes 2 none, .fieldLink RX8 32 "HatWindsModel" "out" "[I", .fieldLink RX8 141 "HatWindsModel" "written" "I"] ++ wsX80)
def wsX8_nextBranch : List Cond := .code yX8_nextBranch cX8_nextBranch 4 (some .int) :: ([.fieldLink RX8 7 "HatWindsModel" "s" "[I", .methodLink RX8 47 yX8_its, .instanceMethod yX8_its, .selects RX8 yX8_its yX8_its, .initialized RX8, .code yX8_its cX8_its 3 (some .int), .methodLink RX8 35 yX8_at, .static yX8_at, .code yX8_at cX8_at 2 (some .int)] ++ wsX80)
def wsX8_goesUp : List Cond := .code yX8_goesUp cX8_goesUp 4 (some .int) :: ([.methodLink RX8 47 yX8_its, .instanceMethod yX8_its, .selects RX8 yX8_its yX8_its, .initialized RX8, .code yX8_its cX8_its 3 (some .int), .fieldLink RX8 7 "HatWindsModel" "s" "[I", .methodLink RX8 35 yX8_at, .static yX8_at, .code yX8_at cX8_at 2 (some .int), .methodLink RX8 147 yX8_nextBranch, .instanceMethod yX8_nextBranch, .selects RX8 yX8_nextBranch yX8_nextBranch, .code yX8_nextBranch cX8_nextBranch 4 (some .int), .methodLink RX8 144 yX8_writes, .instanceMethod yX8_writes, .selects RX8 yX8_writes yX8_writes, .code yX8_writes cX8_writes 2 none, .fieldLink RX8 32 "HatWindsModel" "out" "[I", .fieldLink RX8 141 "HatWindsModel" "written" "I"] ++ wsX80)
def wsX8_write_r1 : List Cond := [Cond.fieldLink RX8 141 "HatWindsModel" "written" "I", Cond.fieldLink RX8 23 "HatWindsModel" "pad" "[I", Cond.fieldLink RX8 32 "HatWindsModel" "out" "[I", Cond.fieldLink RX8 106 "HatWindsModel" "length" "I", Cond.methodLink RX8 150 yX8_writesStreet, Cond.instanceMethod yX8_writesStreet, Cond.selects RX8 yX8_writesStreet yX8_writesStreet, Cond.initialized RX8, Cond.code yX8_writesStreet cX8_writesStreet 3 none, Cond.methodLink RX8 47 yX8_its, Cond.instanceMethod yX8_its, Cond.selects RX8 yX8_its yX8_its, Cond.code yX8_its cX8_its 3 (some .int), Cond.fieldLink RX8 7 "HatWindsModel" "s" "[I", Cond.methodLink RX8 35 yX8_at, Cond.static yX8_at, Cond.code yX8_at cX8_at 2 (some .int), Cond.methodLink RX8 144 yX8_writes, Cond.instanceMethod yX8_writes, Cond.selects RX8 yX8_writes yX8_writes, Cond.code yX8_writes cX8_writes 2 none, Cond.methodLink RX8 147 yX8_nextBranch, Cond.instanceMethod yX8_nextBranch, Cond.selects RX8 yX8_nextBranch yX8_nextBranch]
def wsX8_write_r2 : List Cond := [Cond.code yX8_nextBranch cX8_nextBranch 4 (some .int), Cond.methodLink RX8 153 yX8_goesUp, Cond.instanceMethod yX8_goesUp, Cond.selects RX8 yX8_goesUp yX8_goesUp, Cond.code yX8_goesUp cX8_goesUp 4 (some .int)]
def wsX8_write : List Cond := .code yX8_write cX8_write 3 (some .int) :: ((wsX8_write_r1 ++ wsX8_write_r2) ++ wsX80)
def wsX8_undo : List Cond := .code yX8_undo cX8_undo 2 (some .int) :: ([.fieldLink RX8 43 "HatWindsModel" "known" "I", .fieldLink RX8 7 "HatWindsModel" "s" "[I", .fieldLink RX8 13 "HatWindsModel" "past" "[I"] ++ wsX80)
def wsX8_save : List Cond := .code yX8_save cX8_save 3 (some .int) :: ([.fieldLink RX8 16 "HatWindsModel" "slots" "[I", .fieldLink RX8 7 "HatWindsModel" "s" "[I", .fieldLink RX8 19 "HatWindsModel" "isSaved" "[Z", .methodLink RX8 39 yX8_in, .static yX8_in, .initialized RX8, .code yX8_in cX8_in 3 (some .boolean)] ++ wsX80)
def wsX8_restore : List Cond := .code yX8_restore cX8_restore 3 (some .int) :: ([.fieldLink RX8 19 "HatWindsModel" "isSaved" "[Z", .fieldLink RX8 7 "HatWindsModel" "s" "[I", .fieldLink RX8 16 "HatWindsModel" "slots" "[I", .methodLink RX8 39 yX8_in, .static yX8_in, .initialized RX8, .code yX8_in cX8_in 3 (some .boolean), .methodLink RX8 70 yX8_remembers, .instanceMethod yX8_remembers, .selects RX8 yX8_remembers yX8_remembers, .code yX8_remembers cX8_remembers 2 none, .fieldLink RX8 43 "HatWindsModel" "known" "I", .fieldLink RX8 13 "HatWindsModel" "past" "[I"] ++ wsX80)
def wsJ9_min_7cf53 : List Cond := .code yJ9_min_7cf53 cJ9_min_7cf53 2 (some .int) :: ([])
def wsL_law_r1 : List Cond := [Cond.classLink RL 7 RX7, Cond.instantiable RX7 8, Cond.initialized RX7, Cond.classLink RL 10 RX8, Cond.instantiable RX8 14, Cond.initialized RX8, Cond.constantLong RL 85 (4294967295), Cond.methodLink RL 9 yX7_init, Cond.instanceMethod yX7_init, Cond.code yX7_init cX7_init 2 none, Cond.methodLink RX7 1 objectInit, Cond.instanceMethod objectInit, Cond.code objectInit ⟨#[0xb1]⟩ 1 none, Cond.classLink RX7 7 RX6, Cond.instantiable RX6 4, Cond.initialized RX6, Cond.fieldLink RX7 10 "HatWinds" "town" "LHatWinds$Town;", Cond.classLink RX7 16 RX0, Cond.instantiable RX0 3, Cond.initialized RX0, Cond.fieldLink RX7 19 "HatWinds" "air" "LHatWinds$Air;", Cond.classLink RX7 23 RX1, Cond.instantiable RX1 3, Cond.initialized RX1]
def wsL_law_r2 : List Cond := [Cond.fieldLink RX7 26 "HatWinds" "history" "LHatWinds$History;", Cond.fieldLink RX7 30 "HatWinds" "slots" "[LHatWinds$Town;", Cond.arrayClass .boolean, Cond.fieldLink RX7 34 "HatWinds" "filled" "[Z", Cond.classLink RX7 38 RX3, Cond.instantiable RX3 3, Cond.initialized RX3, Cond.fieldLink RX7 41 "HatWinds" "pad" "LHatWinds$Pad;", Cond.fieldLink RX7 45 "HatWinds" "draft" "LHatWinds$Pad;", Cond.classLink RX7 48 RX4, Cond.instantiable RX4 3, Cond.initialized RX4, Cond.fieldLink RX7 51 "HatWinds" "reader" "LHatWinds$Reader;", Cond.methodLink RX7 9 yX6_init, Cond.instanceMethod yX6_init, Cond.code yX6_init cX6_init 1 none, Cond.methodLink RX6 3 objectInit, Cond.methodLink RX6 13 ⟨"[I", "clone", "()Ljava/lang/Object;"⟩, Cond.sameMethod "[I" "java/lang/Object" "clone" "()Ljava/lang/Object;", Cond.native ⟨"java/lang/Object", "clone", "()Ljava/lang/Object;"⟩, Cond.instanceMethod ⟨"java/lang/Object", "clone", "()Ljava/lang/Object;"⟩, Cond.selects "[I" ⟨"[I", "clone", "()Ljava/lang/Object;"⟩ ⟨"java/lang/Object", "clone", "()Ljava/lang/Object;"⟩, Cond.classLink RX6 14 "[I", Cond.fieldLink RX6 18 "HatWinds$Town" "settings" "[I"]
def wsL_law_r3 : List Cond := [Cond.classLink RX6 23 RX5, Cond.instantiable RX5 6, Cond.initialized RX5, Cond.fieldLink RX6 26 "HatWinds$Town" "streets" "LHatWinds$Streets;", Cond.classLink RX6 30 RX2, Cond.instantiable RX2 5, Cond.initialized RX2, Cond.fieldLink RX6 33 "HatWinds$Town" "hours" "LHatWinds$Hours;", Cond.fieldLink RX6 37 "HatWinds$Town" "force" "I", Cond.instanceMethod yX5_init, Cond.code yX5_init cX5_init 1 none, Cond.methodLink RX5 3 objectInit, Cond.arrayClass .int, Cond.fieldLink RX5 9 "HatWinds$Streets" "from" "[I", Cond.fieldLink RX5 15 "HatWinds$Streets" "width" "[I", Cond.fieldLink RX5 18 "HatWinds$Streets" "cloth" "[I", Cond.fieldLink RX5 21 "HatWinds$Streets" "smoke" "[I", Cond.fieldLink RX5 24 "HatWinds$Streets" "people" "[I", Cond.fieldLink RX5 27 "HatWinds$Streets" "number" "I", Cond.instanceMethod yX2_init, Cond.code yX2_init cX2_init 1 none, Cond.methodLink RX2 3 objectInit, Cond.fieldLink RX2 9 "HatWinds$Hours" "forces" "[I", Cond.fieldLink RX2 15 "HatWinds$Hours" "lost" "[I"]
def wsL_law_r4 : List Cond := [Cond.fieldLink RX2 18 "HatWinds$Hours" "worst" "[I", Cond.fieldLink RX2 21 "HatWinds$Hours" "passed" "I", Cond.fieldLink RX2 25 "HatWinds$Hours" "lostSoFar" "I", Cond.methodLink RX6 41 yX5_add, Cond.instanceMethod yX5_add, Cond.selects RX5 yX5_add yX5_add, Cond.code yX5_add cX5_add 3 (some .int), Cond.instanceMethod yX0_init, Cond.code yX0_init cX0_init 1 none, Cond.methodLink RX0 3 objectInit, Cond.fieldLink RX0 9 "HatWinds$Air" "together" "[I", Cond.fieldLink RX0 15 "HatWinds$Air" "narrower" "[I", Cond.fieldLink RX0 18 "HatWinds$Air" "force" "[I", Cond.methodLink RX7 25 yX1_init, Cond.instanceMethod yX1_init, Cond.code yX1_init cX1_init 2 none, Cond.methodLink RX1 3 objectInit, Cond.classLink RX1 9 RX6, Cond.fieldLink RX1 11 "HatWinds$History" "states" "[LHatWinds$Town;", Cond.fieldLink RX1 17 "HatWinds$History" "oldest" "I", Cond.fieldLink RX1 21 "HatWinds$History" "length" "I", Cond.methodLink RX1 24 yX6_init, Cond.instanceMethod yX3_init, Cond.code yX3_init cX3_init 1 none]
def wsL_law_r5 : List Cond := [Cond.methodLink RX3 3 objectInit, Cond.arrayClass .char, Cond.fieldLink RX3 9 "HatWinds$Pad" "signs" "[C", Cond.fieldLink RX3 15 "HatWinds$Pad" "length" "I", Cond.fieldLink RX3 19 "HatWinds$Pad" "overflowed" "Z", Cond.instanceMethod yX4_init, Cond.code yX4_init cX4_init 1 none, Cond.methodLink RX4 3 objectInit, Cond.classLink RX4 9 RX5, Cond.fieldLink RX4 12 "HatWinds$Reader" "streets" "LHatWinds$Streets;", Cond.fieldLink RX4 18 "HatWinds$Reader" "last" "I", Cond.fieldLink RX4 22 "HatWinds$Reader" "parent" "I", Cond.methodLink RL 12 yX8_init, Cond.instanceMethod yX8_init, Cond.code yX8_init cX8_init 1 none, Cond.methodLink RX8 1 objectInit, Cond.fieldLink RX8 7 "HatWindsModel" "s" "[I", Cond.fieldLink RX8 13 "HatWindsModel" "past" "[I", Cond.fieldLink RX8 16 "HatWindsModel" "slots" "[I", Cond.fieldLink RX8 19 "HatWindsModel" "isSaved" "[Z", Cond.fieldLink RX8 23 "HatWindsModel" "pad" "[I", Cond.fieldLink RX8 26 "HatWindsModel" "forces" "[I", Cond.fieldLink RX8 29 "HatWindsModel" "told" "[I", Cond.fieldLink RX8 32 "HatWindsModel" "out" "[I"]
def wsL_law_r6 : List Cond := [Cond.methodLink RX8 35 yX8_at, Cond.static yX8_at, Cond.code yX8_at cX8_at 2 (some .int), Cond.methodLink RL 13 yX7_set, Cond.instanceMethod yX7_set, Cond.selects RX7 yX7_set yX7_set, Cond.code yX7_set cX7_set 4 (some .int), Cond.fieldLink RX7 55 "HatWinds" "FIRST_SETTINGS" "[I", Cond.fieldLink RX7 63 "HatWinds" "LEAST_SETTINGS" "[I", Cond.fieldLink RX7 66 "HatWinds" "MOST_SETTINGS" "[I", Cond.fieldLink RX7 77 "HatWinds$Town" "settings" "[I", Cond.methodLink RX7 59 yX7_isIndexOf, Cond.static yX7_isIndexOf, Cond.code yX7_isIndexOf cX7_isIndexOf 2 (some .boolean), Cond.methodLink RX7 69 yX7_isWithin, Cond.static yX7_isWithin, Cond.code yX7_isWithin cX7_isWithin 3 (some .boolean), Cond.methodLink RX7 73 yX1_keep, Cond.instanceMethod yX1_keep, Cond.selects RX1 yX1_keep yX1_keep, Cond.code yX1_keep cX1_keep 2 none, Cond.methodLink RX1 25 yX6_copy, Cond.instanceMethod yX6_copy, Cond.selects RX6 yX6_copy yX6_copy]
def wsL_law_r7 : List Cond := [Cond.code yX6_copy cX6_copy 2 none, Cond.static yX7_copyRow, Cond.code yX7_copyRow cX7_copyRow 2 none, Cond.methodLink RX7 263 Lib.Math.min.name, Cond.static Lib.Math.min.name, Cond.initialized "java/lang/Math", Cond.code Lib.Math.min.name Lib.Math.min.code 2 (some .int), Cond.methodLink RX7 268 arraycopyName, Cond.native arraycopyName, Cond.static arraycopyName, Cond.initialized "java/lang/System", Cond.methodLink RX6 49 yX5_copy, Cond.instanceMethod yX5_copy, Cond.selects RX5 yX5_copy yX5_copy, Cond.code yX5_copy cX5_copy 2 none, Cond.methodLink RX6 53 yX2_copy, Cond.instanceMethod yX2_copy, Cond.selects RX2 yX2_copy yX2_copy, Cond.code yX2_copy cX2_copy 2 none, Cond.methodLink RL 17 yX8_set, Cond.instanceMethod yX8_set, Cond.selects RX8 yX8_set yX8_set, Cond.code yX8_set cX8_set 4 (some .int), Cond.methodLink RX8 77 yX8_canSet]
def wsL_law_r8 : List Cond := [Cond.static yX8_canSet, Cond.code yX8_canSet cX8_canSet 2 (some .boolean), Cond.methodLink RX8 39 yX8_in, Cond.static yX8_in, Cond.code yX8_in cX8_in 3 (some .boolean), Cond.methodLink RX8 70 yX8_remembers, Cond.instanceMethod yX8_remembers, Cond.selects RX8 yX8_remembers yX8_remembers, Cond.code yX8_remembers cX8_remembers 2 none, Cond.fieldLink RX8 43 "HatWindsModel" "known" "I", Cond.methodLink RL 18 yX7_build, Cond.instanceMethod yX7_build, Cond.selects RX7 yX7_build yX7_build, Cond.code yX7_build cX7_build 1 (some .int), Cond.fieldLink RX7 84 "HatWinds$Town" "streets" "LHatWinds$Streets;", Cond.fieldLink RX7 88 "HatWinds$Reader" "streets" "LHatWinds$Streets;", Cond.fieldLink RX7 98 "HatWinds$Streets" "number" "I", Cond.methodLink RX7 80 yX4_read, Cond.instanceMethod yX4_read, Cond.selects RX4 yX4_read yX4_read, Cond.code yX4_read cX4_read 3 (some .int), Cond.fieldLink RX4 28 "HatWinds$Pad" "length" "I", Cond.fieldLink RX4 33 "HatWinds$Pad" "signs" "[C", Cond.methodLink RX4 25 yX5_clear]
def wsL_law_r9 : List Cond := [Cond.instanceMethod yX5_clear, Cond.selects RX5 yX5_clear yX5_clear, Cond.code yX5_clear cX5_clear 1 none, Cond.methodLink RX4 37 yX4_takes, Cond.instanceMethod yX4_takes, Cond.selects RX4 yX4_takes yX4_takes, Cond.code yX4_takes cX4_takes 3 (some .boolean), Cond.fieldLink RX4 41 "HatWinds$Streets" "number" "I", Cond.methodLink RX4 44 yX4_takesWidth, Cond.instanceMethod yX4_takesWidth, Cond.selects RX4 yX4_takesWidth yX4_takesWidth, Cond.code yX4_takesWidth cX4_takesWidth 2 (some .boolean), Cond.methodLink RX4 80 yX5_hasRoomOff, Cond.instanceMethod yX5_hasRoomOff, Cond.selects RX5 yX5_hasRoomOff yX5_hasRoomOff, Cond.code yX5_hasRoomOff cX5_hasRoomOff 2 (some .boolean), Cond.methodLink RX5 39 yX5_branchesOff, Cond.instanceMethod yX5_branchesOff, Cond.selects RX5 yX5_branchesOff yX5_branchesOff, Cond.code yX5_branchesOff cX5_branchesOff 4 (some .int), Cond.methodLink RX5 43 yJ6_bitCount_0f7a4, Cond.static yJ6_bitCount_0f7a4, Cond.initialized RJ6, Cond.code yJ6_bitCount_0f7a4 cJ6_bitCount_0f7a4 1 (some .int)]
def wsL_law_r10 : List Cond := [Cond.constant RJ6 265 (1431655765), Cond.constant RJ6 266 (858993459), Cond.constant RJ6 267 (252645135), Cond.methodLink RX4 83 yX5_add, Cond.methodLink RX4 47 yX4_takesFirstDigit, Cond.instanceMethod yX4_takesFirstDigit, Cond.selects RX4 yX4_takesFirstDigit yX4_takesFirstDigit, Cond.code yX4_takesFirstDigit cX4_takesFirstDigit 3 (some .boolean), Cond.fieldLink RX4 94 "HatWinds$Streets" "people" "[I", Cond.methodLink RX4 67 yX4_isDigit, Cond.static yX4_isDigit, Cond.code yX4_isDigit cX4_isDigit 1 (some .boolean), Cond.methodLink RX4 51 yX4_takesSmoke, Cond.instanceMethod yX4_takesSmoke, Cond.selects RX4 yX4_takesSmoke yX4_takesSmoke, Cond.code yX4_takesSmoke cX4_takesSmoke 2 (some .boolean), Cond.fieldLink RX4 91 "HatWinds$Streets" "smoke" "[I", Cond.methodLink RX4 54 yX4_takesStar, Cond.instanceMethod yX4_takesStar, Cond.selects RX4 yX4_takesStar yX4_takesStar, Cond.code yX4_takesStar cX4_takesStar 1 (some .boolean), Cond.methodLink RX4 58 yX4_opens, Cond.instanceMethod yX4_opens, Cond.selects RX4 yX4_opens yX4_opens]
def wsL_law_r11 : List Cond := [Cond.code yX4_opens cX4_opens 2 (some .boolean), Cond.methodLink RX4 61 yX4_goesOn, Cond.instanceMethod yX4_goesOn, Cond.selects RX4 yX4_goesOn yX4_goesOn, Cond.code yX4_goesOn cX4_goesOn 1 (some .boolean), Cond.methodLink RX4 97 yX5_has, Cond.instanceMethod yX5_has, Cond.selects RX5 yX5_has yX5_has, Cond.code yX5_has cX5_has 2 (some .boolean), Cond.methodLink RX4 64 yX4_closes, Cond.instanceMethod yX4_closes, Cond.selects RX4 yX4_closes yX4_closes, Cond.code yX4_closes cX4_closes 1 (some .boolean), Cond.fieldLink RX4 100 "HatWinds$Streets" "from" "[I", Cond.methodLink RX4 70 yX4_takesSecondDigit, Cond.instanceMethod yX4_takesSecondDigit, Cond.selects RX4 yX4_takesSecondDigit yX4_takesSecondDigit, Cond.code yX4_takesSecondDigit cX4_takesSecondDigit 3 (some .boolean), Cond.methodLink RX4 73 yX4_takesFlag, Cond.instanceMethod yX4_takesFlag, Cond.selects RX4 yX4_takesFlag yX4_takesFlag, Cond.code yX4_takesFlag cX4_takesFlag 3 (some .boolean), Cond.fieldLink RX4 87 "HatWinds$Streets" "cloth" "[I", Cond.methodLink RX7 89 yX5_copy]
def wsL_law_r12 : List Cond := [Cond.methodLink RX7 95 yX3_clear, Cond.instanceMethod yX3_clear, Cond.selects RX3 yX3_clear yX3_clear, Cond.code yX3_clear cX3_clear 1 none, Cond.methodLink RL 22 yX8_build, Cond.instanceMethod yX8_build, Cond.selects RX8 yX8_build yX8_build, Cond.code yX8_build cX8_build 2 (some .int), Cond.fieldLink RX8 117 "HatWindsModel" "many" "I", Cond.fieldLink RX8 106 "HatWindsModel" "length" "I", Cond.methodLink RX8 138 yX8_fault, Cond.instanceMethod yX8_fault, Cond.selects RX8 yX8_fault yX8_fault, Cond.code yX8_fault cX8_fault 2 (some .int), Cond.fieldLink RX8 123 "HatWindsModel" "last" "I", Cond.fieldLink RX8 120 "HatWindsModel" "open" "I", Cond.methodLink RX8 135 yX8_goes, Cond.instanceMethod yX8_goes, Cond.selects RX8 yX8_goes yX8_goes, Cond.code yX8_goes cX8_goes 3 (some .boolean), Cond.methodLink RX8 126 yX8_begins, Cond.instanceMethod yX8_begins, Cond.selects RX8 yX8_begins yX8_begins, Cond.code yX8_begins cX8_begins 4 (some .boolean)]
def wsL_law_r13 : List Cond := [Cond.methodLink RX8 129 yX8_turns, Cond.instanceMethod yX8_turns, Cond.selects RX8 yX8_turns yX8_turns, Cond.code yX8_turns cX8_turns 2 (some .boolean), Cond.methodLink RX8 132 yX8_counts, Cond.instanceMethod yX8_counts, Cond.selects RX8 yX8_counts yX8_counts, Cond.code yX8_counts cX8_counts 2 (some .boolean), Cond.methodLink RL 23 yX7_street, Cond.instanceMethod yX7_street, Cond.selects RX7 yX7_street yX7_street, Cond.code yX7_street cX7_street 3 (some .int), Cond.methodLink RX7 102 yX5_has, Cond.methodLink RX7 106 yX5_hasRoomOff, Cond.methodLink RX7 109 yX5_add, Cond.methodLink RL 26 yX8_street, Cond.instanceMethod yX8_street, Cond.selects RX8 yX8_street yX8_street, Cond.code yX8_street cX8_street 4 (some .int), Cond.methodLink RX8 81 yX8_isStreet, Cond.instanceMethod yX8_isStreet, Cond.selects RX8 yX8_isStreet yX8_isStreet, Cond.code yX8_isStreet cX8_isStreet 2 (some .boolean), Cond.methodLink RX8 85 yX8_branches]
def wsL_law_r14 : List Cond := [Cond.instanceMethod yX8_branches, Cond.selects RX8 yX8_branches yX8_branches, Cond.code yX8_branches cX8_branches 4 (some .int), Cond.methodLink RX8 47 yX8_its, Cond.instanceMethod yX8_its, Cond.selects RX8 yX8_its yX8_its, Cond.code yX8_its cX8_its 3 (some .int), Cond.methodLink RL 27 yX7_change, Cond.instanceMethod yX7_change, Cond.selects RX7 yX7_change yX7_change, Cond.code yX7_change cX7_change 6 (some .int), Cond.fieldLink RX7 113 "HatWinds" "LEAST_OF_STREET" "[I", Cond.fieldLink RX7 116 "HatWinds" "MOST_OF_STREET" "[I", Cond.methodLink RX7 119 yX5_changeable, Cond.instanceMethod yX5_changeable, Cond.selects RX5 yX5_changeable yX5_changeable, Cond.code yX5_changeable cX5_changeable 2 (some (.array .int)), Cond.methodLink RL 31 yX8_change, Cond.instanceMethod yX8_change, Cond.selects RX8 yX8_change yX8_change, Cond.code yX8_change cX8_change 5 (some .int), Cond.methodLink RX8 88 yX8_canChange, Cond.static yX8_canChange, Cond.code yX8_canChange cX8_canChange 2 (some .boolean)]
def wsL_law_r15 : List Cond := [Cond.methodLink RX8 91 yX8_kept, Cond.static yX8_kept, Cond.code yX8_kept cX8_kept 1 (some .int), Cond.methodLink RL 32 yX7_wind, Cond.instanceMethod yX7_wind, Cond.selects RX7 yX7_wind yX7_wind, Cond.code yX7_wind cX7_wind 3 (some .int), Cond.fieldLink RX7 126 "HatWinds$Town" "force" "I", Cond.methodLink RX7 123 yX7_isForce, Cond.static yX7_isForce, Cond.code yX7_isForce cX7_isForce 1 (some .boolean), Cond.methodLink RL 36 yX8_wind, Cond.instanceMethod yX8_wind, Cond.selects RX8 yX8_wind yX8_wind, Cond.code yX8_wind cX8_wind 3 (some .int), Cond.methodLink RL 37 yX7_pass, Cond.instanceMethod yX7_pass, Cond.selects RX7 yX7_pass yX7_pass, Cond.code yX7_pass cX7_pass 5 (some .int), Cond.fieldLink RX7 129 "HatWinds$Town" "hours" "LHatWinds$Hours;", Cond.fieldLink RX7 133 "HatWinds$Hours" "passed" "I", Cond.methodLink RX7 138 yX0_blowIn, Cond.instanceMethod yX0_blowIn, Cond.selects RX0 yX0_blowIn yX0_blowIn]
def wsL_law_r16 : List Cond := [Cond.code yX0_blowIn cX0_blowIn 2 none, Cond.fieldLink RX0 21 "HatWinds$Town" "streets" "LHatWinds$Streets;", Cond.fieldLink RX0 31 "HatWinds$Town" "force" "I", Cond.methodLink RX0 27 yX0_part, Cond.instanceMethod yX0_part, Cond.selects RX0 yX0_part yX0_part, Cond.code yX0_part cX0_part 5 none, Cond.fieldLink RX0 37 "HatWinds$Streets" "number" "I", Cond.fieldLink RX0 42 "HatWinds$Streets" "from" "[I", Cond.fieldLink RX0 45 "HatWinds$Streets" "width" "[I", Cond.methodLink RX0 34 yX0_blow, Cond.instanceMethod yX0_blow, Cond.selects RX0 yX0_blow yX0_blow, Cond.code yX0_blow cX0_blow 5 none, Cond.methodLink RX0 48 yX5_has, Cond.methodLink RX0 52 yX0_shareOf, Cond.instanceMethod yX0_shareOf, Cond.selects RX0 yX0_shareOf yX0_shareOf, Cond.code yX0_shareOf cX0_shareOf 5 (some .int), Cond.methodLink RX0 60 Lib.Math.min.name, Cond.static yX7_quotient, Cond.code yX7_quotient cX7_quotient 2 (some .int), Cond.methodLink RX7 141 yX0_hatsLost, Cond.instanceMethod yX0_hatsLost]
def wsL_law_r17 : List Cond := [Cond.selects RX0 yX0_hatsLost yX0_hatsLost, Cond.code yX0_hatsLost cX0_hatsLost 4 (some .int), Cond.methodLink RX0 81 yX0_hatsLostIn, Cond.instanceMethod yX0_hatsLostIn, Cond.selects RX0 yX0_hatsLostIn yX0_hatsLostIn, Cond.code yX0_hatsLostIn cX0_hatsLostIn 4 (some .int), Cond.fieldLink RX0 65 "HatWinds$Town" "settings" "[I", Cond.fieldLink RX0 78 "HatWinds$Streets" "people" "[I", Cond.methodLink RX0 74 yX0_gustIn, Cond.instanceMethod yX0_gustIn, Cond.selects RX0 yX0_gustIn yX0_gustIn, Cond.code yX0_gustIn cX0_gustIn 3 (some .int), Cond.methodLink RX7 145 yX0_worstStreet, Cond.instanceMethod yX0_worstStreet, Cond.selects RX0 yX0_worstStreet yX0_worstStreet, Cond.code yX0_worstStreet cX0_worstStreet 6 (some .int), Cond.methodLink RX7 148 yX2_add, Cond.instanceMethod yX2_add, Cond.selects RX2 yX2_add yX2_add, Cond.code yX2_add cX2_add 4 none, Cond.methodLink RX2 38 yX2_pushFirst, Cond.static yX2_pushFirst, Cond.code yX2_pushFirst cX2_pushFirst 3 none, Cond.methodLink RL 40 yX8_pass]
def wsL_law_r18 : List Cond := [Cond.instanceMethod yX8_pass, Cond.selects RX8 yX8_pass yX8_pass, Cond.code yX8_pass cX8_pass 4 (some .int), Cond.methodLink RX8 73 yX8_anHour, Cond.instanceMethod yX8_anHour, Cond.selects RX8 yX8_anHour yX8_anHour, Cond.code yX8_anHour cX8_anHour 5 (some .int), Cond.methodLink RX8 67 yX8_hatsBy, Cond.instanceMethod yX8_hatsBy, Cond.selects RX8 yX8_hatsBy yX8_hatsBy, Cond.code yX8_hatsBy cX8_hatsBy 4 (some .int), Cond.methodLink RX8 60 yX8_blows, Cond.instanceMethod yX8_blows, Cond.selects RX8 yX8_blows yX8_blows, Cond.code yX8_blows cX8_blows 3 none, Cond.methodLink RX8 53 yX8_parted, Cond.instanceMethod yX8_parted, Cond.selects RX8 yX8_parted yX8_parted, Cond.code yX8_parted cX8_parted 8 (some .int), Cond.methodLink RX8 50 yX8_less, Cond.static yX8_less, Cond.code yX8_less cX8_less 2 (some .int), Cond.methodLink RX8 64 yX8_hatsOf, Cond.instanceMethod yX8_hatsOf]
def wsL_law_r19 : List Cond := [Cond.selects RX8 yX8_hatsOf yX8_hatsOf, Cond.code yX8_hatsOf cX8_hatsOf 3 (some .int), Cond.methodLink RX8 56 yX8_gustOf, Cond.instanceMethod yX8_gustOf, Cond.selects RX8 yX8_gustOf yX8_gustOf, Cond.code yX8_gustOf cX8_gustOf 2 (some .int), Cond.methodLink RL 41 yX7_write, Cond.instanceMethod yX7_write, Cond.selects RX7 yX7_write yX7_write, Cond.code yX7_write cX7_write 1 (some .int), Cond.fieldLink RX7 155 "HatWinds$Pad" "overflowed" "Z", Cond.fieldLink RX7 162 "HatWinds$Pad" "length" "I", Cond.methodLink RX7 151 yX7_tell, Cond.static yX7_tell, Cond.code yX7_tell cX7_tell 6 none, Cond.fieldLink RX7 165 "HatWinds$Streets" "from" "[I", Cond.methodLink RX7 259 yX7_tellAlone, Cond.static yX7_tellAlone, Cond.code yX7_tellAlone cX7_tellAlone 4 none, Cond.fieldLink RX7 168 "HatWinds$Streets" "width" "[I", Cond.fieldLink RX7 171 "HatWinds$Streets" "cloth" "[I", Cond.fieldLink RX7 174 "HatWinds$Streets" "smoke" "[I", Cond.fieldLink RX7 177 "HatWinds$Streets" "people" "[I", Cond.methodLink RX7 251 yX3_add]
def wsL_law_r20 : List Cond := [Cond.instanceMethod yX3_add, Cond.selects RX3 yX3_add yX3_add, Cond.code yX3_add cX3_add 2 none, Cond.methodLink RX7 159 yX3_copy, Cond.instanceMethod yX3_copy, Cond.selects RX3 yX3_copy yX3_copy, Cond.code yX3_copy cX3_copy 2 none, Cond.methodLink RX3 23 arraycopyName, Cond.methodLink RL 44 yX8_write, Cond.instanceMethod yX8_write, Cond.selects RX8 yX8_write yX8_write, Cond.code yX8_write cX8_write 3 (some .int), Cond.fieldLink RX8 141 "HatWindsModel" "written" "I", Cond.methodLink RX8 150 yX8_writesStreet, Cond.instanceMethod yX8_writesStreet, Cond.selects RX8 yX8_writesStreet yX8_writesStreet, Cond.code yX8_writesStreet cX8_writesStreet 3 none, Cond.methodLink RX8 144 yX8_writes, Cond.instanceMethod yX8_writes, Cond.selects RX8 yX8_writes yX8_writes, Cond.code yX8_writes cX8_writes 2 none, Cond.methodLink RX8 147 yX8_nextBranch, Cond.instanceMethod yX8_nextBranch, Cond.selects RX8 yX8_nextBranch yX8_nextBranch]
def wsL_law_r21 : List Cond := [Cond.code yX8_nextBranch cX8_nextBranch 4 (some .int), Cond.methodLink RX8 153 yX8_goesUp, Cond.instanceMethod yX8_goesUp, Cond.selects RX8 yX8_goesUp yX8_goesUp, Cond.code yX8_goesUp cX8_goesUp 4 (some .int), Cond.methodLink RL 45 yX7_of, Cond.instanceMethod yX7_of, Cond.selects RX7 yX7_of yX7_of, Cond.code yX7_of cX7_of 4 (some .int), Cond.methodLink RX7 180 yX5_branchesOff, Cond.methodLink RX7 184 yX5_howManyBehind, Cond.instanceMethod yX5_howManyBehind, Cond.selects RX5 yX5_howManyBehind yX5_howManyBehind, Cond.code yX5_howManyBehind cX5_howManyBehind 4 (some .int), Cond.methodLink RX7 187 yX5_howFarOff, Cond.instanceMethod yX5_howFarOff, Cond.selects RX5 yX5_howFarOff yX5_howFarOff, Cond.code yX5_howFarOff cX5_howFarOff 4 (some .int), Cond.methodLink RX5 48 yX5_has, Cond.methodLink RL 48 yX8_of, Cond.instanceMethod yX8_of, Cond.selects RX8 yX8_of yX8_of, Cond.code yX8_of cX8_of 3 (some .int), Cond.methodLink RX8 94 yX8_branchSet]
def wsL_law_r22 : List Cond := [Cond.instanceMethod yX8_branchSet, Cond.selects RX8 yX8_branchSet yX8_branchSet, Cond.code yX8_branchSet cX8_branchSet 4 (some .int), Cond.methodLink RX8 97 yX8_behind, Cond.instanceMethod yX8_behind, Cond.selects RX8 yX8_behind yX8_behind, Cond.code yX8_behind cX8_behind 6 (some .int), Cond.methodLink RX8 100 yX8_depth, Cond.instanceMethod yX8_depth, Cond.selects RX8 yX8_depth yX8_depth, Cond.code yX8_depth cX8_depth 4 (some .int), Cond.methodLink RL 49 yX7_now, Cond.instanceMethod yX7_now, Cond.selects RX7 yX7_now yX7_now, Cond.code yX7_now cX7_now 3 (some .int), Cond.fieldLink RX7 190 "HatWinds$Air" "force" "[I", Cond.methodLink RX7 192 yX0_gustIn, Cond.methodLink RX7 196 yX0_flagSteps, Cond.instanceMethod yX0_flagSteps, Cond.selects RX0 yX0_flagSteps yX0_flagSteps, Cond.code yX0_flagSteps cX0_flagSteps 4 (some .int), Cond.fieldLink RX0 68 "HatWinds$Streets" "cloth" "[I", Cond.methodLink RX7 199 yX0_smokeSteps, Cond.instanceMethod yX0_smokeSteps]
def wsL_law_r23 : List Cond := [Cond.selects RX0 yX0_smokeSteps yX0_smokeSteps, Cond.code yX0_smokeSteps cX0_smokeSteps 3 (some .int), Cond.fieldLink RX0 71 "HatWinds$Streets" "smoke" "[I", Cond.methodLink RX7 202 yX0_hatsLostIn, Cond.methodLink RL 52 yX8_now, Cond.instanceMethod yX8_now, Cond.selects RX8 yX8_now yX8_now, Cond.code yX8_now cX8_now 3 (some .int), Cond.methodLink RX8 103 yX8_stepsOf, Cond.instanceMethod yX8_stepsOf, Cond.selects RX8 yX8_stepsOf yX8_stepsOf, Cond.code yX8_stepsOf cX8_stepsOf 2 (some .int), Cond.methodLink RL 53 yX7_record, Cond.instanceMethod yX7_record, Cond.selects RX7 yX7_record yX7_record, Cond.code yX7_record cX7_record 4 (some .int), Cond.fieldLink RX7 209 "HatWinds$Hours" "forces" "[I", Cond.fieldLink RX7 212 "HatWinds$Hours" "lost" "[I", Cond.fieldLink RX7 215 "HatWinds$Hours" "worst" "[I", Cond.methodLink RX7 205 yX2_kept, Cond.instanceMethod yX2_kept, Cond.selects RX2 yX2_kept yX2_kept, Cond.code yX2_kept cX2_kept 1 (some .int), Cond.methodLink RX2 32 Lib.Math.min.name]
def wsL_law_r24 : List Cond := [Cond.methodLink RL 56 yX8_record, Cond.instanceMethod yX8_record, Cond.selects RX8 yX8_record yX8_record, Cond.code yX8_record cX8_record 3 (some .int), Cond.methodLink RL 57 yX7_sign, Cond.instanceMethod yX7_sign, Cond.selects RX7 yX7_sign yX7_sign, Cond.code yX7_sign cX7_sign 2 (some .int), Cond.fieldLink RX7 218 "HatWinds$Pad" "signs" "[C", Cond.methodLink RL 60 yX8_sign, Cond.instanceMethod yX8_sign, Cond.selects RX8 yX8_sign yX8_sign, Cond.code yX8_sign cX8_sign 2 (some .int), Cond.methodLink RL 61 yX7_count, Cond.instanceMethod yX7_count, Cond.selects RX7 yX7_count yX7_count, Cond.code yX7_count cX7_count 2 (some .int), Cond.fieldLink RX7 222 "HatWinds$Hours" "lostSoFar" "I", Cond.fieldLink RX7 237 "HatWinds$History" "length" "I", Cond.methodLink RX7 225 yX5_peopleOfAll, Cond.instanceMethod yX5_peopleOfAll, Cond.selects RX5 yX5_peopleOfAll yX5_peopleOfAll, Cond.code yX5_peopleOfAll cX5_peopleOfAll 3 (some .int), Cond.methodLink RX7 228 yX7_hatsBy]
def wsL_law_r25 : List Cond := [Cond.instanceMethod yX7_hatsBy, Cond.selects RX7 yX7_hatsBy yX7_hatsBy, Cond.code yX7_hatsBy cX7_hatsBy 2 (some .int), Cond.methodLink RX7 238 yX0_part, Cond.methodLink RX7 242 yX0_blow, Cond.methodLink RX7 231 yX7_shelters, Cond.instanceMethod yX7_shelters, Cond.selects RX7 yX7_shelters yX7_shelters, Cond.code yX7_shelters cX7_shelters 3 (some .int), Cond.methodLink RX7 234 yX7_calmest, Cond.instanceMethod yX7_calmest, Cond.selects RX7 yX7_calmest yX7_calmest, Cond.code yX7_calmest cX7_calmest 3 (some .int), Cond.methodLink RL 64 yX8_count, Cond.instanceMethod yX8_count, Cond.selects RX8 yX8_count yX8_count, Cond.code yX8_count cX8_count 2 (some .int), Cond.methodLink RX8 109 yX8_people, Cond.instanceMethod yX8_people, Cond.selects RX8 yX8_people yX8_people, Cond.code yX8_people cX8_people 3 (some .int), Cond.methodLink RX8 112 yX8_calm, Cond.instanceMethod yX8_calm, Cond.selects RX8 yX8_calm yX8_calm]
def wsL_law_r26 : List Cond := [Cond.code yX8_calm cX8_calm 5 (some .int), Cond.methodLink RL 65 yX7_ifWind, Cond.instanceMethod yX7_ifWind, Cond.selects RX7 yX7_ifWind yX7_ifWind, Cond.code yX7_ifWind cX7_ifWind 2 (some .int), Cond.methodLink RL 68 yX8_ifWind, Cond.instanceMethod yX8_ifWind, Cond.selects RX8 yX8_ifWind yX8_ifWind, Cond.code yX8_ifWind cX8_ifWind 2 (some .int), Cond.methodLink RL 69 yX7_windFor, Cond.instanceMethod yX7_windFor, Cond.selects RX7 yX7_windFor yX7_windFor, Cond.code yX7_windFor cX7_windFor 3 (some .int), Cond.methodLink RL 72 yX8_windFor, Cond.instanceMethod yX8_windFor, Cond.selects RX8 yX8_windFor yX8_windFor, Cond.code yX8_windFor cX8_windFor 3 (some .int), Cond.methodLink RL 73 yX7_windOfFlag, Cond.instanceMethod yX7_windOfFlag, Cond.selects RX7 yX7_windOfFlag yX7_windOfFlag, Cond.code yX7_windOfFlag cX7_windOfFlag 4 (some .int), Cond.methodLink RL 76 yX8_windOfFlag, Cond.instanceMethod yX8_windOfFlag, Cond.selects RX8 yX8_windOfFlag yX8_windOfFlag]
def wsL_law_r27 : List Cond := [Cond.code yX8_windOfFlag cX8_windOfFlag 4 (some .int), Cond.methodLink RL 77 yX7_without, Cond.instanceMethod yX7_without, Cond.selects RX7 yX7_without yX7_without, Cond.code yX7_without cX7_without 5 (some .int), Cond.methodLink RL 80 yX8_without, Cond.instanceMethod yX8_without, Cond.selects RX8 yX8_without yX8_without, Cond.code yX8_without cX8_without 3 (some .int), Cond.methodLink RL 81 yX7_windiest, Cond.instanceMethod yX7_windiest, Cond.selects RX7 yX7_windiest yX7_windiest, Cond.code yX7_windiest cX7_windiest 4 (some .int), Cond.methodLink RL 84 yX8_windiest, Cond.instanceMethod yX8_windiest, Cond.selects RX8 yX8_windiest yX8_windiest, Cond.code yX8_windiest cX8_windiest 4 (some .int), Cond.methodLink RL 87 yX7_put, Cond.instanceMethod yX7_put, Cond.selects RX7 yX7_put yX7_put, Cond.code yX7_put cX7_put 5 (some .int), Cond.constantLong RX7 249 (255), Cond.methodLink RX7 245 yX7_signsIn, Cond.static yX7_signsIn]
def wsL_law_r28 : List Cond := [Cond.code yX7_signsIn cX7_signsIn 6 (some .int), Cond.methodLink RL 91 yX8_put, Cond.instanceMethod yX8_put, Cond.selects RX8 yX8_put yX8_put, Cond.code yX8_put cX8_put 8 (some .int), Cond.constantLong RX8 115 (255), Cond.methodLink RL 92 yX7_wipe, Cond.instanceMethod yX7_wipe, Cond.selects RX7 yX7_wipe yX7_wipe, Cond.code yX7_wipe cX7_wipe 2 (some .int), Cond.methodLink RL 95 yX8_wipe, Cond.instanceMethod yX8_wipe, Cond.selects RX8 yX8_wipe yX8_wipe, Cond.code yX8_wipe cX8_wipe 2 (some .int), Cond.methodLink RL 96 yX7_fault, Cond.instanceMethod yX7_fault, Cond.selects RX7 yX7_fault yX7_fault, Cond.code yX7_fault cX7_fault 1 (some .int), Cond.methodLink RL 99 yX8_fault, Cond.methodLink RL 100 yX7_undo, Cond.instanceMethod yX7_undo, Cond.selects RX7 yX7_undo yX7_undo, Cond.code yX7_undo cX7_undo 1 (some .int), Cond.methodLink RX7 254 yX1_takeBack]
def wsL_law_r29 : List Cond := [Cond.instanceMethod yX1_takeBack, Cond.selects RX1 yX1_takeBack yX1_takeBack, Cond.code yX1_takeBack cX1_takeBack 2 none, Cond.methodLink RL 103 yX8_undo, Cond.instanceMethod yX8_undo, Cond.selects RX8 yX8_undo yX8_undo, Cond.code yX8_undo cX8_undo 2 (some .int), Cond.methodLink RL 104 yX7_save, Cond.instanceMethod yX7_save, Cond.selects RX7 yX7_save yX7_save, Cond.code yX7_save cX7_save 2 (some .int), Cond.methodLink RX7 257 yX6_copy, Cond.methodLink RL 107 yX8_save, Cond.instanceMethod yX8_save, Cond.selects RX8 yX8_save yX8_save, Cond.code yX8_save cX8_save 3 (some .int), Cond.methodLink RL 108 yX7_restore, Cond.instanceMethod yX7_restore, Cond.selects RX7 yX7_restore yX7_restore, Cond.code yX7_restore cX7_restore 2 (some .int), Cond.methodLink RL 111 yX8_restore, Cond.instanceMethod yX8_restore, Cond.selects RX8 yX8_restore yX8_restore, Cond.code yX8_restore cX8_restore 3 (some .int)]
def wsL_law : List Cond := (wsL_law_r1 ++ (wsL_law_r2 ++ (wsL_law_r3 ++ (wsL_law_r4 ++ (wsL_law_r5 ++ (wsL_law_r6 ++ (wsL_law_r7 ++ (wsL_law_r8 ++ (wsL_law_r9 ++ (wsL_law_r10 ++ (wsL_law_r11 ++ (wsL_law_r12 ++ (wsL_law_r13 ++ (wsL_law_r14 ++ (wsL_law_r15 ++ (wsL_law_r16 ++ (wsL_law_r17 ++ (wsL_law_r18 ++ (wsL_law_r19 ++ (wsL_law_r20 ++ (wsL_law_r21 ++ (wsL_law_r22 ++ (wsL_law_r23 ++ (wsL_law_r24 ++ (wsL_law_r25 ++ (wsL_law_r26 ++ (wsL_law_r27 ++ (wsL_law_r28 ++ wsL_law_r29)))))))))))))))))))))))))))) ++ wsX70 ++ wsX80 ++ wsX60 ++ wsX00 ++ wsX10 ++ wsX30 ++ wsX40 ++ wsX50 ++ wsX20 ++ ([] : List Cond)
theorem xw_in {big : List Cond} (ws : List Cond) (ps : List Nat) (h : ps.filterMap (fun i => big[i]?) = ws) : ∀ w ∈ ws, w ∈ big := by
  intro w hw
  rw [← h] at hw
  obtain ⟨i, -, hi⟩ := List.mem_filterMap.mp hw
  exact List.mem_of_getElem? hi
set_option maxRecDepth 100000 in
theorem in_wsL_law_r1 : ∀ w ∈ wsL_law_r1, w ∈ lw_tbl := xw_in _ [51, 52, 39, 604, 605, 47, 861, 53, 54, 55, 56, 57, 58, 59, 60, 40, 247, 168, 169, 43, 248, 185, 186, 44] rfl
set_option maxRecDepth 100000 in
theorem in_wsL_law_r2 : ∀ w ∈ wsL_law_r2, w ∈ lw_tbl := xw_in _ [249, 250, 226, 251, 205, 206, 45, 252, 253, 228, 229, 46, 254, 61, 62, 63, 64, 67, 68, 69, 70, 71, 73, 148] rfl
set_option maxRecDepth 100000 in
theorem in_wsL_law_r3 : ∀ w ∈ wsL_law_r3, w ∈ lw_tbl := xw_in _ [74, 75, 41, 151, 117, 118, 42, 154, 156, 77, 78, 79, 116, 80, 84, 87, 91, 95, 99, 120, 121, 122, 123, 125] rfl
set_option maxRecDepth 100000 in
theorem in_wsL_law_r4 : ∀ w ∈ wsL_law_r4, w ∈ lw_tbl := xw_in _ [127, 129, 131, 144, 145, 146, 147, 171, 172, 173, 174, 175, 176, 187, 188, 189, 190, 191, 194, 195, 196, 193, 208, 209] rfl
set_option maxRecDepth 100000 in
theorem in_wsL_law_r5 : ∀ w ∈ wsL_law_r5, w ∈ lw_tbl := xw_in _ [210, 227, 211, 214, 217, 231, 232, 233, 234, 236, 238, 239, 606, 607, 608, 609, 613, 614, 616, 617, 618, 620, 621, 625] rfl
set_option maxRecDepth 100000 in
theorem in_wsL_law_r6 : ∀ w ∈ wsL_law_r6, w ∈ lw_tbl := xw_in _ [610, 611, 612, 272, 273, 274, 275, 276, 280, 282, 149, 277, 278, 279, 284, 285, 286, 287, 288, 289, 290, 291, 292, 293] rfl
set_option maxRecDepth 100000 in
theorem in_wsL_law_r7 : ∀ w ∈ wsL_law_r7, w ∈ lw_tbl := xw_in _ [294, 296, 297, 298, 299, 48, 300, 301, 303, 302, 49, 304, 305, 306, 307, 309, 310, 311, 312, 698, 699, 700, 701, 702] rfl
set_option maxRecDepth 100000 in
theorem in_wsL_law_r8 : ∀ w ∈ wsL_law_r8, w ∈ lw_tbl := xw_in _ [703, 704, 660, 661, 662, 663, 665, 14, 666, 615, 314, 315, 316, 317, 153, 237, 102, 318, 319, 320, 321, 215, 212, 322] rfl
set_option maxRecDepth 100000 in
theorem in_wsL_law_r9 : ∀ w ∈ wsL_law_r9, w ∈ lw_tbl := xw_in _ [323, 324, 325, 326, 328, 0, 329, 100, 330, 332, 1, 333, 335, 336, 337, 338, 339, 340, 341, 342, 343, 344, 50, 345] rfl
set_option maxRecDepth 100000 in
theorem in_wsL_law_r10 : ∀ w ∈ wsL_law_r10, w ∈ lw_tbl := xw_in _ [346, 347, 348, 349, 350, 352, 2, 353, 96, 354, 355, 356, 357, 359, 3, 360, 92, 361, 363, 4, 364, 365, 367, 5] rfl
set_option maxRecDepth 100000 in
theorem in_wsL_law_r11 : ∀ w ∈ wsL_law_r11, w ∈ lw_tbl := xw_in _ [368, 369, 371, 6, 372, 373, 374, 375, 376, 378, 380, 7, 381, 83, 382, 384, 8, 385, 386, 388, 9, 389, 88, 390] rfl
set_option maxRecDepth 100000 in
theorem in_wsL_law_r12 : ∀ w ∈ wsL_law_r12, w ∈ lw_tbl := xw_in _ [391, 392, 393, 394, 824, 825, 826, 827, 622, 619, 828, 805, 806, 807, 623, 624, 808, 810, 30, 811, 812, 814, 31, 815] rfl
set_option maxRecDepth 100000 in
theorem in_wsL_law_r13 : ∀ w ∈ wsL_law_r13, w ∈ lw_tbl := xw_in _ [816, 818, 32, 819, 820, 822, 33, 823, 395, 396, 397, 398, 399, 400, 401, 705, 706, 707, 708, 709, 711, 22, 712, 713] rfl
set_option maxRecDepth 100000 in
theorem in_wsL_law_r14 : ∀ w ∈ wsL_law_r14, w ∈ lw_tbl := xw_in _ [715, 23, 716, 683, 685, 19, 686, 402, 403, 404, 405, 406, 408, 410, 411, 412, 413, 717, 718, 719, 720, 721, 722, 723] rfl
set_option maxRecDepth 100000 in
theorem in_wsL_law_r15 : ∀ w ∈ wsL_law_r15, w ∈ lw_tbl := xw_in _ [724, 725, 726, 414, 415, 416, 417, 158, 418, 419, 420, 727, 728, 729, 730, 421, 422, 423, 424, 155, 130, 425, 426, 427] rfl
set_option maxRecDepth 100000 in
theorem in_wsL_law_r16 : ∀ w ∈ wsL_law_r16, w ∈ lw_tbl := xw_in _ [428, 152, 157, 429, 430, 431, 432, 101, 81, 85, 433, 434, 435, 436, 437, 438, 440, 10, 441, 445, 443, 444, 446, 447] rfl
set_option maxRecDepth 100000 in
theorem in_wsL_law_r17 : ∀ w ∈ wsL_law_r17, w ∈ lw_tbl := xw_in _ [448, 449, 450, 451, 452, 453, 150, 97, 454, 455, 456, 457, 458, 459, 460, 461, 462, 463, 464, 465, 466, 467, 468, 656] rfl
set_option maxRecDepth 100000 in
theorem in_wsL_law_r18 : ∀ w ∈ wsL_law_r18, w ∈ lw_tbl := xw_in _ [657, 658, 659, 667, 669, 15, 670, 671, 673, 16, 674, 675, 677, 17, 678, 679, 681, 18, 682, 687, 688, 689, 690, 692] rfl
set_option maxRecDepth 100000 in
theorem in_wsL_law_r19 : ∀ w ∈ wsL_law_r19, w ∈ lw_tbl := xw_in _ [20, 693, 694, 696, 21, 697, 469, 470, 471, 472, 218, 216, 473, 474, 475, 82, 476, 477, 478, 86, 90, 94, 98, 479] rfl
set_option maxRecDepth 100000 in
theorem in_wsL_law_r20 : ∀ w ∈ wsL_law_r20, w ∈ lw_tbl := xw_in _ [480, 481, 482, 483, 484, 485, 486, 487, 829, 830, 831, 832, 626, 833, 835, 34, 836, 837, 839, 35, 840, 841, 843, 36] rfl
set_option maxRecDepth 100000 in
theorem in_wsL_law_r21 : ∀ w ∈ wsL_law_r21, w ∈ lw_tbl := xw_in _ [844, 845, 847, 37, 848, 488, 489, 490, 491, 492, 493, 494, 495, 496, 497, 498, 499, 500, 501, 731, 732, 733, 734, 735] rfl
set_option maxRecDepth 100000 in
theorem in_wsL_law_r22 : ∀ w ∈ wsL_law_r22, w ∈ lw_tbl := xw_in _ [737, 24, 738, 739, 741, 25, 742, 743, 745, 26, 746, 502, 503, 504, 505, 177, 506, 507, 508, 509, 510, 89, 511, 512] rfl
set_option maxRecDepth 100000 in
theorem in_wsL_law_r23 : ∀ w ∈ wsL_law_r23, w ∈ lw_tbl := xw_in _ [513, 514, 93, 515, 747, 748, 749, 750, 751, 753, 27, 754, 516, 517, 518, 519, 124, 126, 128, 520, 521, 522, 523, 524] rfl
set_option maxRecDepth 100000 in
theorem in_wsL_law_r24 : ∀ w ∈ wsL_law_r24, w ∈ lw_tbl := xw_in _ [755, 756, 757, 758, 525, 526, 527, 528, 213, 759, 760, 761, 762, 529, 530, 531, 532, 132, 197, 533, 534, 535, 536, 537] rfl
set_option maxRecDepth 100000 in
theorem in_wsL_law_r25 : ∀ w ∈ wsL_law_r25, w ∈ lw_tbl := xw_in _ [539, 11, 540, 541, 542, 543, 545, 12, 546, 547, 549, 13, 550, 763, 764, 765, 766, 767, 769, 28, 770, 771, 773, 29] rfl
set_option maxRecDepth 100000 in
theorem in_wsL_law_r26 : ∀ w ∈ wsL_law_r26, w ∈ lw_tbl := xw_in _ [774, 551, 552, 553, 554, 775, 776, 777, 778, 555, 556, 557, 558, 779, 780, 781, 782, 559, 560, 561, 562, 783, 784, 785] rfl
set_option maxRecDepth 100000 in
theorem in_wsL_law_r27 : ∀ w ∈ wsL_law_r27, w ∈ lw_tbl := xw_in _ [786, 563, 564, 565, 566, 787, 788, 789, 790, 567, 568, 569, 570, 791, 792, 793, 794, 571, 572, 573, 574, 578, 575, 576] rfl
set_option maxRecDepth 100000 in
theorem in_wsL_law_r28 : ∀ w ∈ wsL_law_r28, w ∈ lw_tbl := xw_in _ [577, 795, 796, 797, 798, 799, 579, 580, 581, 582, 800, 801, 802, 803, 583, 584, 585, 586, 804, 587, 588, 589, 590, 591] rfl
set_option maxRecDepth 100000 in
theorem in_wsL_law_r29 : ∀ w ∈ wsL_law_r29, w ∈ lw_tbl := xw_in _ [592, 593, 594, 849, 850, 851, 852, 595, 596, 597, 598, 599, 853, 854, 855, 856, 600, 601, 602, 603, 857, 858, 859, 860] rfl
set_option maxRecDepth 100000 in
theorem in_wsX70 : ∀ w ∈ wsX70, w ∈ lw_tbl := by decide +kernel
set_option maxRecDepth 100000 in
theorem in_wsX80 : ∀ w ∈ wsX80, w ∈ lw_tbl := by decide +kernel
set_option maxRecDepth 100000 in
theorem in_wsX60 : ∀ w ∈ wsX60, w ∈ lw_tbl := by decide +kernel
set_option maxRecDepth 100000 in
theorem in_wsX00 : ∀ w ∈ wsX00, w ∈ lw_tbl := by decide +kernel
set_option maxRecDepth 100000 in
theorem in_wsX10 : ∀ w ∈ wsX10, w ∈ lw_tbl := by decide +kernel
set_option maxRecDepth 100000 in
theorem in_wsX30 : ∀ w ∈ wsX30, w ∈ lw_tbl := by decide +kernel
set_option maxRecDepth 100000 in
theorem in_wsX40 : ∀ w ∈ wsX40, w ∈ lw_tbl := by decide +kernel
set_option maxRecDepth 100000 in
theorem in_wsX50 : ∀ w ∈ wsX50, w ∈ lw_tbl := by decide +kernel
set_option maxRecDepth 100000 in
theorem in_wsX20 : ∀ w ∈ wsX20, w ∈ lw_tbl := by decide +kernel
theorem wsL_law_in : ∀ w ∈ wsL_law, w ∈ lw_tbl := List.forall_mem_append.mpr ⟨List.forall_mem_append.mpr ⟨List.forall_mem_append.mpr ⟨List.forall_mem_append.mpr ⟨List.forall_mem_append.mpr ⟨List.forall_mem_append.mpr ⟨List.forall_mem_append.mpr ⟨List.forall_mem_append.mpr ⟨List.forall_mem_append.mpr ⟨List.forall_mem_append.mpr ⟨List.forall_mem_append.mpr ⟨in_wsL_law_r1, List.forall_mem_append.mpr ⟨in_wsL_law_r2, List.forall_mem_append.mpr ⟨in_wsL_law_r3, List.forall_mem_append.mpr ⟨in_wsL_law_r4, List.forall_mem_append.mpr ⟨in_wsL_law_r5, List.forall_mem_append.mpr ⟨in_wsL_law_r6, List.forall_mem_append.mpr ⟨in_wsL_law_r7, List.forall_mem_append.mpr ⟨in_wsL_law_r8, List.forall_mem_append.mpr ⟨in_wsL_law_r9, List.forall_mem_append.mpr ⟨in_wsL_law_r10, List.forall_mem_append.mpr ⟨in_wsL_law_r11, List.forall_mem_append.mpr ⟨in_wsL_law_r12, List.forall_mem_append.mpr ⟨in_wsL_law_r13, List.forall_mem_append.mpr ⟨in_wsL_law_r14, List.forall_mem_append.mpr ⟨in_wsL_law_r15, List.forall_mem_append.mpr ⟨in_wsL_law_r16, List.forall_mem_append.mpr ⟨in_wsL_law_r17, List.forall_mem_append.mpr ⟨in_wsL_law_r18, List.forall_mem_append.mpr ⟨in_wsL_law_r19, List.forall_mem_append.mpr ⟨in_wsL_law_r20, List.forall_mem_append.mpr ⟨in_wsL_law_r21, List.forall_mem_append.mpr ⟨in_wsL_law_r22, List.forall_mem_append.mpr ⟨in_wsL_law_r23, List.forall_mem_append.mpr ⟨in_wsL_law_r24, List.forall_mem_append.mpr ⟨in_wsL_law_r25, List.forall_mem_append.mpr ⟨in_wsL_law_r26, List.forall_mem_append.mpr ⟨in_wsL_law_r27, List.forall_mem_append.mpr ⟨in_wsL_law_r28, in_wsL_law_r29⟩⟩⟩⟩⟩⟩⟩⟩⟩⟩⟩⟩⟩⟩⟩⟩⟩⟩⟩⟩⟩⟩⟩⟩⟩⟩⟩⟩, in_wsX70⟩, in_wsX80⟩, in_wsX60⟩, in_wsX00⟩, in_wsX10⟩, in_wsX30⟩, in_wsX40⟩, in_wsX50⟩, in_wsX20⟩, fun _ h => absurd h List.not_mem_nil⟩
theorem inlX0 : ∀ w ∈ wsX00, w ∈ wsL_law := fun _ h => List.mem_append_left _ (List.mem_append_left _ (List.mem_append_left _ (List.mem_append_left _ (List.mem_append_left _ (List.mem_append_left _ (List.mem_append_right _ h))))))
theorem inX0 : ∀ w ∈ wsX00, w ∈ lw_tbl := fun w h => wsL_law_in w (inlX0 w h)
theorem inlX1 : ∀ w ∈ wsX10, w ∈ wsL_law := fun _ h => List.mem_append_left _ (List.mem_append_left _ (List.mem_append_left _ (List.mem_append_left _ (List.mem_append_left _ (List.mem_append_right _ h)))))
theorem inX1 : ∀ w ∈ wsX10, w ∈ lw_tbl := fun w h => wsL_law_in w (inlX1 w h)
theorem inlX2 : ∀ w ∈ wsX20, w ∈ wsL_law := fun _ h => List.mem_append_left _ (List.mem_append_right _ h)
theorem inX2 : ∀ w ∈ wsX20, w ∈ lw_tbl := fun w h => wsL_law_in w (inlX2 w h)
theorem inlX3 : ∀ w ∈ wsX30, w ∈ wsL_law := fun _ h => List.mem_append_left _ (List.mem_append_left _ (List.mem_append_left _ (List.mem_append_left _ (List.mem_append_right _ h))))
theorem inX3 : ∀ w ∈ wsX30, w ∈ lw_tbl := fun w h => wsL_law_in w (inlX3 w h)
theorem inlX4 : ∀ w ∈ wsX40, w ∈ wsL_law := fun _ h => List.mem_append_left _ (List.mem_append_left _ (List.mem_append_left _ (List.mem_append_right _ h)))
theorem inX4 : ∀ w ∈ wsX40, w ∈ lw_tbl := fun w h => wsL_law_in w (inlX4 w h)
theorem inlX5 : ∀ w ∈ wsX50, w ∈ wsL_law := fun _ h => List.mem_append_left _ (List.mem_append_left _ (List.mem_append_right _ h))
theorem inX5 : ∀ w ∈ wsX50, w ∈ lw_tbl := fun w h => wsL_law_in w (inlX5 w h)
theorem inlX6 : ∀ w ∈ wsX60, w ∈ wsL_law := fun _ h => List.mem_append_left _ (List.mem_append_left _ (List.mem_append_left _ (List.mem_append_left _ (List.mem_append_left _ (List.mem_append_left _ (List.mem_append_left _ (List.mem_append_right _ h)))))))
theorem inX6 : ∀ w ∈ wsX60, w ∈ lw_tbl := fun w h => wsL_law_in w (inlX6 w h)
theorem inlX7 : ∀ w ∈ wsX70, w ∈ wsL_law := fun _ h => List.mem_append_left _ (List.mem_append_left _ (List.mem_append_left _ (List.mem_append_left _ (List.mem_append_left _ (List.mem_append_left _ (List.mem_append_left _ (List.mem_append_left _ (List.mem_append_left _ (List.mem_append_right _ h)))))))))
theorem inX7 : ∀ w ∈ wsX70, w ∈ lw_tbl := fun w h => wsL_law_in w (inlX7 w h)
theorem inlX8 : ∀ w ∈ wsX80, w ∈ wsL_law := fun _ h => List.mem_append_left _ (List.mem_append_left _ (List.mem_append_left _ (List.mem_append_left _ (List.mem_append_left _ (List.mem_append_left _ (List.mem_append_left _ (List.mem_append_left _ (List.mem_append_right _ h))))))))
theorem inX8 : ∀ w ∈ wsX80, w ∈ lw_tbl := fun w h => wsL_law_in w (inlX8 w h)
theorem inJx8e188 : ∀ w ∈ wsJx8e1880, w ∈ lw_tbl := by decide +kernel
theorem inJ6 : ∀ w ∈ wsJ60, w ∈ lw_tbl := by decide +kernel
theorem inJ9 : ∀ w ∈ wsJ90, w ∈ lw_tbl := by decide +kernel
theorem inJ10 : ∀ w ∈ wsJ100, w ∈ lw_tbl := by decide +kernel
end
section
theorem dX0_init_0 : decode cX0_init 0 = .ok (.aload_n 0, 1) := by decide +kernel
theorem dX0_init_1 : decode cX0_init 1 = .ok (.invokespecial 3, 3) := by decide +kernel
theorem dX0_init_4 : decode cX0_init 4 = .ok (.aload_n 0, 1) := by decide +kernel
theorem dX0_init_5 : decode cX0_init 5 = .ok (.bipush 20, 2) := by decide +kernel
theorem dX0_init_7 : decode cX0_init 7 = .ok (.newarray .int, 2) := by decide +kernel
theorem dX0_init_9 : decode cX0_init 9 = .ok (.putfield 9, 3) := by decide +kernel
theorem dX0_init_12 : decode cX0_init 12 = .ok (.aload_n 0, 1) := by decide +kernel
theorem dX0_init_13 : decode cX0_init 13 = .ok (.bipush 20, 2) := by decide +kernel
theorem dX0_init_15 : decode cX0_init 15 = .ok (.newarray .int, 2) := by decide +kernel
theorem dX0_init_17 : decode cX0_init 17 = .ok (.putfield 15, 3) := by decide +kernel
theorem dX0_init_20 : decode cX0_init 20 = .ok (.aload_n 0, 1) := by decide +kernel
theorem dX0_init_21 : decode cX0_init 21 = .ok (.bipush 20, 2) := by decide +kernel
theorem dX0_init_23 : decode cX0_init 23 = .ok (.newarray .int, 2) := by decide +kernel
theorem dX0_init_25 : decode cX0_init 25 = .ok (.putfield 18, 3) := by decide +kernel
theorem dX0_init_28 : decode cX0_init 28 = .ok (.return_, 1) := by decide +kernel
set_option maxRecDepth 20000 in
theorem ggX0_blowIn_X0_part : GoodIn wsX0_blowIn wsX0_part := goodIn_r _ [7, 8, 9, 10, 11, 12, 41, 42, 43, 44, 45, 46, 47, 48, 49] (by decide +kernel) (by decide +kernel)
set_option maxRecDepth 20000 in
theorem gX0_blowIn_X0_part : GoodIn wsX0_blowIn (wsV RX0 27 RX0 yX0_part wsX0_part) := goodIn_app (goodIn_of _ (by decide +kernel)) ggX0_blowIn_X0_part
set_option maxRecDepth 20000 in
theorem ggX0_blowIn_X0_blow : GoodIn wsX0_blowIn wsX0_blow := goodIn_r _ [16, 8, 11, 17, 18, 19, 20, 21, 22, 23, 24, 25, 26, 27, 28, 29, 6, 30, 12, 9, 10, 31, 32, 33, 34, 35, 36, 41, 42, 43, 44, 45, 46, 47, 48, 49] (by decide +kernel) (by decide +kernel)
set_option maxRecDepth 20000 in
theorem gX0_blowIn_X0_blow : GoodIn wsX0_blowIn (wsV RX0 34 RX0 yX0_blow wsX0_blow) := goodIn_app (goodIn_of _ (by decide +kernel)) ggX0_blowIn_X0_blow
theorem dX0_blowIn_0 : decode cX0_blowIn 0 = .ok (.aload_n 0, 1) := by decide +kernel
theorem dX0_blowIn_1 : decode cX0_blowIn 1 = .ok (.aload_n 1, 1) := by decide +kernel
theorem dX0_blowIn_2 : decode cX0_blowIn 2 = .ok (.getfield 21, 3) := by decide +kernel
theorem dX0_blowIn_5 : decode cX0_blowIn 5 = .ok (.bipush (-6), 2) := by decide +kernel
theorem dX0_blowIn_7 : decode cX0_blowIn 7 = .ok (.invokevirtual 27, 3) := by decide +kernel
theorem dX0_blowIn_10 : decode cX0_blowIn 10 = .ok (.aload_n 0, 1) := by decide +kernel
theorem dX0_blowIn_11 : decode cX0_blowIn 11 = .ok (.aload_n 1, 1) := by decide +kernel
theorem dX0_blowIn_12 : decode cX0_blowIn 12 = .ok (.getfield 21, 3) := by decide +kernel
theorem dX0_blowIn_15 : decode cX0_blowIn 15 = .ok (.aload_n 1, 1) := by decide +kernel
theorem dX0_blowIn_16 : decode cX0_blowIn 16 = .ok (.getfield 31, 3) := by decide +kernel
theorem dX0_blowIn_19 : decode cX0_blowIn 19 = .ok (.invokevirtual 34, 3) := by decide +kernel
theorem dX0_blowIn_22 : decode cX0_blowIn 22 = .ok (.return_, 1) := by decide +kernel
theorem dX0_part_0 : decode cX0_part 0 = .ok (.iconst 0, 1) := by decide +kernel
theorem dX0_part_1 : decode cX0_part 1 = .ok (.istore_n 3, 1) := by decide +kernel
theorem dX0_part_2 : decode cX0_part 2 = .ok (.iload_n 3, 1) := by decide +kernel
theorem dX0_part_3 : decode cX0_part 3 = .ok (.aload_n 1, 1) := by decide +kernel
theorem dX0_part_4 : decode cX0_part 4 = .ok (.getfield 37, 3) := by decide +kernel
theorem dX0_part_7 : decode cX0_part 7 = .ok (.if_icmp .ge 109, 3) := by decide +kernel
theorem dX0_part_10 : decode cX0_part 10 = .ok (.aload_n 0, 1) := by decide +kernel
theorem dX0_part_11 : decode cX0_part 11 = .ok (.getfield 9, 3) := by decide +kernel
theorem dX0_part_14 : decode cX0_part 14 = .ok (.iload_n 3, 1) := by decide +kernel
theorem dX0_part_15 : decode cX0_part 15 = .ok (.iconst 0, 1) := by decide +kernel
theorem dX0_part_16 : decode cX0_part 16 = .ok (.iastore, 1) := by decide +kernel
theorem dX0_part_17 : decode cX0_part 17 = .ok (.aload_n 0, 1) := by decide +kernel
theorem dX0_part_18 : decode cX0_part 18 = .ok (.getfield 15, 3) := by decide +kernel
theorem dX0_part_21 : decode cX0_part 21 = .ok (.iload_n 3, 1) := by decide +kernel
theorem dX0_part_22 : decode cX0_part 22 = .ok (.iconst 0, 1) := by decide +kernel
theorem dX0_part_23 : decode cX0_part 23 = .ok (.iastore, 1) := by decide +kernel
theorem dX0_part_24 : decode cX0_part 24 = .ok (.iconst 0, 1) := by decide +kernel
theorem dX0_part_25 : decode cX0_part 25 = .ok (.istore 4, 2) := by decide +kernel
theorem dX0_part_27 : decode cX0_part 27 = .ok (.iload 4, 2) := by decide +kernel
theorem dX0_part_29 : decode cX0_part 29 = .ok (.aload_n 1, 1) := by decide +kernel
theorem dX0_part_30 : decode cX0_part 30 = .ok (.getfield 37, 3) := by decide +kernel
theorem dX0_part_33 : decode cX0_part 33 = .ok (.if_icmp .ge 77, 3) := by decide +kernel
theorem dX0_part_36 : decode cX0_part 36 = .ok (.iload 4, 2) := by decide +kernel
theorem dX0_part_38 : decode cX0_part 38 = .ok (.iload_n 2, 1) := by decide +kernel
theorem dX0_part_39 : decode cX0_part 39 = .ok (.if_icmp .eq 65, 3) := by decide +kernel
theorem dX0_part_42 : decode cX0_part 42 = .ok (.aload_n 1, 1) := by decide +kernel
theorem dX0_part_43 : decode cX0_part 43 = .ok (.getfield 42, 3) := by decide +kernel
theorem dX0_part_46 : decode cX0_part 46 = .ok (.iload 4, 2) := by decide +kernel
theorem dX0_part_48 : decode cX0_part 48 = .ok (.iaload, 1) := by decide +kernel
theorem dX0_part_49 : decode cX0_part 49 = .ok (.aload_n 1, 1) := by decide +kernel
theorem dX0_part_50 : decode cX0_part 50 = .ok (.getfield 42, 3) := by decide +kernel
theorem dX0_part_53 : decode cX0_part 53 = .ok (.iload_n 3, 1) := by decide +kernel
theorem dX0_part_54 : decode cX0_part 54 = .ok (.iaload, 1) := by decide +kernel
theorem dX0_part_55 : decode cX0_part 55 = .ok (.if_icmp .ne 49, 3) := by decide +kernel
theorem dX0_part_58 : decode cX0_part 58 = .ok (.aload_n 0, 1) := by decide +kernel
theorem dX0_part_59 : decode cX0_part 59 = .ok (.getfield 9, 3) := by decide +kernel
theorem dX0_part_62 : decode cX0_part 62 = .ok (.iload_n 3, 1) := by decide +kernel
theorem dX0_part_63 : decode cX0_part 63 = .ok (.dup2, 1) := by decide +kernel
theorem dX0_part_64 : decode cX0_part 64 = .ok (.iaload, 1) := by decide +kernel
theorem dX0_part_65 : decode cX0_part 65 = .ok (.aload_n 1, 1) := by decide +kernel
theorem dX0_part_66 : decode cX0_part 66 = .ok (.getfield 45, 3) := by decide +kernel
theorem dX0_part_69 : decode cX0_part 69 = .ok (.iload 4, 2) := by decide +kernel
theorem dX0_part_71 : decode cX0_part 71 = .ok (.iaload, 1) := by decide +kernel
theorem dX0_part_72 : decode cX0_part 72 = .ok (.iadd, 1) := by decide +kernel
theorem dX0_part_73 : decode cX0_part 73 = .ok (.iastore, 1) := by decide +kernel
theorem dX0_part_74 : decode cX0_part 74 = .ok (.aload_n 0, 1) := by decide +kernel
theorem dX0_part_75 : decode cX0_part 75 = .ok (.getfield 15, 3) := by decide +kernel
theorem dX0_part_78 : decode cX0_part 78 = .ok (.iload_n 3, 1) := by decide +kernel
theorem dX0_part_79 : decode cX0_part 79 = .ok (.dup2, 1) := by decide +kernel
theorem dX0_part_80 : decode cX0_part 80 = .ok (.iaload, 1) := by decide +kernel
theorem dX0_part_81 : decode cX0_part 81 = .ok (.aload_n 1, 1) := by decide +kernel
theorem dX0_part_82 : decode cX0_part 82 = .ok (.getfield 45, 3) := by decide +kernel
theorem dX0_part_85 : decode cX0_part 85 = .ok (.iload 4, 2) := by decide +kernel
theorem dX0_part_87 : decode cX0_part 87 = .ok (.iaload, 1) := by decide +kernel
theorem dX0_part_88 : decode cX0_part 88 = .ok (.aload_n 1, 1) := by decide +kernel
theorem dX0_part_89 : decode cX0_part 89 = .ok (.getfield 45, 3) := by decide +kernel
theorem dX0_part_92 : decode cX0_part 92 = .ok (.iload_n 3, 1) := by decide +kernel
theorem dX0_part_93 : decode cX0_part 93 = .ok (.iaload, 1) := by decide +kernel
theorem dX0_part_94 : decode cX0_part 94 = .ok (.if_icmp .ge 7, 3) := by decide +kernel
theorem dX0_part_97 : decode cX0_part 97 = .ok (.iconst 1, 1) := by decide +kernel
theorem dX0_part_98 : decode cX0_part 98 = .ok (.goto 4, 3) := by decide +kernel
theorem dX0_part_101 : decode cX0_part 101 = .ok (.iconst 0, 1) := by decide +kernel
theorem dX0_part_102 : decode cX0_part 102 = .ok (.iadd, 1) := by decide +kernel
theorem dX0_part_103 : decode cX0_part 103 = .ok (.iastore, 1) := by decide +kernel
theorem dX0_part_104 : decode cX0_part 104 = .ok (.iinc 4 1, 3) := by decide +kernel
theorem dX0_part_107 : decode cX0_part 107 = .ok (.goto (-80), 3) := by decide +kernel
theorem dX0_part_110 : decode cX0_part 110 = .ok (.iinc 3 1, 3) := by decide +kernel
theorem dX0_part_113 : decode cX0_part 113 = .ok (.goto (-111), 3) := by decide +kernel
theorem dX0_part_116 : decode cX0_part 116 = .ok (.return_, 1) := by decide +kernel
set_option maxRecDepth 20000 in
theorem ggX0_blow_X5_has : GoodIn wsX0_blow wsX5_has := goodIn_r _ [8, 9, 10, 11, 12, 27, 28, 29, 30, 31, 32] (by decide +kernel) (by decide +kernel)
set_option maxRecDepth 20000 in
theorem gX0_blow_X5_has : GoodIn wsX0_blow (wsV RX0 48 RX5 yX5_has wsX5_has) := goodIn_app (goodIn_of _ (by decide +kernel)) ggX0_blow_X5_has
set_option maxRecDepth 20000 in
theorem ggX0_blow_X0_shareOf : GoodIn wsX0_blow wsX0_shareOf := goodIn_r _ [17, 18, 19, 20, 21, 22, 23, 24, 25, 11, 26, 27, 28, 29, 30, 31, 32, 33, 34, 35] (by decide +kernel) (by decide +kernel)
set_option maxRecDepth 20000 in
theorem gX0_blow_X0_shareOf : GoodIn wsX0_blow (wsV RX0 52 RX0 yX0_shareOf wsX0_shareOf) := goodIn_app (goodIn_of _ (by decide +kernel)) ggX0_blow_X0_shareOf
theorem dX0_blow_0 : decode cX0_blow 0 = .ok (.iconst 0, 1) := by decide +kernel
theorem dX0_blow_1 : decode cX0_blow 1 = .ok (.istore_n 3, 1) := by decide +kernel
theorem dX0_blow_2 : decode cX0_blow 2 = .ok (.iload_n 3, 1) := by decide +kernel
theorem dX0_blow_3 : decode cX0_blow 3 = .ok (.aload_n 1, 1) := by decide +kernel
theorem dX0_blow_4 : decode cX0_blow 4 = .ok (.getfield 37, 3) := by decide +kernel
theorem dX0_blow_7 : decode cX0_blow 7 = .ok (.if_icmp .ge 49, 3) := by decide +kernel
theorem dX0_blow_10 : decode cX0_blow 10 = .ok (.aload_n 1, 1) := by decide +kernel
theorem dX0_blow_11 : decode cX0_blow 11 = .ok (.getfield 42, 3) := by decide +kernel
theorem dX0_blow_14 : decode cX0_blow 14 = .ok (.iload_n 3, 1) := by decide +kernel
theorem dX0_blow_15 : decode cX0_blow 15 = .ok (.iaload, 1) := by decide +kernel
theorem dX0_blow_16 : decode cX0_blow 16 = .ok (.istore 4, 2) := by decide +kernel
theorem dX0_blow_18 : decode cX0_blow 18 = .ok (.aload_n 0, 1) := by decide +kernel
theorem dX0_blow_19 : decode cX0_blow 19 = .ok (.getfield 18, 3) := by decide +kernel
theorem dX0_blow_22 : decode cX0_blow 22 = .ok (.iload_n 3, 1) := by decide +kernel
theorem dX0_blow_23 : decode cX0_blow 23 = .ok (.aload_n 1, 1) := by decide +kernel
theorem dX0_blow_24 : decode cX0_blow 24 = .ok (.iload 4, 2) := by decide +kernel
theorem dX0_blow_26 : decode cX0_blow 26 = .ok (.invokevirtual 48, 3) := by decide +kernel
theorem dX0_blow_29 : decode cX0_blow 29 = .ok (.ifCond .eq 19, 3) := by decide +kernel
theorem dX0_blow_32 : decode cX0_blow 32 = .ok (.aload_n 0, 1) := by decide +kernel
theorem dX0_blow_33 : decode cX0_blow 33 = .ok (.aload_n 1, 1) := by decide +kernel
theorem dX0_blow_34 : decode cX0_blow 34 = .ok (.iload_n 3, 1) := by decide +kernel
theorem dX0_blow_35 : decode cX0_blow 35 = .ok (.aload_n 0, 1) := by decide +kernel
theorem dX0_blow_36 : decode cX0_blow 36 = .ok (.getfield 18, 3) := by decide +kernel
theorem dX0_blow_39 : decode cX0_blow 39 = .ok (.iload 4, 2) := by decide +kernel
theorem dX0_blow_41 : decode cX0_blow 41 = .ok (.iaload, 1) := by decide +kernel
theorem dX0_blow_42 : decode cX0_blow 42 = .ok (.invokevirtual 52, 3) := by decide +kernel
theorem dX0_blow_45 : decode cX0_blow 45 = .ok (.goto 4, 3) := by decide +kernel
theorem dX0_blow_48 : decode cX0_blow 48 = .ok (.iload_n 2, 1) := by decide +kernel
theorem dX0_blow_49 : decode cX0_blow 49 = .ok (.iastore, 1) := by decide +kernel
theorem dX0_blow_50 : decode cX0_blow 50 = .ok (.iinc 3 1, 3) := by decide +kernel
theorem dX0_blow_53 : decode cX0_blow 53 = .ok (.goto (-51), 3) := by decide +kernel
theorem dX0_blow_56 : decode cX0_blow 56 = .ok (.return_, 1) := by decide +kernel
set_option maxRecDepth 20000 in
theorem ggX0_shareOf_X7_quotient : GoodIn wsX0_shareOf wsX7_quotient := goodIn_r _ [10] (by decide +kernel) (by decide +kernel)
set_option maxRecDepth 20000 in
theorem gX0_shareOf_X7_quotient_n56 : GoodIn wsX0_shareOf (wsX7_quotient) := ggX0_shareOf_X7_quotient
theorem dX0_shareOf_0 : decode cX0_shareOf 0 = .ok (.iload_n 3, 1) := by decide +kernel
theorem dX0_shareOf_1 : decode cX0_shareOf 1 = .ok (.aload_n 1, 1) := by decide +kernel
theorem dX0_shareOf_2 : decode cX0_shareOf 2 = .ok (.getfield 45, 3) := by decide +kernel
theorem dX0_shareOf_5 : decode cX0_shareOf 5 = .ok (.iload_n 2, 1) := by decide +kernel
theorem dX0_shareOf_6 : decode cX0_shareOf 6 = .ok (.iaload, 1) := by decide +kernel
theorem dX0_shareOf_7 : decode cX0_shareOf 7 = .ok (.imul, 1) := by decide +kernel
theorem dX0_shareOf_8 : decode cX0_shareOf 8 = .ok (.aload_n 0, 1) := by decide +kernel
theorem dX0_shareOf_9 : decode cX0_shareOf 9 = .ok (.getfield 9, 3) := by decide +kernel
theorem dX0_shareOf_12 : decode cX0_shareOf 12 = .ok (.iload_n 2, 1) := by decide +kernel
theorem dX0_shareOf_13 : decode cX0_shareOf 13 = .ok (.iaload, 1) := by decide +kernel
theorem dX0_shareOf_14 : decode cX0_shareOf 14 = .ok (.invokestatic 56, 3) := by decide +kernel
theorem dX0_shareOf_17 : decode cX0_shareOf 17 = .ok (.istore 4, 2) := by decide +kernel
theorem dX0_shareOf_19 : decode cX0_shareOf 19 = .ok (.iload_n 3, 1) := by decide +kernel
theorem dX0_shareOf_20 : decode cX0_shareOf 20 = .ok (.iload 4, 2) := by decide +kernel
theorem dX0_shareOf_22 : decode cX0_shareOf 22 = .ok (.iconst 5, 1) := by decide +kernel
theorem dX0_shareOf_23 : decode cX0_shareOf 23 = .ok (.aload_n 0, 1) := by decide +kernel
theorem dX0_shareOf_24 : decode cX0_shareOf 24 = .ok (.getfield 15, 3) := by decide +kernel
theorem dX0_shareOf_27 : decode cX0_shareOf 27 = .ok (.iload_n 2, 1) := by decide +kernel
theorem dX0_shareOf_28 : decode cX0_shareOf 28 = .ok (.iaload, 1) := by decide +kernel
theorem dX0_shareOf_29 : decode cX0_shareOf 29 = .ok (.imul, 1) := by decide +kernel
theorem dX0_shareOf_30 : decode cX0_shareOf 30 = .ok (.iadd, 1) := by decide +kernel
theorem dX0_shareOf_31 : decode cX0_shareOf 31 = .ok (.invokestatic 60, 3) := by decide +kernel
theorem dX0_shareOf_34 : decode cX0_shareOf 34 = .ok (.ireturn, 1) := by decide +kernel
theorem dX0_gustIn_0 : decode cX0_gustIn 0 = .ok (.aload_n 0, 1) := by decide +kernel
theorem dX0_gustIn_1 : decode cX0_gustIn 1 = .ok (.getfield 18, 3) := by decide +kernel
theorem dX0_gustIn_4 : decode cX0_gustIn 4 = .ok (.iload_n 2, 1) := by decide +kernel
theorem dX0_gustIn_5 : decode cX0_gustIn 5 = .ok (.iaload, 1) := by decide +kernel
theorem dX0_gustIn_6 : decode cX0_gustIn 6 = .ok (.aload_n 0, 1) := by decide +kernel
theorem dX0_gustIn_7 : decode cX0_gustIn 7 = .ok (.getfield 18, 3) := by decide +kernel
theorem dX0_gustIn_10 : decode cX0_gustIn 10 = .ok (.iload_n 2, 1) := by decide +kernel
theorem dX0_gustIn_11 : decode cX0_gustIn 11 = .ok (.iaload, 1) := by decide +kernel
theorem dX0_gustIn_12 : decode cX0_gustIn 12 = .ok (.aload_n 1, 1) := by decide +kernel
theorem dX0_gustIn_13 : decode cX0_gustIn 13 = .ok (.getfield 65, 3) := by decide +kernel
theorem dX0_gustIn_16 : decode cX0_gustIn 16 = .ok (.iconst 2, 1) := by decide +kernel
theorem dX0_gustIn_17 : decode cX0_gustIn 17 = .ok (.iaload, 1) := by decide +kernel
theorem dX0_gustIn_18 : decode cX0_gustIn 18 = .ok (.imul, 1) := by decide +kernel
theorem dX0_gustIn_19 : decode cX0_gustIn 19 = .ok (.bipush 100, 2) := by decide +kernel
theorem dX0_gustIn_21 : decode cX0_gustIn 21 = .ok (.idiv, 1) := by decide +kernel
theorem dX0_gustIn_22 : decode cX0_gustIn 22 = .ok (.iadd, 1) := by decide +kernel
theorem dX0_gustIn_23 : decode cX0_gustIn 23 = .ok (.ireturn, 1) := by decide +kernel
set_option maxRecDepth 20000 in
theorem ggX0_flagSteps_X7_quotient : GoodIn wsX0_flagSteps wsX7_quotient := goodIn_r _ [11] (by decide +kernel) (by decide +kernel)
set_option maxRecDepth 20000 in
theorem gX0_flagSteps_X7_quotient_n56 : GoodIn wsX0_flagSteps (wsX7_quotient) := ggX0_flagSteps_X7_quotient
theorem dX0_flagSteps_0 : decode cX0_flagSteps 0 = .ok (.aload_n 1, 1) := by decide +kernel
theorem dX0_flagSteps_1 : decode cX0_flagSteps 1 = .ok (.getfield 21, 3) := by decide +kernel
theorem dX0_flagSteps_4 : decode cX0_flagSteps 4 = .ok (.getfield 68, 3) := by decide +kernel
theorem dX0_flagSteps_7 : decode cX0_flagSteps 7 = .ok (.iload_n 2, 1) := by decide +kernel
theorem dX0_flagSteps_8 : decode cX0_flagSteps 8 = .ok (.iaload, 1) := by decide +kernel
theorem dX0_flagSteps_9 : decode cX0_flagSteps 9 = .ok (.istore_n 3, 1) := by decide +kernel
theorem dX0_flagSteps_10 : decode cX0_flagSteps 10 = .ok (.iload_n 3, 1) := by decide +kernel
theorem dX0_flagSteps_11 : decode cX0_flagSteps 11 = .ok (.ifCond .ne 6, 3) := by decide +kernel
theorem dX0_flagSteps_14 : decode cX0_flagSteps 14 = .ok (.bipush (-6), 2) := by decide +kernel
theorem dX0_flagSteps_16 : decode cX0_flagSteps 16 = .ok (.ireturn, 1) := by decide +kernel
theorem dX0_flagSteps_17 : decode cX0_flagSteps 17 = .ok (.bipush 12, 2) := by decide +kernel
theorem dX0_flagSteps_19 : decode cX0_flagSteps 19 = .ok (.aload_n 0, 1) := by decide +kernel
theorem dX0_flagSteps_20 : decode cX0_flagSteps 20 = .ok (.getfield 18, 3) := by decide +kernel
theorem dX0_flagSteps_23 : decode cX0_flagSteps 23 = .ok (.iload_n 2, 1) := by decide +kernel
theorem dX0_flagSteps_24 : decode cX0_flagSteps 24 = .ok (.iaload, 1) := by decide +kernel
theorem dX0_flagSteps_25 : decode cX0_flagSteps 25 = .ok (.aload_n 1, 1) := by decide +kernel
theorem dX0_flagSteps_26 : decode cX0_flagSteps 26 = .ok (.getfield 65, 3) := by decide +kernel
theorem dX0_flagSteps_29 : decode cX0_flagSteps 29 = .ok (.iconst 0, 1) := by decide +kernel
theorem dX0_flagSteps_30 : decode cX0_flagSteps 30 = .ok (.iaload, 1) := by decide +kernel
theorem dX0_flagSteps_31 : decode cX0_flagSteps 31 = .ok (.iload_n 3, 1) := by decide +kernel
theorem dX0_flagSteps_32 : decode cX0_flagSteps 32 = .ok (.imul, 1) := by decide +kernel
theorem dX0_flagSteps_33 : decode cX0_flagSteps 33 = .ok (.invokestatic 56, 3) := by decide +kernel
theorem dX0_flagSteps_36 : decode cX0_flagSteps 36 = .ok (.invokestatic 60, 3) := by decide +kernel
theorem dX0_flagSteps_39 : decode cX0_flagSteps 39 = .ok (.ireturn, 1) := by decide +kernel
set_option maxRecDepth 20000 in
theorem ggX0_smokeSteps_X7_quotient : GoodIn wsX0_smokeSteps wsX7_quotient := goodIn_r _ [11] (by decide +kernel) (by decide +kernel)
set_option maxRecDepth 20000 in
theorem gX0_smokeSteps_X7_quotient_n56 : GoodIn wsX0_smokeSteps (wsX7_quotient) := ggX0_smokeSteps_X7_quotient
theorem dX0_smokeSteps_0 : decode cX0_smokeSteps 0 = .ok (.aload_n 1, 1) := by decide +kernel
theorem dX0_smokeSteps_1 : decode cX0_smokeSteps 1 = .ok (.getfield 21, 3) := by decide +kernel
theorem dX0_smokeSteps_4 : decode cX0_smokeSteps 4 = .ok (.getfield 71, 3) := by decide +kernel
theorem dX0_smokeSteps_7 : decode cX0_smokeSteps 7 = .ok (.iload_n 2, 1) := by decide +kernel
theorem dX0_smokeSteps_8 : decode cX0_smokeSteps 8 = .ok (.iaload, 1) := by decide +kernel
theorem dX0_smokeSteps_9 : decode cX0_smokeSteps 9 = .ok (.ifCond .ne 6, 3) := by decide +kernel
theorem dX0_smokeSteps_12 : decode cX0_smokeSteps 12 = .ok (.bipush (-6), 2) := by decide +kernel
theorem dX0_smokeSteps_14 : decode cX0_smokeSteps 14 = .ok (.ireturn, 1) := by decide +kernel
theorem dX0_smokeSteps_15 : decode cX0_smokeSteps 15 = .ok (.bipush 9, 2) := by decide +kernel
theorem dX0_smokeSteps_17 : decode cX0_smokeSteps 17 = .ok (.aload_n 0, 1) := by decide +kernel
theorem dX0_smokeSteps_18 : decode cX0_smokeSteps 18 = .ok (.getfield 18, 3) := by decide +kernel
theorem dX0_smokeSteps_21 : decode cX0_smokeSteps 21 = .ok (.iload_n 2, 1) := by decide +kernel
theorem dX0_smokeSteps_22 : decode cX0_smokeSteps 22 = .ok (.iaload, 1) := by decide +kernel
theorem dX0_smokeSteps_23 : decode cX0_smokeSteps 23 = .ok (.aload_n 1, 1) := by decide +kernel
theorem dX0_smokeSteps_24 : decode cX0_smokeSteps 24 = .ok (.getfield 65, 3) := by decide +kernel
theorem dX0_smokeSteps_27 : decode cX0_smokeSteps 27 = .ok (.iconst 3, 1) := by decide +kernel
theorem dX0_smokeSteps_28 : decode cX0_smokeSteps 28 = .ok (.iaload, 1) := by decide +kernel
theorem dX0_smokeSteps_29 : decode cX0_smokeSteps 29 = .ok (.invokestatic 56, 3) := by decide +kernel
theorem dX0_smokeSteps_32 : decode cX0_smokeSteps 32 = .ok (.invokestatic 60, 3) := by decide +kernel
theorem dX0_smokeSteps_35 : decode cX0_smokeSteps 35 = .ok (.ireturn, 1) := by decide +kernel
set_option maxRecDepth 20000 in
theorem ggX0_hatsLostIn_X0_gustIn : GoodIn wsX0_hatsLostIn wsX0_gustIn := goodIn_r _ [12, 13, 1, 24, 25, 26, 14, 15, 16, 17] (by decide +kernel) (by decide +kernel)
set_option maxRecDepth 20000 in
theorem gX0_hatsLostIn_X0_gustIn : GoodIn wsX0_hatsLostIn (wsV RX0 74 RX0 yX0_gustIn wsX0_gustIn) := goodIn_app (goodIn_of _ (by decide +kernel)) ggX0_hatsLostIn_X0_gustIn
theorem dX0_hatsLostIn_0 : decode cX0_hatsLostIn 0 = .ok (.aload_n 0, 1) := by decide +kernel
theorem dX0_hatsLostIn_1 : decode cX0_hatsLostIn 1 = .ok (.aload_n 1, 1) := by decide +kernel
theorem dX0_hatsLostIn_2 : decode cX0_hatsLostIn 2 = .ok (.iload_n 2, 1) := by decide +kernel
theorem dX0_hatsLostIn_3 : decode cX0_hatsLostIn 3 = .ok (.invokevirtual 74, 3) := by decide +kernel
theorem dX0_hatsLostIn_6 : decode cX0_hatsLostIn 6 = .ok (.aload_n 1, 1) := by decide +kernel
theorem dX0_hatsLostIn_7 : decode cX0_hatsLostIn 7 = .ok (.getfield 65, 3) := by decide +kernel
theorem dX0_hatsLostIn_10 : decode cX0_hatsLostIn 10 = .ok (.iconst 1, 1) := by decide +kernel
theorem dX0_hatsLostIn_11 : decode cX0_hatsLostIn 11 = .ok (.iaload, 1) := by decide +kernel
theorem dX0_hatsLostIn_12 : decode cX0_hatsLostIn 12 = .ok (.isub, 1) := by decide +kernel
theorem dX0_hatsLostIn_13 : decode cX0_hatsLostIn 13 = .ok (.istore_n 3, 1) := by decide +kernel
theorem dX0_hatsLostIn_14 : decode cX0_hatsLostIn 14 = .ok (.iload_n 3, 1) := by decide +kernel
theorem dX0_hatsLostIn_15 : decode cX0_hatsLostIn 15 = .ok (.ifCond .gt 5, 3) := by decide +kernel
theorem dX0_hatsLostIn_18 : decode cX0_hatsLostIn 18 = .ok (.iconst 0, 1) := by decide +kernel
theorem dX0_hatsLostIn_19 : decode cX0_hatsLostIn 19 = .ok (.ireturn, 1) := by decide +kernel
theorem dX0_hatsLostIn_20 : decode cX0_hatsLostIn 20 = .ok (.aload_n 1, 1) := by decide +kernel
theorem dX0_hatsLostIn_21 : decode cX0_hatsLostIn 21 = .ok (.getfield 21, 3) := by decide +kernel
theorem dX0_hatsLostIn_24 : decode cX0_hatsLostIn 24 = .ok (.getfield 78, 3) := by decide +kernel
theorem dX0_hatsLostIn_27 : decode cX0_hatsLostIn 27 = .ok (.iload_n 2, 1) := by decide +kernel
theorem dX0_hatsLostIn_28 : decode cX0_hatsLostIn 28 = .ok (.iaload, 1) := by decide +kernel
theorem dX0_hatsLostIn_29 : decode cX0_hatsLostIn 29 = .ok (.iload_n 3, 1) := by decide +kernel
theorem dX0_hatsLostIn_30 : decode cX0_hatsLostIn 30 = .ok (.iconst 4, 1) := by decide +kernel
theorem dX0_hatsLostIn_31 : decode cX0_hatsLostIn 31 = .ok (.idiv, 1) := by decide +kernel
theorem dX0_hatsLostIn_32 : decode cX0_hatsLostIn 32 = .ok (.iconst 1, 1) := by decide +kernel
theorem dX0_hatsLostIn_33 : decode cX0_hatsLostIn 33 = .ok (.iadd, 1) := by decide +kernel
theorem dX0_hatsLostIn_34 : decode cX0_hatsLostIn 34 = .ok (.invokestatic 60, 3) := by decide +kernel
theorem dX0_hatsLostIn_37 : decode cX0_hatsLostIn 37 = .ok (.ireturn, 1) := by decide +kernel
set_option maxRecDepth 20000 in
theorem ggX0_hatsLost_X0_hatsLostIn : GoodIn wsX0_hatsLost wsX0_hatsLostIn := goodIn_r _ [7, 8, 1, 9, 10, 11, 12, 13, 14, 15, 16, 6, 17, 18, 19, 20, 21, 22, 23, 24, 25, 26, 27, 28, 29, 30, 31] (by decide +kernel) (by decide +kernel)
set_option maxRecDepth 20000 in
theorem gX0_hatsLost_X0_hatsLostIn : GoodIn wsX0_hatsLost (wsV RX0 81 RX0 yX0_hatsLostIn wsX0_hatsLostIn) := goodIn_app (goodIn_of _ (by decide +kernel)) ggX0_hatsLost_X0_hatsLostIn
theorem dX0_hatsLost_0 : decode cX0_hatsLost 0 = .ok (.iconst 0, 1) := by decide +kernel
theorem dX0_hatsLost_1 : decode cX0_hatsLost 1 = .ok (.istore_n 2, 1) := by decide +kernel
theorem dX0_hatsLost_2 : decode cX0_hatsLost 2 = .ok (.iconst 0, 1) := by decide +kernel
theorem dX0_hatsLost_3 : decode cX0_hatsLost 3 = .ok (.istore_n 3, 1) := by decide +kernel
theorem dX0_hatsLost_4 : decode cX0_hatsLost 4 = .ok (.iload_n 3, 1) := by decide +kernel
theorem dX0_hatsLost_5 : decode cX0_hatsLost 5 = .ok (.aload_n 1, 1) := by decide +kernel
theorem dX0_hatsLost_6 : decode cX0_hatsLost 6 = .ok (.getfield 21, 3) := by decide +kernel
theorem dX0_hatsLost_9 : decode cX0_hatsLost 9 = .ok (.getfield 37, 3) := by decide +kernel
theorem dX0_hatsLost_12 : decode cX0_hatsLost 12 = .ok (.if_icmp .ge 18, 3) := by decide +kernel
theorem dX0_hatsLost_15 : decode cX0_hatsLost 15 = .ok (.iload_n 2, 1) := by decide +kernel
theorem dX0_hatsLost_16 : decode cX0_hatsLost 16 = .ok (.aload_n 0, 1) := by decide +kernel
theorem dX0_hatsLost_17 : decode cX0_hatsLost 17 = .ok (.aload_n 1, 1) := by decide +kernel
theorem dX0_hatsLost_18 : decode cX0_hatsLost 18 = .ok (.iload_n 3, 1) := by decide +kernel
theorem dX0_hatsLost_19 : decode cX0_hatsLost 19 = .ok (.invokevirtual 81, 3) := by decide +kernel
theorem dX0_hatsLost_22 : decode cX0_hatsLost 22 = .ok (.iadd, 1) := by decide +kernel
theorem dX0_hatsLost_23 : decode cX0_hatsLost 23 = .ok (.istore_n 2, 1) := by decide +kernel
theorem dX0_hatsLost_24 : decode cX0_hatsLost 24 = .ok (.iinc 3 1, 3) := by decide +kernel
theorem dX0_hatsLost_27 : decode cX0_hatsLost 27 = .ok (.goto (-23), 3) := by decide +kernel
theorem dX0_hatsLost_30 : decode cX0_hatsLost 30 = .ok (.iload_n 2, 1) := by decide +kernel
theorem dX0_hatsLost_31 : decode cX0_hatsLost 31 = .ok (.ireturn, 1) := by decide +kernel
set_option maxRecDepth 20000 in
theorem ggX0_worstStreet_X0_hatsLostIn : GoodIn wsX0_worstStreet wsX0_hatsLostIn := goodIn_r _ [7, 8, 1, 9, 10, 11, 12, 13, 14, 15, 16, 6, 17, 18, 19, 20, 21, 22, 23, 24, 25, 26, 27, 28, 29, 30, 31] (by decide +kernel) (by decide +kernel)
set_option maxRecDepth 20000 in
theorem gX0_worstStreet_X0_hatsLostIn : GoodIn wsX0_worstStreet (wsV RX0 81 RX0 yX0_hatsLostIn wsX0_hatsLostIn) := goodIn_app (goodIn_of _ (by decide +kernel)) ggX0_worstStreet_X0_hatsLostIn
theorem dX0_worstStreet_0 : decode cX0_worstStreet 0 = .ok (.bipush (-6), 2) := by decide +kernel
theorem dX0_worstStreet_2 : decode cX0_worstStreet 2 = .ok (.istore_n 2, 1) := by decide +kernel
theorem dX0_worstStreet_3 : decode cX0_worstStreet 3 = .ok (.iconst 0, 1) := by decide +kernel
theorem dX0_worstStreet_4 : decode cX0_worstStreet 4 = .ok (.istore_n 3, 1) := by decide +kernel
theorem dX0_worstStreet_5 : decode cX0_worstStreet 5 = .ok (.iconst 0, 1) := by decide +kernel
theorem dX0_worstStreet_6 : decode cX0_worstStreet 6 = .ok (.istore 4, 2) := by decide +kernel
theorem dX0_worstStreet_8 : decode cX0_worstStreet 8 = .ok (.iload 4, 2) := by decide +kernel
theorem dX0_worstStreet_10 : decode cX0_worstStreet 10 = .ok (.aload_n 1, 1) := by decide +kernel
theorem dX0_worstStreet_11 : decode cX0_worstStreet 11 = .ok (.getfield 21, 3) := by decide +kernel
theorem dX0_worstStreet_14 : decode cX0_worstStreet 14 = .ok (.getfield 37, 3) := by decide +kernel
theorem dX0_worstStreet_17 : decode cX0_worstStreet 17 = .ok (.if_icmp .ge 30, 3) := by decide +kernel
theorem dX0_worstStreet_20 : decode cX0_worstStreet 20 = .ok (.aload_n 0, 1) := by decide +kernel
theorem dX0_worstStreet_21 : decode cX0_worstStreet 21 = .ok (.aload_n 1, 1) := by decide +kernel
theorem dX0_worstStreet_22 : decode cX0_worstStreet 22 = .ok (.iload 4, 2) := by decide +kernel
theorem dX0_worstStreet_24 : decode cX0_worstStreet 24 = .ok (.invokevirtual 81, 3) := by decide +kernel
theorem dX0_worstStreet_27 : decode cX0_worstStreet 27 = .ok (.istore 5, 2) := by decide +kernel
theorem dX0_worstStreet_29 : decode cX0_worstStreet 29 = .ok (.iload 5, 2) := by decide +kernel
theorem dX0_worstStreet_31 : decode cX0_worstStreet 31 = .ok (.iload_n 3, 1) := by decide +kernel
theorem dX0_worstStreet_32 : decode cX0_worstStreet 32 = .ok (.if_icmp .le 9, 3) := by decide +kernel
theorem dX0_worstStreet_35 : decode cX0_worstStreet 35 = .ok (.iload 5, 2) := by decide +kernel
theorem dX0_worstStreet_37 : decode cX0_worstStreet 37 = .ok (.istore_n 3, 1) := by decide +kernel
theorem dX0_worstStreet_38 : decode cX0_worstStreet 38 = .ok (.iload 4, 2) := by decide +kernel
theorem dX0_worstStreet_40 : decode cX0_worstStreet 40 = .ok (.istore_n 2, 1) := by decide +kernel
theorem dX0_worstStreet_41 : decode cX0_worstStreet 41 = .ok (.iinc 4 1, 3) := by decide +kernel
theorem dX0_worstStreet_44 : decode cX0_worstStreet 44 = .ok (.goto (-36), 3) := by decide +kernel
theorem dX0_worstStreet_47 : decode cX0_worstStreet 47 = .ok (.iload_n 2, 1) := by decide +kernel
theorem dX0_worstStreet_48 : decode cX0_worstStreet 48 = .ok (.ireturn, 1) := by decide +kernel
set_option maxRecDepth 20000 in
theorem ggX1_init_X6_init : GoodIn wsX1_init wsX6_init := goodIn_r _ [12, 13, 2, 3, 14, 15, 16, 17, 18, 19, 20, 21, 22, 23, 24, 25, 26, 27, 28, 29, 30, 31, 32, 33, 34, 35, 36, 37, 38, 39, 40, 41, 42, 43, 44, 45, 46, 47, 48, 49, 50, 51, 55, 56, 57, 58, 59, 60, 61, 62, 63, 64, 65, 66, 67, 68, 69] (by decide +kernel) (by decide +kernel)
set_option maxRecDepth 20000 in
theorem gX1_init_X6_init : GoodIn wsX1_init (wsX6_init) := ggX1_init_X6_init
theorem dX1_init_0 : decode cX1_init 0 = .ok (.aload_n 0, 1) := by decide +kernel
theorem dX1_init_1 : decode cX1_init 1 = .ok (.invokespecial 3, 3) := by decide +kernel
theorem dX1_init_4 : decode cX1_init 4 = .ok (.aload_n 0, 1) := by decide +kernel
theorem dX1_init_5 : decode cX1_init 5 = .ok (.bipush 6, 2) := by decide +kernel
theorem dX1_init_7 : decode cX1_init 7 = .ok (.anewarray 9, 3) := by decide +kernel
theorem dX1_init_10 : decode cX1_init 10 = .ok (.putfield 11, 3) := by decide +kernel
theorem dX1_init_13 : decode cX1_init 13 = .ok (.aload_n 0, 1) := by decide +kernel
theorem dX1_init_14 : decode cX1_init 14 = .ok (.iconst 0, 1) := by decide +kernel
theorem dX1_init_15 : decode cX1_init 15 = .ok (.putfield 17, 3) := by decide +kernel
theorem dX1_init_18 : decode cX1_init 18 = .ok (.aload_n 0, 1) := by decide +kernel
theorem dX1_init_19 : decode cX1_init 19 = .ok (.iconst 0, 1) := by decide +kernel
theorem dX1_init_20 : decode cX1_init 20 = .ok (.putfield 21, 3) := by decide +kernel
theorem dX1_init_23 : decode cX1_init 23 = .ok (.iconst 0, 1) := by decide +kernel
theorem dX1_init_24 : decode cX1_init 24 = .ok (.istore_n 1, 1) := by decide +kernel
theorem dX1_init_25 : decode cX1_init 25 = .ok (.iload_n 1, 1) := by decide +kernel
theorem dX1_init_26 : decode cX1_init 26 = .ok (.bipush 6, 2) := by decide +kernel
theorem dX1_init_28 : decode cX1_init 28 = .ok (.if_icmp .ge 22, 3) := by decide +kernel
theorem dX1_init_31 : decode cX1_init 31 = .ok (.aload_n 0, 1) := by decide +kernel
theorem dX1_init_32 : decode cX1_init 32 = .ok (.getfield 11, 3) := by decide +kernel
theorem dX1_init_35 : decode cX1_init 35 = .ok (.iload_n 1, 1) := by decide +kernel
theorem dX1_init_36 : decode cX1_init 36 = .ok (.new 9, 3) := by decide +kernel
theorem dX1_init_39 : decode cX1_init 39 = .ok (.dup, 1) := by decide +kernel
theorem dX1_init_40 : decode cX1_init 40 = .ok (.invokespecial 24, 3) := by decide +kernel
theorem dX1_init_43 : decode cX1_init 43 = .ok (.aastore, 1) := by decide +kernel
theorem dX1_init_44 : decode cX1_init 44 = .ok (.iinc 1 1, 3) := by decide +kernel
theorem dX1_init_47 : decode cX1_init 47 = .ok (.goto (-22), 3) := by decide +kernel
theorem dX1_init_50 : decode cX1_init 50 = .ok (.return_, 1) := by decide +kernel
set_option maxRecDepth 20000 in
theorem ggX1_keep_X6_copy : GoodIn wsX1_keep wsX6_copy := goodIn_r _ [8, 9, 10, 11, 12, 13, 14, 15, 16, 17, 18, 19, 20, 21, 22, 23, 24, 25, 26, 27, 28, 29, 30, 31, 32, 33, 34, 35, 36, 37, 38, 39, 40, 41, 42, 43, 44, 48, 49, 50, 51, 52, 53, 54, 55, 56, 57, 58, 59, 60, 61, 62] (by decide +kernel) (by decide +kernel)
set_option maxRecDepth 20000 in
theorem gX1_keep_X6_copy : GoodIn wsX1_keep (wsV RX1 25 RX6 yX6_copy wsX6_copy) := goodIn_app (goodIn_of _ (by decide +kernel)) ggX1_keep_X6_copy
theorem dX1_keep_0 : decode cX1_keep 0 = .ok (.aload_n 0, 1) := by decide +kernel
theorem dX1_keep_1 : decode cX1_keep 1 = .ok (.getfield 21, 3) := by decide +kernel
theorem dX1_keep_4 : decode cX1_keep 4 = .ok (.bipush 6, 2) := by decide +kernel
theorem dX1_keep_6 : decode cX1_keep 6 = .ok (.if_icmp .ne 26, 3) := by decide +kernel
theorem dX1_keep_9 : decode cX1_keep 9 = .ok (.aload_n 0, 1) := by decide +kernel
theorem dX1_keep_10 : decode cX1_keep 10 = .ok (.aload_n 0, 1) := by decide +kernel
theorem dX1_keep_11 : decode cX1_keep 11 = .ok (.getfield 17, 3) := by decide +kernel
theorem dX1_keep_14 : decode cX1_keep 14 = .ok (.iconst 1, 1) := by decide +kernel
theorem dX1_keep_15 : decode cX1_keep 15 = .ok (.iadd, 1) := by decide +kernel
theorem dX1_keep_16 : decode cX1_keep 16 = .ok (.bipush 6, 2) := by decide +kernel
theorem dX1_keep_18 : decode cX1_keep 18 = .ok (.irem, 1) := by decide +kernel
theorem dX1_keep_19 : decode cX1_keep 19 = .ok (.putfield 17, 3) := by decide +kernel
theorem dX1_keep_22 : decode cX1_keep 22 = .ok (.aload_n 0, 1) := by decide +kernel
theorem dX1_keep_23 : decode cX1_keep 23 = .ok (.dup, 1) := by decide +kernel
theorem dX1_keep_24 : decode cX1_keep 24 = .ok (.getfield 21, 3) := by decide +kernel
theorem dX1_keep_27 : decode cX1_keep 27 = .ok (.iconst 1, 1) := by decide +kernel
theorem dX1_keep_28 : decode cX1_keep 28 = .ok (.isub, 1) := by decide +kernel
theorem dX1_keep_29 : decode cX1_keep 29 = .ok (.putfield 21, 3) := by decide +kernel
theorem dX1_keep_32 : decode cX1_keep 32 = .ok (.aload_n 0, 1) := by decide +kernel
theorem dX1_keep_33 : decode cX1_keep 33 = .ok (.getfield 11, 3) := by decide +kernel
theorem dX1_keep_36 : decode cX1_keep 36 = .ok (.aload_n 0, 1) := by decide +kernel
theorem dX1_keep_37 : decode cX1_keep 37 = .ok (.getfield 17, 3) := by decide +kernel
theorem dX1_keep_40 : decode cX1_keep 40 = .ok (.aload_n 0, 1) := by decide +kernel
theorem dX1_keep_41 : decode cX1_keep 41 = .ok (.getfield 21, 3) := by decide +kernel
theorem dX1_keep_44 : decode cX1_keep 44 = .ok (.iadd, 1) := by decide +kernel
theorem dX1_keep_45 : decode cX1_keep 45 = .ok (.bipush 6, 2) := by decide +kernel
theorem dX1_keep_47 : decode cX1_keep 47 = .ok (.irem, 1) := by decide +kernel
theorem dX1_keep_48 : decode cX1_keep 48 = .ok (.aaload, 1) := by decide +kernel
theorem dX1_keep_49 : decode cX1_keep 49 = .ok (.aload_n 1, 1) := by decide +kernel
theorem dX1_keep_50 : decode cX1_keep 50 = .ok (.invokevirtual 25, 3) := by decide +kernel
theorem dX1_keep_53 : decode cX1_keep 53 = .ok (.aload_n 0, 1) := by decide +kernel
theorem dX1_keep_54 : decode cX1_keep 54 = .ok (.dup, 1) := by decide +kernel
theorem dX1_keep_55 : decode cX1_keep 55 = .ok (.getfield 21, 3) := by decide +kernel
theorem dX1_keep_58 : decode cX1_keep 58 = .ok (.iconst 1, 1) := by decide +kernel
theorem dX1_keep_59 : decode cX1_keep 59 = .ok (.iadd, 1) := by decide +kernel
theorem dX1_keep_60 : decode cX1_keep 60 = .ok (.putfield 21, 3) := by decide +kernel
theorem dX1_keep_63 : decode cX1_keep 63 = .ok (.return_, 1) := by decide +kernel
set_option maxRecDepth 20000 in
theorem ggX1_takeBack_X6_copy : GoodIn wsX1_takeBack wsX6_copy := goodIn_r _ [8, 9, 10, 11, 12, 13, 14, 15, 16, 17, 18, 19, 20, 21, 22, 23, 24, 25, 26, 27, 28, 29, 30, 31, 32, 33, 34, 35, 36, 37, 38, 39, 40, 41, 42, 43, 44, 48, 49, 50, 51, 52, 53, 54, 55, 56, 57, 58, 59, 60, 61, 62] (by decide +kernel) (by decide +kernel)
set_option maxRecDepth 20000 in
theorem gX1_takeBack_X6_copy : GoodIn wsX1_takeBack (wsV RX1 25 RX6 yX6_copy wsX6_copy) := goodIn_app (goodIn_of _ (by decide +kernel)) ggX1_takeBack_X6_copy
theorem dX1_takeBack_0 : decode cX1_takeBack 0 = .ok (.aload_n 0, 1) := by decide +kernel
theorem dX1_takeBack_1 : decode cX1_takeBack 1 = .ok (.getfield 21, 3) := by decide +kernel
theorem dX1_takeBack_4 : decode cX1_takeBack 4 = .ok (.ifCond .le 34, 3) := by decide +kernel
theorem dX1_takeBack_7 : decode cX1_takeBack 7 = .ok (.aload_n 0, 1) := by decide +kernel
theorem dX1_takeBack_8 : decode cX1_takeBack 8 = .ok (.dup, 1) := by decide +kernel
theorem dX1_takeBack_9 : decode cX1_takeBack 9 = .ok (.getfield 21, 3) := by decide +kernel
theorem dX1_takeBack_12 : decode cX1_takeBack 12 = .ok (.iconst 1, 1) := by decide +kernel
theorem dX1_takeBack_13 : decode cX1_takeBack 13 = .ok (.isub, 1) := by decide +kernel
theorem dX1_takeBack_14 : decode cX1_takeBack 14 = .ok (.putfield 21, 3) := by decide +kernel
theorem dX1_takeBack_17 : decode cX1_takeBack 17 = .ok (.aload_n 1, 1) := by decide +kernel
theorem dX1_takeBack_18 : decode cX1_takeBack 18 = .ok (.aload_n 0, 1) := by decide +kernel
theorem dX1_takeBack_19 : decode cX1_takeBack 19 = .ok (.getfield 11, 3) := by decide +kernel
theorem dX1_takeBack_22 : decode cX1_takeBack 22 = .ok (.aload_n 0, 1) := by decide +kernel
theorem dX1_takeBack_23 : decode cX1_takeBack 23 = .ok (.getfield 17, 3) := by decide +kernel
theorem dX1_takeBack_26 : decode cX1_takeBack 26 = .ok (.aload_n 0, 1) := by decide +kernel
theorem dX1_takeBack_27 : decode cX1_takeBack 27 = .ok (.getfield 21, 3) := by decide +kernel
theorem dX1_takeBack_30 : decode cX1_takeBack 30 = .ok (.iadd, 1) := by decide +kernel
theorem dX1_takeBack_31 : decode cX1_takeBack 31 = .ok (.bipush 6, 2) := by decide +kernel
theorem dX1_takeBack_33 : decode cX1_takeBack 33 = .ok (.irem, 1) := by decide +kernel
theorem dX1_takeBack_34 : decode cX1_takeBack 34 = .ok (.aaload, 1) := by decide +kernel
theorem dX1_takeBack_35 : decode cX1_takeBack 35 = .ok (.invokevirtual 25, 3) := by decide +kernel
theorem dX1_takeBack_38 : decode cX1_takeBack 38 = .ok (.return_, 1) := by decide +kernel
theorem dX2_init_0 : decode cX2_init 0 = .ok (.aload_n 0, 1) := by decide +kernel
theorem dX2_init_1 : decode cX2_init 1 = .ok (.invokespecial 3, 3) := by decide +kernel
theorem dX2_init_4 : decode cX2_init 4 = .ok (.aload_n 0, 1) := by decide +kernel
theorem dX2_init_5 : decode cX2_init 5 = .ok (.bipush 8, 2) := by decide +kernel
theorem dX2_init_7 : decode cX2_init 7 = .ok (.newarray .int, 2) := by decide +kernel
theorem dX2_init_9 : decode cX2_init 9 = .ok (.putfield 9, 3) := by decide +kernel
theorem dX2_init_12 : decode cX2_init 12 = .ok (.aload_n 0, 1) := by decide +kernel
theorem dX2_init_13 : decode cX2_init 13 = .ok (.bipush 8, 2) := by decide +kernel
theorem dX2_init_15 : decode cX2_init 15 = .ok (.newarray .int, 2) := by decide +kernel
theorem dX2_init_17 : decode cX2_init 17 = .ok (.putfield 15, 3) := by decide +kernel
theorem dX2_init_20 : decode cX2_init 20 = .ok (.aload_n 0, 1) := by decide +kernel
theorem dX2_init_21 : decode cX2_init 21 = .ok (.bipush 8, 2) := by decide +kernel
theorem dX2_init_23 : decode cX2_init 23 = .ok (.newarray .int, 2) := by decide +kernel
theorem dX2_init_25 : decode cX2_init 25 = .ok (.putfield 18, 3) := by decide +kernel
theorem dX2_init_28 : decode cX2_init 28 = .ok (.aload_n 0, 1) := by decide +kernel
theorem dX2_init_29 : decode cX2_init 29 = .ok (.iconst 0, 1) := by decide +kernel
theorem dX2_init_30 : decode cX2_init 30 = .ok (.putfield 21, 3) := by decide +kernel
theorem dX2_init_33 : decode cX2_init 33 = .ok (.aload_n 0, 1) := by decide +kernel
theorem dX2_init_34 : decode cX2_init 34 = .ok (.iconst 0, 1) := by decide +kernel
theorem dX2_init_35 : decode cX2_init 35 = .ok (.putfield 25, 3) := by decide +kernel
theorem dX2_init_38 : decode cX2_init 38 = .ok (.return_, 1) := by decide +kernel
set_option maxRecDepth 20000 in
theorem ggX2_copy_X7_copyRow : GoodIn wsX2_copy wsX7_copyRow := goodIn_r _ [8, 9, 10, 11, 12, 13, 14, 15, 16] (by decide +kernel) (by decide +kernel)
set_option maxRecDepth 20000 in
theorem gX2_copy_X7_copyRow_n28 : GoodIn wsX2_copy (wsX7_copyRow) := ggX2_copy_X7_copyRow
theorem dX2_copy_0 : decode cX2_copy 0 = .ok (.aload_n 1, 1) := by decide +kernel
theorem dX2_copy_1 : decode cX2_copy 1 = .ok (.getfield 9, 3) := by decide +kernel
theorem dX2_copy_4 : decode cX2_copy 4 = .ok (.aload_n 0, 1) := by decide +kernel
theorem dX2_copy_5 : decode cX2_copy 5 = .ok (.getfield 9, 3) := by decide +kernel
theorem dX2_copy_8 : decode cX2_copy 8 = .ok (.invokestatic 28, 3) := by decide +kernel
theorem dX2_copy_11 : decode cX2_copy 11 = .ok (.aload_n 1, 1) := by decide +kernel
theorem dX2_copy_12 : decode cX2_copy 12 = .ok (.getfield 15, 3) := by decide +kernel
theorem dX2_copy_15 : decode cX2_copy 15 = .ok (.aload_n 0, 1) := by decide +kernel
theorem dX2_copy_16 : decode cX2_copy 16 = .ok (.getfield 15, 3) := by decide +kernel
theorem dX2_copy_19 : decode cX2_copy 19 = .ok (.invokestatic 28, 3) := by decide +kernel
theorem dX2_copy_22 : decode cX2_copy 22 = .ok (.aload_n 1, 1) := by decide +kernel
theorem dX2_copy_23 : decode cX2_copy 23 = .ok (.getfield 18, 3) := by decide +kernel
theorem dX2_copy_26 : decode cX2_copy 26 = .ok (.aload_n 0, 1) := by decide +kernel
theorem dX2_copy_27 : decode cX2_copy 27 = .ok (.getfield 18, 3) := by decide +kernel
theorem dX2_copy_30 : decode cX2_copy 30 = .ok (.invokestatic 28, 3) := by decide +kernel
theorem dX2_copy_33 : decode cX2_copy 33 = .ok (.aload_n 0, 1) := by decide +kernel
theorem dX2_copy_34 : decode cX2_copy 34 = .ok (.aload_n 1, 1) := by decide +kernel
theorem dX2_copy_35 : decode cX2_copy 35 = .ok (.getfield 21, 3) := by decide +kernel
theorem dX2_copy_38 : decode cX2_copy 38 = .ok (.putfield 21, 3) := by decide +kernel
theorem dX2_copy_41 : decode cX2_copy 41 = .ok (.aload_n 0, 1) := by decide +kernel
theorem dX2_copy_42 : decode cX2_copy 42 = .ok (.aload_n 1, 1) := by decide +kernel
theorem dX2_copy_43 : decode cX2_copy 43 = .ok (.getfield 25, 3) := by decide +kernel
theorem dX2_copy_46 : decode cX2_copy 46 = .ok (.putfield 25, 3) := by decide +kernel
theorem dX2_copy_49 : decode cX2_copy 49 = .ok (.return_, 1) := by decide +kernel
theorem dX2_kept_0 : decode cX2_kept 0 = .ok (.aload_n 0, 1) := by decide +kernel
theorem dX2_kept_1 : decode cX2_kept 1 = .ok (.getfield 21, 3) := by decide +kernel
theorem dX2_kept_4 : decode cX2_kept 4 = .ok (.bipush 8, 2) := by decide +kernel
theorem dX2_kept_6 : decode cX2_kept 6 = .ok (.invokestatic 32, 3) := by decide +kernel
theorem dX2_kept_9 : decode cX2_kept 9 = .ok (.ireturn, 1) := by decide +kernel
set_option maxRecDepth 20000 in
theorem ggX2_add_X2_pushFirst : GoodIn wsX2_add wsX2_pushFirst := goodIn_r _ [9] (by decide +kernel) (by decide +kernel)
set_option maxRecDepth 20000 in
theorem gX2_add_X2_pushFirst : GoodIn wsX2_add (va_wsS RX2 38 yX2_pushFirst wsX2_pushFirst) := goodIn_app (goodIn_of _ (by decide +kernel)) ggX2_add_X2_pushFirst
theorem dX2_add_0 : decode cX2_add 0 = .ok (.aload_n 0, 1) := by decide +kernel
theorem dX2_add_1 : decode cX2_add 1 = .ok (.getfield 9, 3) := by decide +kernel
theorem dX2_add_4 : decode cX2_add 4 = .ok (.iload_n 1, 1) := by decide +kernel
theorem dX2_add_5 : decode cX2_add 5 = .ok (.invokestatic 38, 3) := by decide +kernel
theorem dX2_add_8 : decode cX2_add 8 = .ok (.aload_n 0, 1) := by decide +kernel
theorem dX2_add_9 : decode cX2_add 9 = .ok (.getfield 15, 3) := by decide +kernel
theorem dX2_add_12 : decode cX2_add 12 = .ok (.iload_n 2, 1) := by decide +kernel
theorem dX2_add_13 : decode cX2_add 13 = .ok (.invokestatic 38, 3) := by decide +kernel
theorem dX2_add_16 : decode cX2_add 16 = .ok (.aload_n 0, 1) := by decide +kernel
theorem dX2_add_17 : decode cX2_add 17 = .ok (.getfield 18, 3) := by decide +kernel
theorem dX2_add_20 : decode cX2_add 20 = .ok (.iload_n 3, 1) := by decide +kernel
theorem dX2_add_21 : decode cX2_add 21 = .ok (.invokestatic 38, 3) := by decide +kernel
theorem dX2_add_24 : decode cX2_add 24 = .ok (.aload_n 0, 1) := by decide +kernel
theorem dX2_add_25 : decode cX2_add 25 = .ok (.dup, 1) := by decide +kernel
theorem dX2_add_26 : decode cX2_add 26 = .ok (.getfield 21, 3) := by decide +kernel
theorem dX2_add_29 : decode cX2_add 29 = .ok (.iconst 1, 1) := by decide +kernel
theorem dX2_add_30 : decode cX2_add 30 = .ok (.iadd, 1) := by decide +kernel
theorem dX2_add_31 : decode cX2_add 31 = .ok (.putfield 21, 3) := by decide +kernel
theorem dX2_add_34 : decode cX2_add 34 = .ok (.aload_n 0, 1) := by decide +kernel
theorem dX2_add_35 : decode cX2_add 35 = .ok (.dup, 1) := by decide +kernel
theorem dX2_add_36 : decode cX2_add 36 = .ok (.getfield 25, 3) := by decide +kernel
theorem dX2_add_39 : decode cX2_add 39 = .ok (.iload_n 2, 1) := by decide +kernel
theorem dX2_add_40 : decode cX2_add 40 = .ok (.iadd, 1) := by decide +kernel
theorem dX2_add_41 : decode cX2_add 41 = .ok (.putfield 25, 3) := by decide +kernel
theorem dX2_add_44 : decode cX2_add 44 = .ok (.return_, 1) := by decide +kernel
theorem dX2_pushFirst_0 : decode cX2_pushFirst 0 = .ok (.aload_n 0, 1) := by decide +kernel
theorem dX2_pushFirst_1 : decode cX2_pushFirst 1 = .ok (.arraylength, 1) := by decide +kernel
theorem dX2_pushFirst_2 : decode cX2_pushFirst 2 = .ok (.iconst 1, 1) := by decide +kernel
theorem dX2_pushFirst_3 : decode cX2_pushFirst 3 = .ok (.isub, 1) := by decide +kernel
theorem dX2_pushFirst_4 : decode cX2_pushFirst 4 = .ok (.istore_n 2, 1) := by decide +kernel
theorem dX2_pushFirst_5 : decode cX2_pushFirst 5 = .ok (.iload_n 2, 1) := by decide +kernel
theorem dX2_pushFirst_6 : decode cX2_pushFirst 6 = .ok (.ifCond .le 17, 3) := by decide +kernel
theorem dX2_pushFirst_9 : decode cX2_pushFirst 9 = .ok (.aload_n 0, 1) := by decide +kernel
theorem dX2_pushFirst_10 : decode cX2_pushFirst 10 = .ok (.iload_n 2, 1) := by decide +kernel
theorem dX2_pushFirst_11 : decode cX2_pushFirst 11 = .ok (.aload_n 0, 1) := by decide +kernel
theorem dX2_pushFirst_12 : decode cX2_pushFirst 12 = .ok (.iload_n 2, 1) := by decide +kernel
theorem dX2_pushFirst_13 : decode cX2_pushFirst 13 = .ok (.iconst 1, 1) := by decide +kernel
theorem dX2_pushFirst_14 : decode cX2_pushFirst 14 = .ok (.isub, 1) := by decide +kernel
theorem dX2_pushFirst_15 : decode cX2_pushFirst 15 = .ok (.iaload, 1) := by decide +kernel
theorem dX2_pushFirst_16 : decode cX2_pushFirst 16 = .ok (.iastore, 1) := by decide +kernel
theorem dX2_pushFirst_17 : decode cX2_pushFirst 17 = .ok (.iinc 2 (-1), 3) := by decide +kernel
theorem dX2_pushFirst_20 : decode cX2_pushFirst 20 = .ok (.goto (-15), 3) := by decide +kernel
theorem dX2_pushFirst_23 : decode cX2_pushFirst 23 = .ok (.aload_n 0, 1) := by decide +kernel
theorem dX2_pushFirst_24 : decode cX2_pushFirst 24 = .ok (.iconst 0, 1) := by decide +kernel
theorem dX2_pushFirst_25 : decode cX2_pushFirst 25 = .ok (.iload_n 1, 1) := by decide +kernel
theorem dX2_pushFirst_26 : decode cX2_pushFirst 26 = .ok (.iastore, 1) := by decide +kernel
theorem dX2_pushFirst_27 : decode cX2_pushFirst 27 = .ok (.return_, 1) := by decide +kernel
theorem dX3_init_0 : decode cX3_init 0 = .ok (.aload_n 0, 1) := by decide +kernel
theorem dX3_init_1 : decode cX3_init 1 = .ok (.invokespecial 3, 3) := by decide +kernel
theorem dX3_init_4 : decode cX3_init 4 = .ok (.aload_n 0, 1) := by decide +kernel
theorem dX3_init_5 : decode cX3_init 5 = .ok (.bipush 80, 2) := by decide +kernel
theorem dX3_init_7 : decode cX3_init 7 = .ok (.newarray .char, 2) := by decide +kernel
theorem dX3_init_9 : decode cX3_init 9 = .ok (.putfield 9, 3) := by decide +kernel
theorem dX3_init_12 : decode cX3_init 12 = .ok (.aload_n 0, 1) := by decide +kernel
theorem dX3_init_13 : decode cX3_init 13 = .ok (.iconst 0, 1) := by decide +kernel
theorem dX3_init_14 : decode cX3_init 14 = .ok (.putfield 15, 3) := by decide +kernel
theorem dX3_init_17 : decode cX3_init 17 = .ok (.aload_n 0, 1) := by decide +kernel
theorem dX3_init_18 : decode cX3_init 18 = .ok (.iconst 0, 1) := by decide +kernel
theorem dX3_init_19 : decode cX3_init 19 = .ok (.putfield 19, 3) := by decide +kernel
theorem dX3_init_22 : decode cX3_init 22 = .ok (.return_, 1) := by decide +kernel
theorem dX3_clear_0 : decode cX3_clear 0 = .ok (.aload_n 0, 1) := by decide +kernel
theorem dX3_clear_1 : decode cX3_clear 1 = .ok (.iconst 0, 1) := by decide +kernel
theorem dX3_clear_2 : decode cX3_clear 2 = .ok (.putfield 15, 3) := by decide +kernel
theorem dX3_clear_5 : decode cX3_clear 5 = .ok (.aload_n 0, 1) := by decide +kernel
theorem dX3_clear_6 : decode cX3_clear 6 = .ok (.iconst 0, 1) := by decide +kernel
theorem dX3_clear_7 : decode cX3_clear 7 = .ok (.putfield 19, 3) := by decide +kernel
theorem dX3_clear_10 : decode cX3_clear 10 = .ok (.return_, 1) := by decide +kernel
theorem dX3_add_0 : decode cX3_add 0 = .ok (.aload_n 0, 1) := by decide +kernel
theorem dX3_add_1 : decode cX3_add 1 = .ok (.getfield 15, 3) := by decide +kernel
theorem dX3_add_4 : decode cX3_add 4 = .ok (.bipush 80, 2) := by decide +kernel
theorem dX3_add_6 : decode cX3_add 6 = .ok (.if_icmp .lt 9, 3) := by decide +kernel
theorem dX3_add_9 : decode cX3_add 9 = .ok (.aload_n 0, 1) := by decide +kernel
theorem dX3_add_10 : decode cX3_add 10 = .ok (.iconst 1, 1) := by decide +kernel
theorem dX3_add_11 : decode cX3_add 11 = .ok (.putfield 19, 3) := by decide +kernel
theorem dX3_add_14 : decode cX3_add 14 = .ok (.return_, 1) := by decide +kernel
theorem dX3_add_15 : decode cX3_add 15 = .ok (.aload_n 0, 1) := by decide +kernel
theorem dX3_add_16 : decode cX3_add 16 = .ok (.getfield 9, 3) := by decide +kernel
theorem dX3_add_19 : decode cX3_add 19 = .ok (.aload_n 0, 1) := by decide +kernel
theorem dX3_add_20 : decode cX3_add 20 = .ok (.getfield 15, 3) := by decide +kernel
theorem dX3_add_23 : decode cX3_add 23 = .ok (.iload_n 1, 1) := by decide +kernel
theorem dX3_add_24 : decode cX3_add 24 = .ok (.i2c, 1) := by decide +kernel
theorem dX3_add_25 : decode cX3_add 25 = .ok (.castore, 1) := by decide +kernel
theorem dX3_add_26 : decode cX3_add 26 = .ok (.aload_n 0, 1) := by decide +kernel
theorem dX3_add_27 : decode cX3_add 27 = .ok (.dup, 1) := by decide +kernel
theorem dX3_add_28 : decode cX3_add 28 = .ok (.getfield 15, 3) := by decide +kernel
theorem dX3_add_31 : decode cX3_add 31 = .ok (.iconst 1, 1) := by decide +kernel
theorem dX3_add_32 : decode cX3_add 32 = .ok (.iadd, 1) := by decide +kernel
theorem dX3_add_33 : decode cX3_add 33 = .ok (.putfield 15, 3) := by decide +kernel
theorem dX3_add_36 : decode cX3_add 36 = .ok (.return_, 1) := by decide +kernel
theorem dX3_copy_0 : decode cX3_copy 0 = .ok (.aload_n 1, 1) := by decide +kernel
theorem dX3_copy_1 : decode cX3_copy 1 = .ok (.getfield 9, 3) := by decide +kernel
theorem dX3_copy_4 : decode cX3_copy 4 = .ok (.iconst 0, 1) := by decide +kernel
theorem dX3_copy_5 : decode cX3_copy 5 = .ok (.aload_n 0, 1) := by decide +kernel
theorem dX3_copy_6 : decode cX3_copy 6 = .ok (.getfield 9, 3) := by decide +kernel
theorem dX3_copy_9 : decode cX3_copy 9 = .ok (.iconst 0, 1) := by decide +kernel
theorem dX3_copy_10 : decode cX3_copy 10 = .ok (.bipush 80, 2) := by decide +kernel
theorem dX3_copy_12 : decode cX3_copy 12 = .ok (.invokestatic 23, 3) := by decide +kernel
theorem dX3_copy_15 : decode cX3_copy 15 = .ok (.aload_n 0, 1) := by decide +kernel
theorem dX3_copy_16 : decode cX3_copy 16 = .ok (.aload_n 1, 1) := by decide +kernel
theorem dX3_copy_17 : decode cX3_copy 17 = .ok (.getfield 15, 3) := by decide +kernel
theorem dX3_copy_20 : decode cX3_copy 20 = .ok (.putfield 15, 3) := by decide +kernel
theorem dX3_copy_23 : decode cX3_copy 23 = .ok (.aload_n 0, 1) := by decide +kernel
theorem dX3_copy_24 : decode cX3_copy 24 = .ok (.aload_n 1, 1) := by decide +kernel
theorem dX3_copy_25 : decode cX3_copy 25 = .ok (.getfield 19, 3) := by decide +kernel
theorem dX3_copy_28 : decode cX3_copy 28 = .ok (.putfield 19, 3) := by decide +kernel
theorem dX3_copy_31 : decode cX3_copy 31 = .ok (.return_, 1) := by decide +kernel
set_option maxRecDepth 20000 in
theorem ggX4_init_X5_init : GoodIn wsX4_init wsX5_init := goodIn_r _ [11, 12, 2, 3, 13, 14, 15, 16, 17, 18, 19, 20, 21, 22, 23, 24, 25] (by decide +kernel) (by decide +kernel)
set_option maxRecDepth 20000 in
theorem gX4_init_X5_init_n11 : GoodIn wsX4_init (wsX5_init) := ggX4_init_X5_init
theorem dX4_init_0 : decode cX4_init 0 = .ok (.aload_n 0, 1) := by decide +kernel
theorem dX4_init_1 : decode cX4_init 1 = .ok (.invokespecial 3, 3) := by decide +kernel
theorem dX4_init_4 : decode cX4_init 4 = .ok (.aload_n 0, 1) := by decide +kernel
theorem dX4_init_5 : decode cX4_init 5 = .ok (.new 9, 3) := by decide +kernel
theorem dX4_init_8 : decode cX4_init 8 = .ok (.dup, 1) := by decide +kernel
theorem dX4_init_9 : decode cX4_init 9 = .ok (.invokespecial 11, 3) := by decide +kernel
theorem dX4_init_12 : decode cX4_init 12 = .ok (.putfield 12, 3) := by decide +kernel
theorem dX4_init_15 : decode cX4_init 15 = .ok (.aload_n 0, 1) := by decide +kernel
theorem dX4_init_16 : decode cX4_init 16 = .ok (.iconst 0, 1) := by decide +kernel
theorem dX4_init_17 : decode cX4_init 17 = .ok (.putfield 18, 3) := by decide +kernel
theorem dX4_init_20 : decode cX4_init 20 = .ok (.aload_n 0, 1) := by decide +kernel
theorem dX4_init_21 : decode cX4_init 21 = .ok (.bipush (-6), 2) := by decide +kernel
theorem dX4_init_23 : decode cX4_init 23 = .ok (.putfield 22, 3) := by decide +kernel
theorem dX4_init_26 : decode cX4_init 26 = .ok (.return_, 1) := by decide +kernel
set_option maxRecDepth 20000 in
theorem ggX4_read_X5_clear : GoodIn wsX4_read wsX5_clear := goodIn_r _ [10, 11, 100, 101, 102, 103, 104, 105] (by decide +kernel) (by decide +kernel)
set_option maxRecDepth 20000 in
theorem gX4_read_X5_clear : GoodIn wsX4_read (wsV RX4 25 RX5 yX5_clear wsX5_clear) := goodIn_app (goodIn_of _ (by decide +kernel)) ggX4_read_X5_clear
set_option maxRecDepth 20000 in
theorem ggX4_read_X4_takes : GoodIn wsX4_read wsX4_takes := goodIn_r _ [16, 1, 17, 2, 18, 19, 20, 15, 21, 3, 22, 23, 24, 25, 26, 27, 9, 28, 11, 29, 30, 31, 32, 33, 34, 35, 36, 37, 38, 39, 40, 41, 42, 43, 44, 45, 46, 47, 48, 49, 50, 51, 52, 53, 54, 55, 56, 57, 58, 59, 60, 61, 62, 63, 64, 65, 66, 67, 68, 69, 70, 71, 72, 73, 74, 75, 76, 77, 78, 79, 80, 81, 82, 83, 84, 85, 86, 87, 88, 89, 90, 91, 92, 93, 94, 95, 96, 100, 101, 102, 103, 104, 105] (by decide +kernel) (by decide +kernel)
set_option maxRecDepth 20000 in
theorem gX4_read_X4_takes : GoodIn wsX4_read (wsV RX4 37 RX4 yX4_takes wsX4_takes) := goodIn_app (goodIn_of _ (by decide +kernel)) ggX4_read_X4_takes
theorem dX4_read_0 : decode cX4_read 0 = .ok (.aload_n 0, 1) := by decide +kernel
theorem dX4_read_1 : decode cX4_read 1 = .ok (.getfield 12, 3) := by decide +kernel
theorem dX4_read_4 : decode cX4_read 4 = .ok (.invokevirtual 25, 3) := by decide +kernel
theorem dX4_read_7 : decode cX4_read 7 = .ok (.aload_n 0, 1) := by decide +kernel
theorem dX4_read_8 : decode cX4_read 8 = .ok (.iconst 0, 1) := by decide +kernel
theorem dX4_read_9 : decode cX4_read 9 = .ok (.putfield 18, 3) := by decide +kernel
theorem dX4_read_12 : decode cX4_read 12 = .ok (.aload_n 0, 1) := by decide +kernel
theorem dX4_read_13 : decode cX4_read 13 = .ok (.bipush (-6), 2) := by decide +kernel
theorem dX4_read_15 : decode cX4_read 15 = .ok (.putfield 22, 3) := by decide +kernel
theorem dX4_read_18 : decode cX4_read 18 = .ok (.iconst 0, 1) := by decide +kernel
theorem dX4_read_19 : decode cX4_read 19 = .ok (.istore_n 2, 1) := by decide +kernel
theorem dX4_read_20 : decode cX4_read 20 = .ok (.iload_n 2, 1) := by decide +kernel
theorem dX4_read_21 : decode cX4_read 21 = .ok (.aload_n 1, 1) := by decide +kernel
theorem dX4_read_22 : decode cX4_read 22 = .ok (.getfield 28, 3) := by decide +kernel
theorem dX4_read_25 : decode cX4_read 25 = .ok (.if_icmp .ge 24, 3) := by decide +kernel
theorem dX4_read_28 : decode cX4_read 28 = .ok (.aload_n 0, 1) := by decide +kernel
theorem dX4_read_29 : decode cX4_read 29 = .ok (.aload_n 1, 1) := by decide +kernel
theorem dX4_read_30 : decode cX4_read 30 = .ok (.getfield 33, 3) := by decide +kernel
theorem dX4_read_33 : decode cX4_read 33 = .ok (.iload_n 2, 1) := by decide +kernel
theorem dX4_read_34 : decode cX4_read 34 = .ok (.caload, 1) := by decide +kernel
theorem dX4_read_35 : decode cX4_read 35 = .ok (.invokevirtual 37, 3) := by decide +kernel
theorem dX4_read_38 : decode cX4_read 38 = .ok (.ifCond .ne 5, 3) := by decide +kernel
theorem dX4_read_41 : decode cX4_read 41 = .ok (.iload_n 2, 1) := by decide +kernel
theorem dX4_read_42 : decode cX4_read 42 = .ok (.ireturn, 1) := by decide +kernel
theorem dX4_read_43 : decode cX4_read 43 = .ok (.iinc 2 1, 3) := by decide +kernel
theorem dX4_read_46 : decode cX4_read 46 = .ok (.goto (-26), 3) := by decide +kernel
theorem dX4_read_49 : decode cX4_read 49 = .ok (.aload_n 0, 1) := by decide +kernel
theorem dX4_read_50 : decode cX4_read 50 = .ok (.getfield 18, 3) := by decide +kernel
theorem dX4_read_53 : decode cX4_read 53 = .ok (.iconst 2, 1) := by decide +kernel
theorem dX4_read_54 : decode cX4_read 54 = .ok (.if_icmp .lt 17, 3) := by decide +kernel
theorem dX4_read_57 : decode cX4_read 57 = .ok (.aload_n 0, 1) := by decide +kernel
theorem dX4_read_58 : decode cX4_read 58 = .ok (.getfield 22, 3) := by decide +kernel
theorem dX4_read_61 : decode cX4_read 61 = .ok (.bipush (-6), 2) := by decide +kernel
theorem dX4_read_63 : decode cX4_read 63 = .ok (.if_icmp .ne 8, 3) := by decide +kernel
theorem dX4_read_66 : decode cX4_read 66 = .ok (.bipush (-6), 2) := by decide +kernel
theorem dX4_read_68 : decode cX4_read 68 = .ok (.goto 7, 3) := by decide +kernel
theorem dX4_read_71 : decode cX4_read 71 = .ok (.aload_n 1, 1) := by decide +kernel
theorem dX4_read_72 : decode cX4_read 72 = .ok (.getfield 28, 3) := by decide +kernel
theorem dX4_read_75 : decode cX4_read 75 = .ok (.ireturn, 1) := by decide +kernel
set_option maxRecDepth 20000 in
theorem ggX4_takes_X4_takesWidth : GoodIn wsX4_takes wsX4_takesWidth := goodIn_r _ [8, 1, 9, 3, 10, 11, 12, 13, 14, 15, 16, 17, 18, 19, 20, 21, 22, 23, 24, 25, 26, 27, 28, 29, 30, 31, 32, 33, 34, 35, 36, 37, 38, 84, 85, 86, 87, 88, 89, 90, 91, 92] (by decide +kernel) (by decide +kernel)
set_option maxRecDepth 20000 in
theorem gX4_takes_X4_takesWidth : GoodIn wsX4_takes (wsV RX4 44 RX4 yX4_takesWidth wsX4_takesWidth) := goodIn_app (goodIn_of _ (by decide +kernel)) ggX4_takes_X4_takesWidth
set_option maxRecDepth 20000 in
theorem ggX4_takes_X4_takesFirstDigit : GoodIn wsX4_takes wsX4_takesFirstDigit := goodIn_r _ [42, 1, 43, 3, 44, 45, 7, 46, 10, 11, 12, 84, 85, 86, 87, 88, 89, 90, 91, 92] (by decide +kernel) (by decide +kernel)
set_option maxRecDepth 20000 in
theorem gX4_takes_X4_takesFirstDigit : GoodIn wsX4_takes (wsV RX4 47 RX4 yX4_takesFirstDigit wsX4_takesFirstDigit) := goodIn_app (goodIn_of _ (by decide +kernel)) ggX4_takes_X4_takesFirstDigit
set_option maxRecDepth 20000 in
theorem ggX4_takes_X4_takesSmoke : GoodIn wsX4_takes wsX4_takesSmoke := goodIn_r _ [50, 3, 1, 51, 10, 11, 12, 84, 85, 86, 87, 88, 89, 90, 91, 92] (by decide +kernel) (by decide +kernel)
set_option maxRecDepth 20000 in
theorem gX4_takes_X4_takesSmoke : GoodIn wsX4_takes (wsV RX4 51 RX4 yX4_takesSmoke wsX4_takesSmoke) := goodIn_app (goodIn_of _ (by decide +kernel)) ggX4_takes_X4_takesSmoke
set_option maxRecDepth 20000 in
theorem ggX4_takes_X4_takesStar : GoodIn wsX4_takes wsX4_takesStar := goodIn_r _ [55, 3, 10, 11, 12, 84, 85, 86] (by decide +kernel) (by decide +kernel)
set_option maxRecDepth 20000 in
theorem gX4_takes_X4_takesStar : GoodIn wsX4_takes (wsV RX4 54 RX4 yX4_takesStar wsX4_takesStar) := goodIn_app (goodIn_of _ (by decide +kernel)) ggX4_takes_X4_takesStar
set_option maxRecDepth 20000 in
theorem ggX4_takes_X4_opens : GoodIn wsX4_takes wsX4_opens := goodIn_r _ [59, 3, 9, 10, 11, 12, 84, 85, 86] (by decide +kernel) (by decide +kernel)
set_option maxRecDepth 20000 in
theorem gX4_takes_X4_opens : GoodIn wsX4_takes (wsV RX4 58 RX4 yX4_opens wsX4_opens) := goodIn_app (goodIn_of _ (by decide +kernel)) ggX4_takes_X4_opens
set_option maxRecDepth 20000 in
theorem ggX4_takes_X4_goesOn : GoodIn wsX4_takes wsX4_goesOn := goodIn_r _ [63, 1, 9, 3, 64, 65, 66, 16, 67, 18, 68, 11, 69, 84, 85, 86, 87, 88, 89, 90, 91, 92] (by decide +kernel) (by decide +kernel)
set_option maxRecDepth 20000 in
theorem gX4_takes_X4_goesOn : GoodIn wsX4_takes (wsV RX4 61 RX4 yX4_goesOn wsX4_goesOn) := goodIn_app (goodIn_of _ (by decide +kernel)) ggX4_takes_X4_goesOn
set_option maxRecDepth 20000 in
theorem ggX4_takes_X4_closes : GoodIn wsX4_takes wsX4_closes := goodIn_r _ [73, 1, 9, 74, 3, 64, 65, 66, 16, 67, 18, 68, 11, 69, 84, 85, 86, 87, 88, 89, 90, 91, 92] (by decide +kernel) (by decide +kernel)
set_option maxRecDepth 20000 in
theorem gX4_takes_X4_closes : GoodIn wsX4_takes (wsV RX4 64 RX4 yX4_closes wsX4_closes) := goodIn_app (goodIn_of _ (by decide +kernel)) ggX4_takes_X4_closes
set_option maxRecDepth 20000 in
theorem ggX4_takes_X4_isDigit : GoodIn wsX4_takes wsX4_isDigit := goodIn_r _ [46, 10, 11, 12] (by decide +kernel) (by decide +kernel)
set_option maxRecDepth 20000 in
theorem gX4_takes_X4_isDigit : GoodIn wsX4_takes (va_wsS RX4 67 yX4_isDigit wsX4_isDigit) := goodIn_app (goodIn_of _ (by decide +kernel)) ggX4_takes_X4_isDigit
set_option maxRecDepth 20000 in
theorem ggX4_takes_X4_takesSecondDigit : GoodIn wsX4_takes wsX4_takesSecondDigit := goodIn_r _ [78, 3, 1, 43, 84, 85, 86, 87, 88, 89, 90, 91, 92] (by decide +kernel) (by decide +kernel)
set_option maxRecDepth 20000 in
theorem gX4_takes_X4_takesSecondDigit : GoodIn wsX4_takes (wsV RX4 70 RX4 yX4_takesSecondDigit wsX4_takesSecondDigit) := goodIn_app (goodIn_of _ (by decide +kernel)) ggX4_takes_X4_takesSecondDigit
set_option maxRecDepth 20000 in
theorem ggX4_takes_X4_takesFlag : GoodIn wsX4_takes wsX4_takesFlag := goodIn_r _ [82, 3, 1, 83, 10, 11, 12, 84, 85, 86, 87, 88, 89, 90, 91, 92] (by decide +kernel) (by decide +kernel)
set_option maxRecDepth 20000 in
theorem gX4_takes_X4_takesFlag : GoodIn wsX4_takes (wsV RX4 73 RX4 yX4_takesFlag wsX4_takesFlag) := goodIn_app (goodIn_of _ (by decide +kernel)) ggX4_takes_X4_takesFlag
theorem dX4_takes_0 : decode cX4_takes 0 = .ok (.aload_n 0, 1) := by decide +kernel
theorem dX4_takes_1 : decode cX4_takes 1 = .ok (.getfield 12, 3) := by decide +kernel
theorem dX4_takes_4 : decode cX4_takes 4 = .ok (.getfield 41, 3) := by decide +kernel
theorem dX4_takes_7 : decode cX4_takes 7 = .ok (.iconst 1, 1) := by decide +kernel
theorem dX4_takes_8 : decode cX4_takes 8 = .ok (.isub, 1) := by decide +kernel
theorem dX4_takes_9 : decode cX4_takes 9 = .ok (.istore_n 2, 1) := by decide +kernel
theorem dX4_takes_10 : decode cX4_takes 10 = .ok (.aload_n 0, 1) := by decide +kernel
theorem dX4_takes_11 : decode cX4_takes 11 = .ok (.getfield 18, 3) := by decide +kernel
theorem dX4_takes_14 : decode cX4_takes 14 = .ok (.ifCond .eq 7, 3) := by decide +kernel
theorem dX4_takes_17 : decode cX4_takes 17 = .ok (.iload_n 2, 1) := by decide +kernel
theorem dX4_takes_18 : decode cX4_takes 18 = .ok (.ifCond .ge 9, 3) := by decide +kernel
theorem dX4_takes_21 : decode cX4_takes 21 = .ok (.aload_n 0, 1) := by decide +kernel
theorem dX4_takes_22 : decode cX4_takes 22 = .ok (.iload_n 1, 1) := by decide +kernel
theorem dX4_takes_23 : decode cX4_takes 23 = .ok (.invokevirtual 44, 3) := by decide +kernel
theorem dX4_takes_26 : decode cX4_takes 26 = .ok (.ireturn, 1) := by decide +kernel
theorem dX4_takes_27 : decode cX4_takes 27 = .ok (.aload_n 0, 1) := by decide +kernel
theorem dX4_takes_28 : decode cX4_takes 28 = .ok (.getfield 18, 3) := by decide +kernel
theorem dX4_takes_31 : decode cX4_takes 31 = .ok (.iconst 1, 1) := by decide +kernel
theorem dX4_takes_32 : decode cX4_takes 32 = .ok (.if_icmp .ne 10, 3) := by decide +kernel
theorem dX4_takes_35 : decode cX4_takes 35 = .ok (.aload_n 0, 1) := by decide +kernel
theorem dX4_takes_36 : decode cX4_takes 36 = .ok (.iload_n 2, 1) := by decide +kernel
theorem dX4_takes_37 : decode cX4_takes 37 = .ok (.iload_n 1, 1) := by decide +kernel
theorem dX4_takes_38 : decode cX4_takes 38 = .ok (.invokevirtual 47, 3) := by decide +kernel
theorem dX4_takes_41 : decode cX4_takes 41 = .ok (.ireturn, 1) := by decide +kernel
theorem dX4_takes_42 : decode cX4_takes 42 = .ok (.iload_n 1, 1) := by decide +kernel
theorem dX4_takes_43 : decode cX4_takes 43 = .ok (.tableswitch 88 33 44 #[61, 88, 88, 88, 88, 88, 88, 72, 83, 67, 88, 78], 61) := by decide +kernel
theorem dX4_takes_104 : decode cX4_takes 104 = .ok (.aload_n 0, 1) := by decide +kernel
theorem dX4_takes_105 : decode cX4_takes 105 = .ok (.iload_n 2, 1) := by decide +kernel
theorem dX4_takes_106 : decode cX4_takes 106 = .ok (.invokevirtual 51, 3) := by decide +kernel
theorem dX4_takes_109 : decode cX4_takes 109 = .ok (.ireturn, 1) := by decide +kernel
theorem dX4_takes_110 : decode cX4_takes 110 = .ok (.aload_n 0, 1) := by decide +kernel
theorem dX4_takes_111 : decode cX4_takes 111 = .ok (.invokevirtual 54, 3) := by decide +kernel
theorem dX4_takes_114 : decode cX4_takes 114 = .ok (.ireturn, 1) := by decide +kernel
theorem dX4_takes_115 : decode cX4_takes 115 = .ok (.aload_n 0, 1) := by decide +kernel
theorem dX4_takes_116 : decode cX4_takes 116 = .ok (.iload_n 2, 1) := by decide +kernel
theorem dX4_takes_117 : decode cX4_takes 117 = .ok (.invokevirtual 58, 3) := by decide +kernel
theorem dX4_takes_120 : decode cX4_takes 120 = .ok (.ireturn, 1) := by decide +kernel
theorem dX4_takes_121 : decode cX4_takes 121 = .ok (.aload_n 0, 1) := by decide +kernel
theorem dX4_takes_122 : decode cX4_takes 122 = .ok (.invokevirtual 61, 3) := by decide +kernel
theorem dX4_takes_125 : decode cX4_takes 125 = .ok (.ireturn, 1) := by decide +kernel
theorem dX4_takes_126 : decode cX4_takes 126 = .ok (.aload_n 0, 1) := by decide +kernel
theorem dX4_takes_127 : decode cX4_takes 127 = .ok (.invokevirtual 64, 3) := by decide +kernel
theorem dX4_takes_130 : decode cX4_takes 130 = .ok (.ireturn, 1) := by decide +kernel
theorem dX4_takes_131 : decode cX4_takes 131 = .ok (.iload_n 1, 1) := by decide +kernel
theorem dX4_takes_132 : decode cX4_takes 132 = .ok (.invokestatic 67, 3) := by decide +kernel
theorem dX4_takes_135 : decode cX4_takes 135 = .ok (.ifCond .eq 12, 3) := by decide +kernel
theorem dX4_takes_138 : decode cX4_takes 138 = .ok (.aload_n 0, 1) := by decide +kernel
theorem dX4_takes_139 : decode cX4_takes 139 = .ok (.iload_n 2, 1) := by decide +kernel
theorem dX4_takes_140 : decode cX4_takes 140 = .ok (.iload_n 1, 1) := by decide +kernel
theorem dX4_takes_141 : decode cX4_takes 141 = .ok (.invokevirtual 70, 3) := by decide +kernel
theorem dX4_takes_144 : decode cX4_takes 144 = .ok (.goto 9, 3) := by decide +kernel
theorem dX4_takes_147 : decode cX4_takes 147 = .ok (.aload_n 0, 1) := by decide +kernel
theorem dX4_takes_148 : decode cX4_takes 148 = .ok (.iload_n 2, 1) := by decide +kernel
theorem dX4_takes_149 : decode cX4_takes 149 = .ok (.iload_n 1, 1) := by decide +kernel
theorem dX4_takes_150 : decode cX4_takes 150 = .ok (.invokevirtual 73, 3) := by decide +kernel
theorem dX4_takes_153 : decode cX4_takes 153 = .ok (.ireturn, 1) := by decide +kernel
set_option maxRecDepth 20000 in
theorem ggX4_takesWidth_X7_isWithin : GoodIn wsX4_takesWidth wsX7_isWithin := goodIn_r _ [6] (by decide +kernel) (by decide +kernel)
set_option maxRecDepth 20000 in
theorem gX4_takesWidth_X7_isWithin_n76 : GoodIn wsX4_takesWidth (wsX7_isWithin) := ggX4_takesWidth_X7_isWithin
set_option maxRecDepth 20000 in
theorem ggX4_takesWidth_X5_hasRoomOff : GoodIn wsX4_takesWidth wsX5_hasRoomOff := goodIn_r _ [11, 12, 13, 14, 15, 10, 16, 17, 18, 19, 20, 21, 22, 23, 24, 36, 37, 38, 39, 40, 41] (by decide +kernel) (by decide +kernel)
set_option maxRecDepth 20000 in
theorem gX4_takesWidth_X5_hasRoomOff : GoodIn wsX4_takesWidth (wsV RX4 80 RX5 yX5_hasRoomOff wsX5_hasRoomOff) := goodIn_app (goodIn_of _ (by decide +kernel)) ggX4_takesWidth_X5_hasRoomOff
set_option maxRecDepth 20000 in
theorem ggX4_takesWidth_X5_add : GoodIn wsX4_takesWidth wsX5_add := goodIn_r _ [28, 12, 17, 29, 30, 31, 32, 36, 37, 38, 39, 40, 41] (by decide +kernel) (by decide +kernel)
set_option maxRecDepth 20000 in
theorem gX4_takesWidth_X5_add : GoodIn wsX4_takesWidth (wsV RX4 83 RX5 yX5_add wsX5_add) := goodIn_app (goodIn_of _ (by decide +kernel)) ggX4_takesWidth_X5_add
theorem dX4_takesWidth_0 : decode cX4_takesWidth 0 = .ok (.iload_n 1, 1) := by decide +kernel
theorem dX4_takesWidth_1 : decode cX4_takesWidth 1 = .ok (.bipush 49, 2) := by decide +kernel
theorem dX4_takesWidth_3 : decode cX4_takesWidth 3 = .ok (.bipush 57, 2) := by decide +kernel
theorem dX4_takesWidth_5 : decode cX4_takesWidth 5 = .ok (.invokestatic 76, 3) := by decide +kernel
theorem dX4_takesWidth_8 : decode cX4_takesWidth 8 = .ok (.ifCond .eq 17, 3) := by decide +kernel
theorem dX4_takesWidth_11 : decode cX4_takesWidth 11 = .ok (.aload_n 0, 1) := by decide +kernel
theorem dX4_takesWidth_12 : decode cX4_takesWidth 12 = .ok (.getfield 12, 3) := by decide +kernel
theorem dX4_takesWidth_15 : decode cX4_takesWidth 15 = .ok (.aload_n 0, 1) := by decide +kernel
theorem dX4_takesWidth_16 : decode cX4_takesWidth 16 = .ok (.getfield 22, 3) := by decide +kernel
theorem dX4_takesWidth_19 : decode cX4_takesWidth 19 = .ok (.invokevirtual 80, 3) := by decide +kernel
theorem dX4_takesWidth_22 : decode cX4_takesWidth 22 = .ok (.ifCond .ne 5, 3) := by decide +kernel
theorem dX4_takesWidth_25 : decode cX4_takesWidth 25 = .ok (.iconst 0, 1) := by decide +kernel
theorem dX4_takesWidth_26 : decode cX4_takesWidth 26 = .ok (.ireturn, 1) := by decide +kernel
theorem dX4_takesWidth_27 : decode cX4_takesWidth 27 = .ok (.aload_n 0, 1) := by decide +kernel
theorem dX4_takesWidth_28 : decode cX4_takesWidth 28 = .ok (.getfield 12, 3) := by decide +kernel
theorem dX4_takesWidth_31 : decode cX4_takesWidth 31 = .ok (.aload_n 0, 1) := by decide +kernel
theorem dX4_takesWidth_32 : decode cX4_takesWidth 32 = .ok (.getfield 22, 3) := by decide +kernel
theorem dX4_takesWidth_35 : decode cX4_takesWidth 35 = .ok (.iload_n 1, 1) := by decide +kernel
theorem dX4_takesWidth_36 : decode cX4_takesWidth 36 = .ok (.bipush 48, 2) := by decide +kernel
theorem dX4_takesWidth_38 : decode cX4_takesWidth 38 = .ok (.isub, 1) := by decide +kernel
theorem dX4_takesWidth_39 : decode cX4_takesWidth 39 = .ok (.invokevirtual 83, 3) := by decide +kernel
theorem dX4_takesWidth_42 : decode cX4_takesWidth 42 = .ok (.pop, 1) := by decide +kernel
theorem dX4_takesWidth_43 : decode cX4_takesWidth 43 = .ok (.aload_n 0, 1) := by decide +kernel
theorem dX4_takesWidth_44 : decode cX4_takesWidth 44 = .ok (.iconst 2, 1) := by decide +kernel
theorem dX4_takesWidth_45 : decode cX4_takesWidth 45 = .ok (.putfield 18, 3) := by decide +kernel
theorem dX4_takesWidth_48 : decode cX4_takesWidth 48 = .ok (.iconst 1, 1) := by decide +kernel
theorem dX4_takesWidth_49 : decode cX4_takesWidth 49 = .ok (.ireturn, 1) := by decide +kernel
set_option maxRecDepth 20000 in
theorem ggX4_takesFlag_X7_isWithin : GoodIn wsX4_takesFlag wsX7_isWithin := goodIn_r _ [6] (by decide +kernel) (by decide +kernel)
set_option maxRecDepth 20000 in
theorem gX4_takesFlag_X7_isWithin_n76 : GoodIn wsX4_takesFlag (wsX7_isWithin) := ggX4_takesFlag_X7_isWithin
theorem dX4_takesFlag_0 : decode cX4_takesFlag 0 = .ok (.aload_n 0, 1) := by decide +kernel
theorem dX4_takesFlag_1 : decode cX4_takesFlag 1 = .ok (.getfield 18, 3) := by decide +kernel
theorem dX4_takesFlag_4 : decode cX4_takesFlag 4 = .ok (.iconst 2, 1) := by decide +kernel
theorem dX4_takesFlag_5 : decode cX4_takesFlag 5 = .ok (.if_icmp .ne 14, 3) := by decide +kernel
theorem dX4_takesFlag_8 : decode cX4_takesFlag 8 = .ok (.iload_n 2, 1) := by decide +kernel
theorem dX4_takesFlag_9 : decode cX4_takesFlag 9 = .ok (.bipush 97, 2) := by decide +kernel
theorem dX4_takesFlag_11 : decode cX4_takesFlag 11 = .ok (.bipush 101, 2) := by decide +kernel
theorem dX4_takesFlag_13 : decode cX4_takesFlag 13 = .ok (.invokestatic 76, 3) := by decide +kernel
theorem dX4_takesFlag_16 : decode cX4_takesFlag 16 = .ok (.ifCond .ne 5, 3) := by decide +kernel
theorem dX4_takesFlag_19 : decode cX4_takesFlag 19 = .ok (.iconst 0, 1) := by decide +kernel
theorem dX4_takesFlag_20 : decode cX4_takesFlag 20 = .ok (.ireturn, 1) := by decide +kernel
theorem dX4_takesFlag_21 : decode cX4_takesFlag 21 = .ok (.aload_n 0, 1) := by decide +kernel
theorem dX4_takesFlag_22 : decode cX4_takesFlag 22 = .ok (.getfield 12, 3) := by decide +kernel
theorem dX4_takesFlag_25 : decode cX4_takesFlag 25 = .ok (.getfield 87, 3) := by decide +kernel
theorem dX4_takesFlag_28 : decode cX4_takesFlag 28 = .ok (.iload_n 1, 1) := by decide +kernel
theorem dX4_takesFlag_29 : decode cX4_takesFlag 29 = .ok (.iload_n 2, 1) := by decide +kernel
theorem dX4_takesFlag_30 : decode cX4_takesFlag 30 = .ok (.bipush 97, 2) := by decide +kernel
theorem dX4_takesFlag_32 : decode cX4_takesFlag 32 = .ok (.isub, 1) := by decide +kernel
theorem dX4_takesFlag_33 : decode cX4_takesFlag 33 = .ok (.iconst 1, 1) := by decide +kernel
theorem dX4_takesFlag_34 : decode cX4_takesFlag 34 = .ok (.iadd, 1) := by decide +kernel
theorem dX4_takesFlag_35 : decode cX4_takesFlag 35 = .ok (.iastore, 1) := by decide +kernel
theorem dX4_takesFlag_36 : decode cX4_takesFlag 36 = .ok (.aload_n 0, 1) := by decide +kernel
theorem dX4_takesFlag_37 : decode cX4_takesFlag 37 = .ok (.iconst 3, 1) := by decide +kernel
theorem dX4_takesFlag_38 : decode cX4_takesFlag 38 = .ok (.putfield 18, 3) := by decide +kernel
theorem dX4_takesFlag_41 : decode cX4_takesFlag 41 = .ok (.iconst 1, 1) := by decide +kernel
theorem dX4_takesFlag_42 : decode cX4_takesFlag 42 = .ok (.ireturn, 1) := by decide +kernel
set_option maxRecDepth 20000 in
theorem ggX4_takesSmoke_X7_isWithin : GoodIn wsX4_takesSmoke wsX7_isWithin := goodIn_r _ [6] (by decide +kernel) (by decide +kernel)
set_option maxRecDepth 20000 in
theorem gX4_takesSmoke_X7_isWithin_n76 : GoodIn wsX4_takesSmoke (wsX7_isWithin) := ggX4_takesSmoke_X7_isWithin
theorem dX4_takesSmoke_0 : decode cX4_takesSmoke 0 = .ok (.aload_n 0, 1) := by decide +kernel
theorem dX4_takesSmoke_1 : decode cX4_takesSmoke 1 = .ok (.getfield 18, 3) := by decide +kernel
theorem dX4_takesSmoke_4 : decode cX4_takesSmoke 4 = .ok (.iconst 2, 1) := by decide +kernel
theorem dX4_takesSmoke_5 : decode cX4_takesSmoke 5 = .ok (.iconst 3, 1) := by decide +kernel
theorem dX4_takesSmoke_6 : decode cX4_takesSmoke 6 = .ok (.invokestatic 76, 3) := by decide +kernel
theorem dX4_takesSmoke_9 : decode cX4_takesSmoke 9 = .ok (.ifCond .ne 5, 3) := by decide +kernel
theorem dX4_takesSmoke_12 : decode cX4_takesSmoke 12 = .ok (.iconst 0, 1) := by decide +kernel
theorem dX4_takesSmoke_13 : decode cX4_takesSmoke 13 = .ok (.ireturn, 1) := by decide +kernel
theorem dX4_takesSmoke_14 : decode cX4_takesSmoke 14 = .ok (.aload_n 0, 1) := by decide +kernel
theorem dX4_takesSmoke_15 : decode cX4_takesSmoke 15 = .ok (.getfield 12, 3) := by decide +kernel
theorem dX4_takesSmoke_18 : decode cX4_takesSmoke 18 = .ok (.getfield 91, 3) := by decide +kernel
theorem dX4_takesSmoke_21 : decode cX4_takesSmoke 21 = .ok (.iload_n 1, 1) := by decide +kernel
theorem dX4_takesSmoke_22 : decode cX4_takesSmoke 22 = .ok (.iconst 1, 1) := by decide +kernel
theorem dX4_takesSmoke_23 : decode cX4_takesSmoke 23 = .ok (.iastore, 1) := by decide +kernel
theorem dX4_takesSmoke_24 : decode cX4_takesSmoke 24 = .ok (.aload_n 0, 1) := by decide +kernel
theorem dX4_takesSmoke_25 : decode cX4_takesSmoke 25 = .ok (.iconst 4, 1) := by decide +kernel
theorem dX4_takesSmoke_26 : decode cX4_takesSmoke 26 = .ok (.putfield 18, 3) := by decide +kernel
theorem dX4_takesSmoke_29 : decode cX4_takesSmoke 29 = .ok (.iconst 1, 1) := by decide +kernel
theorem dX4_takesSmoke_30 : decode cX4_takesSmoke 30 = .ok (.ireturn, 1) := by decide +kernel
set_option maxRecDepth 20000 in
theorem ggX4_takesStar_X7_isWithin : GoodIn wsX4_takesStar wsX7_isWithin := goodIn_r _ [4] (by decide +kernel) (by decide +kernel)
set_option maxRecDepth 20000 in
theorem gX4_takesStar_X7_isWithin_n76 : GoodIn wsX4_takesStar (wsX7_isWithin) := ggX4_takesStar_X7_isWithin
theorem dX4_takesStar_0 : decode cX4_takesStar 0 = .ok (.aload_n 0, 1) := by decide +kernel
theorem dX4_takesStar_1 : decode cX4_takesStar 1 = .ok (.getfield 18, 3) := by decide +kernel
theorem dX4_takesStar_4 : decode cX4_takesStar 4 = .ok (.iconst 2, 1) := by decide +kernel
theorem dX4_takesStar_5 : decode cX4_takesStar 5 = .ok (.iconst 4, 1) := by decide +kernel
theorem dX4_takesStar_6 : decode cX4_takesStar 6 = .ok (.invokestatic 76, 3) := by decide +kernel
theorem dX4_takesStar_9 : decode cX4_takesStar 9 = .ok (.ifCond .ne 5, 3) := by decide +kernel
theorem dX4_takesStar_12 : decode cX4_takesStar 12 = .ok (.iconst 0, 1) := by decide +kernel
theorem dX4_takesStar_13 : decode cX4_takesStar 13 = .ok (.ireturn, 1) := by decide +kernel
theorem dX4_takesStar_14 : decode cX4_takesStar 14 = .ok (.aload_n 0, 1) := by decide +kernel
theorem dX4_takesStar_15 : decode cX4_takesStar 15 = .ok (.iconst 1, 1) := by decide +kernel
theorem dX4_takesStar_16 : decode cX4_takesStar 16 = .ok (.putfield 18, 3) := by decide +kernel
theorem dX4_takesStar_19 : decode cX4_takesStar 19 = .ok (.iconst 1, 1) := by decide +kernel
theorem dX4_takesStar_20 : decode cX4_takesStar 20 = .ok (.ireturn, 1) := by decide +kernel
set_option maxRecDepth 20000 in
theorem ggX4_takesFirstDigit_X4_isDigit : GoodIn wsX4_takesFirstDigit wsX4_isDigit := goodIn_r _ [7, 8, 9, 10] (by decide +kernel) (by decide +kernel)
set_option maxRecDepth 20000 in
theorem gX4_takesFirstDigit_X4_isDigit : GoodIn wsX4_takesFirstDigit (va_wsS RX4 67 yX4_isDigit wsX4_isDigit) := goodIn_app (goodIn_of _ (by decide +kernel)) ggX4_takesFirstDigit_X4_isDigit
theorem dX4_takesFirstDigit_0 : decode cX4_takesFirstDigit 0 = .ok (.iload_n 2, 1) := by decide +kernel
theorem dX4_takesFirstDigit_1 : decode cX4_takesFirstDigit 1 = .ok (.invokestatic 67, 3) := by decide +kernel
theorem dX4_takesFirstDigit_4 : decode cX4_takesFirstDigit 4 = .ok (.ifCond .ne 5, 3) := by decide +kernel
theorem dX4_takesFirstDigit_7 : decode cX4_takesFirstDigit 7 = .ok (.iconst 0, 1) := by decide +kernel
theorem dX4_takesFirstDigit_8 : decode cX4_takesFirstDigit 8 = .ok (.ireturn, 1) := by decide +kernel
theorem dX4_takesFirstDigit_9 : decode cX4_takesFirstDigit 9 = .ok (.aload_n 0, 1) := by decide +kernel
theorem dX4_takesFirstDigit_10 : decode cX4_takesFirstDigit 10 = .ok (.getfield 12, 3) := by decide +kernel
theorem dX4_takesFirstDigit_13 : decode cX4_takesFirstDigit 13 = .ok (.getfield 94, 3) := by decide +kernel
theorem dX4_takesFirstDigit_16 : decode cX4_takesFirstDigit 16 = .ok (.iload_n 1, 1) := by decide +kernel
theorem dX4_takesFirstDigit_17 : decode cX4_takesFirstDigit 17 = .ok (.iload_n 2, 1) := by decide +kernel
theorem dX4_takesFirstDigit_18 : decode cX4_takesFirstDigit 18 = .ok (.bipush 48, 2) := by decide +kernel
theorem dX4_takesFirstDigit_20 : decode cX4_takesFirstDigit 20 = .ok (.isub, 1) := by decide +kernel
theorem dX4_takesFirstDigit_21 : decode cX4_takesFirstDigit 21 = .ok (.iastore, 1) := by decide +kernel
theorem dX4_takesFirstDigit_22 : decode cX4_takesFirstDigit 22 = .ok (.aload_n 0, 1) := by decide +kernel
theorem dX4_takesFirstDigit_23 : decode cX4_takesFirstDigit 23 = .ok (.iload_n 2, 1) := by decide +kernel
theorem dX4_takesFirstDigit_24 : decode cX4_takesFirstDigit 24 = .ok (.bipush 48, 2) := by decide +kernel
theorem dX4_takesFirstDigit_26 : decode cX4_takesFirstDigit 26 = .ok (.if_icmp .ne 8, 3) := by decide +kernel
theorem dX4_takesFirstDigit_29 : decode cX4_takesFirstDigit 29 = .ok (.bipush 6, 2) := by decide +kernel
theorem dX4_takesFirstDigit_31 : decode cX4_takesFirstDigit 31 = .ok (.goto 4, 3) := by decide +kernel
theorem dX4_takesFirstDigit_34 : decode cX4_takesFirstDigit 34 = .ok (.iconst 5, 1) := by decide +kernel
theorem dX4_takesFirstDigit_35 : decode cX4_takesFirstDigit 35 = .ok (.putfield 18, 3) := by decide +kernel
theorem dX4_takesFirstDigit_38 : decode cX4_takesFirstDigit 38 = .ok (.iconst 1, 1) := by decide +kernel
theorem dX4_takesFirstDigit_39 : decode cX4_takesFirstDigit 39 = .ok (.ireturn, 1) := by decide +kernel
theorem dX4_takesSecondDigit_0 : decode cX4_takesSecondDigit 0 = .ok (.aload_n 0, 1) := by decide +kernel
theorem dX4_takesSecondDigit_1 : decode cX4_takesSecondDigit 1 = .ok (.getfield 18, 3) := by decide +kernel
theorem dX4_takesSecondDigit_4 : decode cX4_takesSecondDigit 4 = .ok (.iconst 5, 1) := by decide +kernel
theorem dX4_takesSecondDigit_5 : decode cX4_takesSecondDigit 5 = .ok (.if_icmp .eq 5, 3) := by decide +kernel
theorem dX4_takesSecondDigit_8 : decode cX4_takesSecondDigit 8 = .ok (.iconst 0, 1) := by decide +kernel
theorem dX4_takesSecondDigit_9 : decode cX4_takesSecondDigit 9 = .ok (.ireturn, 1) := by decide +kernel
theorem dX4_takesSecondDigit_10 : decode cX4_takesSecondDigit 10 = .ok (.aload_n 0, 1) := by decide +kernel
theorem dX4_takesSecondDigit_11 : decode cX4_takesSecondDigit 11 = .ok (.getfield 12, 3) := by decide +kernel
theorem dX4_takesSecondDigit_14 : decode cX4_takesSecondDigit 14 = .ok (.getfield 94, 3) := by decide +kernel
theorem dX4_takesSecondDigit_17 : decode cX4_takesSecondDigit 17 = .ok (.iload_n 1, 1) := by decide +kernel
theorem dX4_takesSecondDigit_18 : decode cX4_takesSecondDigit 18 = .ok (.bipush 10, 2) := by decide +kernel
theorem dX4_takesSecondDigit_20 : decode cX4_takesSecondDigit 20 = .ok (.aload_n 0, 1) := by decide +kernel
theorem dX4_takesSecondDigit_21 : decode cX4_takesSecondDigit 21 = .ok (.getfield 12, 3) := by decide +kernel
theorem dX4_takesSecondDigit_24 : decode cX4_takesSecondDigit 24 = .ok (.getfield 94, 3) := by decide +kernel
theorem dX4_takesSecondDigit_27 : decode cX4_takesSecondDigit 27 = .ok (.iload_n 1, 1) := by decide +kernel
theorem dX4_takesSecondDigit_28 : decode cX4_takesSecondDigit 28 = .ok (.iaload, 1) := by decide +kernel
theorem dX4_takesSecondDigit_29 : decode cX4_takesSecondDigit 29 = .ok (.imul, 1) := by decide +kernel
theorem dX4_takesSecondDigit_30 : decode cX4_takesSecondDigit 30 = .ok (.iload_n 2, 1) := by decide +kernel
theorem dX4_takesSecondDigit_31 : decode cX4_takesSecondDigit 31 = .ok (.iadd, 1) := by decide +kernel
theorem dX4_takesSecondDigit_32 : decode cX4_takesSecondDigit 32 = .ok (.bipush 48, 2) := by decide +kernel
theorem dX4_takesSecondDigit_34 : decode cX4_takesSecondDigit 34 = .ok (.isub, 1) := by decide +kernel
theorem dX4_takesSecondDigit_35 : decode cX4_takesSecondDigit 35 = .ok (.iastore, 1) := by decide +kernel
theorem dX4_takesSecondDigit_36 : decode cX4_takesSecondDigit 36 = .ok (.aload_n 0, 1) := by decide +kernel
theorem dX4_takesSecondDigit_37 : decode cX4_takesSecondDigit 37 = .ok (.bipush 6, 2) := by decide +kernel
theorem dX4_takesSecondDigit_39 : decode cX4_takesSecondDigit 39 = .ok (.putfield 18, 3) := by decide +kernel
theorem dX4_takesSecondDigit_42 : decode cX4_takesSecondDigit 42 = .ok (.iconst 1, 1) := by decide +kernel
theorem dX4_takesSecondDigit_43 : decode cX4_takesSecondDigit 43 = .ok (.ireturn, 1) := by decide +kernel
set_option maxRecDepth 20000 in
theorem ggX4_opens_X7_isWithin : GoodIn wsX4_opens wsX7_isWithin := goodIn_r _ [5] (by decide +kernel) (by decide +kernel)
set_option maxRecDepth 20000 in
theorem gX4_opens_X7_isWithin_n76 : GoodIn wsX4_opens (wsX7_isWithin) := ggX4_opens_X7_isWithin
theorem dX4_opens_0 : decode cX4_opens 0 = .ok (.aload_n 0, 1) := by decide +kernel
theorem dX4_opens_1 : decode cX4_opens 1 = .ok (.getfield 18, 3) := by decide +kernel
theorem dX4_opens_4 : decode cX4_opens 4 = .ok (.iconst 2, 1) := by decide +kernel
theorem dX4_opens_5 : decode cX4_opens 5 = .ok (.bipush 6, 2) := by decide +kernel
theorem dX4_opens_7 : decode cX4_opens 7 = .ok (.invokestatic 76, 3) := by decide +kernel
theorem dX4_opens_10 : decode cX4_opens 10 = .ok (.ifCond .ne 5, 3) := by decide +kernel
theorem dX4_opens_13 : decode cX4_opens 13 = .ok (.iconst 0, 1) := by decide +kernel
theorem dX4_opens_14 : decode cX4_opens 14 = .ok (.ireturn, 1) := by decide +kernel
theorem dX4_opens_15 : decode cX4_opens 15 = .ok (.aload_n 0, 1) := by decide +kernel
theorem dX4_opens_16 : decode cX4_opens 16 = .ok (.iload_n 1, 1) := by decide +kernel
theorem dX4_opens_17 : decode cX4_opens 17 = .ok (.putfield 22, 3) := by decide +kernel
theorem dX4_opens_20 : decode cX4_opens 20 = .ok (.aload_n 0, 1) := by decide +kernel
theorem dX4_opens_21 : decode cX4_opens 21 = .ok (.iconst 0, 1) := by decide +kernel
theorem dX4_opens_22 : decode cX4_opens 22 = .ok (.putfield 18, 3) := by decide +kernel
theorem dX4_opens_25 : decode cX4_opens 25 = .ok (.iconst 1, 1) := by decide +kernel
theorem dX4_opens_26 : decode cX4_opens 26 = .ok (.ireturn, 1) := by decide +kernel
set_option maxRecDepth 20000 in
theorem ggX4_goesOn_X5_has : GoodIn wsX4_goesOn wsX5_has := goodIn_r _ [8, 9, 10, 11, 12, 16, 17, 18, 19, 20, 21] (by decide +kernel) (by decide +kernel)
set_option maxRecDepth 20000 in
theorem gX4_goesOn_X5_has : GoodIn wsX4_goesOn (wsV RX4 97 RX5 yX5_has wsX5_has) := goodIn_app (goodIn_of _ (by decide +kernel)) ggX4_goesOn_X5_has
theorem dX4_goesOn_0 : decode cX4_goesOn 0 = .ok (.aload_n 0, 1) := by decide +kernel
theorem dX4_goesOn_1 : decode cX4_goesOn 1 = .ok (.getfield 12, 3) := by decide +kernel
theorem dX4_goesOn_4 : decode cX4_goesOn 4 = .ok (.aload_n 0, 1) := by decide +kernel
theorem dX4_goesOn_5 : decode cX4_goesOn 5 = .ok (.getfield 22, 3) := by decide +kernel
theorem dX4_goesOn_8 : decode cX4_goesOn 8 = .ok (.invokevirtual 97, 3) := by decide +kernel
theorem dX4_goesOn_11 : decode cX4_goesOn 11 = .ok (.ifCond .ne 5, 3) := by decide +kernel
theorem dX4_goesOn_14 : decode cX4_goesOn 14 = .ok (.iconst 0, 1) := by decide +kernel
theorem dX4_goesOn_15 : decode cX4_goesOn 15 = .ok (.ireturn, 1) := by decide +kernel
theorem dX4_goesOn_16 : decode cX4_goesOn 16 = .ok (.aload_n 0, 1) := by decide +kernel
theorem dX4_goesOn_17 : decode cX4_goesOn 17 = .ok (.iconst 0, 1) := by decide +kernel
theorem dX4_goesOn_18 : decode cX4_goesOn 18 = .ok (.putfield 18, 3) := by decide +kernel
theorem dX4_goesOn_21 : decode cX4_goesOn 21 = .ok (.iconst 1, 1) := by decide +kernel
theorem dX4_goesOn_22 : decode cX4_goesOn 22 = .ok (.ireturn, 1) := by decide +kernel
set_option maxRecDepth 20000 in
theorem ggX4_closes_X5_has : GoodIn wsX4_closes wsX5_has := goodIn_r _ [9, 10, 11, 12, 13, 17, 18, 19, 20, 21, 22] (by decide +kernel) (by decide +kernel)
set_option maxRecDepth 20000 in
theorem gX4_closes_X5_has : GoodIn wsX4_closes (wsV RX4 97 RX5 yX5_has wsX5_has) := goodIn_app (goodIn_of _ (by decide +kernel)) ggX4_closes_X5_has
theorem dX4_closes_0 : decode cX4_closes 0 = .ok (.aload_n 0, 1) := by decide +kernel
theorem dX4_closes_1 : decode cX4_closes 1 = .ok (.getfield 12, 3) := by decide +kernel
theorem dX4_closes_4 : decode cX4_closes 4 = .ok (.aload_n 0, 1) := by decide +kernel
theorem dX4_closes_5 : decode cX4_closes 5 = .ok (.getfield 22, 3) := by decide +kernel
theorem dX4_closes_8 : decode cX4_closes 8 = .ok (.invokevirtual 97, 3) := by decide +kernel
theorem dX4_closes_11 : decode cX4_closes 11 = .ok (.ifCond .ne 5, 3) := by decide +kernel
theorem dX4_closes_14 : decode cX4_closes 14 = .ok (.iconst 0, 1) := by decide +kernel
theorem dX4_closes_15 : decode cX4_closes 15 = .ok (.ireturn, 1) := by decide +kernel
theorem dX4_closes_16 : decode cX4_closes 16 = .ok (.aload_n 0, 1) := by decide +kernel
theorem dX4_closes_17 : decode cX4_closes 17 = .ok (.aload_n 0, 1) := by decide +kernel
theorem dX4_closes_18 : decode cX4_closes 18 = .ok (.getfield 12, 3) := by decide +kernel
theorem dX4_closes_21 : decode cX4_closes 21 = .ok (.getfield 100, 3) := by decide +kernel
theorem dX4_closes_24 : decode cX4_closes 24 = .ok (.aload_n 0, 1) := by decide +kernel
theorem dX4_closes_25 : decode cX4_closes 25 = .ok (.getfield 22, 3) := by decide +kernel
theorem dX4_closes_28 : decode cX4_closes 28 = .ok (.iaload, 1) := by decide +kernel
theorem dX4_closes_29 : decode cX4_closes 29 = .ok (.putfield 22, 3) := by decide +kernel
theorem dX4_closes_32 : decode cX4_closes 32 = .ok (.aload_n 0, 1) := by decide +kernel
theorem dX4_closes_33 : decode cX4_closes 33 = .ok (.bipush 7, 2) := by decide +kernel
theorem dX4_closes_35 : decode cX4_closes 35 = .ok (.putfield 18, 3) := by decide +kernel
theorem dX4_closes_38 : decode cX4_closes 38 = .ok (.iconst 1, 1) := by decide +kernel
theorem dX4_closes_39 : decode cX4_closes 39 = .ok (.ireturn, 1) := by decide +kernel
set_option maxRecDepth 20000 in
theorem ggX4_isDigit_X7_isWithin : GoodIn wsX4_isDigit wsX7_isWithin := goodIn_r _ [3] (by decide +kernel) (by decide +kernel)
set_option maxRecDepth 20000 in
theorem gX4_isDigit_X7_isWithin_n76 : GoodIn wsX4_isDigit (wsX7_isWithin) := ggX4_isDigit_X7_isWithin
theorem dX4_isDigit_0 : decode cX4_isDigit 0 = .ok (.iload_n 0, 1) := by decide +kernel
theorem dX4_isDigit_1 : decode cX4_isDigit 1 = .ok (.bipush 48, 2) := by decide +kernel
theorem dX4_isDigit_3 : decode cX4_isDigit 3 = .ok (.bipush 57, 2) := by decide +kernel
theorem dX4_isDigit_5 : decode cX4_isDigit 5 = .ok (.invokestatic 76, 3) := by decide +kernel
theorem dX4_isDigit_8 : decode cX4_isDigit 8 = .ok (.ireturn, 1) := by decide +kernel
theorem dX5_init_0 : decode cX5_init 0 = .ok (.aload_n 0, 1) := by decide +kernel
theorem dX5_init_1 : decode cX5_init 1 = .ok (.invokespecial 3, 3) := by decide +kernel
theorem dX5_init_4 : decode cX5_init 4 = .ok (.aload_n 0, 1) := by decide +kernel
theorem dX5_init_5 : decode cX5_init 5 = .ok (.bipush 20, 2) := by decide +kernel
theorem dX5_init_7 : decode cX5_init 7 = .ok (.newarray .int, 2) := by decide +kernel
theorem dX5_init_9 : decode cX5_init 9 = .ok (.putfield 9, 3) := by decide +kernel
theorem dX5_init_12 : decode cX5_init 12 = .ok (.aload_n 0, 1) := by decide +kernel
theorem dX5_init_13 : decode cX5_init 13 = .ok (.bipush 20, 2) := by decide +kernel
theorem dX5_init_15 : decode cX5_init 15 = .ok (.newarray .int, 2) := by decide +kernel
theorem dX5_init_17 : decode cX5_init 17 = .ok (.putfield 15, 3) := by decide +kernel
theorem dX5_init_20 : decode cX5_init 20 = .ok (.aload_n 0, 1) := by decide +kernel
theorem dX5_init_21 : decode cX5_init 21 = .ok (.bipush 20, 2) := by decide +kernel
theorem dX5_init_23 : decode cX5_init 23 = .ok (.newarray .int, 2) := by decide +kernel
theorem dX5_init_25 : decode cX5_init 25 = .ok (.putfield 18, 3) := by decide +kernel
theorem dX5_init_28 : decode cX5_init 28 = .ok (.aload_n 0, 1) := by decide +kernel
theorem dX5_init_29 : decode cX5_init 29 = .ok (.bipush 20, 2) := by decide +kernel
theorem dX5_init_31 : decode cX5_init 31 = .ok (.newarray .int, 2) := by decide +kernel
theorem dX5_init_33 : decode cX5_init 33 = .ok (.putfield 21, 3) := by decide +kernel
theorem dX5_init_36 : decode cX5_init 36 = .ok (.aload_n 0, 1) := by decide +kernel
theorem dX5_init_37 : decode cX5_init 37 = .ok (.bipush 20, 2) := by decide +kernel
theorem dX5_init_39 : decode cX5_init 39 = .ok (.newarray .int, 2) := by decide +kernel
theorem dX5_init_41 : decode cX5_init 41 = .ok (.putfield 24, 3) := by decide +kernel
theorem dX5_init_44 : decode cX5_init 44 = .ok (.aload_n 0, 1) := by decide +kernel
theorem dX5_init_45 : decode cX5_init 45 = .ok (.iconst 0, 1) := by decide +kernel
theorem dX5_init_46 : decode cX5_init 46 = .ok (.putfield 27, 3) := by decide +kernel
theorem dX5_init_49 : decode cX5_init 49 = .ok (.return_, 1) := by decide +kernel
set_option maxRecDepth 20000 in
theorem ggX5_copy_X7_copyRow : GoodIn wsX5_copy wsX7_copyRow := goodIn_r _ [9, 10, 11, 12, 13, 14, 15, 16, 17] (by decide +kernel) (by decide +kernel)
set_option maxRecDepth 20000 in
theorem gX5_copy_X7_copyRow_n31 : GoodIn wsX5_copy (wsX7_copyRow) := ggX5_copy_X7_copyRow
theorem dX5_copy_0 : decode cX5_copy 0 = .ok (.aload_n 1, 1) := by decide +kernel
theorem dX5_copy_1 : decode cX5_copy 1 = .ok (.getfield 9, 3) := by decide +kernel
theorem dX5_copy_4 : decode cX5_copy 4 = .ok (.aload_n 0, 1) := by decide +kernel
theorem dX5_copy_5 : decode cX5_copy 5 = .ok (.getfield 9, 3) := by decide +kernel
theorem dX5_copy_8 : decode cX5_copy 8 = .ok (.invokestatic 31, 3) := by decide +kernel
theorem dX5_copy_11 : decode cX5_copy 11 = .ok (.aload_n 1, 1) := by decide +kernel
theorem dX5_copy_12 : decode cX5_copy 12 = .ok (.getfield 15, 3) := by decide +kernel
theorem dX5_copy_15 : decode cX5_copy 15 = .ok (.aload_n 0, 1) := by decide +kernel
theorem dX5_copy_16 : decode cX5_copy 16 = .ok (.getfield 15, 3) := by decide +kernel
theorem dX5_copy_19 : decode cX5_copy 19 = .ok (.invokestatic 31, 3) := by decide +kernel
theorem dX5_copy_22 : decode cX5_copy 22 = .ok (.aload_n 1, 1) := by decide +kernel
theorem dX5_copy_23 : decode cX5_copy 23 = .ok (.getfield 18, 3) := by decide +kernel
theorem dX5_copy_26 : decode cX5_copy 26 = .ok (.aload_n 0, 1) := by decide +kernel
theorem dX5_copy_27 : decode cX5_copy 27 = .ok (.getfield 18, 3) := by decide +kernel
theorem dX5_copy_30 : decode cX5_copy 30 = .ok (.invokestatic 31, 3) := by decide +kernel
theorem dX5_copy_33 : decode cX5_copy 33 = .ok (.aload_n 1, 1) := by decide +kernel
theorem dX5_copy_34 : decode cX5_copy 34 = .ok (.getfield 21, 3) := by decide +kernel
theorem dX5_copy_37 : decode cX5_copy 37 = .ok (.aload_n 0, 1) := by decide +kernel
theorem dX5_copy_38 : decode cX5_copy 38 = .ok (.getfield 21, 3) := by decide +kernel
theorem dX5_copy_41 : decode cX5_copy 41 = .ok (.invokestatic 31, 3) := by decide +kernel
theorem dX5_copy_44 : decode cX5_copy 44 = .ok (.aload_n 1, 1) := by decide +kernel
theorem dX5_copy_45 : decode cX5_copy 45 = .ok (.getfield 24, 3) := by decide +kernel
theorem dX5_copy_48 : decode cX5_copy 48 = .ok (.aload_n 0, 1) := by decide +kernel
theorem dX5_copy_49 : decode cX5_copy 49 = .ok (.getfield 24, 3) := by decide +kernel
theorem dX5_copy_52 : decode cX5_copy 52 = .ok (.invokestatic 31, 3) := by decide +kernel
theorem dX5_copy_55 : decode cX5_copy 55 = .ok (.aload_n 0, 1) := by decide +kernel
theorem dX5_copy_56 : decode cX5_copy 56 = .ok (.aload_n 1, 1) := by decide +kernel
theorem dX5_copy_57 : decode cX5_copy 57 = .ok (.getfield 27, 3) := by decide +kernel
theorem dX5_copy_60 : decode cX5_copy 60 = .ok (.putfield 27, 3) := by decide +kernel
theorem dX5_copy_63 : decode cX5_copy 63 = .ok (.return_, 1) := by decide +kernel
theorem dX5_clear_0 : decode cX5_clear 0 = .ok (.aload_n 0, 1) := by decide +kernel
theorem dX5_clear_1 : decode cX5_clear 1 = .ok (.iconst 0, 1) := by decide +kernel
theorem dX5_clear_2 : decode cX5_clear 2 = .ok (.putfield 27, 3) := by decide +kernel
theorem dX5_clear_5 : decode cX5_clear 5 = .ok (.return_, 1) := by decide +kernel
set_option maxRecDepth 20000 in
theorem ggX5_has_X7_isIndexOf : GoodIn wsX5_has wsX7_isIndexOf := goodIn_r _ [4] (by decide +kernel) (by decide +kernel)
set_option maxRecDepth 20000 in
theorem gX5_has_X7_isIndexOf_n35 : GoodIn wsX5_has (wsX7_isIndexOf) := ggX5_has_X7_isIndexOf
theorem dX5_has_0 : decode cX5_has 0 = .ok (.iload_n 1, 1) := by decide +kernel
theorem dX5_has_1 : decode cX5_has 1 = .ok (.aload_n 0, 1) := by decide +kernel
theorem dX5_has_2 : decode cX5_has 2 = .ok (.getfield 27, 3) := by decide +kernel
theorem dX5_has_5 : decode cX5_has 5 = .ok (.invokestatic 35, 3) := by decide +kernel
theorem dX5_has_8 : decode cX5_has 8 = .ok (.ireturn, 1) := by decide +kernel
set_option maxRecDepth 20000 in
theorem ggX5_hasRoomOff_X5_branchesOff : GoodIn wsX5_hasRoomOff wsX5_branchesOff := goodIn_r _ [6, 1, 7, 15, 16, 17, 18, 19, 20] (by decide +kernel) (by decide +kernel)
set_option maxRecDepth 20000 in
theorem gX5_hasRoomOff_X5_branchesOff : GoodIn wsX5_hasRoomOff (wsV RX5 39 RX5 yX5_branchesOff wsX5_branchesOff) := goodIn_app (goodIn_of _ (by decide +kernel)) ggX5_hasRoomOff_X5_branchesOff
set_option maxRecDepth 20000 in
theorem ggX5_hasRoomOff_J6_bitCount_0f7a4 : GoodIn wsX5_hasRoomOff wsJ6_bitCount_0f7a4 := goodIn_r _ [11, 12, 13, 14] (by decide +kernel) (by decide +kernel)
set_option maxRecDepth 20000 in
theorem gX5_hasRoomOff_J6_bitCount_0f7a4 : GoodIn wsX5_hasRoomOff (va_wsS RX5 43 yJ6_bitCount_0f7a4 wsJ6_bitCount_0f7a4) := goodIn_app (goodIn_of _ (by decide +kernel)) ggX5_hasRoomOff_J6_bitCount_0f7a4
theorem dX5_hasRoomOff_0 : decode cX5_hasRoomOff 0 = .ok (.aload_n 0, 1) := by decide +kernel
theorem dX5_hasRoomOff_1 : decode cX5_hasRoomOff 1 = .ok (.getfield 27, 3) := by decide +kernel
theorem dX5_hasRoomOff_4 : decode cX5_hasRoomOff 4 = .ok (.bipush 20, 2) := by decide +kernel
theorem dX5_hasRoomOff_6 : decode cX5_hasRoomOff 6 = .ok (.if_icmp .ge 19, 3) := by decide +kernel
theorem dX5_hasRoomOff_9 : decode cX5_hasRoomOff 9 = .ok (.aload_n 0, 1) := by decide +kernel
theorem dX5_hasRoomOff_10 : decode cX5_hasRoomOff 10 = .ok (.iload_n 1, 1) := by decide +kernel
theorem dX5_hasRoomOff_11 : decode cX5_hasRoomOff 11 = .ok (.invokevirtual 39, 3) := by decide +kernel
theorem dX5_hasRoomOff_14 : decode cX5_hasRoomOff 14 = .ok (.invokestatic 43, 3) := by decide +kernel
theorem dX5_hasRoomOff_17 : decode cX5_hasRoomOff 17 = .ok (.iconst 4, 1) := by decide +kernel
theorem dX5_hasRoomOff_18 : decode cX5_hasRoomOff 18 = .ok (.if_icmp .ge 7, 3) := by decide +kernel
theorem dX5_hasRoomOff_21 : decode cX5_hasRoomOff 21 = .ok (.iconst 1, 1) := by decide +kernel
theorem dX5_hasRoomOff_22 : decode cX5_hasRoomOff 22 = .ok (.goto 4, 3) := by decide +kernel
theorem dX5_hasRoomOff_25 : decode cX5_hasRoomOff 25 = .ok (.iconst 0, 1) := by decide +kernel
theorem dX5_hasRoomOff_26 : decode cX5_hasRoomOff 26 = .ok (.ireturn, 1) := by decide +kernel
theorem dX5_add_0 : decode cX5_add 0 = .ok (.aload_n 0, 1) := by decide +kernel
theorem dX5_add_1 : decode cX5_add 1 = .ok (.getfield 27, 3) := by decide +kernel
theorem dX5_add_4 : decode cX5_add 4 = .ok (.bipush 20, 2) := by decide +kernel
theorem dX5_add_6 : decode cX5_add 6 = .ok (.if_icmp .lt 6, 3) := by decide +kernel
theorem dX5_add_9 : decode cX5_add 9 = .ok (.bipush (-4), 2) := by decide +kernel
theorem dX5_add_11 : decode cX5_add 11 = .ok (.ireturn, 1) := by decide +kernel
theorem dX5_add_12 : decode cX5_add 12 = .ok (.aload_n 0, 1) := by decide +kernel
theorem dX5_add_13 : decode cX5_add 13 = .ok (.getfield 9, 3) := by decide +kernel
theorem dX5_add_16 : decode cX5_add 16 = .ok (.aload_n 0, 1) := by decide +kernel
theorem dX5_add_17 : decode cX5_add 17 = .ok (.getfield 27, 3) := by decide +kernel
theorem dX5_add_20 : decode cX5_add 20 = .ok (.iload_n 1, 1) := by decide +kernel
theorem dX5_add_21 : decode cX5_add 21 = .ok (.iastore, 1) := by decide +kernel
theorem dX5_add_22 : decode cX5_add 22 = .ok (.aload_n 0, 1) := by decide +kernel
theorem dX5_add_23 : decode cX5_add 23 = .ok (.getfield 15, 3) := by decide +kernel
theorem dX5_add_26 : decode cX5_add 26 = .ok (.aload_n 0, 1) := by decide +kernel
theorem dX5_add_27 : decode cX5_add 27 = .ok (.getfield 27, 3) := by decide +kernel
theorem dX5_add_30 : decode cX5_add 30 = .ok (.iload_n 2, 1) := by decide +kernel
theorem dX5_add_31 : decode cX5_add 31 = .ok (.iastore, 1) := by decide +kernel
theorem dX5_add_32 : decode cX5_add 32 = .ok (.aload_n 0, 1) := by decide +kernel
theorem dX5_add_33 : decode cX5_add 33 = .ok (.getfield 18, 3) := by decide +kernel
theorem dX5_add_36 : decode cX5_add 36 = .ok (.aload_n 0, 1) := by decide +kernel
theorem dX5_add_37 : decode cX5_add 37 = .ok (.getfield 27, 3) := by decide +kernel
theorem dX5_add_40 : decode cX5_add 40 = .ok (.iconst 0, 1) := by decide +kernel
theorem dX5_add_41 : decode cX5_add 41 = .ok (.iastore, 1) := by decide +kernel
theorem dX5_add_42 : decode cX5_add 42 = .ok (.aload_n 0, 1) := by decide +kernel
theorem dX5_add_43 : decode cX5_add 43 = .ok (.getfield 21, 3) := by decide +kernel
theorem dX5_add_46 : decode cX5_add 46 = .ok (.aload_n 0, 1) := by decide +kernel
theorem dX5_add_47 : decode cX5_add 47 = .ok (.getfield 27, 3) := by decide +kernel
theorem dX5_add_50 : decode cX5_add 50 = .ok (.iconst 0, 1) := by decide +kernel
theorem dX5_add_51 : decode cX5_add 51 = .ok (.iastore, 1) := by decide +kernel
theorem dX5_add_52 : decode cX5_add 52 = .ok (.aload_n 0, 1) := by decide +kernel
theorem dX5_add_53 : decode cX5_add 53 = .ok (.getfield 24, 3) := by decide +kernel
theorem dX5_add_56 : decode cX5_add 56 = .ok (.aload_n 0, 1) := by decide +kernel
theorem dX5_add_57 : decode cX5_add 57 = .ok (.getfield 27, 3) := by decide +kernel
theorem dX5_add_60 : decode cX5_add 60 = .ok (.iconst 0, 1) := by decide +kernel
theorem dX5_add_61 : decode cX5_add 61 = .ok (.iastore, 1) := by decide +kernel
theorem dX5_add_62 : decode cX5_add 62 = .ok (.aload_n 0, 1) := by decide +kernel
theorem dX5_add_63 : decode cX5_add 63 = .ok (.dup, 1) := by decide +kernel
theorem dX5_add_64 : decode cX5_add 64 = .ok (.getfield 27, 3) := by decide +kernel
theorem dX5_add_67 : decode cX5_add 67 = .ok (.iconst 1, 1) := by decide +kernel
theorem dX5_add_68 : decode cX5_add 68 = .ok (.iadd, 1) := by decide +kernel
theorem dX5_add_69 : decode cX5_add 69 = .ok (.putfield 27, 3) := by decide +kernel
theorem dX5_add_72 : decode cX5_add 72 = .ok (.aload_n 0, 1) := by decide +kernel
theorem dX5_add_73 : decode cX5_add 73 = .ok (.getfield 27, 3) := by decide +kernel
theorem dX5_add_76 : decode cX5_add 76 = .ok (.iconst 1, 1) := by decide +kernel
theorem dX5_add_77 : decode cX5_add 77 = .ok (.isub, 1) := by decide +kernel
theorem dX5_add_78 : decode cX5_add 78 = .ok (.ireturn, 1) := by decide +kernel
theorem dX5_changeable_0 : decode cX5_changeable 0 = .ok (.iload_n 1, 1) := by decide +kernel
theorem dX5_changeable_1 : decode cX5_changeable 1 = .ok (.tableswitch 42 0 2 #[27, 32, 37], 27) := by decide +kernel
theorem dX5_changeable_28 : decode cX5_changeable 28 = .ok (.aload_n 0, 1) := by decide +kernel
theorem dX5_changeable_29 : decode cX5_changeable 29 = .ok (.getfield 18, 3) := by decide +kernel
theorem dX5_changeable_32 : decode cX5_changeable 32 = .ok (.areturn, 1) := by decide +kernel
theorem dX5_changeable_33 : decode cX5_changeable 33 = .ok (.aload_n 0, 1) := by decide +kernel
theorem dX5_changeable_34 : decode cX5_changeable 34 = .ok (.getfield 21, 3) := by decide +kernel
theorem dX5_changeable_37 : decode cX5_changeable 37 = .ok (.areturn, 1) := by decide +kernel
theorem dX5_changeable_38 : decode cX5_changeable 38 = .ok (.aload_n 0, 1) := by decide +kernel
theorem dX5_changeable_39 : decode cX5_changeable 39 = .ok (.getfield 24, 3) := by decide +kernel
theorem dX5_changeable_42 : decode cX5_changeable 42 = .ok (.areturn, 1) := by decide +kernel
theorem dX5_changeable_43 : decode cX5_changeable 43 = .ok (.aload_n 0, 1) := by decide +kernel
theorem dX5_changeable_44 : decode cX5_changeable 44 = .ok (.getfield 15, 3) := by decide +kernel
theorem dX5_changeable_47 : decode cX5_changeable 47 = .ok (.areturn, 1) := by decide +kernel
theorem dX5_branchesOff_0 : decode cX5_branchesOff 0 = .ok (.iconst 0, 1) := by decide +kernel
theorem dX5_branchesOff_1 : decode cX5_branchesOff 1 = .ok (.istore_n 2, 1) := by decide +kernel
theorem dX5_branchesOff_2 : decode cX5_branchesOff 2 = .ok (.iconst 0, 1) := by decide +kernel
theorem dX5_branchesOff_3 : decode cX5_branchesOff 3 = .ok (.istore_n 3, 1) := by decide +kernel
theorem dX5_branchesOff_4 : decode cX5_branchesOff 4 = .ok (.iload_n 3, 1) := by decide +kernel
theorem dX5_branchesOff_5 : decode cX5_branchesOff 5 = .ok (.aload_n 0, 1) := by decide +kernel
theorem dX5_branchesOff_6 : decode cX5_branchesOff 6 = .ok (.getfield 27, 3) := by decide +kernel
theorem dX5_branchesOff_9 : decode cX5_branchesOff 9 = .ok (.if_icmp .ge 25, 3) := by decide +kernel
theorem dX5_branchesOff_12 : decode cX5_branchesOff 12 = .ok (.aload_n 0, 1) := by decide +kernel
theorem dX5_branchesOff_13 : decode cX5_branchesOff 13 = .ok (.getfield 9, 3) := by decide +kernel
theorem dX5_branchesOff_16 : decode cX5_branchesOff 16 = .ok (.iload_n 3, 1) := by decide +kernel
theorem dX5_branchesOff_17 : decode cX5_branchesOff 17 = .ok (.iaload, 1) := by decide +kernel
theorem dX5_branchesOff_18 : decode cX5_branchesOff 18 = .ok (.iload_n 1, 1) := by decide +kernel
theorem dX5_branchesOff_19 : decode cX5_branchesOff 19 = .ok (.if_icmp .ne 9, 3) := by decide +kernel
theorem dX5_branchesOff_22 : decode cX5_branchesOff 22 = .ok (.iload_n 2, 1) := by decide +kernel
theorem dX5_branchesOff_23 : decode cX5_branchesOff 23 = .ok (.iconst 1, 1) := by decide +kernel
theorem dX5_branchesOff_24 : decode cX5_branchesOff 24 = .ok (.iload_n 3, 1) := by decide +kernel
theorem dX5_branchesOff_25 : decode cX5_branchesOff 25 = .ok (.ishl, 1) := by decide +kernel
theorem dX5_branchesOff_26 : decode cX5_branchesOff 26 = .ok (.ior, 1) := by decide +kernel
theorem dX5_branchesOff_27 : decode cX5_branchesOff 27 = .ok (.istore_n 2, 1) := by decide +kernel
theorem dX5_branchesOff_28 : decode cX5_branchesOff 28 = .ok (.iinc 3 1, 3) := by decide +kernel
theorem dX5_branchesOff_31 : decode cX5_branchesOff 31 = .ok (.goto (-27), 3) := by decide +kernel
theorem dX5_branchesOff_34 : decode cX5_branchesOff 34 = .ok (.iload_n 2, 1) := by decide +kernel
theorem dX5_branchesOff_35 : decode cX5_branchesOff 35 = .ok (.ireturn, 1) := by decide +kernel
set_option maxRecDepth 20000 in
theorem ggX5_howManyBehind_J6_bitCount_0f7a4 : GoodIn wsX5_howManyBehind wsJ6_bitCount_0f7a4 := goodIn_r _ [6, 7, 8, 9] (by decide +kernel) (by decide +kernel)
set_option maxRecDepth 20000 in
theorem gX5_howManyBehind_J6_bitCount_0f7a4 : GoodIn wsX5_howManyBehind (va_wsS RX5 43 yJ6_bitCount_0f7a4 wsJ6_bitCount_0f7a4) := goodIn_app (goodIn_of _ (by decide +kernel)) ggX5_howManyBehind_J6_bitCount_0f7a4
theorem dX5_howManyBehind_0 : decode cX5_howManyBehind 0 = .ok (.iconst 1, 1) := by decide +kernel
theorem dX5_howManyBehind_1 : decode cX5_howManyBehind 1 = .ok (.iload_n 1, 1) := by decide +kernel
theorem dX5_howManyBehind_2 : decode cX5_howManyBehind 2 = .ok (.ishl, 1) := by decide +kernel
theorem dX5_howManyBehind_3 : decode cX5_howManyBehind 3 = .ok (.istore_n 2, 1) := by decide +kernel
theorem dX5_howManyBehind_4 : decode cX5_howManyBehind 4 = .ok (.iload_n 1, 1) := by decide +kernel
theorem dX5_howManyBehind_5 : decode cX5_howManyBehind 5 = .ok (.iconst 1, 1) := by decide +kernel
theorem dX5_howManyBehind_6 : decode cX5_howManyBehind 6 = .ok (.iadd, 1) := by decide +kernel
theorem dX5_howManyBehind_7 : decode cX5_howManyBehind 7 = .ok (.istore_n 3, 1) := by decide +kernel
theorem dX5_howManyBehind_8 : decode cX5_howManyBehind 8 = .ok (.iload_n 3, 1) := by decide +kernel
theorem dX5_howManyBehind_9 : decode cX5_howManyBehind 9 = .ok (.aload_n 0, 1) := by decide +kernel
theorem dX5_howManyBehind_10 : decode cX5_howManyBehind 10 = .ok (.getfield 27, 3) := by decide +kernel
theorem dX5_howManyBehind_13 : decode cX5_howManyBehind 13 = .ok (.if_icmp .ge 28, 3) := by decide +kernel
theorem dX5_howManyBehind_16 : decode cX5_howManyBehind 16 = .ok (.iload_n 2, 1) := by decide +kernel
theorem dX5_howManyBehind_17 : decode cX5_howManyBehind 17 = .ok (.iconst 1, 1) := by decide +kernel
theorem dX5_howManyBehind_18 : decode cX5_howManyBehind 18 = .ok (.aload_n 0, 1) := by decide +kernel
theorem dX5_howManyBehind_19 : decode cX5_howManyBehind 19 = .ok (.getfield 9, 3) := by decide +kernel
theorem dX5_howManyBehind_22 : decode cX5_howManyBehind 22 = .ok (.iload_n 3, 1) := by decide +kernel
theorem dX5_howManyBehind_23 : decode cX5_howManyBehind 23 = .ok (.iaload, 1) := by decide +kernel
theorem dX5_howManyBehind_24 : decode cX5_howManyBehind 24 = .ok (.ishl, 1) := by decide +kernel
theorem dX5_howManyBehind_25 : decode cX5_howManyBehind 25 = .ok (.iand, 1) := by decide +kernel
theorem dX5_howManyBehind_26 : decode cX5_howManyBehind 26 = .ok (.ifCond .eq 9, 3) := by decide +kernel
theorem dX5_howManyBehind_29 : decode cX5_howManyBehind 29 = .ok (.iload_n 2, 1) := by decide +kernel
theorem dX5_howManyBehind_30 : decode cX5_howManyBehind 30 = .ok (.iconst 1, 1) := by decide +kernel
theorem dX5_howManyBehind_31 : decode cX5_howManyBehind 31 = .ok (.iload_n 3, 1) := by decide +kernel
theorem dX5_howManyBehind_32 : decode cX5_howManyBehind 32 = .ok (.ishl, 1) := by decide +kernel
theorem dX5_howManyBehind_33 : decode cX5_howManyBehind 33 = .ok (.ior, 1) := by decide +kernel
theorem dX5_howManyBehind_34 : decode cX5_howManyBehind 34 = .ok (.istore_n 2, 1) := by decide +kernel
theorem dX5_howManyBehind_35 : decode cX5_howManyBehind 35 = .ok (.iinc 3 1, 3) := by decide +kernel
theorem dX5_howManyBehind_38 : decode cX5_howManyBehind 38 = .ok (.goto (-30), 3) := by decide +kernel
theorem dX5_howManyBehind_41 : decode cX5_howManyBehind 41 = .ok (.iload_n 2, 1) := by decide +kernel
theorem dX5_howManyBehind_42 : decode cX5_howManyBehind 42 = .ok (.invokestatic 43, 3) := by decide +kernel
theorem dX5_howManyBehind_45 : decode cX5_howManyBehind 45 = .ok (.iconst 1, 1) := by decide +kernel
theorem dX5_howManyBehind_46 : decode cX5_howManyBehind 46 = .ok (.isub, 1) := by decide +kernel
theorem dX5_howManyBehind_47 : decode cX5_howManyBehind 47 = .ok (.ireturn, 1) := by decide +kernel
set_option maxRecDepth 20000 in
theorem ggX5_howFarOff_X5_has : GoodIn wsX5_howFarOff wsX5_has := goodIn_r _ [6, 7, 8, 9, 10, 11, 12, 13, 14, 15, 16] (by decide +kernel) (by decide +kernel)
set_option maxRecDepth 20000 in
theorem gX5_howFarOff_X5_has : GoodIn wsX5_howFarOff (wsV RX5 48 RX5 yX5_has wsX5_has) := goodIn_app (goodIn_of _ (by decide +kernel)) ggX5_howFarOff_X5_has
theorem dX5_howFarOff_0 : decode cX5_howFarOff 0 = .ok (.iconst 0, 1) := by decide +kernel
theorem dX5_howFarOff_1 : decode cX5_howFarOff 1 = .ok (.istore_n 2, 1) := by decide +kernel
theorem dX5_howFarOff_2 : decode cX5_howFarOff 2 = .ok (.aload_n 0, 1) := by decide +kernel
theorem dX5_howFarOff_3 : decode cX5_howFarOff 3 = .ok (.getfield 9, 3) := by decide +kernel
theorem dX5_howFarOff_6 : decode cX5_howFarOff 6 = .ok (.iload_n 1, 1) := by decide +kernel
theorem dX5_howFarOff_7 : decode cX5_howFarOff 7 = .ok (.iaload, 1) := by decide +kernel
theorem dX5_howFarOff_8 : decode cX5_howFarOff 8 = .ok (.istore_n 3, 1) := by decide +kernel
theorem dX5_howFarOff_9 : decode cX5_howFarOff 9 = .ok (.aload_n 0, 1) := by decide +kernel
theorem dX5_howFarOff_10 : decode cX5_howFarOff 10 = .ok (.iload_n 3, 1) := by decide +kernel
theorem dX5_howFarOff_11 : decode cX5_howFarOff 11 = .ok (.invokevirtual 48, 3) := by decide +kernel
theorem dX5_howFarOff_14 : decode cX5_howFarOff 14 = .ok (.ifCond .eq 22, 3) := by decide +kernel
theorem dX5_howFarOff_17 : decode cX5_howFarOff 17 = .ok (.iload_n 2, 1) := by decide +kernel
theorem dX5_howFarOff_18 : decode cX5_howFarOff 18 = .ok (.bipush 20, 2) := by decide +kernel
theorem dX5_howFarOff_20 : decode cX5_howFarOff 20 = .ok (.if_icmp .ge 16, 3) := by decide +kernel
theorem dX5_howFarOff_23 : decode cX5_howFarOff 23 = .ok (.iinc 2 1, 3) := by decide +kernel
theorem dX5_howFarOff_26 : decode cX5_howFarOff 26 = .ok (.aload_n 0, 1) := by decide +kernel
theorem dX5_howFarOff_27 : decode cX5_howFarOff 27 = .ok (.getfield 9, 3) := by decide +kernel
theorem dX5_howFarOff_30 : decode cX5_howFarOff 30 = .ok (.iload_n 3, 1) := by decide +kernel
theorem dX5_howFarOff_31 : decode cX5_howFarOff 31 = .ok (.iaload, 1) := by decide +kernel
theorem dX5_howFarOff_32 : decode cX5_howFarOff 32 = .ok (.istore_n 3, 1) := by decide +kernel
theorem dX5_howFarOff_33 : decode cX5_howFarOff 33 = .ok (.goto (-24), 3) := by decide +kernel
theorem dX5_howFarOff_36 : decode cX5_howFarOff 36 = .ok (.iload_n 2, 1) := by decide +kernel
theorem dX5_howFarOff_37 : decode cX5_howFarOff 37 = .ok (.ireturn, 1) := by decide +kernel
theorem dX5_peopleOfAll_0 : decode cX5_peopleOfAll 0 = .ok (.iconst 0, 1) := by decide +kernel
theorem dX5_peopleOfAll_1 : decode cX5_peopleOfAll 1 = .ok (.istore_n 1, 1) := by decide +kernel
theorem dX5_peopleOfAll_2 : decode cX5_peopleOfAll 2 = .ok (.iconst 0, 1) := by decide +kernel
theorem dX5_peopleOfAll_3 : decode cX5_peopleOfAll 3 = .ok (.istore_n 2, 1) := by decide +kernel
theorem dX5_peopleOfAll_4 : decode cX5_peopleOfAll 4 = .ok (.iload_n 2, 1) := by decide +kernel
theorem dX5_peopleOfAll_5 : decode cX5_peopleOfAll 5 = .ok (.aload_n 0, 1) := by decide +kernel
theorem dX5_peopleOfAll_6 : decode cX5_peopleOfAll 6 = .ok (.getfield 27, 3) := by decide +kernel
theorem dX5_peopleOfAll_9 : decode cX5_peopleOfAll 9 = .ok (.if_icmp .ge 18, 3) := by decide +kernel
theorem dX5_peopleOfAll_12 : decode cX5_peopleOfAll 12 = .ok (.iload_n 1, 1) := by decide +kernel
theorem dX5_peopleOfAll_13 : decode cX5_peopleOfAll 13 = .ok (.aload_n 0, 1) := by decide +kernel
theorem dX5_peopleOfAll_14 : decode cX5_peopleOfAll 14 = .ok (.getfield 24, 3) := by decide +kernel
theorem dX5_peopleOfAll_17 : decode cX5_peopleOfAll 17 = .ok (.iload_n 2, 1) := by decide +kernel
theorem dX5_peopleOfAll_18 : decode cX5_peopleOfAll 18 = .ok (.iaload, 1) := by decide +kernel
theorem dX5_peopleOfAll_19 : decode cX5_peopleOfAll 19 = .ok (.iadd, 1) := by decide +kernel
theorem dX5_peopleOfAll_20 : decode cX5_peopleOfAll 20 = .ok (.istore_n 1, 1) := by decide +kernel
theorem dX5_peopleOfAll_21 : decode cX5_peopleOfAll 21 = .ok (.iinc 2 1, 3) := by decide +kernel
theorem dX5_peopleOfAll_24 : decode cX5_peopleOfAll 24 = .ok (.goto (-20), 3) := by decide +kernel
theorem dX5_peopleOfAll_27 : decode cX5_peopleOfAll 27 = .ok (.iload_n 1, 1) := by decide +kernel
theorem dX5_peopleOfAll_28 : decode cX5_peopleOfAll 28 = .ok (.ireturn, 1) := by decide +kernel
set_option maxRecDepth 20000 in
theorem ggX6_init_X5_init : GoodIn wsX6_init wsX5_init := goodIn_r _ [21, 22, 2, 3, 23, 24, 25, 26, 27, 28, 29, 46, 47, 48, 49, 50, 51] (by decide +kernel) (by decide +kernel)
set_option maxRecDepth 20000 in
theorem gX6_init_X5_init_n25 : GoodIn wsX6_init (wsX5_init) := ggX6_init_X5_init
set_option maxRecDepth 20000 in
theorem ggX6_init_X2_init : GoodIn wsX6_init wsX2_init := goodIn_r _ [31, 32, 2, 3, 23, 33, 34, 35, 36, 37, 52, 53, 54, 55, 56] (by decide +kernel) (by decide +kernel)
set_option maxRecDepth 20000 in
theorem gX6_init_X2_init_n32 : GoodIn wsX6_init (wsX2_init) := ggX6_init_X2_init
set_option maxRecDepth 20000 in
theorem ggX6_init_X5_add : GoodIn wsX6_init wsX5_add := goodIn_r _ [41, 29, 24, 25, 26, 27, 28, 46, 47, 48, 49, 50, 51] (by decide +kernel) (by decide +kernel)
set_option maxRecDepth 20000 in
theorem gX6_init_X5_add : GoodIn wsX6_init (wsV RX6 41 RX5 yX5_add wsX5_add) := goodIn_app (goodIn_of _ (by decide +kernel)) ggX6_init_X5_add
theorem dX6_init_0 : decode cX6_init 0 = .ok (.aload_n 0, 1) := by decide +kernel
theorem dX6_init_1 : decode cX6_init 1 = .ok (.invokespecial 3, 3) := by decide +kernel
theorem dX6_init_4 : decode cX6_init 4 = .ok (.aload_n 0, 1) := by decide +kernel
theorem dX6_init_5 : decode cX6_init 5 = .ok (.getstatic 9, 3) := by decide +kernel
theorem dX6_init_8 : decode cX6_init 8 = .ok (.invokevirtual 13, 3) := by decide +kernel
theorem dX6_init_11 : decode cX6_init 11 = .ok (.checkcast 14, 3) := by decide +kernel
theorem dX6_init_14 : decode cX6_init 14 = .ok (.putfield 18, 3) := by decide +kernel
theorem dX6_init_17 : decode cX6_init 17 = .ok (.aload_n 0, 1) := by decide +kernel
theorem dX6_init_18 : decode cX6_init 18 = .ok (.new 23, 3) := by decide +kernel
theorem dX6_init_21 : decode cX6_init 21 = .ok (.dup, 1) := by decide +kernel
theorem dX6_init_22 : decode cX6_init 22 = .ok (.invokespecial 25, 3) := by decide +kernel
theorem dX6_init_25 : decode cX6_init 25 = .ok (.putfield 26, 3) := by decide +kernel
theorem dX6_init_28 : decode cX6_init 28 = .ok (.aload_n 0, 1) := by decide +kernel
theorem dX6_init_29 : decode cX6_init 29 = .ok (.new 30, 3) := by decide +kernel
theorem dX6_init_32 : decode cX6_init 32 = .ok (.dup, 1) := by decide +kernel
theorem dX6_init_33 : decode cX6_init 33 = .ok (.invokespecial 32, 3) := by decide +kernel
theorem dX6_init_36 : decode cX6_init 36 = .ok (.putfield 33, 3) := by decide +kernel
theorem dX6_init_39 : decode cX6_init 39 = .ok (.aload_n 0, 1) := by decide +kernel
theorem dX6_init_40 : decode cX6_init 40 = .ok (.iconst 0, 1) := by decide +kernel
theorem dX6_init_41 : decode cX6_init 41 = .ok (.putfield 37, 3) := by decide +kernel
theorem dX6_init_44 : decode cX6_init 44 = .ok (.aload_n 0, 1) := by decide +kernel
theorem dX6_init_45 : decode cX6_init 45 = .ok (.getfield 26, 3) := by decide +kernel
theorem dX6_init_48 : decode cX6_init 48 = .ok (.bipush (-6), 2) := by decide +kernel
theorem dX6_init_50 : decode cX6_init 50 = .ok (.iconst 1, 1) := by decide +kernel
theorem dX6_init_51 : decode cX6_init 51 = .ok (.invokevirtual 41, 3) := by decide +kernel
theorem dX6_init_54 : decode cX6_init 54 = .ok (.pop, 1) := by decide +kernel
theorem dX6_init_55 : decode cX6_init 55 = .ok (.return_, 1) := by decide +kernel
set_option maxRecDepth 20000 in
theorem ggX6_copy_X7_copyRow : GoodIn wsX6_copy wsX7_copyRow := goodIn_r _ [7, 8, 9, 10, 11, 12, 13, 14, 15] (by decide +kernel) (by decide +kernel)
set_option maxRecDepth 20000 in
theorem gX6_copy_X7_copyRow_n45 : GoodIn wsX6_copy (wsX7_copyRow) := ggX6_copy_X7_copyRow
set_option maxRecDepth 20000 in
theorem ggX6_copy_X5_copy : GoodIn wsX6_copy wsX5_copy := goodIn_r _ [20, 21, 22, 23, 24, 25, 26, 5, 6, 7, 8, 9, 10, 11, 12, 13, 14, 15, 41, 42, 43, 44, 45, 46] (by decide +kernel) (by decide +kernel)
set_option maxRecDepth 20000 in
theorem gX6_copy_X5_copy : GoodIn wsX6_copy (wsV RX6 49 RX5 yX5_copy wsX5_copy) := goodIn_app (goodIn_of _ (by decide +kernel)) ggX6_copy_X5_copy
set_option maxRecDepth 20000 in
theorem ggX6_copy_X2_copy : GoodIn wsX6_copy wsX2_copy := goodIn_r _ [31, 32, 33, 34, 35, 36, 5, 6, 7, 8, 9, 10, 11, 12, 13, 14, 15, 47, 48, 49, 50, 51] (by decide +kernel) (by decide +kernel)
set_option maxRecDepth 20000 in
theorem gX6_copy_X2_copy : GoodIn wsX6_copy (wsV RX6 53 RX2 yX2_copy wsX2_copy) := goodIn_app (goodIn_of _ (by decide +kernel)) ggX6_copy_X2_copy
theorem dX6_copy_0 : decode cX6_copy 0 = .ok (.aload_n 1, 1) := by decide +kernel
theorem dX6_copy_1 : decode cX6_copy 1 = .ok (.getfield 18, 3) := by decide +kernel
theorem dX6_copy_4 : decode cX6_copy 4 = .ok (.aload_n 0, 1) := by decide +kernel
theorem dX6_copy_5 : decode cX6_copy 5 = .ok (.getfield 18, 3) := by decide +kernel
theorem dX6_copy_8 : decode cX6_copy 8 = .ok (.invokestatic 45, 3) := by decide +kernel
theorem dX6_copy_11 : decode cX6_copy 11 = .ok (.aload_n 0, 1) := by decide +kernel
theorem dX6_copy_12 : decode cX6_copy 12 = .ok (.getfield 26, 3) := by decide +kernel
theorem dX6_copy_15 : decode cX6_copy 15 = .ok (.aload_n 1, 1) := by decide +kernel
theorem dX6_copy_16 : decode cX6_copy 16 = .ok (.getfield 26, 3) := by decide +kernel
theorem dX6_copy_19 : decode cX6_copy 19 = .ok (.invokevirtual 49, 3) := by decide +kernel
theorem dX6_copy_22 : decode cX6_copy 22 = .ok (.aload_n 0, 1) := by decide +kernel
theorem dX6_copy_23 : decode cX6_copy 23 = .ok (.getfield 33, 3) := by decide +kernel
theorem dX6_copy_26 : decode cX6_copy 26 = .ok (.aload_n 1, 1) := by decide +kernel
theorem dX6_copy_27 : decode cX6_copy 27 = .ok (.getfield 33, 3) := by decide +kernel
theorem dX6_copy_30 : decode cX6_copy 30 = .ok (.invokevirtual 53, 3) := by decide +kernel
theorem dX6_copy_33 : decode cX6_copy 33 = .ok (.aload_n 0, 1) := by decide +kernel
theorem dX6_copy_34 : decode cX6_copy 34 = .ok (.aload_n 1, 1) := by decide +kernel
theorem dX6_copy_35 : decode cX6_copy 35 = .ok (.getfield 37, 3) := by decide +kernel
theorem dX6_copy_38 : decode cX6_copy 38 = .ok (.putfield 37, 3) := by decide +kernel
theorem dX6_copy_41 : decode cX6_copy 41 = .ok (.return_, 1) := by decide +kernel
end
section
set_option maxRecDepth 20000 in
theorem ggX7_init_X6_init : GoodIn wsX7_init wsX6_init := goodIn_r _ [30, 31, 2, 3, 32, 33, 34, 35, 36, 37, 38, 39, 40, 41, 42, 43, 44, 45, 46, 47, 48, 49, 50, 51, 52, 53, 54, 55, 56, 57, 58, 59, 60, 61, 62, 63, 64, 65, 66, 67, 68, 69, 99, 100, 101, 102, 123, 124, 125, 126, 127, 128, 129, 130, 131, 132, 133] (by decide +kernel) (by decide +kernel)
set_option maxRecDepth 20000 in
theorem gX7_init_X6_init : GoodIn wsX7_init (wsX6_init) := ggX7_init_X6_init
set_option maxRecDepth 20000 in
theorem ggX7_init_X0_init : GoodIn wsX7_init wsX0_init := goodIn_r _ [71, 72, 2, 3, 51, 73, 74, 75, 111, 112, 113] (by decide +kernel) (by decide +kernel)
set_option maxRecDepth 20000 in
theorem gX7_init_X0_init_n18 : GoodIn wsX7_init (wsX0_init) := ggX7_init_X0_init
set_option maxRecDepth 20000 in
theorem ggX7_init_X1_init : GoodIn wsX7_init wsX1_init := goodIn_r _ [78, 79, 2, 3, 80, 81, 82, 83, 5, 6, 84, 29, 30, 31, 32, 33, 34, 35, 36, 37, 38, 39, 40, 41, 42, 43, 44, 45, 46, 47, 48, 49, 50, 51, 52, 53, 54, 55, 56, 57, 58, 59, 60, 61, 62, 63, 64, 65, 66, 67, 68, 69, 114, 115, 116, 99, 100, 101, 102, 123, 124, 125, 126, 127, 128, 129, 130, 131, 132, 133] (by decide +kernel) (by decide +kernel)
set_option maxRecDepth 20000 in
theorem gX7_init_X1_init : GoodIn wsX7_init (wsX1_init) := ggX7_init_X1_init
set_option maxRecDepth 20000 in
theorem ggX7_init_X3_init : GoodIn wsX7_init wsX3_init := goodIn_r _ [86, 87, 2, 3, 88, 89, 90, 91, 117, 118, 119] (by decide +kernel) (by decide +kernel)
set_option maxRecDepth 20000 in
theorem gX7_init_X3_init_n40 : GoodIn wsX7_init (wsX3_init) := ggX7_init_X3_init
set_option maxRecDepth 20000 in
theorem ggX7_init_X4_init : GoodIn wsX7_init wsX4_init := goodIn_r _ [93, 94, 2, 3, 95, 40, 41, 96, 97, 98, 48, 49, 50, 51, 52, 53, 54, 55, 56, 57, 123, 124, 125, 126, 127, 128, 120, 121, 122] (by decide +kernel) (by decide +kernel)
set_option maxRecDepth 20000 in
theorem gX7_init_X4_init_n50 : GoodIn wsX7_init (wsX4_init) := ggX7_init_X4_init
theorem dX7_init_0 : decode cX7_init 0 = .ok (.aload_n 0, 1) := by decide +kernel
theorem dX7_init_1 : decode cX7_init 1 = .ok (.invokespecial 1, 3) := by decide +kernel
theorem dX7_init_4 : decode cX7_init 4 = .ok (.aload_n 0, 1) := by decide +kernel
theorem dX7_init_5 : decode cX7_init 5 = .ok (.new 7, 3) := by decide +kernel
theorem dX7_init_8 : decode cX7_init 8 = .ok (.dup, 1) := by decide +kernel
theorem dX7_init_9 : decode cX7_init 9 = .ok (.invokespecial 9, 3) := by decide +kernel
theorem dX7_init_12 : decode cX7_init 12 = .ok (.putfield 10, 3) := by decide +kernel
theorem dX7_init_15 : decode cX7_init 15 = .ok (.aload_n 0, 1) := by decide +kernel
theorem dX7_init_16 : decode cX7_init 16 = .ok (.new 16, 3) := by decide +kernel
theorem dX7_init_19 : decode cX7_init 19 = .ok (.dup, 1) := by decide +kernel
theorem dX7_init_20 : decode cX7_init 20 = .ok (.invokespecial 18, 3) := by decide +kernel
theorem dX7_init_23 : decode cX7_init 23 = .ok (.putfield 19, 3) := by decide +kernel
theorem dX7_init_26 : decode cX7_init 26 = .ok (.aload_n 0, 1) := by decide +kernel
theorem dX7_init_27 : decode cX7_init 27 = .ok (.new 23, 3) := by decide +kernel
theorem dX7_init_30 : decode cX7_init 30 = .ok (.dup, 1) := by decide +kernel
theorem dX7_init_31 : decode cX7_init 31 = .ok (.invokespecial 25, 3) := by decide +kernel
theorem dX7_init_34 : decode cX7_init 34 = .ok (.putfield 26, 3) := by decide +kernel
theorem dX7_init_37 : decode cX7_init 37 = .ok (.aload_n 0, 1) := by decide +kernel
theorem dX7_init_38 : decode cX7_init 38 = .ok (.iconst 2, 1) := by decide +kernel
theorem dX7_init_39 : decode cX7_init 39 = .ok (.anewarray 7, 3) := by decide +kernel
theorem dX7_init_42 : decode cX7_init 42 = .ok (.putfield 30, 3) := by decide +kernel
theorem dX7_init_45 : decode cX7_init 45 = .ok (.aload_n 0, 1) := by decide +kernel
theorem dX7_init_46 : decode cX7_init 46 = .ok (.iconst 2, 1) := by decide +kernel
theorem dX7_init_47 : decode cX7_init 47 = .ok (.newarray .boolean, 2) := by decide +kernel
theorem dX7_init_49 : decode cX7_init 49 = .ok (.putfield 34, 3) := by decide +kernel
theorem dX7_init_52 : decode cX7_init 52 = .ok (.aload_n 0, 1) := by decide +kernel
theorem dX7_init_53 : decode cX7_init 53 = .ok (.new 38, 3) := by decide +kernel
theorem dX7_init_56 : decode cX7_init 56 = .ok (.dup, 1) := by decide +kernel
theorem dX7_init_57 : decode cX7_init 57 = .ok (.invokespecial 40, 3) := by decide +kernel
theorem dX7_init_60 : decode cX7_init 60 = .ok (.putfield 41, 3) := by decide +kernel
theorem dX7_init_63 : decode cX7_init 63 = .ok (.aload_n 0, 1) := by decide +kernel
theorem dX7_init_64 : decode cX7_init 64 = .ok (.new 38, 3) := by decide +kernel
theorem dX7_init_67 : decode cX7_init 67 = .ok (.dup, 1) := by decide +kernel
theorem dX7_init_68 : decode cX7_init 68 = .ok (.invokespecial 40, 3) := by decide +kernel
theorem dX7_init_71 : decode cX7_init 71 = .ok (.putfield 45, 3) := by decide +kernel
theorem dX7_init_74 : decode cX7_init 74 = .ok (.aload_n 0, 1) := by decide +kernel
theorem dX7_init_75 : decode cX7_init 75 = .ok (.new 48, 3) := by decide +kernel
theorem dX7_init_78 : decode cX7_init 78 = .ok (.dup, 1) := by decide +kernel
theorem dX7_init_79 : decode cX7_init 79 = .ok (.invokespecial 50, 3) := by decide +kernel
theorem dX7_init_82 : decode cX7_init 82 = .ok (.putfield 51, 3) := by decide +kernel
theorem dX7_init_85 : decode cX7_init 85 = .ok (.iconst 0, 1) := by decide +kernel
theorem dX7_init_86 : decode cX7_init 86 = .ok (.istore_n 1, 1) := by decide +kernel
theorem dX7_init_87 : decode cX7_init 87 = .ok (.iload_n 1, 1) := by decide +kernel
theorem dX7_init_88 : decode cX7_init 88 = .ok (.iconst 2, 1) := by decide +kernel
theorem dX7_init_89 : decode cX7_init 89 = .ok (.if_icmp .ge 22, 3) := by decide +kernel
theorem dX7_init_92 : decode cX7_init 92 = .ok (.aload_n 0, 1) := by decide +kernel
theorem dX7_init_93 : decode cX7_init 93 = .ok (.getfield 30, 3) := by decide +kernel
theorem dX7_init_96 : decode cX7_init 96 = .ok (.iload_n 1, 1) := by decide +kernel
theorem dX7_init_97 : decode cX7_init 97 = .ok (.new 7, 3) := by decide +kernel
theorem dX7_init_100 : decode cX7_init 100 = .ok (.dup, 1) := by decide +kernel
theorem dX7_init_101 : decode cX7_init 101 = .ok (.invokespecial 9, 3) := by decide +kernel
theorem dX7_init_104 : decode cX7_init 104 = .ok (.aastore, 1) := by decide +kernel
theorem dX7_init_105 : decode cX7_init 105 = .ok (.iinc 1 1, 3) := by decide +kernel
theorem dX7_init_108 : decode cX7_init 108 = .ok (.goto (-21), 3) := by decide +kernel
theorem dX7_init_111 : decode cX7_init 111 = .ok (.return_, 1) := by decide +kernel
set_option maxRecDepth 20000 in
theorem ggX7_set_X7_isIndexOf : GoodIn wsX7_set wsX7_isIndexOf := goodIn_r _ [10] (by decide +kernel) (by decide +kernel)
set_option maxRecDepth 20000 in
theorem gX7_set_X7_isIndexOf : GoodIn wsX7_set (va_wsS RX7 59 yX7_isIndexOf wsX7_isIndexOf) := goodIn_app (goodIn_of _ (by decide +kernel)) ggX7_set_X7_isIndexOf
set_option maxRecDepth 20000 in
theorem ggX7_set_X7_isWithin : GoodIn wsX7_set wsX7_isWithin := goodIn_r _ [13] (by decide +kernel) (by decide +kernel)
set_option maxRecDepth 20000 in
theorem gX7_set_X7_isWithin : GoodIn wsX7_set (va_wsS RX7 69 yX7_isWithin wsX7_isWithin) := goodIn_app (goodIn_of _ (by decide +kernel)) ggX7_set_X7_isWithin
set_option maxRecDepth 20000 in
theorem ggX7_set_X1_keep : GoodIn wsX7_set wsX1_keep := goodIn_r _ [18, 19, 20, 21, 22, 23, 24, 25, 26, 27, 28, 29, 30, 31, 9, 32, 33, 34, 35, 36, 37, 38, 39, 40, 41, 42, 43, 44, 45, 46, 47, 48, 49, 50, 51, 52, 53, 54, 55, 56, 57, 58, 59, 60, 61, 74, 75, 76, 70, 71, 72, 73, 77, 78, 79, 80, 81, 82, 83, 84, 85, 86, 87] (by decide +kernel) (by decide +kernel)
set_option maxRecDepth 20000 in
theorem gX7_set_X1_keep : GoodIn wsX7_set (wsV RX7 73 RX1 yX1_keep wsX1_keep) := goodIn_app (goodIn_of _ (by decide +kernel)) ggX7_set_X1_keep
theorem dX7_set_0 : decode cX7_set 0 = .ok (.iload_n 1, 1) := by decide +kernel
theorem dX7_set_1 : decode cX7_set 1 = .ok (.getstatic 55, 3) := by decide +kernel
theorem dX7_set_4 : decode cX7_set 4 = .ok (.arraylength, 1) := by decide +kernel
theorem dX7_set_5 : decode cX7_set 5 = .ok (.invokestatic 59, 3) := by decide +kernel
theorem dX7_set_8 : decode cX7_set 8 = .ok (.ifCond .ne 6, 3) := by decide +kernel
theorem dX7_set_11 : decode cX7_set 11 = .ok (.bipush (-2), 2) := by decide +kernel
theorem dX7_set_13 : decode cX7_set 13 = .ok (.ireturn, 1) := by decide +kernel
theorem dX7_set_14 : decode cX7_set 14 = .ok (.iload_n 2, 1) := by decide +kernel
theorem dX7_set_15 : decode cX7_set 15 = .ok (.getstatic 63, 3) := by decide +kernel
theorem dX7_set_18 : decode cX7_set 18 = .ok (.iload_n 1, 1) := by decide +kernel
theorem dX7_set_19 : decode cX7_set 19 = .ok (.iaload, 1) := by decide +kernel
theorem dX7_set_20 : decode cX7_set 20 = .ok (.getstatic 66, 3) := by decide +kernel
theorem dX7_set_23 : decode cX7_set 23 = .ok (.iload_n 1, 1) := by decide +kernel
theorem dX7_set_24 : decode cX7_set 24 = .ok (.iaload, 1) := by decide +kernel
theorem dX7_set_25 : decode cX7_set 25 = .ok (.invokestatic 69, 3) := by decide +kernel
theorem dX7_set_28 : decode cX7_set 28 = .ok (.ifCond .ne 6, 3) := by decide +kernel
theorem dX7_set_31 : decode cX7_set 31 = .ok (.bipush (-2), 2) := by decide +kernel
theorem dX7_set_33 : decode cX7_set 33 = .ok (.ireturn, 1) := by decide +kernel
theorem dX7_set_34 : decode cX7_set 34 = .ok (.aload_n 0, 1) := by decide +kernel
theorem dX7_set_35 : decode cX7_set 35 = .ok (.getfield 26, 3) := by decide +kernel
theorem dX7_set_38 : decode cX7_set 38 = .ok (.aload_n 0, 1) := by decide +kernel
theorem dX7_set_39 : decode cX7_set 39 = .ok (.getfield 10, 3) := by decide +kernel
theorem dX7_set_42 : decode cX7_set 42 = .ok (.invokevirtual 73, 3) := by decide +kernel
theorem dX7_set_45 : decode cX7_set 45 = .ok (.aload_n 0, 1) := by decide +kernel
theorem dX7_set_46 : decode cX7_set 46 = .ok (.getfield 10, 3) := by decide +kernel
theorem dX7_set_49 : decode cX7_set 49 = .ok (.getfield 77, 3) := by decide +kernel
theorem dX7_set_52 : decode cX7_set 52 = .ok (.iload_n 1, 1) := by decide +kernel
theorem dX7_set_53 : decode cX7_set 53 = .ok (.iaload, 1) := by decide +kernel
theorem dX7_set_54 : decode cX7_set 54 = .ok (.istore_n 3, 1) := by decide +kernel
theorem dX7_set_55 : decode cX7_set 55 = .ok (.aload_n 0, 1) := by decide +kernel
theorem dX7_set_56 : decode cX7_set 56 = .ok (.getfield 10, 3) := by decide +kernel
theorem dX7_set_59 : decode cX7_set 59 = .ok (.getfield 77, 3) := by decide +kernel
theorem dX7_set_62 : decode cX7_set 62 = .ok (.iload_n 1, 1) := by decide +kernel
theorem dX7_set_63 : decode cX7_set 63 = .ok (.iload_n 2, 1) := by decide +kernel
theorem dX7_set_64 : decode cX7_set 64 = .ok (.iastore, 1) := by decide +kernel
theorem dX7_set_65 : decode cX7_set 65 = .ok (.iload_n 3, 1) := by decide +kernel
theorem dX7_set_66 : decode cX7_set 66 = .ok (.ireturn, 1) := by decide +kernel
set_option maxRecDepth 20000 in
theorem ggX7_build_X4_read : GoodIn wsX7_build wsX4_read := goodIn_r _ [12, 13, 14, 15, 16, 17, 18, 19, 20, 21, 22, 23, 24, 25, 26, 11, 27, 28, 29, 30, 31, 32, 33, 34, 35, 36, 37, 38, 39, 40, 41, 42, 43, 44, 45, 46, 47, 48, 49, 50, 51, 52, 53, 54, 55, 56, 57, 58, 59, 60, 61, 62, 63, 64, 65, 66, 67, 68, 69, 70, 71, 72, 73, 74, 75, 76, 77, 78, 79, 80, 81, 82, 83, 84, 85, 86, 87, 88, 89, 90, 91, 92, 93, 94, 95, 96, 97, 98, 99, 100, 101, 102, 103, 104, 166, 167, 168, 175, 176, 177, 169, 170, 171, 172, 173, 174] (by decide +kernel) (by decide +kernel)
set_option maxRecDepth 20000 in
theorem gX7_build_X4_read : GoodIn wsX7_build (wsV RX7 80 RX4 yX4_read wsX4_read) := goodIn_app (goodIn_of _ (by decide +kernel)) ggX7_build_X4_read
set_option maxRecDepth 20000 in
theorem ggX7_build_X1_keep : GoodIn wsX7_build wsX1_keep := goodIn_r _ [109, 110, 111, 112, 113, 114, 115, 116, 117, 118, 119, 120, 121, 122, 34, 123, 124, 125, 126, 127, 128, 129, 130, 131, 132, 133, 134, 21, 135, 44, 56, 57, 58, 59, 23, 136, 137, 138, 139, 140, 141, 142, 143, 144, 145, 178, 179, 180, 162, 163, 164, 165, 169, 170, 171, 172, 173, 174, 181, 182, 183, 184, 185] (by decide +kernel) (by decide +kernel)
set_option maxRecDepth 20000 in
theorem gX7_build_X1_keep : GoodIn wsX7_build (wsV RX7 73 RX1 yX1_keep wsX1_keep) := goodIn_app (goodIn_of _ (by decide +kernel)) ggX7_build_X1_keep
set_option maxRecDepth 20000 in
theorem ggX7_build_X5_copy : GoodIn wsX7_build wsX5_copy := goodIn_r _ [135, 44, 56, 57, 58, 59, 23, 122, 34, 123, 124, 125, 126, 127, 128, 129, 130, 131, 169, 170, 171, 172, 173, 174] (by decide +kernel) (by decide +kernel)
set_option maxRecDepth 20000 in
theorem gX7_build_X5_copy : GoodIn wsX7_build (wsV RX7 89 RX5 yX5_copy wsX5_copy) := goodIn_app (goodIn_of _ (by decide +kernel)) ggX7_build_X5_copy
set_option maxRecDepth 20000 in
theorem ggX7_build_X3_clear : GoodIn wsX7_build wsX3_clear := goodIn_r _ [151, 152, 153, 175, 176, 177] (by decide +kernel) (by decide +kernel)
set_option maxRecDepth 20000 in
theorem gX7_build_X3_clear : GoodIn wsX7_build (wsV RX7 95 RX3 yX3_clear wsX3_clear) := goodIn_app (goodIn_of _ (by decide +kernel)) ggX7_build_X3_clear
theorem dX7_build_0 : decode cX7_build 0 = .ok (.aload_n 0, 1) := by decide +kernel
theorem dX7_build_1 : decode cX7_build 1 = .ok (.getfield 51, 3) := by decide +kernel
theorem dX7_build_4 : decode cX7_build 4 = .ok (.aload_n 0, 1) := by decide +kernel
theorem dX7_build_5 : decode cX7_build 5 = .ok (.getfield 41, 3) := by decide +kernel
theorem dX7_build_8 : decode cX7_build 8 = .ok (.invokevirtual 80, 3) := by decide +kernel
theorem dX7_build_11 : decode cX7_build 11 = .ok (.bipush (-6), 2) := by decide +kernel
theorem dX7_build_13 : decode cX7_build 13 = .ok (.if_icmp .eq 6, 3) := by decide +kernel
theorem dX7_build_16 : decode cX7_build 16 = .ok (.bipush (-3), 2) := by decide +kernel
theorem dX7_build_18 : decode cX7_build 18 = .ok (.ireturn, 1) := by decide +kernel
theorem dX7_build_19 : decode cX7_build 19 = .ok (.aload_n 0, 1) := by decide +kernel
theorem dX7_build_20 : decode cX7_build 20 = .ok (.getfield 26, 3) := by decide +kernel
theorem dX7_build_23 : decode cX7_build 23 = .ok (.aload_n 0, 1) := by decide +kernel
theorem dX7_build_24 : decode cX7_build 24 = .ok (.getfield 10, 3) := by decide +kernel
theorem dX7_build_27 : decode cX7_build 27 = .ok (.invokevirtual 73, 3) := by decide +kernel
theorem dX7_build_30 : decode cX7_build 30 = .ok (.aload_n 0, 1) := by decide +kernel
theorem dX7_build_31 : decode cX7_build 31 = .ok (.getfield 10, 3) := by decide +kernel
theorem dX7_build_34 : decode cX7_build 34 = .ok (.getfield 84, 3) := by decide +kernel
theorem dX7_build_37 : decode cX7_build 37 = .ok (.aload_n 0, 1) := by decide +kernel
theorem dX7_build_38 : decode cX7_build 38 = .ok (.getfield 51, 3) := by decide +kernel
theorem dX7_build_41 : decode cX7_build 41 = .ok (.getfield 88, 3) := by decide +kernel
theorem dX7_build_44 : decode cX7_build 44 = .ok (.invokevirtual 89, 3) := by decide +kernel
theorem dX7_build_47 : decode cX7_build 47 = .ok (.aload_n 0, 1) := by decide +kernel
theorem dX7_build_48 : decode cX7_build 48 = .ok (.getfield 41, 3) := by decide +kernel
theorem dX7_build_51 : decode cX7_build 51 = .ok (.invokevirtual 95, 3) := by decide +kernel
theorem dX7_build_54 : decode cX7_build 54 = .ok (.aload_n 0, 1) := by decide +kernel
theorem dX7_build_55 : decode cX7_build 55 = .ok (.getfield 10, 3) := by decide +kernel
theorem dX7_build_58 : decode cX7_build 58 = .ok (.getfield 84, 3) := by decide +kernel
theorem dX7_build_61 : decode cX7_build 61 = .ok (.getfield 98, 3) := by decide +kernel
theorem dX7_build_64 : decode cX7_build 64 = .ok (.ireturn, 1) := by decide +kernel
set_option maxRecDepth 20000 in
theorem ggX7_street_X5_has : GoodIn wsX7_street wsX5_has := goodIn_r _ [8, 9, 10, 11, 12, 93, 94, 95, 96, 97, 98] (by decide +kernel) (by decide +kernel)
set_option maxRecDepth 20000 in
theorem gX7_street_X5_has : GoodIn wsX7_street (wsV RX7 102 RX5 yX5_has wsX5_has) := goodIn_app (goodIn_of _ (by decide +kernel)) ggX7_street_X5_has
set_option maxRecDepth 20000 in
theorem ggX7_street_X7_isWithin : GoodIn wsX7_street wsX7_isWithin := goodIn_r _ [15] (by decide +kernel) (by decide +kernel)
set_option maxRecDepth 20000 in
theorem gX7_street_X7_isWithin : GoodIn wsX7_street (va_wsS RX7 69 yX7_isWithin wsX7_isWithin) := goodIn_app (goodIn_of _ (by decide +kernel)) ggX7_street_X7_isWithin
set_option maxRecDepth 20000 in
theorem ggX7_street_X5_hasRoomOff : GoodIn wsX7_street wsX5_hasRoomOff := goodIn_r _ [19, 9, 20, 21, 22, 7, 23, 24, 25, 26, 27, 28, 29, 30, 31, 93, 94, 95, 96, 97, 98] (by decide +kernel) (by decide +kernel)
set_option maxRecDepth 20000 in
theorem gX7_street_X5_hasRoomOff : GoodIn wsX7_street (wsV RX7 106 RX5 yX5_hasRoomOff wsX5_hasRoomOff) := goodIn_app (goodIn_of _ (by decide +kernel)) ggX7_street_X5_hasRoomOff
set_option maxRecDepth 20000 in
theorem ggX7_street_X1_keep : GoodIn wsX7_street wsX1_keep := goodIn_r _ [36, 37, 38, 39, 40, 41, 42, 43, 44, 45, 46, 47, 48, 49, 11, 50, 51, 52, 53, 54, 55, 56, 57, 58, 59, 60, 61, 7, 62, 24, 63, 64, 65, 66, 9, 67, 68, 69, 70, 71, 72, 73, 74, 75, 76, 99, 100, 101, 89, 90, 91, 92, 93, 94, 95, 96, 97, 98, 102, 103, 104, 105, 106] (by decide +kernel) (by decide +kernel)
set_option maxRecDepth 20000 in
theorem gX7_street_X1_keep : GoodIn wsX7_street (wsV RX7 73 RX1 yX1_keep wsX1_keep) := goodIn_app (goodIn_of _ (by decide +kernel)) ggX7_street_X1_keep
set_option maxRecDepth 20000 in
theorem ggX7_street_X5_add : GoodIn wsX7_street wsX5_add := goodIn_r _ [80, 9, 24, 63, 64, 65, 66, 93, 94, 95, 96, 97, 98] (by decide +kernel) (by decide +kernel)
set_option maxRecDepth 20000 in
theorem gX7_street_X5_add : GoodIn wsX7_street (wsV RX7 109 RX5 yX5_add wsX5_add) := goodIn_app (goodIn_of _ (by decide +kernel)) ggX7_street_X5_add
theorem dX7_street_0 : decode cX7_street 0 = .ok (.aload_n 0, 1) := by decide +kernel
theorem dX7_street_1 : decode cX7_street 1 = .ok (.getfield 10, 3) := by decide +kernel
theorem dX7_street_4 : decode cX7_street 4 = .ok (.getfield 84, 3) := by decide +kernel
theorem dX7_street_7 : decode cX7_street 7 = .ok (.iload_n 1, 1) := by decide +kernel
theorem dX7_street_8 : decode cX7_street 8 = .ok (.invokevirtual 102, 3) := by decide +kernel
theorem dX7_street_11 : decode cX7_street 11 = .ok (.ifCond .ne 5, 3) := by decide +kernel
theorem dX7_street_14 : decode cX7_street 14 = .ok (.iconst (-1), 1) := by decide +kernel
theorem dX7_street_15 : decode cX7_street 15 = .ok (.ireturn, 1) := by decide +kernel
theorem dX7_street_16 : decode cX7_street 16 = .ok (.iload_n 2, 1) := by decide +kernel
theorem dX7_street_17 : decode cX7_street 17 = .ok (.iconst 1, 1) := by decide +kernel
theorem dX7_street_18 : decode cX7_street 18 = .ok (.bipush 9, 2) := by decide +kernel
theorem dX7_street_20 : decode cX7_street 20 = .ok (.invokestatic 69, 3) := by decide +kernel
theorem dX7_street_23 : decode cX7_street 23 = .ok (.ifCond .ne 6, 3) := by decide +kernel
theorem dX7_street_26 : decode cX7_street 26 = .ok (.bipush (-2), 2) := by decide +kernel
theorem dX7_street_28 : decode cX7_street 28 = .ok (.ireturn, 1) := by decide +kernel
theorem dX7_street_29 : decode cX7_street 29 = .ok (.aload_n 0, 1) := by decide +kernel
theorem dX7_street_30 : decode cX7_street 30 = .ok (.getfield 10, 3) := by decide +kernel
theorem dX7_street_33 : decode cX7_street 33 = .ok (.getfield 84, 3) := by decide +kernel
theorem dX7_street_36 : decode cX7_street 36 = .ok (.iload_n 1, 1) := by decide +kernel
theorem dX7_street_37 : decode cX7_street 37 = .ok (.invokevirtual 106, 3) := by decide +kernel
theorem dX7_street_40 : decode cX7_street 40 = .ok (.ifCond .ne 6, 3) := by decide +kernel
theorem dX7_street_43 : decode cX7_street 43 = .ok (.bipush (-4), 2) := by decide +kernel
theorem dX7_street_45 : decode cX7_street 45 = .ok (.ireturn, 1) := by decide +kernel
theorem dX7_street_46 : decode cX7_street 46 = .ok (.aload_n 0, 1) := by decide +kernel
theorem dX7_street_47 : decode cX7_street 47 = .ok (.getfield 26, 3) := by decide +kernel
theorem dX7_street_50 : decode cX7_street 50 = .ok (.aload_n 0, 1) := by decide +kernel
theorem dX7_street_51 : decode cX7_street 51 = .ok (.getfield 10, 3) := by decide +kernel
theorem dX7_street_54 : decode cX7_street 54 = .ok (.invokevirtual 73, 3) := by decide +kernel
theorem dX7_street_57 : decode cX7_street 57 = .ok (.aload_n 0, 1) := by decide +kernel
theorem dX7_street_58 : decode cX7_street 58 = .ok (.getfield 10, 3) := by decide +kernel
theorem dX7_street_61 : decode cX7_street 61 = .ok (.getfield 84, 3) := by decide +kernel
theorem dX7_street_64 : decode cX7_street 64 = .ok (.iload_n 1, 1) := by decide +kernel
theorem dX7_street_65 : decode cX7_street 65 = .ok (.iload_n 2, 1) := by decide +kernel
theorem dX7_street_66 : decode cX7_street 66 = .ok (.invokevirtual 109, 3) := by decide +kernel
theorem dX7_street_69 : decode cX7_street 69 = .ok (.ireturn, 1) := by decide +kernel
set_option maxRecDepth 20000 in
theorem ggX7_change_X5_has : GoodIn wsX7_change wsX5_has := goodIn_r _ [10, 11, 12, 13, 14, 81, 82, 83, 84, 85, 86] (by decide +kernel) (by decide +kernel)
set_option maxRecDepth 20000 in
theorem gX7_change_X5_has : GoodIn wsX7_change (wsV RX7 102 RX5 yX5_has wsX5_has) := goodIn_app (goodIn_of _ (by decide +kernel)) ggX7_change_X5_has
set_option maxRecDepth 20000 in
theorem ggX7_change_X7_isIndexOf : GoodIn wsX7_change wsX7_isIndexOf := goodIn_r _ [14] (by decide +kernel) (by decide +kernel)
set_option maxRecDepth 20000 in
theorem gX7_change_X7_isIndexOf : GoodIn wsX7_change (va_wsS RX7 59 yX7_isIndexOf wsX7_isIndexOf) := goodIn_app (goodIn_of _ (by decide +kernel)) ggX7_change_X7_isIndexOf
set_option maxRecDepth 20000 in
theorem ggX7_change_X7_isWithin : GoodIn wsX7_change wsX7_isWithin := goodIn_r _ [18] (by decide +kernel) (by decide +kernel)
set_option maxRecDepth 20000 in
theorem gX7_change_X7_isWithin : GoodIn wsX7_change (va_wsS RX7 69 yX7_isWithin wsX7_isWithin) := goodIn_app (goodIn_of _ (by decide +kernel)) ggX7_change_X7_isWithin
set_option maxRecDepth 20000 in
theorem ggX7_change_X1_keep : GoodIn wsX7_change wsX1_keep := goodIn_r _ [23, 24, 25, 26, 27, 28, 29, 30, 31, 32, 33, 34, 35, 36, 13, 37, 38, 39, 40, 41, 42, 43, 44, 45, 46, 47, 48, 9, 49, 50, 51, 52, 53, 54, 11, 55, 56, 57, 58, 59, 60, 61, 62, 63, 64, 87, 88, 89, 77, 78, 79, 80, 81, 82, 83, 84, 85, 86, 90, 91, 92, 93, 94] (by decide +kernel) (by decide +kernel)
set_option maxRecDepth 20000 in
theorem gX7_change_X1_keep : GoodIn wsX7_change (wsV RX7 73 RX1 yX1_keep wsX1_keep) := goodIn_app (goodIn_of _ (by decide +kernel)) ggX7_change_X1_keep
set_option maxRecDepth 20000 in
theorem ggX7_change_X5_changeable : GoodIn wsX7_change wsX5_changeable := goodIn_r _ [68, 52, 53, 54, 51, 81, 82, 83, 84, 85, 86] (by decide +kernel) (by decide +kernel)
set_option maxRecDepth 20000 in
theorem gX7_change_X5_changeable : GoodIn wsX7_change (wsV RX7 119 RX5 yX5_changeable wsX5_changeable) := goodIn_app (goodIn_of _ (by decide +kernel)) ggX7_change_X5_changeable
theorem dX7_change_0 : decode cX7_change 0 = .ok (.aload_n 0, 1) := by decide +kernel
theorem dX7_change_1 : decode cX7_change 1 = .ok (.getfield 10, 3) := by decide +kernel
theorem dX7_change_4 : decode cX7_change 4 = .ok (.getfield 84, 3) := by decide +kernel
theorem dX7_change_7 : decode cX7_change 7 = .ok (.iload_n 1, 1) := by decide +kernel
theorem dX7_change_8 : decode cX7_change 8 = .ok (.invokevirtual 102, 3) := by decide +kernel
theorem dX7_change_11 : decode cX7_change 11 = .ok (.ifCond .ne 5, 3) := by decide +kernel
theorem dX7_change_14 : decode cX7_change 14 = .ok (.iconst (-1), 1) := by decide +kernel
theorem dX7_change_15 : decode cX7_change 15 = .ok (.ireturn, 1) := by decide +kernel
theorem dX7_change_16 : decode cX7_change 16 = .ok (.iload_n 2, 1) := by decide +kernel
theorem dX7_change_17 : decode cX7_change 17 = .ok (.getstatic 113, 3) := by decide +kernel
theorem dX7_change_20 : decode cX7_change 20 = .ok (.arraylength, 1) := by decide +kernel
theorem dX7_change_21 : decode cX7_change 21 = .ok (.invokestatic 59, 3) := by decide +kernel
theorem dX7_change_24 : decode cX7_change 24 = .ok (.ifCond .ne 6, 3) := by decide +kernel
theorem dX7_change_27 : decode cX7_change 27 = .ok (.bipush (-2), 2) := by decide +kernel
theorem dX7_change_29 : decode cX7_change 29 = .ok (.ireturn, 1) := by decide +kernel
theorem dX7_change_30 : decode cX7_change 30 = .ok (.iload_n 3, 1) := by decide +kernel
theorem dX7_change_31 : decode cX7_change 31 = .ok (.getstatic 113, 3) := by decide +kernel
theorem dX7_change_34 : decode cX7_change 34 = .ok (.iload_n 2, 1) := by decide +kernel
theorem dX7_change_35 : decode cX7_change 35 = .ok (.iaload, 1) := by decide +kernel
theorem dX7_change_36 : decode cX7_change 36 = .ok (.getstatic 116, 3) := by decide +kernel
theorem dX7_change_39 : decode cX7_change 39 = .ok (.iload_n 2, 1) := by decide +kernel
theorem dX7_change_40 : decode cX7_change 40 = .ok (.iaload, 1) := by decide +kernel
theorem dX7_change_41 : decode cX7_change 41 = .ok (.invokestatic 69, 3) := by decide +kernel
theorem dX7_change_44 : decode cX7_change 44 = .ok (.ifCond .ne 6, 3) := by decide +kernel
theorem dX7_change_47 : decode cX7_change 47 = .ok (.bipush (-2), 2) := by decide +kernel
theorem dX7_change_49 : decode cX7_change 49 = .ok (.ireturn, 1) := by decide +kernel
theorem dX7_change_50 : decode cX7_change 50 = .ok (.aload_n 0, 1) := by decide +kernel
theorem dX7_change_51 : decode cX7_change 51 = .ok (.getfield 26, 3) := by decide +kernel
theorem dX7_change_54 : decode cX7_change 54 = .ok (.aload_n 0, 1) := by decide +kernel
theorem dX7_change_55 : decode cX7_change 55 = .ok (.getfield 10, 3) := by decide +kernel
theorem dX7_change_58 : decode cX7_change 58 = .ok (.invokevirtual 73, 3) := by decide +kernel
theorem dX7_change_61 : decode cX7_change 61 = .ok (.aload_n 0, 1) := by decide +kernel
theorem dX7_change_62 : decode cX7_change 62 = .ok (.getfield 10, 3) := by decide +kernel
theorem dX7_change_65 : decode cX7_change 65 = .ok (.getfield 84, 3) := by decide +kernel
theorem dX7_change_68 : decode cX7_change 68 = .ok (.iload_n 2, 1) := by decide +kernel
theorem dX7_change_69 : decode cX7_change 69 = .ok (.invokevirtual 119, 3) := by decide +kernel
theorem dX7_change_72 : decode cX7_change 72 = .ok (.astore 4, 2) := by decide +kernel
theorem dX7_change_74 : decode cX7_change 74 = .ok (.aload 4, 2) := by decide +kernel
theorem dX7_change_76 : decode cX7_change 76 = .ok (.iload_n 1, 1) := by decide +kernel
theorem dX7_change_77 : decode cX7_change 77 = .ok (.iaload, 1) := by decide +kernel
theorem dX7_change_78 : decode cX7_change 78 = .ok (.istore 5, 2) := by decide +kernel
theorem dX7_change_80 : decode cX7_change 80 = .ok (.aload 4, 2) := by decide +kernel
theorem dX7_change_82 : decode cX7_change 82 = .ok (.iload_n 1, 1) := by decide +kernel
theorem dX7_change_83 : decode cX7_change 83 = .ok (.iload_n 3, 1) := by decide +kernel
theorem dX7_change_84 : decode cX7_change 84 = .ok (.iastore, 1) := by decide +kernel
theorem dX7_change_85 : decode cX7_change 85 = .ok (.iload 5, 2) := by decide +kernel
theorem dX7_change_87 : decode cX7_change 87 = .ok (.ireturn, 1) := by decide +kernel
set_option maxRecDepth 20000 in
theorem ggX7_wind_X7_isForce : GoodIn wsX7_wind wsX7_isForce := goodIn_r _ [7, 8, 9, 6, 10] (by decide +kernel) (by decide +kernel)
set_option maxRecDepth 20000 in
theorem gX7_wind_X7_isForce : GoodIn wsX7_wind (va_wsS RX7 123 yX7_isForce wsX7_isForce) := goodIn_app (goodIn_of _ (by decide +kernel)) ggX7_wind_X7_isForce
set_option maxRecDepth 20000 in
theorem ggX7_wind_X1_keep : GoodIn wsX7_wind wsX1_keep := goodIn_r _ [15, 16, 17, 18, 19, 20, 21, 22, 23, 24, 25, 26, 27, 28, 6, 29, 30, 31, 32, 33, 34, 35, 36, 37, 38, 39, 40, 41, 42, 43, 44, 45, 46, 47, 48, 49, 50, 51, 52, 53, 54, 55, 56, 57, 58, 71, 72, 73, 67, 68, 69, 70, 74, 75, 76, 77, 78, 79, 80, 81, 82, 83, 84] (by decide +kernel) (by decide +kernel)
set_option maxRecDepth 20000 in
theorem gX7_wind_X1_keep : GoodIn wsX7_wind (wsV RX7 73 RX1 yX1_keep wsX1_keep) := goodIn_app (goodIn_of _ (by decide +kernel)) ggX7_wind_X1_keep
theorem dX7_wind_0 : decode cX7_wind 0 = .ok (.iload_n 1, 1) := by decide +kernel
theorem dX7_wind_1 : decode cX7_wind 1 = .ok (.invokestatic 123, 3) := by decide +kernel
theorem dX7_wind_4 : decode cX7_wind 4 = .ok (.ifCond .ne 6, 3) := by decide +kernel
theorem dX7_wind_7 : decode cX7_wind 7 = .ok (.bipush (-2), 2) := by decide +kernel
theorem dX7_wind_9 : decode cX7_wind 9 = .ok (.ireturn, 1) := by decide +kernel
theorem dX7_wind_10 : decode cX7_wind 10 = .ok (.aload_n 0, 1) := by decide +kernel
theorem dX7_wind_11 : decode cX7_wind 11 = .ok (.getfield 26, 3) := by decide +kernel
theorem dX7_wind_14 : decode cX7_wind 14 = .ok (.aload_n 0, 1) := by decide +kernel
theorem dX7_wind_15 : decode cX7_wind 15 = .ok (.getfield 10, 3) := by decide +kernel
theorem dX7_wind_18 : decode cX7_wind 18 = .ok (.invokevirtual 73, 3) := by decide +kernel
theorem dX7_wind_21 : decode cX7_wind 21 = .ok (.aload_n 0, 1) := by decide +kernel
theorem dX7_wind_22 : decode cX7_wind 22 = .ok (.getfield 10, 3) := by decide +kernel
theorem dX7_wind_25 : decode cX7_wind 25 = .ok (.getfield 126, 3) := by decide +kernel
theorem dX7_wind_28 : decode cX7_wind 28 = .ok (.istore_n 2, 1) := by decide +kernel
theorem dX7_wind_29 : decode cX7_wind 29 = .ok (.aload_n 0, 1) := by decide +kernel
theorem dX7_wind_30 : decode cX7_wind 30 = .ok (.getfield 10, 3) := by decide +kernel
theorem dX7_wind_33 : decode cX7_wind 33 = .ok (.iload_n 1, 1) := by decide +kernel
theorem dX7_wind_34 : decode cX7_wind 34 = .ok (.putfield 126, 3) := by decide +kernel
theorem dX7_wind_37 : decode cX7_wind 37 = .ok (.iload_n 2, 1) := by decide +kernel
theorem dX7_wind_38 : decode cX7_wind 38 = .ok (.ireturn, 1) := by decide +kernel
set_option maxRecDepth 20000 in
theorem ggX7_pass_X7_isWithin : GoodIn wsX7_pass wsX7_isWithin := goodIn_r _ [10] (by decide +kernel) (by decide +kernel)
set_option maxRecDepth 20000 in
theorem gX7_pass_X7_isWithin : GoodIn wsX7_pass (va_wsS RX7 69 yX7_isWithin wsX7_isWithin) := goodIn_app (goodIn_of _ (by decide +kernel)) ggX7_pass_X7_isWithin
set_option maxRecDepth 20000 in
theorem ggX7_pass_X1_keep : GoodIn wsX7_pass wsX1_keep := goodIn_r _ [15, 16, 17, 18, 19, 20, 21, 22, 23, 24, 25, 26, 27, 28, 9, 29, 30, 31, 32, 33, 34, 35, 36, 37, 38, 39, 40, 41, 42, 43, 44, 45, 46, 47, 48, 49, 50, 51, 52, 53, 54, 55, 56, 57, 58, 135, 136, 137, 126, 127, 128, 129, 138, 139, 140, 141, 142, 143, 130, 131, 132, 133, 134] (by decide +kernel) (by decide +kernel)
set_option maxRecDepth 20000 in
theorem gX7_pass_X1_keep : GoodIn wsX7_pass (wsV RX7 73 RX1 yX1_keep wsX1_keep) := goodIn_app (goodIn_of _ (by decide +kernel)) ggX7_pass_X1_keep
set_option maxRecDepth 20000 in
theorem ggX7_pass_X0_blowIn : GoodIn wsX7_pass wsX0_blowIn := goodIn_r _ [63, 64, 65, 66, 67, 68, 62, 69, 70, 71, 72, 73, 74, 75, 76, 77, 78, 79, 80, 81, 82, 41, 83, 48, 84, 9, 85, 86, 87, 88, 89, 90, 31, 32, 33, 91, 92, 126, 127, 128, 129, 138, 139, 140, 141, 142, 143, 144, 145, 146] (by decide +kernel) (by decide +kernel)
set_option maxRecDepth 20000 in
theorem gX7_pass_X0_blowIn : GoodIn wsX7_pass (wsV RX7 138 RX0 yX0_blowIn wsX0_blowIn) := goodIn_app (goodIn_of _ (by decide +kernel)) ggX7_pass_X0_blowIn
set_option maxRecDepth 20000 in
theorem ggX7_pass_X0_hatsLost : GoodIn wsX7_pass wsX0_hatsLost := goodIn_r _ [96, 64, 70, 97, 98, 99, 62, 100, 101, 102, 90, 31, 32, 33, 103, 104, 105, 106, 79, 126, 127, 128, 129, 138, 139, 140, 141, 142, 143, 144, 145, 146] (by decide +kernel) (by decide +kernel)
set_option maxRecDepth 20000 in
theorem gX7_pass_X0_hatsLost : GoodIn wsX7_pass (wsV RX7 141 RX0 yX0_hatsLost wsX0_hatsLost) := goodIn_app (goodIn_of _ (by decide +kernel)) ggX7_pass_X0_hatsLost
set_option maxRecDepth 20000 in
theorem ggX7_pass_X0_worstStreet : GoodIn wsX7_pass wsX0_worstStreet := goodIn_r _ [110, 64, 70, 97, 98, 99, 62, 100, 101, 102, 90, 31, 32, 33, 103, 104, 105, 106, 79, 126, 127, 128, 129, 138, 139, 140, 141, 142, 143, 144, 145, 146] (by decide +kernel) (by decide +kernel)
set_option maxRecDepth 20000 in
theorem gX7_pass_X0_worstStreet : GoodIn wsX7_pass (wsV RX7 145 RX0 yX0_worstStreet wsX0_worstStreet) := goodIn_app (goodIn_of _ (by decide +kernel)) ggX7_pass_X0_worstStreet
set_option maxRecDepth 20000 in
theorem ggX7_pass_X2_add : GoodIn wsX7_pass wsX2_add := goodIn_r _ [114, 54, 55, 56, 57, 58, 115, 116, 52, 117, 130, 131, 132, 133, 134] (by decide +kernel) (by decide +kernel)
set_option maxRecDepth 20000 in
theorem gX7_pass_X2_add : GoodIn wsX7_pass (wsV RX7 148 RX2 yX2_add wsX2_add) := goodIn_app (goodIn_of _ (by decide +kernel)) ggX7_pass_X2_add
theorem dX7_pass_0 : decode cX7_pass 0 = .ok (.iload_n 1, 1) := by decide +kernel
theorem dX7_pass_1 : decode cX7_pass 1 = .ok (.iconst 1, 1) := by decide +kernel
theorem dX7_pass_2 : decode cX7_pass 2 = .ok (.bipush 24, 2) := by decide +kernel
theorem dX7_pass_4 : decode cX7_pass 4 = .ok (.invokestatic 69, 3) := by decide +kernel
theorem dX7_pass_7 : decode cX7_pass 7 = .ok (.ifCond .ne 6, 3) := by decide +kernel
theorem dX7_pass_10 : decode cX7_pass 10 = .ok (.bipush (-2), 2) := by decide +kernel
theorem dX7_pass_12 : decode cX7_pass 12 = .ok (.ireturn, 1) := by decide +kernel
theorem dX7_pass_13 : decode cX7_pass 13 = .ok (.aload_n 0, 1) := by decide +kernel
theorem dX7_pass_14 : decode cX7_pass 14 = .ok (.getfield 10, 3) := by decide +kernel
theorem dX7_pass_17 : decode cX7_pass 17 = .ok (.getfield 129, 3) := by decide +kernel
theorem dX7_pass_20 : decode cX7_pass 20 = .ok (.getfield 133, 3) := by decide +kernel
theorem dX7_pass_23 : decode cX7_pass 23 = .ok (.iload_n 1, 1) := by decide +kernel
theorem dX7_pass_24 : decode cX7_pass 24 = .ok (.iadd, 1) := by decide +kernel
theorem dX7_pass_25 : decode cX7_pass 25 = .ok (.sipush 999, 3) := by decide +kernel
theorem dX7_pass_28 : decode cX7_pass 28 = .ok (.if_icmp .le 6, 3) := by decide +kernel
theorem dX7_pass_31 : decode cX7_pass 31 = .ok (.bipush (-5), 2) := by decide +kernel
theorem dX7_pass_33 : decode cX7_pass 33 = .ok (.ireturn, 1) := by decide +kernel
theorem dX7_pass_34 : decode cX7_pass 34 = .ok (.aload_n 0, 1) := by decide +kernel
theorem dX7_pass_35 : decode cX7_pass 35 = .ok (.getfield 26, 3) := by decide +kernel
theorem dX7_pass_38 : decode cX7_pass 38 = .ok (.aload_n 0, 1) := by decide +kernel
theorem dX7_pass_39 : decode cX7_pass 39 = .ok (.getfield 10, 3) := by decide +kernel
theorem dX7_pass_42 : decode cX7_pass 42 = .ok (.invokevirtual 73, 3) := by decide +kernel
theorem dX7_pass_45 : decode cX7_pass 45 = .ok (.aload_n 0, 1) := by decide +kernel
theorem dX7_pass_46 : decode cX7_pass 46 = .ok (.getfield 19, 3) := by decide +kernel
theorem dX7_pass_49 : decode cX7_pass 49 = .ok (.aload_n 0, 1) := by decide +kernel
theorem dX7_pass_50 : decode cX7_pass 50 = .ok (.getfield 10, 3) := by decide +kernel
theorem dX7_pass_53 : decode cX7_pass 53 = .ok (.invokevirtual 138, 3) := by decide +kernel
theorem dX7_pass_56 : decode cX7_pass 56 = .ok (.aload_n 0, 1) := by decide +kernel
theorem dX7_pass_57 : decode cX7_pass 57 = .ok (.getfield 19, 3) := by decide +kernel
theorem dX7_pass_60 : decode cX7_pass 60 = .ok (.aload_n 0, 1) := by decide +kernel
theorem dX7_pass_61 : decode cX7_pass 61 = .ok (.getfield 10, 3) := by decide +kernel
theorem dX7_pass_64 : decode cX7_pass 64 = .ok (.invokevirtual 141, 3) := by decide +kernel
theorem dX7_pass_67 : decode cX7_pass 67 = .ok (.istore_n 2, 1) := by decide +kernel
theorem dX7_pass_68 : decode cX7_pass 68 = .ok (.aload_n 0, 1) := by decide +kernel
theorem dX7_pass_69 : decode cX7_pass 69 = .ok (.getfield 19, 3) := by decide +kernel
theorem dX7_pass_72 : decode cX7_pass 72 = .ok (.aload_n 0, 1) := by decide +kernel
theorem dX7_pass_73 : decode cX7_pass 73 = .ok (.getfield 10, 3) := by decide +kernel
theorem dX7_pass_76 : decode cX7_pass 76 = .ok (.invokevirtual 145, 3) := by decide +kernel
theorem dX7_pass_79 : decode cX7_pass 79 = .ok (.istore_n 3, 1) := by decide +kernel
theorem dX7_pass_80 : decode cX7_pass 80 = .ok (.iconst 0, 1) := by decide +kernel
theorem dX7_pass_81 : decode cX7_pass 81 = .ok (.istore 4, 2) := by decide +kernel
theorem dX7_pass_83 : decode cX7_pass 83 = .ok (.iload 4, 2) := by decide +kernel
theorem dX7_pass_85 : decode cX7_pass 85 = .ok (.iload_n 1, 1) := by decide +kernel
theorem dX7_pass_86 : decode cX7_pass 86 = .ok (.if_icmp .ge 28, 3) := by decide +kernel
theorem dX7_pass_89 : decode cX7_pass 89 = .ok (.aload_n 0, 1) := by decide +kernel
theorem dX7_pass_90 : decode cX7_pass 90 = .ok (.getfield 10, 3) := by decide +kernel
theorem dX7_pass_93 : decode cX7_pass 93 = .ok (.getfield 129, 3) := by decide +kernel
theorem dX7_pass_96 : decode cX7_pass 96 = .ok (.aload_n 0, 1) := by decide +kernel
theorem dX7_pass_97 : decode cX7_pass 97 = .ok (.getfield 10, 3) := by decide +kernel
theorem dX7_pass_100 : decode cX7_pass 100 = .ok (.getfield 126, 3) := by decide +kernel
theorem dX7_pass_103 : decode cX7_pass 103 = .ok (.iload_n 2, 1) := by decide +kernel
theorem dX7_pass_104 : decode cX7_pass 104 = .ok (.iload_n 3, 1) := by decide +kernel
theorem dX7_pass_105 : decode cX7_pass 105 = .ok (.invokevirtual 148, 3) := by decide +kernel
theorem dX7_pass_108 : decode cX7_pass 108 = .ok (.iinc 4 1, 3) := by decide +kernel
theorem dX7_pass_111 : decode cX7_pass 111 = .ok (.goto (-28), 3) := by decide +kernel
theorem dX7_pass_114 : decode cX7_pass 114 = .ok (.iload_n 1, 1) := by decide +kernel
theorem dX7_pass_115 : decode cX7_pass 115 = .ok (.iload_n 2, 1) := by decide +kernel
theorem dX7_pass_116 : decode cX7_pass 116 = .ok (.imul, 1) := by decide +kernel
theorem dX7_pass_117 : decode cX7_pass 117 = .ok (.ireturn, 1) := by decide +kernel
set_option maxRecDepth 20000 in
theorem ggX7_write_X3_clear : GoodIn wsX7_write wsX3_clear := goodIn_r _ [11, 12, 13, 60, 61, 62] (by decide +kernel) (by decide +kernel)
set_option maxRecDepth 20000 in
theorem gX7_write_X3_clear : GoodIn wsX7_write (wsV RX7 95 RX3 yX3_clear wsX3_clear) := goodIn_app (goodIn_of _ (by decide +kernel)) ggX7_write_X3_clear
set_option maxRecDepth 20000 in
theorem ggX7_write_X7_tell : GoodIn wsX7_write wsX7_tell := goodIn_r _ [17, 18, 19, 20, 21, 22, 23, 24, 25, 26, 16, 27, 28, 29, 30, 31, 32, 33, 34, 35, 36, 37, 10, 38, 12, 13, 39, 14, 15, 63, 64, 65, 66, 67, 68, 60, 61, 62] (by decide +kernel) (by decide +kernel)
set_option maxRecDepth 20000 in
theorem gX7_write_X7_tell : GoodIn wsX7_write (va_wsS RX7 151 yX7_tell wsX7_tell) := goodIn_app (goodIn_of _ (by decide +kernel)) ggX7_write_X7_tell
set_option maxRecDepth 20000 in
theorem ggX7_write_X3_copy : GoodIn wsX7_write wsX3_copy := goodIn_r _ [43, 39, 44, 45, 46, 47, 12, 13, 60, 61, 62] (by decide +kernel) (by decide +kernel)
set_option maxRecDepth 20000 in
theorem gX7_write_X3_copy : GoodIn wsX7_write (wsV RX7 159 RX3 yX3_copy wsX3_copy) := goodIn_app (goodIn_of _ (by decide +kernel)) ggX7_write_X3_copy
theorem dX7_write_0 : decode cX7_write 0 = .ok (.aload_n 0, 1) := by decide +kernel
theorem dX7_write_1 : decode cX7_write 1 = .ok (.getfield 45, 3) := by decide +kernel
theorem dX7_write_4 : decode cX7_write 4 = .ok (.invokevirtual 95, 3) := by decide +kernel
theorem dX7_write_7 : decode cX7_write 7 = .ok (.aload_n 0, 1) := by decide +kernel
theorem dX7_write_8 : decode cX7_write 8 = .ok (.getfield 10, 3) := by decide +kernel
theorem dX7_write_11 : decode cX7_write 11 = .ok (.getfield 84, 3) := by decide +kernel
theorem dX7_write_14 : decode cX7_write 14 = .ok (.iconst 0, 1) := by decide +kernel
theorem dX7_write_15 : decode cX7_write 15 = .ok (.iconst 0, 1) := by decide +kernel
theorem dX7_write_16 : decode cX7_write 16 = .ok (.aload_n 0, 1) := by decide +kernel
theorem dX7_write_17 : decode cX7_write 17 = .ok (.getfield 45, 3) := by decide +kernel
theorem dX7_write_20 : decode cX7_write 20 = .ok (.invokestatic 151, 3) := by decide +kernel
theorem dX7_write_23 : decode cX7_write 23 = .ok (.aload_n 0, 1) := by decide +kernel
theorem dX7_write_24 : decode cX7_write 24 = .ok (.getfield 45, 3) := by decide +kernel
theorem dX7_write_27 : decode cX7_write 27 = .ok (.getfield 155, 3) := by decide +kernel
theorem dX7_write_30 : decode cX7_write 30 = .ok (.ifCond .eq 6, 3) := by decide +kernel
theorem dX7_write_33 : decode cX7_write 33 = .ok (.bipush (-4), 2) := by decide +kernel
theorem dX7_write_35 : decode cX7_write 35 = .ok (.ireturn, 1) := by decide +kernel
theorem dX7_write_36 : decode cX7_write 36 = .ok (.aload_n 0, 1) := by decide +kernel
theorem dX7_write_37 : decode cX7_write 37 = .ok (.getfield 41, 3) := by decide +kernel
theorem dX7_write_40 : decode cX7_write 40 = .ok (.aload_n 0, 1) := by decide +kernel
theorem dX7_write_41 : decode cX7_write 41 = .ok (.getfield 45, 3) := by decide +kernel
theorem dX7_write_44 : decode cX7_write 44 = .ok (.invokevirtual 159, 3) := by decide +kernel
theorem dX7_write_47 : decode cX7_write 47 = .ok (.aload_n 0, 1) := by decide +kernel
theorem dX7_write_48 : decode cX7_write 48 = .ok (.getfield 41, 3) := by decide +kernel
theorem dX7_write_51 : decode cX7_write 51 = .ok (.getfield 162, 3) := by decide +kernel
theorem dX7_write_54 : decode cX7_write 54 = .ok (.ireturn, 1) := by decide +kernel
set_option maxRecDepth 20000 in
theorem ggX7_of_X5_has : GoodIn wsX7_of wsX5_has := goodIn_r _ [12, 13, 14, 15, 16, 50, 51, 52, 53, 54, 55] (by decide +kernel) (by decide +kernel)
set_option maxRecDepth 20000 in
theorem gX7_of_X5_has : GoodIn wsX7_of (wsV RX7 102 RX5 yX5_has wsX5_has) := goodIn_app (goodIn_of _ (by decide +kernel)) ggX7_of_X5_has
set_option maxRecDepth 20000 in
theorem ggX7_of_X5_branchesOff : GoodIn wsX7_of wsX5_branchesOff := goodIn_r _ [20, 13, 21, 50, 51, 52, 53, 54, 55] (by decide +kernel) (by decide +kernel)
set_option maxRecDepth 20000 in
theorem gX7_of_X5_branchesOff : GoodIn wsX7_of (wsV RX7 180 RX5 yX5_branchesOff wsX5_branchesOff) := goodIn_app (goodIn_of _ (by decide +kernel)) ggX7_of_X5_branchesOff
set_option maxRecDepth 20000 in
theorem ggX7_of_X5_howManyBehind : GoodIn wsX7_of wsX5_howManyBehind := goodIn_r _ [25, 13, 21, 26, 27, 28, 29, 30, 31, 32, 50, 51, 52, 53, 54, 55] (by decide +kernel) (by decide +kernel)
set_option maxRecDepth 20000 in
theorem gX7_of_X5_howManyBehind : GoodIn wsX7_of (wsV RX7 184 RX5 yX5_howManyBehind wsX5_howManyBehind) := goodIn_app (goodIn_of _ (by decide +kernel)) ggX7_of_X5_howManyBehind
set_option maxRecDepth 20000 in
theorem ggX7_of_X5_howFarOff : GoodIn wsX7_of wsX5_howFarOff := goodIn_r _ [36, 21, 37, 9, 10, 11, 12, 13, 14, 15, 16, 50, 51, 52, 53, 54, 55] (by decide +kernel) (by decide +kernel)
set_option maxRecDepth 20000 in
theorem gX7_of_X5_howFarOff : GoodIn wsX7_of (wsV RX7 187 RX5 yX5_howFarOff wsX5_howFarOff) := goodIn_app (goodIn_of _ (by decide +kernel)) ggX7_of_X5_howFarOff
theorem dX7_of_0 : decode cX7_of 0 = .ok (.aload_n 0, 1) := by decide +kernel
theorem dX7_of_1 : decode cX7_of 1 = .ok (.getfield 10, 3) := by decide +kernel
theorem dX7_of_4 : decode cX7_of 4 = .ok (.getfield 84, 3) := by decide +kernel
theorem dX7_of_7 : decode cX7_of 7 = .ok (.astore_n 3, 1) := by decide +kernel
theorem dX7_of_8 : decode cX7_of 8 = .ok (.aload_n 3, 1) := by decide +kernel
theorem dX7_of_9 : decode cX7_of 9 = .ok (.iload_n 1, 1) := by decide +kernel
theorem dX7_of_10 : decode cX7_of 10 = .ok (.invokevirtual 102, 3) := by decide +kernel
theorem dX7_of_13 : decode cX7_of 13 = .ok (.ifCond .ne 5, 3) := by decide +kernel
theorem dX7_of_16 : decode cX7_of 16 = .ok (.iconst (-1), 1) := by decide +kernel
theorem dX7_of_17 : decode cX7_of 17 = .ok (.ireturn, 1) := by decide +kernel
theorem dX7_of_18 : decode cX7_of 18 = .ok (.iload_n 2, 1) := by decide +kernel
theorem dX7_of_19 : decode cX7_of 19 = .ok (.tableswitch 98 0 7 #[45, 52, 59, 66, 73, 80, 86, 92], 45) := by decide +kernel
theorem dX7_of_64 : decode cX7_of 64 = .ok (.aload_n 3, 1) := by decide +kernel
theorem dX7_of_65 : decode cX7_of 65 = .ok (.getfield 165, 3) := by decide +kernel
theorem dX7_of_68 : decode cX7_of 68 = .ok (.iload_n 1, 1) := by decide +kernel
theorem dX7_of_69 : decode cX7_of 69 = .ok (.iaload, 1) := by decide +kernel
theorem dX7_of_70 : decode cX7_of 70 = .ok (.ireturn, 1) := by decide +kernel
theorem dX7_of_71 : decode cX7_of 71 = .ok (.aload_n 3, 1) := by decide +kernel
theorem dX7_of_72 : decode cX7_of 72 = .ok (.getfield 168, 3) := by decide +kernel
theorem dX7_of_75 : decode cX7_of 75 = .ok (.iload_n 1, 1) := by decide +kernel
theorem dX7_of_76 : decode cX7_of 76 = .ok (.iaload, 1) := by decide +kernel
theorem dX7_of_77 : decode cX7_of 77 = .ok (.ireturn, 1) := by decide +kernel
theorem dX7_of_78 : decode cX7_of 78 = .ok (.aload_n 3, 1) := by decide +kernel
theorem dX7_of_79 : decode cX7_of 79 = .ok (.getfield 171, 3) := by decide +kernel
theorem dX7_of_82 : decode cX7_of 82 = .ok (.iload_n 1, 1) := by decide +kernel
theorem dX7_of_83 : decode cX7_of 83 = .ok (.iaload, 1) := by decide +kernel
theorem dX7_of_84 : decode cX7_of 84 = .ok (.ireturn, 1) := by decide +kernel
theorem dX7_of_85 : decode cX7_of 85 = .ok (.aload_n 3, 1) := by decide +kernel
theorem dX7_of_86 : decode cX7_of 86 = .ok (.getfield 174, 3) := by decide +kernel
theorem dX7_of_89 : decode cX7_of 89 = .ok (.iload_n 1, 1) := by decide +kernel
theorem dX7_of_90 : decode cX7_of 90 = .ok (.iaload, 1) := by decide +kernel
theorem dX7_of_91 : decode cX7_of 91 = .ok (.ireturn, 1) := by decide +kernel
theorem dX7_of_92 : decode cX7_of 92 = .ok (.aload_n 3, 1) := by decide +kernel
theorem dX7_of_93 : decode cX7_of 93 = .ok (.getfield 177, 3) := by decide +kernel
theorem dX7_of_96 : decode cX7_of 96 = .ok (.iload_n 1, 1) := by decide +kernel
theorem dX7_of_97 : decode cX7_of 97 = .ok (.iaload, 1) := by decide +kernel
theorem dX7_of_98 : decode cX7_of 98 = .ok (.ireturn, 1) := by decide +kernel
theorem dX7_of_99 : decode cX7_of 99 = .ok (.aload_n 3, 1) := by decide +kernel
theorem dX7_of_100 : decode cX7_of 100 = .ok (.iload_n 1, 1) := by decide +kernel
theorem dX7_of_101 : decode cX7_of 101 = .ok (.invokevirtual 180, 3) := by decide +kernel
theorem dX7_of_104 : decode cX7_of 104 = .ok (.ireturn, 1) := by decide +kernel
theorem dX7_of_105 : decode cX7_of 105 = .ok (.aload_n 3, 1) := by decide +kernel
theorem dX7_of_106 : decode cX7_of 106 = .ok (.iload_n 1, 1) := by decide +kernel
theorem dX7_of_107 : decode cX7_of 107 = .ok (.invokevirtual 184, 3) := by decide +kernel
theorem dX7_of_110 : decode cX7_of 110 = .ok (.ireturn, 1) := by decide +kernel
theorem dX7_of_111 : decode cX7_of 111 = .ok (.aload_n 3, 1) := by decide +kernel
theorem dX7_of_112 : decode cX7_of 112 = .ok (.iload_n 1, 1) := by decide +kernel
theorem dX7_of_113 : decode cX7_of 113 = .ok (.invokevirtual 187, 3) := by decide +kernel
theorem dX7_of_116 : decode cX7_of 116 = .ok (.ireturn, 1) := by decide +kernel
theorem dX7_of_117 : decode cX7_of 117 = .ok (.bipush (-2), 2) := by decide +kernel
theorem dX7_of_119 : decode cX7_of 119 = .ok (.ireturn, 1) := by decide +kernel
set_option maxRecDepth 20000 in
theorem ggX7_now_X5_has : GoodIn wsX7_now wsX5_has := goodIn_r _ [9, 10, 11, 12, 13, 82, 83, 84, 85, 86, 87] (by decide +kernel) (by decide +kernel)
set_option maxRecDepth 20000 in
theorem gX7_now_X5_has : GoodIn wsX7_now (wsV RX7 102 RX5 yX5_has wsX5_has) := goodIn_app (goodIn_of _ (by decide +kernel)) ggX7_now_X5_has
set_option maxRecDepth 20000 in
theorem ggX7_now_X0_blowIn : GoodIn wsX7_now wsX0_blowIn := goodIn_r _ [18, 19, 20, 21, 22, 23, 17, 24, 25, 26, 27, 28, 29, 30, 31, 32, 33, 34, 35, 6, 7, 8, 9, 10, 11, 12, 13, 36, 37, 38, 39, 40, 41, 42, 43, 44, 45, 75, 76, 77, 78, 82, 83, 84, 85, 86, 87, 79, 80, 81] (by decide +kernel) (by decide +kernel)
set_option maxRecDepth 20000 in
theorem gX7_now_X0_blowIn : GoodIn wsX7_now (wsV RX7 138 RX0 yX0_blowIn wsX0_blowIn) := goodIn_app (goodIn_of _ (by decide +kernel)) ggX7_now_X0_blowIn
set_option maxRecDepth 20000 in
theorem ggX7_now_X0_gustIn : GoodIn wsX7_now wsX0_gustIn := goodIn_r _ [49, 34, 50, 79, 80, 81, 75, 76, 77, 78] (by decide +kernel) (by decide +kernel)
set_option maxRecDepth 20000 in
theorem gX7_now_X0_gustIn : GoodIn wsX7_now (wsV RX7 192 RX0 yX0_gustIn wsX0_gustIn) := goodIn_app (goodIn_of _ (by decide +kernel)) ggX7_now_X0_gustIn
set_option maxRecDepth 20000 in
theorem ggX7_now_X0_flagSteps : GoodIn wsX7_now wsX0_flagSteps := goodIn_r _ [54, 19, 55, 34, 50, 40, 41, 42, 43, 44, 12, 45, 75, 76, 77, 78, 82, 83, 84, 85, 86, 87, 79, 80, 81] (by decide +kernel) (by decide +kernel)
set_option maxRecDepth 20000 in
theorem gX7_now_X0_flagSteps : GoodIn wsX7_now (wsV RX7 196 RX0 yX0_flagSteps wsX0_flagSteps) := goodIn_app (goodIn_of _ (by decide +kernel)) ggX7_now_X0_flagSteps
set_option maxRecDepth 20000 in
theorem ggX7_now_X0_smokeSteps : GoodIn wsX7_now wsX0_smokeSteps := goodIn_r _ [59, 19, 60, 34, 50, 40, 41, 42, 43, 44, 12, 45, 75, 76, 77, 78, 82, 83, 84, 85, 86, 87, 79, 80, 81] (by decide +kernel) (by decide +kernel)
set_option maxRecDepth 20000 in
theorem gX7_now_X0_smokeSteps : GoodIn wsX7_now (wsV RX7 199 RX0 yX0_smokeSteps wsX0_smokeSteps) := goodIn_app (goodIn_of _ (by decide +kernel)) ggX7_now_X0_smokeSteps
set_option maxRecDepth 20000 in
theorem ggX7_now_X0_hatsLostIn : GoodIn wsX7_now wsX0_hatsLostIn := goodIn_r _ [64, 50, 19, 65, 40, 41, 42, 43, 66, 47, 48, 17, 49, 34, 75, 76, 77, 78, 82, 83, 84, 85, 86, 87, 79, 80, 81] (by decide +kernel) (by decide +kernel)
set_option maxRecDepth 20000 in
theorem gX7_now_X0_hatsLostIn : GoodIn wsX7_now (wsV RX7 202 RX0 yX0_hatsLostIn wsX0_hatsLostIn) := goodIn_app (goodIn_of _ (by decide +kernel)) ggX7_now_X0_hatsLostIn
theorem dX7_now_0 : decode cX7_now 0 = .ok (.aload_n 0, 1) := by decide +kernel
theorem dX7_now_1 : decode cX7_now 1 = .ok (.getfield 10, 3) := by decide +kernel
theorem dX7_now_4 : decode cX7_now 4 = .ok (.getfield 84, 3) := by decide +kernel
theorem dX7_now_7 : decode cX7_now 7 = .ok (.iload_n 1, 1) := by decide +kernel
theorem dX7_now_8 : decode cX7_now 8 = .ok (.invokevirtual 102, 3) := by decide +kernel
theorem dX7_now_11 : decode cX7_now 11 = .ok (.ifCond .ne 5, 3) := by decide +kernel
theorem dX7_now_14 : decode cX7_now 14 = .ok (.iconst (-1), 1) := by decide +kernel
theorem dX7_now_15 : decode cX7_now 15 = .ok (.ireturn, 1) := by decide +kernel
theorem dX7_now_16 : decode cX7_now 16 = .ok (.aload_n 0, 1) := by decide +kernel
theorem dX7_now_17 : decode cX7_now 17 = .ok (.getfield 19, 3) := by decide +kernel
theorem dX7_now_20 : decode cX7_now 20 = .ok (.aload_n 0, 1) := by decide +kernel
theorem dX7_now_21 : decode cX7_now 21 = .ok (.getfield 10, 3) := by decide +kernel
theorem dX7_now_24 : decode cX7_now 24 = .ok (.invokevirtual 138, 3) := by decide +kernel
theorem dX7_now_27 : decode cX7_now 27 = .ok (.iload_n 2, 1) := by decide +kernel
theorem dX7_now_28 : decode cX7_now 28 = .ok (.tableswitch 98 0 4 #[36, 46, 59, 72, 85], 36) := by decide +kernel
theorem dX7_now_64 : decode cX7_now 64 = .ok (.aload_n 0, 1) := by decide +kernel
theorem dX7_now_65 : decode cX7_now 65 = .ok (.getfield 19, 3) := by decide +kernel
theorem dX7_now_68 : decode cX7_now 68 = .ok (.getfield 190, 3) := by decide +kernel
theorem dX7_now_71 : decode cX7_now 71 = .ok (.iload_n 1, 1) := by decide +kernel
theorem dX7_now_72 : decode cX7_now 72 = .ok (.iaload, 1) := by decide +kernel
theorem dX7_now_73 : decode cX7_now 73 = .ok (.ireturn, 1) := by decide +kernel
theorem dX7_now_74 : decode cX7_now 74 = .ok (.aload_n 0, 1) := by decide +kernel
theorem dX7_now_75 : decode cX7_now 75 = .ok (.getfield 19, 3) := by decide +kernel
theorem dX7_now_78 : decode cX7_now 78 = .ok (.aload_n 0, 1) := by decide +kernel
theorem dX7_now_79 : decode cX7_now 79 = .ok (.getfield 10, 3) := by decide +kernel
theorem dX7_now_82 : decode cX7_now 82 = .ok (.iload_n 1, 1) := by decide +kernel
theorem dX7_now_83 : decode cX7_now 83 = .ok (.invokevirtual 192, 3) := by decide +kernel
theorem dX7_now_86 : decode cX7_now 86 = .ok (.ireturn, 1) := by decide +kernel
theorem dX7_now_87 : decode cX7_now 87 = .ok (.aload_n 0, 1) := by decide +kernel
theorem dX7_now_88 : decode cX7_now 88 = .ok (.getfield 19, 3) := by decide +kernel
theorem dX7_now_91 : decode cX7_now 91 = .ok (.aload_n 0, 1) := by decide +kernel
theorem dX7_now_92 : decode cX7_now 92 = .ok (.getfield 10, 3) := by decide +kernel
theorem dX7_now_95 : decode cX7_now 95 = .ok (.iload_n 1, 1) := by decide +kernel
theorem dX7_now_96 : decode cX7_now 96 = .ok (.invokevirtual 196, 3) := by decide +kernel
theorem dX7_now_99 : decode cX7_now 99 = .ok (.ireturn, 1) := by decide +kernel
theorem dX7_now_100 : decode cX7_now 100 = .ok (.aload_n 0, 1) := by decide +kernel
theorem dX7_now_101 : decode cX7_now 101 = .ok (.getfield 19, 3) := by decide +kernel
theorem dX7_now_104 : decode cX7_now 104 = .ok (.aload_n 0, 1) := by decide +kernel
theorem dX7_now_105 : decode cX7_now 105 = .ok (.getfield 10, 3) := by decide +kernel
theorem dX7_now_108 : decode cX7_now 108 = .ok (.iload_n 1, 1) := by decide +kernel
theorem dX7_now_109 : decode cX7_now 109 = .ok (.invokevirtual 199, 3) := by decide +kernel
theorem dX7_now_112 : decode cX7_now 112 = .ok (.ireturn, 1) := by decide +kernel
theorem dX7_now_113 : decode cX7_now 113 = .ok (.aload_n 0, 1) := by decide +kernel
theorem dX7_now_114 : decode cX7_now 114 = .ok (.getfield 19, 3) := by decide +kernel
theorem dX7_now_117 : decode cX7_now 117 = .ok (.aload_n 0, 1) := by decide +kernel
theorem dX7_now_118 : decode cX7_now 118 = .ok (.getfield 10, 3) := by decide +kernel
theorem dX7_now_121 : decode cX7_now 121 = .ok (.iload_n 1, 1) := by decide +kernel
theorem dX7_now_122 : decode cX7_now 122 = .ok (.invokevirtual 202, 3) := by decide +kernel
theorem dX7_now_125 : decode cX7_now 125 = .ok (.ireturn, 1) := by decide +kernel
theorem dX7_now_126 : decode cX7_now 126 = .ok (.bipush (-2), 2) := by decide +kernel
theorem dX7_now_128 : decode cX7_now 128 = .ok (.ireturn, 1) := by decide +kernel
set_option maxRecDepth 20000 in
theorem ggX7_record_X2_kept : GoodIn wsX7_record wsX2_kept := goodIn_r _ [10, 11, 12, 13, 14, 15, 32, 33, 34, 35, 36] (by decide +kernel) (by decide +kernel)
set_option maxRecDepth 20000 in
theorem gX7_record_X2_kept : GoodIn wsX7_record (wsV RX7 205 RX2 yX2_kept wsX2_kept) := goodIn_app (goodIn_of _ (by decide +kernel)) ggX7_record_X2_kept
set_option maxRecDepth 20000 in
theorem ggX7_record_X7_isIndexOf : GoodIn wsX7_record wsX7_isIndexOf := goodIn_r _ [19] (by decide +kernel) (by decide +kernel)
set_option maxRecDepth 20000 in
theorem gX7_record_X7_isIndexOf : GoodIn wsX7_record (va_wsS RX7 59 yX7_isIndexOf wsX7_isIndexOf) := goodIn_app (goodIn_of _ (by decide +kernel)) ggX7_record_X7_isIndexOf
theorem dX7_record_0 : decode cX7_record 0 = .ok (.aload_n 0, 1) := by decide +kernel
theorem dX7_record_1 : decode cX7_record 1 = .ok (.getfield 10, 3) := by decide +kernel
theorem dX7_record_4 : decode cX7_record 4 = .ok (.getfield 129, 3) := by decide +kernel
theorem dX7_record_7 : decode cX7_record 7 = .ok (.astore_n 3, 1) := by decide +kernel
theorem dX7_record_8 : decode cX7_record 8 = .ok (.iload_n 1, 1) := by decide +kernel
theorem dX7_record_9 : decode cX7_record 9 = .ok (.aload_n 3, 1) := by decide +kernel
theorem dX7_record_10 : decode cX7_record 10 = .ok (.invokevirtual 205, 3) := by decide +kernel
theorem dX7_record_13 : decode cX7_record 13 = .ok (.invokestatic 59, 3) := by decide +kernel
theorem dX7_record_16 : decode cX7_record 16 = .ok (.ifCond .ne 5, 3) := by decide +kernel
theorem dX7_record_19 : decode cX7_record 19 = .ok (.iconst (-1), 1) := by decide +kernel
theorem dX7_record_20 : decode cX7_record 20 = .ok (.ireturn, 1) := by decide +kernel
theorem dX7_record_21 : decode cX7_record 21 = .ok (.iload_n 2, 1) := by decide +kernel
theorem dX7_record_22 : decode cX7_record 22 = .ok (.tableswitch 47 0 2 #[26, 33, 40], 26) := by decide +kernel
theorem dX7_record_48 : decode cX7_record 48 = .ok (.aload_n 3, 1) := by decide +kernel
theorem dX7_record_49 : decode cX7_record 49 = .ok (.getfield 209, 3) := by decide +kernel
theorem dX7_record_52 : decode cX7_record 52 = .ok (.iload_n 1, 1) := by decide +kernel
theorem dX7_record_53 : decode cX7_record 53 = .ok (.iaload, 1) := by decide +kernel
theorem dX7_record_54 : decode cX7_record 54 = .ok (.ireturn, 1) := by decide +kernel
theorem dX7_record_55 : decode cX7_record 55 = .ok (.aload_n 3, 1) := by decide +kernel
theorem dX7_record_56 : decode cX7_record 56 = .ok (.getfield 212, 3) := by decide +kernel
theorem dX7_record_59 : decode cX7_record 59 = .ok (.iload_n 1, 1) := by decide +kernel
theorem dX7_record_60 : decode cX7_record 60 = .ok (.iaload, 1) := by decide +kernel
theorem dX7_record_61 : decode cX7_record 61 = .ok (.ireturn, 1) := by decide +kernel
theorem dX7_record_62 : decode cX7_record 62 = .ok (.aload_n 3, 1) := by decide +kernel
theorem dX7_record_63 : decode cX7_record 63 = .ok (.getfield 215, 3) := by decide +kernel
theorem dX7_record_66 : decode cX7_record 66 = .ok (.iload_n 1, 1) := by decide +kernel
theorem dX7_record_67 : decode cX7_record 67 = .ok (.iaload, 1) := by decide +kernel
theorem dX7_record_68 : decode cX7_record 68 = .ok (.ireturn, 1) := by decide +kernel
theorem dX7_record_69 : decode cX7_record 69 = .ok (.bipush (-2), 2) := by decide +kernel
theorem dX7_record_71 : decode cX7_record 71 = .ok (.ireturn, 1) := by decide +kernel
set_option maxRecDepth 20000 in
theorem ggX7_sign_X7_isIndexOf : GoodIn wsX7_sign wsX7_isIndexOf := goodIn_r _ [7] (by decide +kernel) (by decide +kernel)
set_option maxRecDepth 20000 in
theorem gX7_sign_X7_isIndexOf : GoodIn wsX7_sign (va_wsS RX7 59 yX7_isIndexOf wsX7_isIndexOf) := goodIn_app (goodIn_of _ (by decide +kernel)) ggX7_sign_X7_isIndexOf
theorem dX7_sign_0 : decode cX7_sign 0 = .ok (.iload_n 1, 1) := by decide +kernel
theorem dX7_sign_1 : decode cX7_sign 1 = .ok (.aload_n 0, 1) := by decide +kernel
theorem dX7_sign_2 : decode cX7_sign 2 = .ok (.getfield 41, 3) := by decide +kernel
theorem dX7_sign_5 : decode cX7_sign 5 = .ok (.getfield 162, 3) := by decide +kernel
theorem dX7_sign_8 : decode cX7_sign 8 = .ok (.invokestatic 59, 3) := by decide +kernel
theorem dX7_sign_11 : decode cX7_sign 11 = .ok (.ifCond .eq 15, 3) := by decide +kernel
theorem dX7_sign_14 : decode cX7_sign 14 = .ok (.aload_n 0, 1) := by decide +kernel
theorem dX7_sign_15 : decode cX7_sign 15 = .ok (.getfield 41, 3) := by decide +kernel
theorem dX7_sign_18 : decode cX7_sign 18 = .ok (.getfield 218, 3) := by decide +kernel
theorem dX7_sign_21 : decode cX7_sign 21 = .ok (.iload_n 1, 1) := by decide +kernel
theorem dX7_sign_22 : decode cX7_sign 22 = .ok (.caload, 1) := by decide +kernel
theorem dX7_sign_23 : decode cX7_sign 23 = .ok (.goto 4, 3) := by decide +kernel
theorem dX7_sign_26 : decode cX7_sign 26 = .ok (.iconst (-1), 1) := by decide +kernel
theorem dX7_sign_27 : decode cX7_sign 27 = .ok (.ireturn, 1) := by decide +kernel
set_option maxRecDepth 20000 in
theorem ggX7_count_X5_peopleOfAll : GoodIn wsX7_count wsX5_peopleOfAll := goodIn_r _ [17, 18, 19, 101, 102, 103, 104, 105, 106] (by decide +kernel) (by decide +kernel)
set_option maxRecDepth 20000 in
theorem gX7_count_X5_peopleOfAll : GoodIn wsX7_count (wsV RX7 225 RX5 yX5_peopleOfAll wsX5_peopleOfAll) := goodIn_app (goodIn_of _ (by decide +kernel)) ggX7_count_X5_peopleOfAll
set_option maxRecDepth 20000 in
theorem ggX7_count_X7_hatsBy : GoodIn wsX7_count wsX7_hatsBy := goodIn_r _ [24, 25, 1, 2, 26, 27, 28, 29, 30, 31, 32, 33, 34, 35, 36, 37, 38, 39, 40, 41, 42, 43, 16, 44, 18, 45, 23, 46, 47, 48, 49, 50, 51, 52, 53, 54, 55, 56, 57, 58, 59, 60, 61, 62, 63, 64, 65, 66, 67, 68, 69, 70, 71, 89, 90, 91, 92, 93, 94, 95, 96, 97, 98, 99, 100, 101, 102, 103, 104, 105, 106, 118, 119, 120] (by decide +kernel) (by decide +kernel)
set_option maxRecDepth 20000 in
theorem gX7_count_X7_hatsBy : GoodIn wsX7_count (wsV RX7 228 RX7 yX7_hatsBy wsX7_hatsBy) := goodIn_app (goodIn_of _ (by decide +kernel)) ggX7_count_X7_hatsBy
set_option maxRecDepth 20000 in
theorem ggX7_count_X7_shelters : GoodIn wsX7_count wsX7_shelters := goodIn_r _ [75, 25, 1, 2, 3, 76, 77, 78, 29, 79, 61, 80, 81, 27, 28, 30, 31, 32, 33, 34, 35, 82, 37, 38, 39, 40, 41, 42, 43, 16, 44, 18, 45, 23, 46, 47, 48, 49, 50, 51, 52, 53, 54, 55, 56, 83, 63, 64, 65, 66, 67, 68, 69, 70, 71, 89, 90, 91, 92, 93, 94, 95, 96, 97, 98, 99, 100, 101, 102, 103, 104, 105, 106, 118, 119, 120] (by decide +kernel) (by decide +kernel)
set_option maxRecDepth 20000 in
theorem gX7_count_X7_shelters : GoodIn wsX7_count (wsV RX7 231 RX7 yX7_shelters wsX7_shelters) := goodIn_app (goodIn_of _ (by decide +kernel)) ggX7_count_X7_shelters
set_option maxRecDepth 20000 in
theorem ggX7_count_X7_calmest : GoodIn wsX7_count wsX7_calmest := goodIn_r _ [87, 25, 1, 2, 3, 88, 76, 77, 78, 29, 79, 61, 80, 81, 27, 28, 30, 31, 32, 33, 34, 35, 82, 37, 38, 39, 40, 41, 42, 43, 16, 44, 18, 45, 23, 46, 47, 48, 49, 50, 51, 52, 53, 54, 55, 56, 89, 90, 91, 92, 93, 94, 95, 96, 97, 98, 99, 100, 101, 102, 103, 104, 105, 106, 118, 119, 120] (by decide +kernel) (by decide +kernel)
set_option maxRecDepth 20000 in
theorem gX7_count_X7_calmest : GoodIn wsX7_count (wsV RX7 234 RX7 yX7_calmest wsX7_calmest) := goodIn_app (goodIn_of _ (by decide +kernel)) ggX7_count_X7_calmest
theorem dX7_count_0 : decode cX7_count 0 = .ok (.iload_n 1, 1) := by decide +kernel
theorem dX7_count_1 : decode cX7_count 1 = .ok (.tableswitch 201 0 13 #[71, 82, 90, 101, 112, 123, 135, 140, 145, 155, 165, 175, 185, 193], 71) := by decide +kernel
theorem dX7_count_72 : decode cX7_count 72 = .ok (.aload_n 0, 1) := by decide +kernel
theorem dX7_count_73 : decode cX7_count 73 = .ok (.getfield 10, 3) := by decide +kernel
theorem dX7_count_76 : decode cX7_count 76 = .ok (.getfield 84, 3) := by decide +kernel
theorem dX7_count_79 : decode cX7_count 79 = .ok (.getfield 98, 3) := by decide +kernel
theorem dX7_count_82 : decode cX7_count 82 = .ok (.ireturn, 1) := by decide +kernel
theorem dX7_count_83 : decode cX7_count 83 = .ok (.aload_n 0, 1) := by decide +kernel
theorem dX7_count_84 : decode cX7_count 84 = .ok (.getfield 10, 3) := by decide +kernel
theorem dX7_count_87 : decode cX7_count 87 = .ok (.getfield 126, 3) := by decide +kernel
theorem dX7_count_90 : decode cX7_count 90 = .ok (.ireturn, 1) := by decide +kernel
theorem dX7_count_91 : decode cX7_count 91 = .ok (.aload_n 0, 1) := by decide +kernel
theorem dX7_count_92 : decode cX7_count 92 = .ok (.getfield 10, 3) := by decide +kernel
theorem dX7_count_95 : decode cX7_count 95 = .ok (.getfield 129, 3) := by decide +kernel
theorem dX7_count_98 : decode cX7_count 98 = .ok (.getfield 133, 3) := by decide +kernel
theorem dX7_count_101 : decode cX7_count 101 = .ok (.ireturn, 1) := by decide +kernel
theorem dX7_count_102 : decode cX7_count 102 = .ok (.aload_n 0, 1) := by decide +kernel
theorem dX7_count_103 : decode cX7_count 103 = .ok (.getfield 10, 3) := by decide +kernel
theorem dX7_count_106 : decode cX7_count 106 = .ok (.getfield 129, 3) := by decide +kernel
theorem dX7_count_109 : decode cX7_count 109 = .ok (.getfield 222, 3) := by decide +kernel
theorem dX7_count_112 : decode cX7_count 112 = .ok (.ireturn, 1) := by decide +kernel
theorem dX7_count_113 : decode cX7_count 113 = .ok (.aload_n 0, 1) := by decide +kernel
theorem dX7_count_114 : decode cX7_count 114 = .ok (.getfield 10, 3) := by decide +kernel
theorem dX7_count_117 : decode cX7_count 117 = .ok (.getfield 84, 3) := by decide +kernel
theorem dX7_count_120 : decode cX7_count 120 = .ok (.invokevirtual 225, 3) := by decide +kernel
theorem dX7_count_123 : decode cX7_count 123 = .ok (.ireturn, 1) := by decide +kernel
theorem dX7_count_124 : decode cX7_count 124 = .ok (.aload_n 0, 1) := by decide +kernel
theorem dX7_count_125 : decode cX7_count 125 = .ok (.aload_n 0, 1) := by decide +kernel
theorem dX7_count_126 : decode cX7_count 126 = .ok (.getfield 10, 3) := by decide +kernel
theorem dX7_count_129 : decode cX7_count 129 = .ok (.getfield 126, 3) := by decide +kernel
theorem dX7_count_132 : decode cX7_count 132 = .ok (.invokevirtual 228, 3) := by decide +kernel
theorem dX7_count_135 : decode cX7_count 135 = .ok (.ireturn, 1) := by decide +kernel
theorem dX7_count_136 : decode cX7_count 136 = .ok (.aload_n 0, 1) := by decide +kernel
theorem dX7_count_137 : decode cX7_count 137 = .ok (.invokevirtual 231, 3) := by decide +kernel
theorem dX7_count_140 : decode cX7_count 140 = .ok (.ireturn, 1) := by decide +kernel
theorem dX7_count_141 : decode cX7_count 141 = .ok (.aload_n 0, 1) := by decide +kernel
theorem dX7_count_142 : decode cX7_count 142 = .ok (.invokevirtual 234, 3) := by decide +kernel
theorem dX7_count_145 : decode cX7_count 145 = .ok (.ireturn, 1) := by decide +kernel
theorem dX7_count_146 : decode cX7_count 146 = .ok (.aload_n 0, 1) := by decide +kernel
theorem dX7_count_147 : decode cX7_count 147 = .ok (.getfield 10, 3) := by decide +kernel
theorem dX7_count_150 : decode cX7_count 150 = .ok (.getfield 77, 3) := by decide +kernel
theorem dX7_count_153 : decode cX7_count 153 = .ok (.iconst 0, 1) := by decide +kernel
theorem dX7_count_154 : decode cX7_count 154 = .ok (.iaload, 1) := by decide +kernel
theorem dX7_count_155 : decode cX7_count 155 = .ok (.ireturn, 1) := by decide +kernel
theorem dX7_count_156 : decode cX7_count 156 = .ok (.aload_n 0, 1) := by decide +kernel
theorem dX7_count_157 : decode cX7_count 157 = .ok (.getfield 10, 3) := by decide +kernel
theorem dX7_count_160 : decode cX7_count 160 = .ok (.getfield 77, 3) := by decide +kernel
theorem dX7_count_163 : decode cX7_count 163 = .ok (.iconst 1, 1) := by decide +kernel
theorem dX7_count_164 : decode cX7_count 164 = .ok (.iaload, 1) := by decide +kernel
theorem dX7_count_165 : decode cX7_count 165 = .ok (.ireturn, 1) := by decide +kernel
theorem dX7_count_166 : decode cX7_count 166 = .ok (.aload_n 0, 1) := by decide +kernel
theorem dX7_count_167 : decode cX7_count 167 = .ok (.getfield 10, 3) := by decide +kernel
theorem dX7_count_170 : decode cX7_count 170 = .ok (.getfield 77, 3) := by decide +kernel
theorem dX7_count_173 : decode cX7_count 173 = .ok (.iconst 2, 1) := by decide +kernel
theorem dX7_count_174 : decode cX7_count 174 = .ok (.iaload, 1) := by decide +kernel
theorem dX7_count_175 : decode cX7_count 175 = .ok (.ireturn, 1) := by decide +kernel
theorem dX7_count_176 : decode cX7_count 176 = .ok (.aload_n 0, 1) := by decide +kernel
theorem dX7_count_177 : decode cX7_count 177 = .ok (.getfield 10, 3) := by decide +kernel
theorem dX7_count_180 : decode cX7_count 180 = .ok (.getfield 77, 3) := by decide +kernel
theorem dX7_count_183 : decode cX7_count 183 = .ok (.iconst 3, 1) := by decide +kernel
theorem dX7_count_184 : decode cX7_count 184 = .ok (.iaload, 1) := by decide +kernel
theorem dX7_count_185 : decode cX7_count 185 = .ok (.ireturn, 1) := by decide +kernel
theorem dX7_count_186 : decode cX7_count 186 = .ok (.aload_n 0, 1) := by decide +kernel
theorem dX7_count_187 : decode cX7_count 187 = .ok (.getfield 41, 3) := by decide +kernel
theorem dX7_count_190 : decode cX7_count 190 = .ok (.getfield 162, 3) := by decide +kernel
theorem dX7_count_193 : decode cX7_count 193 = .ok (.ireturn, 1) := by decide +kernel
theorem dX7_count_194 : decode cX7_count 194 = .ok (.aload_n 0, 1) := by decide +kernel
theorem dX7_count_195 : decode cX7_count 195 = .ok (.getfield 26, 3) := by decide +kernel
theorem dX7_count_198 : decode cX7_count 198 = .ok (.getfield 237, 3) := by decide +kernel
theorem dX7_count_201 : decode cX7_count 201 = .ok (.ireturn, 1) := by decide +kernel
theorem dX7_count_202 : decode cX7_count 202 = .ok (.bipush (-2), 2) := by decide +kernel
theorem dX7_count_204 : decode cX7_count 204 = .ok (.ireturn, 1) := by decide +kernel
set_option maxRecDepth 20000 in
theorem ggX7_ifWind_X7_isForce : GoodIn wsX7_ifWind wsX7_isForce := goodIn_r _ [4, 5, 6, 3, 7] (by decide +kernel) (by decide +kernel)
set_option maxRecDepth 20000 in
theorem gX7_ifWind_X7_isForce : GoodIn wsX7_ifWind (va_wsS RX7 123 yX7_isForce wsX7_isForce) := goodIn_app (goodIn_of _ (by decide +kernel)) ggX7_ifWind_X7_isForce
set_option maxRecDepth 20000 in
theorem ggX7_ifWind_X7_hatsBy : GoodIn wsX7_ifWind wsX7_hatsBy := goodIn_r _ [11, 12, 13, 14, 15, 16, 17, 18, 19, 20, 21, 22, 23, 24, 25, 26, 27, 28, 29, 30, 31, 32, 33, 34, 35, 36, 3, 37, 38, 39, 40, 41, 42, 43, 44, 45, 46, 47, 48, 49, 50, 51, 52, 53, 54, 55, 56, 57, 58, 59, 60, 61, 62, 63, 64, 65, 66, 67, 68, 69, 70, 71, 72, 73, 74, 75, 76, 77, 78, 79, 80, 81, 82, 83] (by decide +kernel) (by decide +kernel)
set_option maxRecDepth 20000 in
theorem gX7_ifWind_X7_hatsBy : GoodIn wsX7_ifWind (wsV RX7 228 RX7 yX7_hatsBy wsX7_hatsBy) := goodIn_app (goodIn_of _ (by decide +kernel)) ggX7_ifWind_X7_hatsBy
theorem dX7_ifWind_0 : decode cX7_ifWind 0 = .ok (.iload_n 1, 1) := by decide +kernel
theorem dX7_ifWind_1 : decode cX7_ifWind 1 = .ok (.invokestatic 123, 3) := by decide +kernel
theorem dX7_ifWind_4 : decode cX7_ifWind 4 = .ok (.ifCond .eq 11, 3) := by decide +kernel
theorem dX7_ifWind_7 : decode cX7_ifWind 7 = .ok (.aload_n 0, 1) := by decide +kernel
theorem dX7_ifWind_8 : decode cX7_ifWind 8 = .ok (.iload_n 1, 1) := by decide +kernel
theorem dX7_ifWind_9 : decode cX7_ifWind 9 = .ok (.invokevirtual 228, 3) := by decide +kernel
theorem dX7_ifWind_12 : decode cX7_ifWind 12 = .ok (.goto 5, 3) := by decide +kernel
theorem dX7_ifWind_15 : decode cX7_ifWind 15 = .ok (.bipush (-2), 2) := by decide +kernel
theorem dX7_ifWind_17 : decode cX7_ifWind 17 = .ok (.ireturn, 1) := by decide +kernel
set_option maxRecDepth 20000 in
theorem ggX7_windFor_X7_isWithin : GoodIn wsX7_windFor wsX7_isWithin := goodIn_r _ [7] (by decide +kernel) (by decide +kernel)
set_option maxRecDepth 20000 in
theorem gX7_windFor_X7_isWithin : GoodIn wsX7_windFor (va_wsS RX7 69 yX7_isWithin wsX7_isWithin) := goodIn_app (goodIn_of _ (by decide +kernel)) ggX7_windFor_X7_isWithin
set_option maxRecDepth 20000 in
theorem ggX7_windFor_X0_part : GoodIn wsX7_windFor wsX0_part := goodIn_r _ [12, 13, 14, 15, 16, 17, 68, 69, 70, 71, 72, 73, 74, 75, 76] (by decide +kernel) (by decide +kernel)
set_option maxRecDepth 20000 in
theorem gX7_windFor_X0_part : GoodIn wsX7_windFor (wsV RX7 238 RX0 yX0_part wsX0_part) := goodIn_app (goodIn_of _ (by decide +kernel)) ggX7_windFor_X0_part
set_option maxRecDepth 20000 in
theorem ggX7_windFor_X0_blow : GoodIn wsX7_windFor wsX0_blow := goodIn_r _ [21, 13, 16, 22, 23, 24, 25, 26, 27, 28, 29, 6, 30, 31, 32, 33, 11, 34, 17, 14, 15, 35, 36, 37, 38, 39, 40, 68, 69, 70, 71, 72, 73, 74, 75, 76] (by decide +kernel) (by decide +kernel)
set_option maxRecDepth 20000 in
theorem gX7_windFor_X0_blow : GoodIn wsX7_windFor (wsV RX7 242 RX0 yX0_blow wsX0_blow) := goodIn_app (goodIn_of _ (by decide +kernel)) ggX7_windFor_X0_blow
set_option maxRecDepth 20000 in
theorem ggX7_windFor_X0_hatsLost : GoodIn wsX7_windFor wsX0_hatsLost := goodIn_r _ [44, 45, 13, 46, 47, 48, 11, 49, 50, 51, 35, 36, 37, 38, 52, 53, 54, 55, 22, 64, 65, 66, 67, 68, 69, 70, 71, 72, 73, 74, 75, 76] (by decide +kernel) (by decide +kernel)
set_option maxRecDepth 20000 in
theorem gX7_windFor_X0_hatsLost : GoodIn wsX7_windFor (wsV RX7 141 RX0 yX0_hatsLost wsX0_hatsLost) := goodIn_app (goodIn_of _ (by decide +kernel)) ggX7_windFor_X0_hatsLost
theorem dX7_windFor_0 : decode cX7_windFor 0 = .ok (.iload_n 1, 1) := by decide +kernel
theorem dX7_windFor_1 : decode cX7_windFor 1 = .ok (.iconst 1, 1) := by decide +kernel
theorem dX7_windFor_2 : decode cX7_windFor 2 = .ok (.sipush 999, 3) := by decide +kernel
theorem dX7_windFor_5 : decode cX7_windFor 5 = .ok (.invokestatic 69, 3) := by decide +kernel
theorem dX7_windFor_8 : decode cX7_windFor 8 = .ok (.ifCond .ne 6, 3) := by decide +kernel
theorem dX7_windFor_11 : decode cX7_windFor 11 = .ok (.bipush (-2), 2) := by decide +kernel
theorem dX7_windFor_13 : decode cX7_windFor 13 = .ok (.ireturn, 1) := by decide +kernel
theorem dX7_windFor_14 : decode cX7_windFor 14 = .ok (.aload_n 0, 1) := by decide +kernel
theorem dX7_windFor_15 : decode cX7_windFor 15 = .ok (.getfield 19, 3) := by decide +kernel
theorem dX7_windFor_18 : decode cX7_windFor 18 = .ok (.aload_n 0, 1) := by decide +kernel
theorem dX7_windFor_19 : decode cX7_windFor 19 = .ok (.getfield 10, 3) := by decide +kernel
theorem dX7_windFor_22 : decode cX7_windFor 22 = .ok (.getfield 84, 3) := by decide +kernel
theorem dX7_windFor_25 : decode cX7_windFor 25 = .ok (.bipush (-6), 2) := by decide +kernel
theorem dX7_windFor_27 : decode cX7_windFor 27 = .ok (.invokevirtual 238, 3) := by decide +kernel
theorem dX7_windFor_30 : decode cX7_windFor 30 = .ok (.iconst 0, 1) := by decide +kernel
theorem dX7_windFor_31 : decode cX7_windFor 31 = .ok (.istore_n 2, 1) := by decide +kernel
theorem dX7_windFor_32 : decode cX7_windFor 32 = .ok (.iload_n 2, 1) := by decide +kernel
theorem dX7_windFor_33 : decode cX7_windFor 33 = .ok (.sipush 200, 3) := by decide +kernel
theorem dX7_windFor_36 : decode cX7_windFor 36 = .ok (.if_icmp .gt 41, 3) := by decide +kernel
theorem dX7_windFor_39 : decode cX7_windFor 39 = .ok (.aload_n 0, 1) := by decide +kernel
theorem dX7_windFor_40 : decode cX7_windFor 40 = .ok (.getfield 19, 3) := by decide +kernel
theorem dX7_windFor_43 : decode cX7_windFor 43 = .ok (.aload_n 0, 1) := by decide +kernel
theorem dX7_windFor_44 : decode cX7_windFor 44 = .ok (.getfield 10, 3) := by decide +kernel
theorem dX7_windFor_47 : decode cX7_windFor 47 = .ok (.getfield 84, 3) := by decide +kernel
theorem dX7_windFor_50 : decode cX7_windFor 50 = .ok (.iload_n 2, 1) := by decide +kernel
theorem dX7_windFor_51 : decode cX7_windFor 51 = .ok (.invokevirtual 242, 3) := by decide +kernel
theorem dX7_windFor_54 : decode cX7_windFor 54 = .ok (.aload_n 0, 1) := by decide +kernel
theorem dX7_windFor_55 : decode cX7_windFor 55 = .ok (.getfield 19, 3) := by decide +kernel
theorem dX7_windFor_58 : decode cX7_windFor 58 = .ok (.aload_n 0, 1) := by decide +kernel
theorem dX7_windFor_59 : decode cX7_windFor 59 = .ok (.getfield 10, 3) := by decide +kernel
theorem dX7_windFor_62 : decode cX7_windFor 62 = .ok (.invokevirtual 141, 3) := by decide +kernel
theorem dX7_windFor_65 : decode cX7_windFor 65 = .ok (.iload_n 1, 1) := by decide +kernel
theorem dX7_windFor_66 : decode cX7_windFor 66 = .ok (.if_icmp .lt 5, 3) := by decide +kernel
theorem dX7_windFor_69 : decode cX7_windFor 69 = .ok (.iload_n 2, 1) := by decide +kernel
theorem dX7_windFor_70 : decode cX7_windFor 70 = .ok (.ireturn, 1) := by decide +kernel
theorem dX7_windFor_71 : decode cX7_windFor 71 = .ok (.iinc 2 1, 3) := by decide +kernel
theorem dX7_windFor_74 : decode cX7_windFor 74 = .ok (.goto (-42), 3) := by decide +kernel
theorem dX7_windFor_77 : decode cX7_windFor 77 = .ok (.bipush (-6), 2) := by decide +kernel
theorem dX7_windFor_79 : decode cX7_windFor 79 = .ok (.ireturn, 1) := by decide +kernel
set_option maxRecDepth 20000 in
theorem ggX7_windOfFlag_X5_has : GoodIn wsX7_windOfFlag wsX5_has := goodIn_r _ [9, 10, 11, 12, 13, 62, 63, 64, 65, 66, 67] (by decide +kernel) (by decide +kernel)
set_option maxRecDepth 20000 in
theorem gX7_windOfFlag_X5_has : GoodIn wsX7_windOfFlag (wsV RX7 102 RX5 yX5_has wsX5_has) := goodIn_app (goodIn_of _ (by decide +kernel)) ggX7_windOfFlag_X5_has
set_option maxRecDepth 20000 in
theorem ggX7_windOfFlag_X7_isWithin : GoodIn wsX7_windOfFlag wsX7_isWithin := goodIn_r _ [16] (by decide +kernel) (by decide +kernel)
set_option maxRecDepth 20000 in
theorem gX7_windOfFlag_X7_isWithin : GoodIn wsX7_windOfFlag (va_wsS RX7 69 yX7_isWithin wsX7_isWithin) := goodIn_app (goodIn_of _ (by decide +kernel)) ggX7_windOfFlag_X7_isWithin
set_option maxRecDepth 20000 in
theorem ggX7_windOfFlag_X0_part : GoodIn wsX7_windOfFlag wsX0_part := goodIn_r _ [21, 22, 23, 24, 25, 26, 62, 63, 64, 65, 66, 67, 68, 69, 70] (by decide +kernel) (by decide +kernel)
set_option maxRecDepth 20000 in
theorem gX7_windOfFlag_X0_part : GoodIn wsX7_windOfFlag (wsV RX7 238 RX0 yX0_part wsX0_part) := goodIn_app (goodIn_of _ (by decide +kernel)) ggX7_windOfFlag_X0_part
set_option maxRecDepth 20000 in
theorem ggX7_windOfFlag_X0_blow : GoodIn wsX7_windOfFlag wsX0_blow := goodIn_r _ [30, 22, 25, 31, 32, 6, 7, 8, 9, 10, 11, 12, 13, 33, 34, 35, 20, 36, 26, 23, 24, 37, 38, 39, 40, 41, 42, 62, 63, 64, 65, 66, 67, 68, 69, 70] (by decide +kernel) (by decide +kernel)
set_option maxRecDepth 20000 in
theorem gX7_windOfFlag_X0_blow : GoodIn wsX7_windOfFlag (wsV RX7 242 RX0 yX0_blow wsX0_blow) := goodIn_app (goodIn_of _ (by decide +kernel)) ggX7_windOfFlag_X0_blow
set_option maxRecDepth 20000 in
theorem ggX7_windOfFlag_X0_flagSteps : GoodIn wsX7_windOfFlag wsX0_flagSteps := goodIn_r _ [46, 47, 48, 31, 49, 37, 38, 39, 40, 41, 12, 42, 58, 59, 60, 61, 62, 63, 64, 65, 66, 67, 68, 69, 70] (by decide +kernel) (by decide +kernel)
set_option maxRecDepth 20000 in
theorem gX7_windOfFlag_X0_flagSteps : GoodIn wsX7_windOfFlag (wsV RX7 196 RX0 yX0_flagSteps wsX0_flagSteps) := goodIn_app (goodIn_of _ (by decide +kernel)) ggX7_windOfFlag_X0_flagSteps
theorem dX7_windOfFlag_0 : decode cX7_windOfFlag 0 = .ok (.aload_n 0, 1) := by decide +kernel
theorem dX7_windOfFlag_1 : decode cX7_windOfFlag 1 = .ok (.getfield 10, 3) := by decide +kernel
theorem dX7_windOfFlag_4 : decode cX7_windOfFlag 4 = .ok (.getfield 84, 3) := by decide +kernel
theorem dX7_windOfFlag_7 : decode cX7_windOfFlag 7 = .ok (.iload_n 1, 1) := by decide +kernel
theorem dX7_windOfFlag_8 : decode cX7_windOfFlag 8 = .ok (.invokevirtual 102, 3) := by decide +kernel
theorem dX7_windOfFlag_11 : decode cX7_windOfFlag 11 = .ok (.ifCond .ne 5, 3) := by decide +kernel
theorem dX7_windOfFlag_14 : decode cX7_windOfFlag 14 = .ok (.iconst (-1), 1) := by decide +kernel
theorem dX7_windOfFlag_15 : decode cX7_windOfFlag 15 = .ok (.ireturn, 1) := by decide +kernel
theorem dX7_windOfFlag_16 : decode cX7_windOfFlag 16 = .ok (.iload_n 2, 1) := by decide +kernel
theorem dX7_windOfFlag_17 : decode cX7_windOfFlag 17 = .ok (.iconst 1, 1) := by decide +kernel
theorem dX7_windOfFlag_18 : decode cX7_windOfFlag 18 = .ok (.bipush 12, 2) := by decide +kernel
theorem dX7_windOfFlag_20 : decode cX7_windOfFlag 20 = .ok (.invokestatic 69, 3) := by decide +kernel
theorem dX7_windOfFlag_23 : decode cX7_windOfFlag 23 = .ok (.ifCond .ne 6, 3) := by decide +kernel
theorem dX7_windOfFlag_26 : decode cX7_windOfFlag 26 = .ok (.bipush (-2), 2) := by decide +kernel
theorem dX7_windOfFlag_28 : decode cX7_windOfFlag 28 = .ok (.ireturn, 1) := by decide +kernel
theorem dX7_windOfFlag_29 : decode cX7_windOfFlag 29 = .ok (.aload_n 0, 1) := by decide +kernel
theorem dX7_windOfFlag_30 : decode cX7_windOfFlag 30 = .ok (.getfield 10, 3) := by decide +kernel
theorem dX7_windOfFlag_33 : decode cX7_windOfFlag 33 = .ok (.getfield 84, 3) := by decide +kernel
theorem dX7_windOfFlag_36 : decode cX7_windOfFlag 36 = .ok (.getfield 171, 3) := by decide +kernel
theorem dX7_windOfFlag_39 : decode cX7_windOfFlag 39 = .ok (.iload_n 1, 1) := by decide +kernel
theorem dX7_windOfFlag_40 : decode cX7_windOfFlag 40 = .ok (.iaload, 1) := by decide +kernel
theorem dX7_windOfFlag_41 : decode cX7_windOfFlag 41 = .ok (.ifCond .ne 6, 3) := by decide +kernel
theorem dX7_windOfFlag_44 : decode cX7_windOfFlag 44 = .ok (.bipush (-5), 2) := by decide +kernel
theorem dX7_windOfFlag_46 : decode cX7_windOfFlag 46 = .ok (.ireturn, 1) := by decide +kernel
theorem dX7_windOfFlag_47 : decode cX7_windOfFlag 47 = .ok (.aload_n 0, 1) := by decide +kernel
theorem dX7_windOfFlag_48 : decode cX7_windOfFlag 48 = .ok (.getfield 19, 3) := by decide +kernel
theorem dX7_windOfFlag_51 : decode cX7_windOfFlag 51 = .ok (.aload_n 0, 1) := by decide +kernel
theorem dX7_windOfFlag_52 : decode cX7_windOfFlag 52 = .ok (.getfield 10, 3) := by decide +kernel
theorem dX7_windOfFlag_55 : decode cX7_windOfFlag 55 = .ok (.getfield 84, 3) := by decide +kernel
theorem dX7_windOfFlag_58 : decode cX7_windOfFlag 58 = .ok (.bipush (-6), 2) := by decide +kernel
theorem dX7_windOfFlag_60 : decode cX7_windOfFlag 60 = .ok (.invokevirtual 238, 3) := by decide +kernel
theorem dX7_windOfFlag_63 : decode cX7_windOfFlag 63 = .ok (.iconst 0, 1) := by decide +kernel
theorem dX7_windOfFlag_64 : decode cX7_windOfFlag 64 = .ok (.istore_n 3, 1) := by decide +kernel
theorem dX7_windOfFlag_65 : decode cX7_windOfFlag 65 = .ok (.iload_n 3, 1) := by decide +kernel
theorem dX7_windOfFlag_66 : decode cX7_windOfFlag 66 = .ok (.sipush 200, 3) := by decide +kernel
theorem dX7_windOfFlag_69 : decode cX7_windOfFlag 69 = .ok (.if_icmp .gt 42, 3) := by decide +kernel
theorem dX7_windOfFlag_72 : decode cX7_windOfFlag 72 = .ok (.aload_n 0, 1) := by decide +kernel
theorem dX7_windOfFlag_73 : decode cX7_windOfFlag 73 = .ok (.getfield 19, 3) := by decide +kernel
theorem dX7_windOfFlag_76 : decode cX7_windOfFlag 76 = .ok (.aload_n 0, 1) := by decide +kernel
theorem dX7_windOfFlag_77 : decode cX7_windOfFlag 77 = .ok (.getfield 10, 3) := by decide +kernel
theorem dX7_windOfFlag_80 : decode cX7_windOfFlag 80 = .ok (.getfield 84, 3) := by decide +kernel
theorem dX7_windOfFlag_83 : decode cX7_windOfFlag 83 = .ok (.iload_n 3, 1) := by decide +kernel
theorem dX7_windOfFlag_84 : decode cX7_windOfFlag 84 = .ok (.invokevirtual 242, 3) := by decide +kernel
theorem dX7_windOfFlag_87 : decode cX7_windOfFlag 87 = .ok (.aload_n 0, 1) := by decide +kernel
theorem dX7_windOfFlag_88 : decode cX7_windOfFlag 88 = .ok (.getfield 19, 3) := by decide +kernel
theorem dX7_windOfFlag_91 : decode cX7_windOfFlag 91 = .ok (.aload_n 0, 1) := by decide +kernel
theorem dX7_windOfFlag_92 : decode cX7_windOfFlag 92 = .ok (.getfield 10, 3) := by decide +kernel
theorem dX7_windOfFlag_95 : decode cX7_windOfFlag 95 = .ok (.iload_n 1, 1) := by decide +kernel
theorem dX7_windOfFlag_96 : decode cX7_windOfFlag 96 = .ok (.invokevirtual 196, 3) := by decide +kernel
theorem dX7_windOfFlag_99 : decode cX7_windOfFlag 99 = .ok (.iload_n 2, 1) := by decide +kernel
theorem dX7_windOfFlag_100 : decode cX7_windOfFlag 100 = .ok (.if_icmp .lt 5, 3) := by decide +kernel
theorem dX7_windOfFlag_103 : decode cX7_windOfFlag 103 = .ok (.iload_n 3, 1) := by decide +kernel
theorem dX7_windOfFlag_104 : decode cX7_windOfFlag 104 = .ok (.ireturn, 1) := by decide +kernel
theorem dX7_windOfFlag_105 : decode cX7_windOfFlag 105 = .ok (.iinc 3 1, 3) := by decide +kernel
theorem dX7_windOfFlag_108 : decode cX7_windOfFlag 108 = .ok (.goto (-43), 3) := by decide +kernel
theorem dX7_windOfFlag_111 : decode cX7_windOfFlag 111 = .ok (.bipush (-6), 2) := by decide +kernel
theorem dX7_windOfFlag_113 : decode cX7_windOfFlag 113 = .ok (.ireturn, 1) := by decide +kernel
set_option maxRecDepth 20000 in
theorem ggX7_without_X5_has : GoodIn wsX7_without wsX5_has := goodIn_r _ [11, 12, 13, 14, 15, 62, 63, 64, 65, 66, 67] (by decide +kernel) (by decide +kernel)
set_option maxRecDepth 20000 in
theorem gX7_without_X5_has : GoodIn wsX7_without (wsV RX7 102 RX5 yX5_has wsX5_has) := goodIn_app (goodIn_of _ (by decide +kernel)) ggX7_without_X5_has
set_option maxRecDepth 20000 in
theorem ggX7_without_X0_blowIn : GoodIn wsX7_without wsX0_blowIn := goodIn_r _ [20, 21, 22, 23, 24, 25, 19, 26, 27, 28, 29, 30, 31, 32, 33, 34, 35, 36, 37, 8, 9, 10, 11, 12, 13, 14, 15, 38, 39, 40, 41, 42, 43, 44, 45, 46, 47, 58, 59, 60, 61, 62, 63, 64, 65, 66, 67, 68, 69, 70] (by decide +kernel) (by decide +kernel)
set_option maxRecDepth 20000 in
theorem gX7_without_X0_blowIn : GoodIn wsX7_without (wsV RX7 138 RX0 yX0_blowIn wsX0_blowIn) := goodIn_app (goodIn_of _ (by decide +kernel)) ggX7_without_X0_blowIn
set_option maxRecDepth 20000 in
theorem ggX7_without_X0_part : GoodIn wsX7_without wsX0_part := goodIn_r _ [26, 27, 28, 29, 30, 31, 62, 63, 64, 65, 66, 67, 68, 69, 70] (by decide +kernel) (by decide +kernel)
set_option maxRecDepth 20000 in
theorem gX7_without_X0_part : GoodIn wsX7_without (wsV RX7 238 RX0 yX0_part wsX0_part) := goodIn_app (goodIn_of _ (by decide +kernel)) ggX7_without_X0_part
set_option maxRecDepth 20000 in
theorem ggX7_without_X0_blow : GoodIn wsX7_without wsX0_blow := goodIn_r _ [35, 27, 30, 36, 37, 8, 9, 10, 11, 12, 13, 14, 15, 38, 39, 40, 19, 41, 31, 28, 29, 42, 43, 44, 45, 46, 47, 62, 63, 64, 65, 66, 67, 68, 69, 70] (by decide +kernel) (by decide +kernel)
set_option maxRecDepth 20000 in
theorem gX7_without_X0_blow : GoodIn wsX7_without (wsV RX7 242 RX0 yX0_blow wsX0_blow) := goodIn_app (goodIn_of _ (by decide +kernel)) ggX7_without_X0_blow
theorem dX7_without_0 : decode cX7_without 0 = .ok (.aload_n 0, 1) := by decide +kernel
theorem dX7_without_1 : decode cX7_without 1 = .ok (.getfield 10, 3) := by decide +kernel
theorem dX7_without_4 : decode cX7_without 4 = .ok (.getfield 84, 3) := by decide +kernel
theorem dX7_without_7 : decode cX7_without 7 = .ok (.astore_n 3, 1) := by decide +kernel
theorem dX7_without_8 : decode cX7_without 8 = .ok (.aload_n 3, 1) := by decide +kernel
theorem dX7_without_9 : decode cX7_without 9 = .ok (.iload_n 1, 1) := by decide +kernel
theorem dX7_without_10 : decode cX7_without 10 = .ok (.invokevirtual 102, 3) := by decide +kernel
theorem dX7_without_13 : decode cX7_without 13 = .ok (.ifCond .eq 11, 3) := by decide +kernel
theorem dX7_without_16 : decode cX7_without 16 = .ok (.aload_n 3, 1) := by decide +kernel
theorem dX7_without_17 : decode cX7_without 17 = .ok (.iload_n 2, 1) := by decide +kernel
theorem dX7_without_18 : decode cX7_without 18 = .ok (.invokevirtual 102, 3) := by decide +kernel
theorem dX7_without_21 : decode cX7_without 21 = .ok (.ifCond .ne 5, 3) := by decide +kernel
theorem dX7_without_24 : decode cX7_without 24 = .ok (.iconst (-1), 1) := by decide +kernel
theorem dX7_without_25 : decode cX7_without 25 = .ok (.ireturn, 1) := by decide +kernel
theorem dX7_without_26 : decode cX7_without 26 = .ok (.iload_n 1, 1) := by decide +kernel
theorem dX7_without_27 : decode cX7_without 27 = .ok (.iload_n 2, 1) := by decide +kernel
theorem dX7_without_28 : decode cX7_without 28 = .ok (.if_icmp .eq 18, 3) := by decide +kernel
theorem dX7_without_31 : decode cX7_without 31 = .ok (.aload_n 3, 1) := by decide +kernel
theorem dX7_without_32 : decode cX7_without 32 = .ok (.getfield 165, 3) := by decide +kernel
theorem dX7_without_35 : decode cX7_without 35 = .ok (.iload_n 1, 1) := by decide +kernel
theorem dX7_without_36 : decode cX7_without 36 = .ok (.iaload, 1) := by decide +kernel
theorem dX7_without_37 : decode cX7_without 37 = .ok (.aload_n 3, 1) := by decide +kernel
theorem dX7_without_38 : decode cX7_without 38 = .ok (.getfield 165, 3) := by decide +kernel
theorem dX7_without_41 : decode cX7_without 41 = .ok (.iload_n 2, 1) := by decide +kernel
theorem dX7_without_42 : decode cX7_without 42 = .ok (.iaload, 1) := by decide +kernel
theorem dX7_without_43 : decode cX7_without 43 = .ok (.if_icmp .eq 6, 3) := by decide +kernel
theorem dX7_without_46 : decode cX7_without 46 = .ok (.bipush (-5), 2) := by decide +kernel
theorem dX7_without_48 : decode cX7_without 48 = .ok (.ireturn, 1) := by decide +kernel
theorem dX7_without_49 : decode cX7_without 49 = .ok (.aload_n 0, 1) := by decide +kernel
theorem dX7_without_50 : decode cX7_without 50 = .ok (.getfield 19, 3) := by decide +kernel
theorem dX7_without_53 : decode cX7_without 53 = .ok (.aload_n 0, 1) := by decide +kernel
theorem dX7_without_54 : decode cX7_without 54 = .ok (.getfield 10, 3) := by decide +kernel
theorem dX7_without_57 : decode cX7_without 57 = .ok (.invokevirtual 138, 3) := by decide +kernel
theorem dX7_without_60 : decode cX7_without 60 = .ok (.aload_n 0, 1) := by decide +kernel
theorem dX7_without_61 : decode cX7_without 61 = .ok (.getfield 19, 3) := by decide +kernel
theorem dX7_without_64 : decode cX7_without 64 = .ok (.getfield 190, 3) := by decide +kernel
theorem dX7_without_67 : decode cX7_without 67 = .ok (.iload_n 1, 1) := by decide +kernel
theorem dX7_without_68 : decode cX7_without 68 = .ok (.iaload, 1) := by decide +kernel
theorem dX7_without_69 : decode cX7_without 69 = .ok (.istore 4, 2) := by decide +kernel
theorem dX7_without_71 : decode cX7_without 71 = .ok (.aload_n 0, 1) := by decide +kernel
theorem dX7_without_72 : decode cX7_without 72 = .ok (.getfield 19, 3) := by decide +kernel
theorem dX7_without_75 : decode cX7_without 75 = .ok (.aload_n 3, 1) := by decide +kernel
theorem dX7_without_76 : decode cX7_without 76 = .ok (.iload_n 2, 1) := by decide +kernel
theorem dX7_without_77 : decode cX7_without 77 = .ok (.invokevirtual 238, 3) := by decide +kernel
theorem dX7_without_80 : decode cX7_without 80 = .ok (.aload_n 0, 1) := by decide +kernel
theorem dX7_without_81 : decode cX7_without 81 = .ok (.getfield 19, 3) := by decide +kernel
theorem dX7_without_84 : decode cX7_without 84 = .ok (.aload_n 3, 1) := by decide +kernel
theorem dX7_without_85 : decode cX7_without 85 = .ok (.aload_n 0, 1) := by decide +kernel
theorem dX7_without_86 : decode cX7_without 86 = .ok (.getfield 10, 3) := by decide +kernel
theorem dX7_without_89 : decode cX7_without 89 = .ok (.getfield 126, 3) := by decide +kernel
theorem dX7_without_92 : decode cX7_without 92 = .ok (.invokevirtual 242, 3) := by decide +kernel
theorem dX7_without_95 : decode cX7_without 95 = .ok (.aload_n 0, 1) := by decide +kernel
theorem dX7_without_96 : decode cX7_without 96 = .ok (.getfield 19, 3) := by decide +kernel
theorem dX7_without_99 : decode cX7_without 99 = .ok (.getfield 190, 3) := by decide +kernel
theorem dX7_without_102 : decode cX7_without 102 = .ok (.iload_n 1, 1) := by decide +kernel
theorem dX7_without_103 : decode cX7_without 103 = .ok (.iaload, 1) := by decide +kernel
theorem dX7_without_104 : decode cX7_without 104 = .ok (.iload 4, 2) := by decide +kernel
theorem dX7_without_106 : decode cX7_without 106 = .ok (.isub, 1) := by decide +kernel
theorem dX7_without_107 : decode cX7_without 107 = .ok (.sipush 500, 3) := by decide +kernel
theorem dX7_without_110 : decode cX7_without 110 = .ok (.iadd, 1) := by decide +kernel
theorem dX7_without_111 : decode cX7_without 111 = .ok (.ireturn, 1) := by decide +kernel
set_option maxRecDepth 20000 in
theorem ggX7_windiest_X0_blowIn : GoodIn wsX7_windiest wsX0_blowIn := goodIn_r _ [10, 11, 12, 13, 14, 15, 9, 16, 17, 18, 19, 20, 21, 22, 23, 24, 25, 26, 27, 28, 29, 30, 31, 32, 33, 34, 35, 36, 37, 38, 39, 40, 41, 42, 43, 44, 45, 59, 60, 61, 62, 63, 64, 65, 66, 67, 68, 69, 70, 71] (by decide +kernel) (by decide +kernel)
set_option maxRecDepth 20000 in
theorem gX7_windiest_X0_blowIn : GoodIn wsX7_windiest (wsV RX7 138 RX0 yX0_blowIn wsX0_blowIn) := goodIn_app (goodIn_of _ (by decide +kernel)) ggX7_windiest_X0_blowIn
set_option maxRecDepth 20000 in
theorem ggX7_windiest_X5_branchesOff : GoodIn wsX7_windiest wsX5_branchesOff := goodIn_r _ [49, 32, 50, 63, 64, 65, 66, 67, 68] (by decide +kernel) (by decide +kernel)
set_option maxRecDepth 20000 in
theorem gX7_windiest_X5_branchesOff : GoodIn wsX7_windiest (wsV RX7 180 RX5 yX5_branchesOff wsX5_branchesOff) := goodIn_app (goodIn_of _ (by decide +kernel)) ggX7_windiest_X5_branchesOff
theorem dX7_windiest_0 : decode cX7_windiest 0 = .ok (.aload_n 0, 1) := by decide +kernel
theorem dX7_windiest_1 : decode cX7_windiest 1 = .ok (.getfield 19, 3) := by decide +kernel
theorem dX7_windiest_4 : decode cX7_windiest 4 = .ok (.aload_n 0, 1) := by decide +kernel
theorem dX7_windiest_5 : decode cX7_windiest 5 = .ok (.getfield 10, 3) := by decide +kernel
theorem dX7_windiest_8 : decode cX7_windiest 8 = .ok (.invokevirtual 138, 3) := by decide +kernel
theorem dX7_windiest_11 : decode cX7_windiest 11 = .ok (.bipush (-6), 2) := by decide +kernel
theorem dX7_windiest_13 : decode cX7_windiest 13 = .ok (.istore_n 1, 1) := by decide +kernel
theorem dX7_windiest_14 : decode cX7_windiest 14 = .ok (.iconst 0, 1) := by decide +kernel
theorem dX7_windiest_15 : decode cX7_windiest 15 = .ok (.istore_n 2, 1) := by decide +kernel
theorem dX7_windiest_16 : decode cX7_windiest 16 = .ok (.iload_n 2, 1) := by decide +kernel
theorem dX7_windiest_17 : decode cX7_windiest 17 = .ok (.aload_n 0, 1) := by decide +kernel
theorem dX7_windiest_18 : decode cX7_windiest 18 = .ok (.getfield 10, 3) := by decide +kernel
theorem dX7_windiest_21 : decode cX7_windiest 21 = .ok (.getfield 84, 3) := by decide +kernel
theorem dX7_windiest_24 : decode cX7_windiest 24 = .ok (.getfield 98, 3) := by decide +kernel
theorem dX7_windiest_27 : decode cX7_windiest 27 = .ok (.if_icmp .ge 62, 3) := by decide +kernel
theorem dX7_windiest_30 : decode cX7_windiest 30 = .ok (.aload_n 0, 1) := by decide +kernel
theorem dX7_windiest_31 : decode cX7_windiest 31 = .ok (.getfield 10, 3) := by decide +kernel
theorem dX7_windiest_34 : decode cX7_windiest 34 = .ok (.getfield 84, 3) := by decide +kernel
theorem dX7_windiest_37 : decode cX7_windiest 37 = .ok (.iload_n 2, 1) := by decide +kernel
theorem dX7_windiest_38 : decode cX7_windiest 38 = .ok (.invokevirtual 180, 3) := by decide +kernel
theorem dX7_windiest_41 : decode cX7_windiest 41 = .ok (.ifCond .ne 7, 3) := by decide +kernel
theorem dX7_windiest_44 : decode cX7_windiest 44 = .ok (.iconst 1, 1) := by decide +kernel
theorem dX7_windiest_45 : decode cX7_windiest 45 = .ok (.goto 4, 3) := by decide +kernel
theorem dX7_windiest_48 : decode cX7_windiest 48 = .ok (.iconst 0, 1) := by decide +kernel
theorem dX7_windiest_49 : decode cX7_windiest 49 = .ok (.istore_n 3, 1) := by decide +kernel
theorem dX7_windiest_50 : decode cX7_windiest 50 = .ok (.iload_n 3, 1) := by decide +kernel
theorem dX7_windiest_51 : decode cX7_windiest 51 = .ok (.ifCond .eq 32, 3) := by decide +kernel
theorem dX7_windiest_54 : decode cX7_windiest 54 = .ok (.iload_n 1, 1) := by decide +kernel
theorem dX7_windiest_55 : decode cX7_windiest 55 = .ok (.bipush (-6), 2) := by decide +kernel
theorem dX7_windiest_57 : decode cX7_windiest 57 = .ok (.if_icmp .eq 24, 3) := by decide +kernel
theorem dX7_windiest_60 : decode cX7_windiest 60 = .ok (.aload_n 0, 1) := by decide +kernel
theorem dX7_windiest_61 : decode cX7_windiest 61 = .ok (.getfield 19, 3) := by decide +kernel
theorem dX7_windiest_64 : decode cX7_windiest 64 = .ok (.getfield 190, 3) := by decide +kernel
theorem dX7_windiest_67 : decode cX7_windiest 67 = .ok (.iload_n 2, 1) := by decide +kernel
theorem dX7_windiest_68 : decode cX7_windiest 68 = .ok (.iaload, 1) := by decide +kernel
theorem dX7_windiest_69 : decode cX7_windiest 69 = .ok (.aload_n 0, 1) := by decide +kernel
theorem dX7_windiest_70 : decode cX7_windiest 70 = .ok (.getfield 19, 3) := by decide +kernel
theorem dX7_windiest_73 : decode cX7_windiest 73 = .ok (.getfield 190, 3) := by decide +kernel
theorem dX7_windiest_76 : decode cX7_windiest 76 = .ok (.iload_n 1, 1) := by decide +kernel
theorem dX7_windiest_77 : decode cX7_windiest 77 = .ok (.iaload, 1) := by decide +kernel
theorem dX7_windiest_78 : decode cX7_windiest 78 = .ok (.if_icmp .le 5, 3) := by decide +kernel
theorem dX7_windiest_81 : decode cX7_windiest 81 = .ok (.iload_n 2, 1) := by decide +kernel
theorem dX7_windiest_82 : decode cX7_windiest 82 = .ok (.istore_n 1, 1) := by decide +kernel
theorem dX7_windiest_83 : decode cX7_windiest 83 = .ok (.iinc 2 1, 3) := by decide +kernel
theorem dX7_windiest_86 : decode cX7_windiest 86 = .ok (.goto (-70), 3) := by decide +kernel
theorem dX7_windiest_89 : decode cX7_windiest 89 = .ok (.iload_n 1, 1) := by decide +kernel
theorem dX7_windiest_90 : decode cX7_windiest 90 = .ok (.ireturn, 1) := by decide +kernel
set_option maxRecDepth 20000 in
theorem ggX7_put_X7_signsIn : GoodIn wsX7_put wsX7_signsIn := goodIn_r _ [7, 3, 8, 9, 6, 10] (by decide +kernel) (by decide +kernel)
set_option maxRecDepth 20000 in
theorem gX7_put_X7_signsIn : GoodIn wsX7_put (va_wsS RX7 245 yX7_signsIn wsX7_signsIn) := goodIn_app (goodIn_of _ (by decide +kernel)) ggX7_put_X7_signsIn
set_option maxRecDepth 20000 in
theorem ggX7_put_X3_add : GoodIn wsX7_put wsX3_add := goodIn_r _ [15, 16, 17, 18, 27, 28, 29] (by decide +kernel) (by decide +kernel)
set_option maxRecDepth 20000 in
theorem gX7_put_X3_add : GoodIn wsX7_put (wsV RX7 251 RX3 yX3_add wsX3_add) := goodIn_app (goodIn_of _ (by decide +kernel)) ggX7_put_X3_add
theorem dX7_put_0 : decode cX7_put 0 = .ok (.lload_n 1, 1) := by decide +kernel
theorem dX7_put_1 : decode cX7_put 1 = .ok (.invokestatic 245, 3) := by decide +kernel
theorem dX7_put_4 : decode cX7_put 4 = .ok (.istore_n 3, 1) := by decide +kernel
theorem dX7_put_5 : decode cX7_put 5 = .ok (.iload_n 3, 1) := by decide +kernel
theorem dX7_put_6 : decode cX7_put 6 = .ok (.ifCond .ne 6, 3) := by decide +kernel
theorem dX7_put_9 : decode cX7_put 9 = .ok (.bipush (-2), 2) := by decide +kernel
theorem dX7_put_11 : decode cX7_put 11 = .ok (.ireturn, 1) := by decide +kernel
theorem dX7_put_12 : decode cX7_put 12 = .ok (.aload_n 0, 1) := by decide +kernel
theorem dX7_put_13 : decode cX7_put 13 = .ok (.getfield 41, 3) := by decide +kernel
theorem dX7_put_16 : decode cX7_put 16 = .ok (.getfield 162, 3) := by decide +kernel
theorem dX7_put_19 : decode cX7_put 19 = .ok (.iload_n 3, 1) := by decide +kernel
theorem dX7_put_20 : decode cX7_put 20 = .ok (.iadd, 1) := by decide +kernel
theorem dX7_put_21 : decode cX7_put 21 = .ok (.bipush 80, 2) := by decide +kernel
theorem dX7_put_23 : decode cX7_put 23 = .ok (.if_icmp .le 6, 3) := by decide +kernel
theorem dX7_put_26 : decode cX7_put 26 = .ok (.bipush (-4), 2) := by decide +kernel
theorem dX7_put_28 : decode cX7_put 28 = .ok (.ireturn, 1) := by decide +kernel
theorem dX7_put_29 : decode cX7_put 29 = .ok (.iload_n 3, 1) := by decide +kernel
theorem dX7_put_30 : decode cX7_put 30 = .ok (.iconst 1, 1) := by decide +kernel
theorem dX7_put_31 : decode cX7_put 31 = .ok (.isub, 1) := by decide +kernel
theorem dX7_put_32 : decode cX7_put 32 = .ok (.istore 4, 2) := by decide +kernel
theorem dX7_put_34 : decode cX7_put 34 = .ok (.iload 4, 2) := by decide +kernel
theorem dX7_put_36 : decode cX7_put 36 = .ok (.ifCond .lt 28, 3) := by decide +kernel
theorem dX7_put_39 : decode cX7_put 39 = .ok (.aload_n 0, 1) := by decide +kernel
theorem dX7_put_40 : decode cX7_put 40 = .ok (.getfield 41, 3) := by decide +kernel
theorem dX7_put_43 : decode cX7_put 43 = .ok (.lload_n 1, 1) := by decide +kernel
theorem dX7_put_44 : decode cX7_put 44 = .ok (.bipush 8, 2) := by decide +kernel
theorem dX7_put_46 : decode cX7_put 46 = .ok (.iload 4, 2) := by decide +kernel
theorem dX7_put_48 : decode cX7_put 48 = .ok (.imul, 1) := by decide +kernel
theorem dX7_put_49 : decode cX7_put 49 = .ok (.lushr, 1) := by decide +kernel
theorem dX7_put_50 : decode cX7_put 50 = .ok (.ldc2_w 249, 3) := by decide +kernel
theorem dX7_put_53 : decode cX7_put 53 = .ok (.land, 1) := by decide +kernel
theorem dX7_put_54 : decode cX7_put 54 = .ok (.l2i, 1) := by decide +kernel
theorem dX7_put_55 : decode cX7_put 55 = .ok (.invokevirtual 251, 3) := by decide +kernel
theorem dX7_put_58 : decode cX7_put 58 = .ok (.iinc 4 (-1), 3) := by decide +kernel
theorem dX7_put_61 : decode cX7_put 61 = .ok (.goto (-27), 3) := by decide +kernel
theorem dX7_put_64 : decode cX7_put 64 = .ok (.aload_n 0, 1) := by decide +kernel
theorem dX7_put_65 : decode cX7_put 65 = .ok (.getfield 41, 3) := by decide +kernel
theorem dX7_put_68 : decode cX7_put 68 = .ok (.getfield 162, 3) := by decide +kernel
theorem dX7_put_71 : decode cX7_put 71 = .ok (.ireturn, 1) := by decide +kernel
set_option maxRecDepth 20000 in
theorem ggX7_wipe_X3_clear : GoodIn wsX7_wipe wsX3_clear := goodIn_r _ [7, 8, 9, 18, 19, 20] (by decide +kernel) (by decide +kernel)
set_option maxRecDepth 20000 in
theorem gX7_wipe_X3_clear : GoodIn wsX7_wipe (wsV RX7 95 RX3 yX3_clear wsX3_clear) := goodIn_app (goodIn_of _ (by decide +kernel)) ggX7_wipe_X3_clear
theorem dX7_wipe_0 : decode cX7_wipe 0 = .ok (.aload_n 0, 1) := by decide +kernel
theorem dX7_wipe_1 : decode cX7_wipe 1 = .ok (.getfield 41, 3) := by decide +kernel
theorem dX7_wipe_4 : decode cX7_wipe 4 = .ok (.getfield 162, 3) := by decide +kernel
theorem dX7_wipe_7 : decode cX7_wipe 7 = .ok (.istore_n 1, 1) := by decide +kernel
theorem dX7_wipe_8 : decode cX7_wipe 8 = .ok (.aload_n 0, 1) := by decide +kernel
theorem dX7_wipe_9 : decode cX7_wipe 9 = .ok (.getfield 41, 3) := by decide +kernel
theorem dX7_wipe_12 : decode cX7_wipe 12 = .ok (.invokevirtual 95, 3) := by decide +kernel
theorem dX7_wipe_15 : decode cX7_wipe 15 = .ok (.iload_n 1, 1) := by decide +kernel
theorem dX7_wipe_16 : decode cX7_wipe 16 = .ok (.ireturn, 1) := by decide +kernel
set_option maxRecDepth 20000 in
theorem ggX7_fault_X4_read : GoodIn wsX7_fault wsX4_read := goodIn_r _ [7, 8, 9, 10, 11, 12, 13, 14, 15, 16, 17, 18, 19, 20, 21, 6, 22, 23, 24, 25, 26, 27, 28, 29, 30, 31, 32, 33, 34, 35, 36, 37, 38, 39, 40, 41, 42, 43, 44, 45, 46, 47, 48, 49, 50, 51, 52, 53, 54, 55, 56, 57, 58, 59, 60, 61, 62, 63, 64, 65, 66, 67, 68, 69, 70, 71, 72, 73, 74, 75, 76, 77, 78, 79, 80, 81, 82, 83, 84, 85, 86, 87, 88, 89, 90, 91, 92, 93, 94, 95, 96, 97, 98, 99, 108, 109, 110, 111, 112, 113, 114, 115, 116, 117, 118, 119] (by decide +kernel) (by decide +kernel)
set_option maxRecDepth 20000 in
theorem gX7_fault_X4_read : GoodIn wsX7_fault (wsV RX7 80 RX4 yX4_read wsX4_read) := goodIn_app (goodIn_of _ (by decide +kernel)) ggX7_fault_X4_read
theorem dX7_fault_0 : decode cX7_fault 0 = .ok (.aload_n 0, 1) := by decide +kernel
theorem dX7_fault_1 : decode cX7_fault 1 = .ok (.getfield 51, 3) := by decide +kernel
theorem dX7_fault_4 : decode cX7_fault 4 = .ok (.aload_n 0, 1) := by decide +kernel
theorem dX7_fault_5 : decode cX7_fault 5 = .ok (.getfield 41, 3) := by decide +kernel
theorem dX7_fault_8 : decode cX7_fault 8 = .ok (.invokevirtual 80, 3) := by decide +kernel
theorem dX7_fault_11 : decode cX7_fault 11 = .ok (.ireturn, 1) := by decide +kernel
set_option maxRecDepth 20000 in
theorem ggX7_undo_X1_takeBack : GoodIn wsX7_undo wsX1_takeBack := goodIn_r _ [8, 9, 10, 11, 12, 13, 14, 15, 16, 17, 18, 19, 20, 21, 22, 23, 24, 25, 26, 27, 28, 29, 30, 31, 32, 33, 34, 35, 36, 37, 38, 39, 40, 41, 42, 43, 44, 45, 46, 47, 48, 49, 50, 51, 52, 61, 62, 63, 64, 65, 66, 67, 68, 69, 70, 71, 72, 73, 74, 75, 76, 77, 78] (by decide +kernel) (by decide +kernel)
set_option maxRecDepth 20000 in
theorem gX7_undo_X1_takeBack : GoodIn wsX7_undo (wsV RX7 254 RX1 yX1_takeBack wsX1_takeBack) := goodIn_app (goodIn_of _ (by decide +kernel)) ggX7_undo_X1_takeBack
theorem dX7_undo_0 : decode cX7_undo 0 = .ok (.aload_n 0, 1) := by decide +kernel
theorem dX7_undo_1 : decode cX7_undo 1 = .ok (.getfield 26, 3) := by decide +kernel
theorem dX7_undo_4 : decode cX7_undo 4 = .ok (.getfield 237, 3) := by decide +kernel
theorem dX7_undo_7 : decode cX7_undo 7 = .ok (.ifCond .ne 6, 3) := by decide +kernel
theorem dX7_undo_10 : decode cX7_undo 10 = .ok (.bipush (-5), 2) := by decide +kernel
theorem dX7_undo_12 : decode cX7_undo 12 = .ok (.ireturn, 1) := by decide +kernel
theorem dX7_undo_13 : decode cX7_undo 13 = .ok (.aload_n 0, 1) := by decide +kernel
theorem dX7_undo_14 : decode cX7_undo 14 = .ok (.getfield 26, 3) := by decide +kernel
theorem dX7_undo_17 : decode cX7_undo 17 = .ok (.aload_n 0, 1) := by decide +kernel
theorem dX7_undo_18 : decode cX7_undo 18 = .ok (.getfield 10, 3) := by decide +kernel
theorem dX7_undo_21 : decode cX7_undo 21 = .ok (.invokevirtual 254, 3) := by decide +kernel
theorem dX7_undo_24 : decode cX7_undo 24 = .ok (.aload_n 0, 1) := by decide +kernel
theorem dX7_undo_25 : decode cX7_undo 25 = .ok (.getfield 26, 3) := by decide +kernel
theorem dX7_undo_28 : decode cX7_undo 28 = .ok (.getfield 237, 3) := by decide +kernel
theorem dX7_undo_31 : decode cX7_undo 31 = .ok (.ireturn, 1) := by decide +kernel
set_option maxRecDepth 20000 in
theorem ggX7_save_X7_isIndexOf : GoodIn wsX7_save wsX7_isIndexOf := goodIn_r _ [9] (by decide +kernel) (by decide +kernel)
set_option maxRecDepth 20000 in
theorem gX7_save_X7_isIndexOf : GoodIn wsX7_save (va_wsS RX7 59 yX7_isIndexOf wsX7_isIndexOf) := goodIn_app (goodIn_of _ (by decide +kernel)) ggX7_save_X7_isIndexOf
set_option maxRecDepth 20000 in
theorem ggX7_save_X6_copy : GoodIn wsX7_save wsX6_copy := goodIn_r _ [14, 15, 16, 17, 18, 19, 8, 20, 21, 22, 23, 24, 25, 26, 27, 28, 29, 30, 31, 32, 33, 34, 35, 36, 37, 38, 39, 40, 41, 42, 43, 44, 45, 46, 47, 48, 49, 58, 59, 60, 61, 62, 63, 64, 65, 66, 67, 68, 69, 70, 71, 72] (by decide +kernel) (by decide +kernel)
set_option maxRecDepth 20000 in
theorem gX7_save_X6_copy : GoodIn wsX7_save (wsV RX7 257 RX6 yX6_copy wsX6_copy) := goodIn_app (goodIn_of _ (by decide +kernel)) ggX7_save_X6_copy
theorem dX7_save_0 : decode cX7_save 0 = .ok (.iload_n 1, 1) := by decide +kernel
theorem dX7_save_1 : decode cX7_save 1 = .ok (.iconst 2, 1) := by decide +kernel
theorem dX7_save_2 : decode cX7_save 2 = .ok (.invokestatic 59, 3) := by decide +kernel
theorem dX7_save_5 : decode cX7_save 5 = .ok (.ifCond .ne 6, 3) := by decide +kernel
theorem dX7_save_8 : decode cX7_save 8 = .ok (.bipush (-2), 2) := by decide +kernel
theorem dX7_save_10 : decode cX7_save 10 = .ok (.ireturn, 1) := by decide +kernel
theorem dX7_save_11 : decode cX7_save 11 = .ok (.aload_n 0, 1) := by decide +kernel
theorem dX7_save_12 : decode cX7_save 12 = .ok (.getfield 30, 3) := by decide +kernel
theorem dX7_save_15 : decode cX7_save 15 = .ok (.iload_n 1, 1) := by decide +kernel
theorem dX7_save_16 : decode cX7_save 16 = .ok (.aaload, 1) := by decide +kernel
theorem dX7_save_17 : decode cX7_save 17 = .ok (.aload_n 0, 1) := by decide +kernel
theorem dX7_save_18 : decode cX7_save 18 = .ok (.getfield 10, 3) := by decide +kernel
theorem dX7_save_21 : decode cX7_save 21 = .ok (.invokevirtual 257, 3) := by decide +kernel
theorem dX7_save_24 : decode cX7_save 24 = .ok (.aload_n 0, 1) := by decide +kernel
theorem dX7_save_25 : decode cX7_save 25 = .ok (.getfield 34, 3) := by decide +kernel
theorem dX7_save_28 : decode cX7_save 28 = .ok (.iload_n 1, 1) := by decide +kernel
theorem dX7_save_29 : decode cX7_save 29 = .ok (.iconst 1, 1) := by decide +kernel
theorem dX7_save_30 : decode cX7_save 30 = .ok (.bastore, 1) := by decide +kernel
theorem dX7_save_31 : decode cX7_save 31 = .ok (.aload_n 0, 1) := by decide +kernel
theorem dX7_save_32 : decode cX7_save 32 = .ok (.getfield 10, 3) := by decide +kernel
theorem dX7_save_35 : decode cX7_save 35 = .ok (.getfield 84, 3) := by decide +kernel
theorem dX7_save_38 : decode cX7_save 38 = .ok (.getfield 98, 3) := by decide +kernel
theorem dX7_save_41 : decode cX7_save 41 = .ok (.ireturn, 1) := by decide +kernel
set_option maxRecDepth 20000 in
theorem ggX7_restore_X7_isIndexOf : GoodIn wsX7_restore wsX7_isIndexOf := goodIn_r _ [10] (by decide +kernel) (by decide +kernel)
set_option maxRecDepth 20000 in
theorem gX7_restore_X7_isIndexOf : GoodIn wsX7_restore (va_wsS RX7 59 yX7_isIndexOf wsX7_isIndexOf) := goodIn_app (goodIn_of _ (by decide +kernel)) ggX7_restore_X7_isIndexOf
set_option maxRecDepth 20000 in
theorem ggX7_restore_X1_keep : GoodIn wsX7_restore wsX1_keep := goodIn_r _ [15, 16, 17, 18, 19, 20, 21, 22, 23, 24, 25, 26, 27, 28, 9, 29, 30, 31, 32, 33, 34, 35, 36, 37, 38, 39, 40, 41, 42, 43, 44, 45, 46, 47, 48, 49, 50, 51, 52, 53, 54, 55, 56, 57, 58, 78, 79, 80, 68, 69, 70, 71, 72, 73, 74, 75, 76, 77, 81, 82, 83, 84, 85] (by decide +kernel) (by decide +kernel)
set_option maxRecDepth 20000 in
theorem gX7_restore_X1_keep : GoodIn wsX7_restore (wsV RX7 73 RX1 yX1_keep wsX1_keep) := goodIn_app (goodIn_of _ (by decide +kernel)) ggX7_restore_X1_keep
set_option maxRecDepth 20000 in
theorem ggX7_restore_X6_copy : GoodIn wsX7_restore wsX6_copy := goodIn_r _ [23, 24, 25, 26, 27, 28, 9, 29, 30, 31, 32, 33, 34, 35, 36, 37, 38, 39, 40, 41, 42, 43, 44, 45, 46, 47, 48, 49, 50, 51, 52, 53, 54, 55, 56, 57, 58, 68, 69, 70, 71, 72, 73, 74, 75, 76, 77, 81, 82, 83, 84, 85] (by decide +kernel) (by decide +kernel)
set_option maxRecDepth 20000 in
theorem gX7_restore_X6_copy : GoodIn wsX7_restore (wsV RX7 257 RX6 yX6_copy wsX6_copy) := goodIn_app (goodIn_of _ (by decide +kernel)) ggX7_restore_X6_copy
theorem dX7_restore_0 : decode cX7_restore 0 = .ok (.iload_n 1, 1) := by decide +kernel
theorem dX7_restore_1 : decode cX7_restore 1 = .ok (.iconst 2, 1) := by decide +kernel
theorem dX7_restore_2 : decode cX7_restore 2 = .ok (.invokestatic 59, 3) := by decide +kernel
theorem dX7_restore_5 : decode cX7_restore 5 = .ok (.ifCond .ne 6, 3) := by decide +kernel
theorem dX7_restore_8 : decode cX7_restore 8 = .ok (.bipush (-2), 2) := by decide +kernel
theorem dX7_restore_10 : decode cX7_restore 10 = .ok (.ireturn, 1) := by decide +kernel
theorem dX7_restore_11 : decode cX7_restore 11 = .ok (.aload_n 0, 1) := by decide +kernel
theorem dX7_restore_12 : decode cX7_restore 12 = .ok (.getfield 34, 3) := by decide +kernel
theorem dX7_restore_15 : decode cX7_restore 15 = .ok (.iload_n 1, 1) := by decide +kernel
theorem dX7_restore_16 : decode cX7_restore 16 = .ok (.baload, 1) := by decide +kernel
theorem dX7_restore_17 : decode cX7_restore 17 = .ok (.ifCond .ne 6, 3) := by decide +kernel
theorem dX7_restore_20 : decode cX7_restore 20 = .ok (.bipush (-5), 2) := by decide +kernel
theorem dX7_restore_22 : decode cX7_restore 22 = .ok (.ireturn, 1) := by decide +kernel
theorem dX7_restore_23 : decode cX7_restore 23 = .ok (.aload_n 0, 1) := by decide +kernel
theorem dX7_restore_24 : decode cX7_restore 24 = .ok (.getfield 26, 3) := by decide +kernel
theorem dX7_restore_27 : decode cX7_restore 27 = .ok (.aload_n 0, 1) := by decide +kernel
theorem dX7_restore_28 : decode cX7_restore 28 = .ok (.getfield 10, 3) := by decide +kernel
theorem dX7_restore_31 : decode cX7_restore 31 = .ok (.invokevirtual 73, 3) := by decide +kernel
theorem dX7_restore_34 : decode cX7_restore 34 = .ok (.aload_n 0, 1) := by decide +kernel
theorem dX7_restore_35 : decode cX7_restore 35 = .ok (.getfield 10, 3) := by decide +kernel
theorem dX7_restore_38 : decode cX7_restore 38 = .ok (.aload_n 0, 1) := by decide +kernel
theorem dX7_restore_39 : decode cX7_restore 39 = .ok (.getfield 30, 3) := by decide +kernel
theorem dX7_restore_42 : decode cX7_restore 42 = .ok (.iload_n 1, 1) := by decide +kernel
theorem dX7_restore_43 : decode cX7_restore 43 = .ok (.aaload, 1) := by decide +kernel
theorem dX7_restore_44 : decode cX7_restore 44 = .ok (.invokevirtual 257, 3) := by decide +kernel
theorem dX7_restore_47 : decode cX7_restore 47 = .ok (.aload_n 0, 1) := by decide +kernel
theorem dX7_restore_48 : decode cX7_restore 48 = .ok (.getfield 10, 3) := by decide +kernel
theorem dX7_restore_51 : decode cX7_restore 51 = .ok (.getfield 84, 3) := by decide +kernel
theorem dX7_restore_54 : decode cX7_restore 54 = .ok (.getfield 98, 3) := by decide +kernel
theorem dX7_restore_57 : decode cX7_restore 57 = .ok (.ireturn, 1) := by decide +kernel
set_option maxRecDepth 20000 in
theorem ggX7_hatsBy_X0_part : GoodIn wsX7_hatsBy wsX0_part := goodIn_r _ [8, 9, 10, 11, 12, 13, 65, 66, 67, 68, 69, 70, 71, 72, 73] (by decide +kernel) (by decide +kernel)
set_option maxRecDepth 20000 in
theorem gX7_hatsBy_X0_part : GoodIn wsX7_hatsBy (wsV RX7 238 RX0 yX0_part wsX0_part) := goodIn_app (goodIn_of _ (by decide +kernel)) ggX7_hatsBy_X0_part
set_option maxRecDepth 20000 in
theorem ggX7_hatsBy_X0_blow : GoodIn wsX7_hatsBy wsX0_blow := goodIn_r _ [17, 9, 12, 18, 19, 20, 21, 22, 23, 24, 25, 26, 27, 28, 29, 30, 7, 31, 13, 10, 11, 32, 33, 34, 35, 36, 37, 65, 66, 67, 68, 69, 70, 71, 72, 73] (by decide +kernel) (by decide +kernel)
set_option maxRecDepth 20000 in
theorem gX7_hatsBy_X0_blow : GoodIn wsX7_hatsBy (wsV RX7 242 RX0 yX0_blow wsX0_blow) := goodIn_app (goodIn_of _ (by decide +kernel)) ggX7_hatsBy_X0_blow
set_option maxRecDepth 20000 in
theorem ggX7_hatsBy_X0_hatsLost : GoodIn wsX7_hatsBy wsX0_hatsLost := goodIn_r _ [41, 42, 9, 43, 44, 45, 7, 46, 47, 48, 32, 33, 34, 35, 49, 50, 51, 52, 18, 61, 62, 63, 64, 65, 66, 67, 68, 69, 70, 71, 72, 73] (by decide +kernel) (by decide +kernel)
set_option maxRecDepth 20000 in
theorem gX7_hatsBy_X0_hatsLost : GoodIn wsX7_hatsBy (wsV RX7 141 RX0 yX0_hatsLost wsX0_hatsLost) := goodIn_app (goodIn_of _ (by decide +kernel)) ggX7_hatsBy_X0_hatsLost
theorem dX7_hatsBy_0 : decode cX7_hatsBy 0 = .ok (.aload_n 0, 1) := by decide +kernel
theorem dX7_hatsBy_1 : decode cX7_hatsBy 1 = .ok (.getfield 19, 3) := by decide +kernel
theorem dX7_hatsBy_4 : decode cX7_hatsBy 4 = .ok (.aload_n 0, 1) := by decide +kernel
theorem dX7_hatsBy_5 : decode cX7_hatsBy 5 = .ok (.getfield 10, 3) := by decide +kernel
theorem dX7_hatsBy_8 : decode cX7_hatsBy 8 = .ok (.getfield 84, 3) := by decide +kernel
theorem dX7_hatsBy_11 : decode cX7_hatsBy 11 = .ok (.bipush (-6), 2) := by decide +kernel
theorem dX7_hatsBy_13 : decode cX7_hatsBy 13 = .ok (.invokevirtual 238, 3) := by decide +kernel
theorem dX7_hatsBy_16 : decode cX7_hatsBy 16 = .ok (.aload_n 0, 1) := by decide +kernel
theorem dX7_hatsBy_17 : decode cX7_hatsBy 17 = .ok (.getfield 19, 3) := by decide +kernel
theorem dX7_hatsBy_20 : decode cX7_hatsBy 20 = .ok (.aload_n 0, 1) := by decide +kernel
theorem dX7_hatsBy_21 : decode cX7_hatsBy 21 = .ok (.getfield 10, 3) := by decide +kernel
theorem dX7_hatsBy_24 : decode cX7_hatsBy 24 = .ok (.getfield 84, 3) := by decide +kernel
theorem dX7_hatsBy_27 : decode cX7_hatsBy 27 = .ok (.iload_n 1, 1) := by decide +kernel
theorem dX7_hatsBy_28 : decode cX7_hatsBy 28 = .ok (.invokevirtual 242, 3) := by decide +kernel
theorem dX7_hatsBy_31 : decode cX7_hatsBy 31 = .ok (.aload_n 0, 1) := by decide +kernel
theorem dX7_hatsBy_32 : decode cX7_hatsBy 32 = .ok (.getfield 19, 3) := by decide +kernel
theorem dX7_hatsBy_35 : decode cX7_hatsBy 35 = .ok (.aload_n 0, 1) := by decide +kernel
theorem dX7_hatsBy_36 : decode cX7_hatsBy 36 = .ok (.getfield 10, 3) := by decide +kernel
theorem dX7_hatsBy_39 : decode cX7_hatsBy 39 = .ok (.invokevirtual 141, 3) := by decide +kernel
theorem dX7_hatsBy_42 : decode cX7_hatsBy 42 = .ok (.ireturn, 1) := by decide +kernel
set_option maxRecDepth 20000 in
theorem ggX7_shelters_X0_blowIn : GoodIn wsX7_shelters wsX0_blowIn := goodIn_r _ [9, 10, 11, 12, 13, 14, 8, 15, 16, 17, 18, 19, 20, 21, 22, 23, 24, 25, 26, 27, 28, 29, 30, 31, 32, 33, 34, 35, 36, 37, 38, 39, 40, 41, 42, 43, 44, 63, 64, 65, 66, 67, 68, 69, 70, 71, 72, 73, 74, 75] (by decide +kernel) (by decide +kernel)
set_option maxRecDepth 20000 in
theorem gX7_shelters_X0_blowIn : GoodIn wsX7_shelters (wsV RX7 138 RX0 yX0_blowIn wsX0_blowIn) := goodIn_app (goodIn_of _ (by decide +kernel)) ggX7_shelters_X0_blowIn
set_option maxRecDepth 20000 in
theorem ggX7_shelters_X0_hatsLostIn : GoodIn wsX7_shelters wsX0_hatsLostIn := goodIn_r _ [48, 49, 10, 50, 39, 40, 41, 42, 51, 52, 53, 8, 54, 25, 63, 64, 65, 66, 67, 68, 69, 70, 71, 72, 73, 74, 75] (by decide +kernel) (by decide +kernel)
set_option maxRecDepth 20000 in
theorem gX7_shelters_X0_hatsLostIn : GoodIn wsX7_shelters (wsV RX7 202 RX0 yX0_hatsLostIn wsX0_hatsLostIn) := goodIn_app (goodIn_of _ (by decide +kernel)) ggX7_shelters_X0_hatsLostIn
theorem dX7_shelters_0 : decode cX7_shelters 0 = .ok (.aload_n 0, 1) := by decide +kernel
theorem dX7_shelters_1 : decode cX7_shelters 1 = .ok (.getfield 19, 3) := by decide +kernel
theorem dX7_shelters_4 : decode cX7_shelters 4 = .ok (.aload_n 0, 1) := by decide +kernel
theorem dX7_shelters_5 : decode cX7_shelters 5 = .ok (.getfield 10, 3) := by decide +kernel
theorem dX7_shelters_8 : decode cX7_shelters 8 = .ok (.invokevirtual 138, 3) := by decide +kernel
theorem dX7_shelters_11 : decode cX7_shelters 11 = .ok (.iconst 0, 1) := by decide +kernel
theorem dX7_shelters_12 : decode cX7_shelters 12 = .ok (.istore_n 1, 1) := by decide +kernel
theorem dX7_shelters_13 : decode cX7_shelters 13 = .ok (.iconst 0, 1) := by decide +kernel
theorem dX7_shelters_14 : decode cX7_shelters 14 = .ok (.istore_n 2, 1) := by decide +kernel
theorem dX7_shelters_15 : decode cX7_shelters 15 = .ok (.iload_n 2, 1) := by decide +kernel
theorem dX7_shelters_16 : decode cX7_shelters 16 = .ok (.aload_n 0, 1) := by decide +kernel
theorem dX7_shelters_17 : decode cX7_shelters 17 = .ok (.getfield 10, 3) := by decide +kernel
theorem dX7_shelters_20 : decode cX7_shelters 20 = .ok (.getfield 84, 3) := by decide +kernel
theorem dX7_shelters_23 : decode cX7_shelters 23 = .ok (.getfield 98, 3) := by decide +kernel
theorem dX7_shelters_26 : decode cX7_shelters 26 = .ok (.if_icmp .ge 30, 3) := by decide +kernel
theorem dX7_shelters_29 : decode cX7_shelters 29 = .ok (.aload_n 0, 1) := by decide +kernel
theorem dX7_shelters_30 : decode cX7_shelters 30 = .ok (.getfield 19, 3) := by decide +kernel
theorem dX7_shelters_33 : decode cX7_shelters 33 = .ok (.aload_n 0, 1) := by decide +kernel
theorem dX7_shelters_34 : decode cX7_shelters 34 = .ok (.getfield 10, 3) := by decide +kernel
theorem dX7_shelters_37 : decode cX7_shelters 37 = .ok (.iload_n 2, 1) := by decide +kernel
theorem dX7_shelters_38 : decode cX7_shelters 38 = .ok (.invokevirtual 202, 3) := by decide +kernel
theorem dX7_shelters_41 : decode cX7_shelters 41 = .ok (.ifCond .ne 9, 3) := by decide +kernel
theorem dX7_shelters_44 : decode cX7_shelters 44 = .ok (.iload_n 1, 1) := by decide +kernel
theorem dX7_shelters_45 : decode cX7_shelters 45 = .ok (.iconst 1, 1) := by decide +kernel
theorem dX7_shelters_46 : decode cX7_shelters 46 = .ok (.iload_n 2, 1) := by decide +kernel
theorem dX7_shelters_47 : decode cX7_shelters 47 = .ok (.ishl, 1) := by decide +kernel
theorem dX7_shelters_48 : decode cX7_shelters 48 = .ok (.ior, 1) := by decide +kernel
theorem dX7_shelters_49 : decode cX7_shelters 49 = .ok (.istore_n 1, 1) := by decide +kernel
theorem dX7_shelters_50 : decode cX7_shelters 50 = .ok (.iinc 2 1, 3) := by decide +kernel
theorem dX7_shelters_53 : decode cX7_shelters 53 = .ok (.goto (-38), 3) := by decide +kernel
theorem dX7_shelters_56 : decode cX7_shelters 56 = .ok (.iload_n 1, 1) := by decide +kernel
theorem dX7_shelters_57 : decode cX7_shelters 57 = .ok (.ireturn, 1) := by decide +kernel
set_option maxRecDepth 20000 in
theorem ggX7_calmest_X0_blowIn : GoodIn wsX7_calmest wsX0_blowIn := goodIn_r _ [10, 11, 12, 13, 14, 15, 9, 16, 17, 18, 19, 20, 21, 22, 23, 24, 25, 26, 27, 28, 29, 30, 31, 32, 33, 34, 35, 36, 37, 38, 39, 40, 41, 42, 43, 44, 45, 54, 55, 56, 57, 58, 59, 60, 61, 62, 63, 64, 65, 66] (by decide +kernel) (by decide +kernel)
set_option maxRecDepth 20000 in
theorem gX7_calmest_X0_blowIn : GoodIn wsX7_calmest (wsV RX7 138 RX0 yX0_blowIn wsX0_blowIn) := goodIn_app (goodIn_of _ (by decide +kernel)) ggX7_calmest_X0_blowIn
theorem dX7_calmest_0 : decode cX7_calmest 0 = .ok (.aload_n 0, 1) := by decide +kernel
theorem dX7_calmest_1 : decode cX7_calmest 1 = .ok (.getfield 19, 3) := by decide +kernel
theorem dX7_calmest_4 : decode cX7_calmest 4 = .ok (.aload_n 0, 1) := by decide +kernel
theorem dX7_calmest_5 : decode cX7_calmest 5 = .ok (.getfield 10, 3) := by decide +kernel
theorem dX7_calmest_8 : decode cX7_calmest 8 = .ok (.invokevirtual 138, 3) := by decide +kernel
theorem dX7_calmest_11 : decode cX7_calmest 11 = .ok (.iconst 0, 1) := by decide +kernel
theorem dX7_calmest_12 : decode cX7_calmest 12 = .ok (.istore_n 1, 1) := by decide +kernel
theorem dX7_calmest_13 : decode cX7_calmest 13 = .ok (.iconst 1, 1) := by decide +kernel
theorem dX7_calmest_14 : decode cX7_calmest 14 = .ok (.istore_n 2, 1) := by decide +kernel
theorem dX7_calmest_15 : decode cX7_calmest 15 = .ok (.iload_n 2, 1) := by decide +kernel
theorem dX7_calmest_16 : decode cX7_calmest 16 = .ok (.aload_n 0, 1) := by decide +kernel
theorem dX7_calmest_17 : decode cX7_calmest 17 = .ok (.getfield 10, 3) := by decide +kernel
theorem dX7_calmest_20 : decode cX7_calmest 20 = .ok (.getfield 84, 3) := by decide +kernel
theorem dX7_calmest_23 : decode cX7_calmest 23 = .ok (.getfield 98, 3) := by decide +kernel
theorem dX7_calmest_26 : decode cX7_calmest 26 = .ok (.if_icmp .ge 32, 3) := by decide +kernel
theorem dX7_calmest_29 : decode cX7_calmest 29 = .ok (.aload_n 0, 1) := by decide +kernel
theorem dX7_calmest_30 : decode cX7_calmest 30 = .ok (.getfield 19, 3) := by decide +kernel
theorem dX7_calmest_33 : decode cX7_calmest 33 = .ok (.getfield 190, 3) := by decide +kernel
theorem dX7_calmest_36 : decode cX7_calmest 36 = .ok (.iload_n 2, 1) := by decide +kernel
theorem dX7_calmest_37 : decode cX7_calmest 37 = .ok (.iaload, 1) := by decide +kernel
theorem dX7_calmest_38 : decode cX7_calmest 38 = .ok (.aload_n 0, 1) := by decide +kernel
theorem dX7_calmest_39 : decode cX7_calmest 39 = .ok (.getfield 19, 3) := by decide +kernel
theorem dX7_calmest_42 : decode cX7_calmest 42 = .ok (.getfield 190, 3) := by decide +kernel
theorem dX7_calmest_45 : decode cX7_calmest 45 = .ok (.iload_n 1, 1) := by decide +kernel
theorem dX7_calmest_46 : decode cX7_calmest 46 = .ok (.iaload, 1) := by decide +kernel
theorem dX7_calmest_47 : decode cX7_calmest 47 = .ok (.if_icmp .ge 5, 3) := by decide +kernel
theorem dX7_calmest_50 : decode cX7_calmest 50 = .ok (.iload_n 2, 1) := by decide +kernel
theorem dX7_calmest_51 : decode cX7_calmest 51 = .ok (.istore_n 1, 1) := by decide +kernel
theorem dX7_calmest_52 : decode cX7_calmest 52 = .ok (.iinc 2 1, 3) := by decide +kernel
theorem dX7_calmest_55 : decode cX7_calmest 55 = .ok (.goto (-40), 3) := by decide +kernel
theorem dX7_calmest_58 : decode cX7_calmest 58 = .ok (.iload_n 1, 1) := by decide +kernel
theorem dX7_calmest_59 : decode cX7_calmest 59 = .ok (.ireturn, 1) := by decide +kernel
theorem dX7_isWithin_0 : decode cX7_isWithin 0 = .ok (.iload_n 0, 1) := by decide +kernel
theorem dX7_isWithin_1 : decode cX7_isWithin 1 = .ok (.iload_n 1, 1) := by decide +kernel
theorem dX7_isWithin_2 : decode cX7_isWithin 2 = .ok (.if_icmp .lt 12, 3) := by decide +kernel
theorem dX7_isWithin_5 : decode cX7_isWithin 5 = .ok (.iload_n 0, 1) := by decide +kernel
theorem dX7_isWithin_6 : decode cX7_isWithin 6 = .ok (.iload_n 2, 1) := by decide +kernel
theorem dX7_isWithin_7 : decode cX7_isWithin 7 = .ok (.if_icmp .gt 7, 3) := by decide +kernel
theorem dX7_isWithin_10 : decode cX7_isWithin 10 = .ok (.iconst 1, 1) := by decide +kernel
theorem dX7_isWithin_11 : decode cX7_isWithin 11 = .ok (.goto 4, 3) := by decide +kernel
theorem dX7_isWithin_14 : decode cX7_isWithin 14 = .ok (.iconst 0, 1) := by decide +kernel
theorem dX7_isWithin_15 : decode cX7_isWithin 15 = .ok (.ireturn, 1) := by decide +kernel
theorem dX7_isIndexOf_0 : decode cX7_isIndexOf 0 = .ok (.iload_n 0, 1) := by decide +kernel
theorem dX7_isIndexOf_1 : decode cX7_isIndexOf 1 = .ok (.ifCond .lt 12, 3) := by decide +kernel
theorem dX7_isIndexOf_4 : decode cX7_isIndexOf 4 = .ok (.iload_n 0, 1) := by decide +kernel
theorem dX7_isIndexOf_5 : decode cX7_isIndexOf 5 = .ok (.iload_n 1, 1) := by decide +kernel
theorem dX7_isIndexOf_6 : decode cX7_isIndexOf 6 = .ok (.if_icmp .ge 7, 3) := by decide +kernel
theorem dX7_isIndexOf_9 : decode cX7_isIndexOf 9 = .ok (.iconst 1, 1) := by decide +kernel
theorem dX7_isIndexOf_10 : decode cX7_isIndexOf 10 = .ok (.goto 4, 3) := by decide +kernel
theorem dX7_isIndexOf_13 : decode cX7_isIndexOf 13 = .ok (.iconst 0, 1) := by decide +kernel
theorem dX7_isIndexOf_14 : decode cX7_isIndexOf 14 = .ok (.ireturn, 1) := by decide +kernel
set_option maxRecDepth 20000 in
theorem ggX7_isForce_X7_isWithin : GoodIn wsX7_isForce wsX7_isWithin := goodIn_r _ [4] (by decide +kernel) (by decide +kernel)
set_option maxRecDepth 20000 in
theorem gX7_isForce_X7_isWithin : GoodIn wsX7_isForce (va_wsS RX7 69 yX7_isWithin wsX7_isWithin) := goodIn_app (goodIn_of _ (by decide +kernel)) ggX7_isForce_X7_isWithin
theorem dX7_isForce_0 : decode cX7_isForce 0 = .ok (.iload_n 0, 1) := by decide +kernel
theorem dX7_isForce_1 : decode cX7_isForce 1 = .ok (.iconst 0, 1) := by decide +kernel
theorem dX7_isForce_2 : decode cX7_isForce 2 = .ok (.sipush 200, 3) := by decide +kernel
theorem dX7_isForce_5 : decode cX7_isForce 5 = .ok (.invokestatic 69, 3) := by decide +kernel
theorem dX7_isForce_8 : decode cX7_isForce 8 = .ok (.ireturn, 1) := by decide +kernel
theorem dX7_quotient_0 : decode cX7_quotient 0 = .ok (.iload_n 1, 1) := by decide +kernel
theorem dX7_quotient_1 : decode cX7_quotient 1 = .ok (.ifCond .le 9, 3) := by decide +kernel
theorem dX7_quotient_4 : decode cX7_quotient 4 = .ok (.iload_n 0, 1) := by decide +kernel
theorem dX7_quotient_5 : decode cX7_quotient 5 = .ok (.iload_n 1, 1) := by decide +kernel
theorem dX7_quotient_6 : decode cX7_quotient 6 = .ok (.idiv, 1) := by decide +kernel
theorem dX7_quotient_7 : decode cX7_quotient 7 = .ok (.goto 4, 3) := by decide +kernel
theorem dX7_quotient_10 : decode cX7_quotient 10 = .ok (.iconst 0, 1) := by decide +kernel
theorem dX7_quotient_11 : decode cX7_quotient 11 = .ok (.ireturn, 1) := by decide +kernel
set_option maxRecDepth 20000 in
theorem ggX7_signsIn_X7_isWithin : GoodIn wsX7_signsIn wsX7_isWithin := goodIn_r _ [5] (by decide +kernel) (by decide +kernel)
set_option maxRecDepth 20000 in
theorem gX7_signsIn_X7_isWithin : GoodIn wsX7_signsIn (va_wsS RX7 69 yX7_isWithin wsX7_isWithin) := goodIn_app (goodIn_of _ (by decide +kernel)) ggX7_signsIn_X7_isWithin
theorem dX7_signsIn_0 : decode cX7_signsIn 0 = .ok (.lload_n 0, 1) := by decide +kernel
theorem dX7_signsIn_1 : decode cX7_signsIn 1 = .ok (.lstore_n 2, 1) := by decide +kernel
theorem dX7_signsIn_2 : decode cX7_signsIn 2 = .ok (.iconst 0, 1) := by decide +kernel
theorem dX7_signsIn_3 : decode cX7_signsIn 3 = .ok (.istore 4, 2) := by decide +kernel
theorem dX7_signsIn_5 : decode cX7_signsIn 5 = .ok (.iconst 0, 1) := by decide +kernel
theorem dX7_signsIn_6 : decode cX7_signsIn 6 = .ok (.istore 5, 2) := by decide +kernel
theorem dX7_signsIn_8 : decode cX7_signsIn 8 = .ok (.iload 5, 2) := by decide +kernel
theorem dX7_signsIn_10 : decode cX7_signsIn 10 = .ok (.bipush 8, 2) := by decide +kernel
theorem dX7_signsIn_12 : decode cX7_signsIn 12 = .ok (.if_icmp .ge 45, 3) := by decide +kernel
theorem dX7_signsIn_15 : decode cX7_signsIn 15 = .ok (.lload_n 2, 1) := by decide +kernel
theorem dX7_signsIn_16 : decode cX7_signsIn 16 = .ok (.ldc2_w 249, 3) := by decide +kernel
theorem dX7_signsIn_19 : decode cX7_signsIn 19 = .ok (.land, 1) := by decide +kernel
theorem dX7_signsIn_20 : decode cX7_signsIn 20 = .ok (.lconst 0, 1) := by decide +kernel
theorem dX7_signsIn_21 : decode cX7_signsIn 21 = .ok (.lcmp, 1) := by decide +kernel
theorem dX7_signsIn_22 : decode cX7_signsIn 22 = .ok (.ifCond .eq 35, 3) := by decide +kernel
theorem dX7_signsIn_25 : decode cX7_signsIn 25 = .ok (.lload_n 2, 1) := by decide +kernel
theorem dX7_signsIn_26 : decode cX7_signsIn 26 = .ok (.ldc2_w 249, 3) := by decide +kernel
theorem dX7_signsIn_29 : decode cX7_signsIn 29 = .ok (.land, 1) := by decide +kernel
theorem dX7_signsIn_30 : decode cX7_signsIn 30 = .ok (.l2i, 1) := by decide +kernel
theorem dX7_signsIn_31 : decode cX7_signsIn 31 = .ok (.bipush 33, 2) := by decide +kernel
theorem dX7_signsIn_33 : decode cX7_signsIn 33 = .ok (.bipush 126, 2) := by decide +kernel
theorem dX7_signsIn_35 : decode cX7_signsIn 35 = .ok (.invokestatic 69, 3) := by decide +kernel
theorem dX7_signsIn_38 : decode cX7_signsIn 38 = .ok (.ifCond .ne 5, 3) := by decide +kernel
theorem dX7_signsIn_41 : decode cX7_signsIn 41 = .ok (.iconst 0, 1) := by decide +kernel
theorem dX7_signsIn_42 : decode cX7_signsIn 42 = .ok (.ireturn, 1) := by decide +kernel
theorem dX7_signsIn_43 : decode cX7_signsIn 43 = .ok (.lload_n 2, 1) := by decide +kernel
theorem dX7_signsIn_44 : decode cX7_signsIn 44 = .ok (.bipush 8, 2) := by decide +kernel
theorem dX7_signsIn_46 : decode cX7_signsIn 46 = .ok (.lushr, 1) := by decide +kernel
theorem dX7_signsIn_47 : decode cX7_signsIn 47 = .ok (.lstore_n 2, 1) := by decide +kernel
theorem dX7_signsIn_48 : decode cX7_signsIn 48 = .ok (.iinc 4 1, 3) := by decide +kernel
theorem dX7_signsIn_51 : decode cX7_signsIn 51 = .ok (.iinc 5 1, 3) := by decide +kernel
theorem dX7_signsIn_54 : decode cX7_signsIn 54 = .ok (.goto (-46), 3) := by decide +kernel
theorem dX7_signsIn_57 : decode cX7_signsIn 57 = .ok (.lload_n 2, 1) := by decide +kernel
theorem dX7_signsIn_58 : decode cX7_signsIn 58 = .ok (.lconst 0, 1) := by decide +kernel
theorem dX7_signsIn_59 : decode cX7_signsIn 59 = .ok (.lcmp, 1) := by decide +kernel
theorem dX7_signsIn_60 : decode cX7_signsIn 60 = .ok (.ifCond .ne 8, 3) := by decide +kernel
theorem dX7_signsIn_63 : decode cX7_signsIn 63 = .ok (.iload 4, 2) := by decide +kernel
theorem dX7_signsIn_65 : decode cX7_signsIn 65 = .ok (.goto 4, 3) := by decide +kernel
theorem dX7_signsIn_68 : decode cX7_signsIn 68 = .ok (.iconst 0, 1) := by decide +kernel
theorem dX7_signsIn_69 : decode cX7_signsIn 69 = .ok (.ireturn, 1) := by decide +kernel
set_option maxRecDepth 20000 in
theorem ggX7_tell_X5_has : GoodIn wsX7_tell wsX5_has := goodIn_r _ [7, 8, 9, 10, 11, 29, 30, 31, 32, 33, 34] (by decide +kernel) (by decide +kernel)
set_option maxRecDepth 20000 in
theorem gX7_tell_X5_has : GoodIn wsX7_tell (wsV RX7 102 RX5 yX5_has wsX5_has) := goodIn_app (goodIn_of _ (by decide +kernel)) ggX7_tell_X5_has
set_option maxRecDepth 20000 in
theorem ggX7_tell_X7_tellAlone : GoodIn wsX7_tell wsX7_tellAlone := goodIn_r _ [14, 15, 16, 17, 18, 19, 20, 21, 22, 23, 24, 25, 26, 29, 30, 31, 32, 33, 34, 35, 36, 37] (by decide +kernel) (by decide +kernel)
set_option maxRecDepth 20000 in
theorem gX7_tell_X7_tellAlone : GoodIn wsX7_tell (va_wsS RX7 259 yX7_tellAlone wsX7_tellAlone) := goodIn_app (goodIn_of _ (by decide +kernel)) ggX7_tell_X7_tellAlone
set_option maxRecDepth 20000 in
theorem ggX7_tell_X3_add : GoodIn wsX7_tell wsX3_add := goodIn_r _ [23, 24, 25, 26, 35, 36, 37] (by decide +kernel) (by decide +kernel)
set_option maxRecDepth 20000 in
theorem gX7_tell_X3_add : GoodIn wsX7_tell (wsV RX7 251 RX3 yX3_add wsX3_add) := goodIn_app (goodIn_of _ (by decide +kernel)) ggX7_tell_X3_add
set_option maxRecDepth 20000 in
theorem ggX7_tell_X7_tell : GoodIn wsX7_tell wsX7_tell := goodIn_r _ [0, 1, 2, 3, 4, 5, 6, 7, 8, 9, 10, 11, 12, 13, 14, 15, 16, 17, 18, 19, 20, 21, 22, 23, 24, 25, 26, 27, 28, 29, 30, 31, 32, 33, 34, 35, 36, 37] (by decide +kernel) (by decide +kernel)
set_option maxRecDepth 20000 in
theorem gX7_tell_X7_tell : GoodIn wsX7_tell (va_wsS RX7 151 yX7_tell wsX7_tell) := goodIn_app (goodIn_of _ (by decide +kernel)) ggX7_tell_X7_tell
theorem dX7_tell_0 : decode cX7_tell 0 = .ok (.iload_n 2, 1) := by decide +kernel
theorem dX7_tell_1 : decode cX7_tell 1 = .ok (.bipush 20, 2) := by decide +kernel
theorem dX7_tell_3 : decode cX7_tell 3 = .ok (.if_icmp .ge 11, 3) := by decide +kernel
theorem dX7_tell_6 : decode cX7_tell 6 = .ok (.aload_n 0, 1) := by decide +kernel
theorem dX7_tell_7 : decode cX7_tell 7 = .ok (.iload_n 1, 1) := by decide +kernel
theorem dX7_tell_8 : decode cX7_tell 8 = .ok (.invokevirtual 102, 3) := by decide +kernel
theorem dX7_tell_11 : decode cX7_tell 11 = .ok (.ifCond .ne 4, 3) := by decide +kernel
theorem dX7_tell_14 : decode cX7_tell 14 = .ok (.return_, 1) := by decide +kernel
theorem dX7_tell_15 : decode cX7_tell 15 = .ok (.aload_n 0, 1) := by decide +kernel
theorem dX7_tell_16 : decode cX7_tell 16 = .ok (.iload_n 1, 1) := by decide +kernel
theorem dX7_tell_17 : decode cX7_tell 17 = .ok (.aload_n 3, 1) := by decide +kernel
theorem dX7_tell_18 : decode cX7_tell 18 = .ok (.invokestatic 259, 3) := by decide +kernel
theorem dX7_tell_21 : decode cX7_tell 21 = .ok (.iconst 0, 1) := by decide +kernel
theorem dX7_tell_22 : decode cX7_tell 22 = .ok (.istore 4, 2) := by decide +kernel
theorem dX7_tell_24 : decode cX7_tell 24 = .ok (.iload_n 1, 1) := by decide +kernel
theorem dX7_tell_25 : decode cX7_tell 25 = .ok (.iconst 1, 1) := by decide +kernel
theorem dX7_tell_26 : decode cX7_tell 26 = .ok (.iadd, 1) := by decide +kernel
theorem dX7_tell_27 : decode cX7_tell 27 = .ok (.istore 5, 2) := by decide +kernel
theorem dX7_tell_29 : decode cX7_tell 29 = .ok (.iload 5, 2) := by decide +kernel
theorem dX7_tell_31 : decode cX7_tell 31 = .ok (.aload_n 0, 1) := by decide +kernel
theorem dX7_tell_32 : decode cX7_tell 32 = .ok (.getfield 98, 3) := by decide +kernel
theorem dX7_tell_35 : decode cX7_tell 35 = .ok (.if_icmp .ge 49, 3) := by decide +kernel
theorem dX7_tell_38 : decode cX7_tell 38 = .ok (.aload_n 0, 1) := by decide +kernel
theorem dX7_tell_39 : decode cX7_tell 39 = .ok (.getfield 165, 3) := by decide +kernel
theorem dX7_tell_42 : decode cX7_tell 42 = .ok (.iload 5, 2) := by decide +kernel
theorem dX7_tell_44 : decode cX7_tell 44 = .ok (.iaload, 1) := by decide +kernel
theorem dX7_tell_45 : decode cX7_tell 45 = .ok (.iload_n 1, 1) := by decide +kernel
theorem dX7_tell_46 : decode cX7_tell 46 = .ok (.if_icmp .ne 32, 3) := by decide +kernel
theorem dX7_tell_49 : decode cX7_tell 49 = .ok (.aload_n 3, 1) := by decide +kernel
theorem dX7_tell_50 : decode cX7_tell 50 = .ok (.iload 4, 2) := by decide +kernel
theorem dX7_tell_52 : decode cX7_tell 52 = .ok (.ifCond .eq 8, 3) := by decide +kernel
theorem dX7_tell_55 : decode cX7_tell 55 = .ok (.bipush 44, 2) := by decide +kernel
theorem dX7_tell_57 : decode cX7_tell 57 = .ok (.goto 5, 3) := by decide +kernel
theorem dX7_tell_60 : decode cX7_tell 60 = .ok (.bipush 40, 2) := by decide +kernel
theorem dX7_tell_62 : decode cX7_tell 62 = .ok (.invokevirtual 251, 3) := by decide +kernel
theorem dX7_tell_65 : decode cX7_tell 65 = .ok (.iconst 1, 1) := by decide +kernel
theorem dX7_tell_66 : decode cX7_tell 66 = .ok (.istore 4, 2) := by decide +kernel
theorem dX7_tell_68 : decode cX7_tell 68 = .ok (.aload_n 0, 1) := by decide +kernel
theorem dX7_tell_69 : decode cX7_tell 69 = .ok (.iload 5, 2) := by decide +kernel
theorem dX7_tell_71 : decode cX7_tell 71 = .ok (.iload_n 2, 1) := by decide +kernel
theorem dX7_tell_72 : decode cX7_tell 72 = .ok (.iconst 1, 1) := by decide +kernel
theorem dX7_tell_73 : decode cX7_tell 73 = .ok (.iadd, 1) := by decide +kernel
theorem dX7_tell_74 : decode cX7_tell 74 = .ok (.aload_n 3, 1) := by decide +kernel
theorem dX7_tell_75 : decode cX7_tell 75 = .ok (.invokestatic 151, 3) := by decide +kernel
theorem dX7_tell_78 : decode cX7_tell 78 = .ok (.iinc 5 1, 3) := by decide +kernel
theorem dX7_tell_81 : decode cX7_tell 81 = .ok (.goto (-52), 3) := by decide +kernel
theorem dX7_tell_84 : decode cX7_tell 84 = .ok (.iload 4, 2) := by decide +kernel
theorem dX7_tell_86 : decode cX7_tell 86 = .ok (.ifCond .eq 9, 3) := by decide +kernel
theorem dX7_tell_89 : decode cX7_tell 89 = .ok (.aload_n 3, 1) := by decide +kernel
theorem dX7_tell_90 : decode cX7_tell 90 = .ok (.bipush 41, 2) := by decide +kernel
theorem dX7_tell_92 : decode cX7_tell 92 = .ok (.invokevirtual 251, 3) := by decide +kernel
theorem dX7_tell_95 : decode cX7_tell 95 = .ok (.return_, 1) := by decide +kernel
set_option maxRecDepth 20000 in
theorem ggX7_tellAlone_X3_add : GoodIn wsX7_tellAlone wsX3_add := goodIn_r _ [9, 10, 11, 12, 19, 20, 21] (by decide +kernel) (by decide +kernel)
set_option maxRecDepth 20000 in
theorem gX7_tellAlone_X3_add : GoodIn wsX7_tellAlone (wsV RX7 251 RX3 yX3_add wsX3_add) := goodIn_app (goodIn_of _ (by decide +kernel)) ggX7_tellAlone_X3_add
theorem dX7_tellAlone_0 : decode cX7_tellAlone 0 = .ok (.aload_n 2, 1) := by decide +kernel
theorem dX7_tellAlone_1 : decode cX7_tellAlone 1 = .ok (.bipush 48, 2) := by decide +kernel
theorem dX7_tellAlone_3 : decode cX7_tellAlone 3 = .ok (.aload_n 0, 1) := by decide +kernel
theorem dX7_tellAlone_4 : decode cX7_tellAlone 4 = .ok (.getfield 168, 3) := by decide +kernel
theorem dX7_tellAlone_7 : decode cX7_tellAlone 7 = .ok (.iload_n 1, 1) := by decide +kernel
theorem dX7_tellAlone_8 : decode cX7_tellAlone 8 = .ok (.iaload, 1) := by decide +kernel
theorem dX7_tellAlone_9 : decode cX7_tellAlone 9 = .ok (.iadd, 1) := by decide +kernel
theorem dX7_tellAlone_10 : decode cX7_tellAlone 10 = .ok (.invokevirtual 251, 3) := by decide +kernel
theorem dX7_tellAlone_13 : decode cX7_tellAlone 13 = .ok (.aload_n 0, 1) := by decide +kernel
theorem dX7_tellAlone_14 : decode cX7_tellAlone 14 = .ok (.getfield 171, 3) := by decide +kernel
theorem dX7_tellAlone_17 : decode cX7_tellAlone 17 = .ok (.iload_n 1, 1) := by decide +kernel
theorem dX7_tellAlone_18 : decode cX7_tellAlone 18 = .ok (.iaload, 1) := by decide +kernel
theorem dX7_tellAlone_19 : decode cX7_tellAlone 19 = .ok (.ifCond .le 18, 3) := by decide +kernel
theorem dX7_tellAlone_22 : decode cX7_tellAlone 22 = .ok (.aload_n 2, 1) := by decide +kernel
theorem dX7_tellAlone_23 : decode cX7_tellAlone 23 = .ok (.bipush 97, 2) := by decide +kernel
theorem dX7_tellAlone_25 : decode cX7_tellAlone 25 = .ok (.aload_n 0, 1) := by decide +kernel
theorem dX7_tellAlone_26 : decode cX7_tellAlone 26 = .ok (.getfield 171, 3) := by decide +kernel
theorem dX7_tellAlone_29 : decode cX7_tellAlone 29 = .ok (.iload_n 1, 1) := by decide +kernel
theorem dX7_tellAlone_30 : decode cX7_tellAlone 30 = .ok (.iaload, 1) := by decide +kernel
theorem dX7_tellAlone_31 : decode cX7_tellAlone 31 = .ok (.iadd, 1) := by decide +kernel
theorem dX7_tellAlone_32 : decode cX7_tellAlone 32 = .ok (.iconst 1, 1) := by decide +kernel
theorem dX7_tellAlone_33 : decode cX7_tellAlone 33 = .ok (.isub, 1) := by decide +kernel
theorem dX7_tellAlone_34 : decode cX7_tellAlone 34 = .ok (.invokevirtual 251, 3) := by decide +kernel
theorem dX7_tellAlone_37 : decode cX7_tellAlone 37 = .ok (.aload_n 0, 1) := by decide +kernel
theorem dX7_tellAlone_38 : decode cX7_tellAlone 38 = .ok (.getfield 174, 3) := by decide +kernel
theorem dX7_tellAlone_41 : decode cX7_tellAlone 41 = .ok (.iload_n 1, 1) := by decide +kernel
theorem dX7_tellAlone_42 : decode cX7_tellAlone 42 = .ok (.iaload, 1) := by decide +kernel
theorem dX7_tellAlone_43 : decode cX7_tellAlone 43 = .ok (.ifCond .le 9, 3) := by decide +kernel
theorem dX7_tellAlone_46 : decode cX7_tellAlone 46 = .ok (.aload_n 2, 1) := by decide +kernel
theorem dX7_tellAlone_47 : decode cX7_tellAlone 47 = .ok (.bipush 33, 2) := by decide +kernel
theorem dX7_tellAlone_49 : decode cX7_tellAlone 49 = .ok (.invokevirtual 251, 3) := by decide +kernel
theorem dX7_tellAlone_52 : decode cX7_tellAlone 52 = .ok (.aload_n 0, 1) := by decide +kernel
theorem dX7_tellAlone_53 : decode cX7_tellAlone 53 = .ok (.getfield 177, 3) := by decide +kernel
theorem dX7_tellAlone_56 : decode cX7_tellAlone 56 = .ok (.iload_n 1, 1) := by decide +kernel
theorem dX7_tellAlone_57 : decode cX7_tellAlone 57 = .ok (.iaload, 1) := by decide +kernel
theorem dX7_tellAlone_58 : decode cX7_tellAlone 58 = .ok (.istore_n 3, 1) := by decide +kernel
theorem dX7_tellAlone_59 : decode cX7_tellAlone 59 = .ok (.iload_n 3, 1) := by decide +kernel
theorem dX7_tellAlone_60 : decode cX7_tellAlone 60 = .ok (.ifCond .le 37, 3) := by decide +kernel
theorem dX7_tellAlone_63 : decode cX7_tellAlone 63 = .ok (.aload_n 2, 1) := by decide +kernel
theorem dX7_tellAlone_64 : decode cX7_tellAlone 64 = .ok (.bipush 42, 2) := by decide +kernel
theorem dX7_tellAlone_66 : decode cX7_tellAlone 66 = .ok (.invokevirtual 251, 3) := by decide +kernel
theorem dX7_tellAlone_69 : decode cX7_tellAlone 69 = .ok (.iload_n 3, 1) := by decide +kernel
theorem dX7_tellAlone_70 : decode cX7_tellAlone 70 = .ok (.bipush 10, 2) := by decide +kernel
theorem dX7_tellAlone_72 : decode cX7_tellAlone 72 = .ok (.if_icmp .lt 14, 3) := by decide +kernel
theorem dX7_tellAlone_75 : decode cX7_tellAlone 75 = .ok (.aload_n 2, 1) := by decide +kernel
theorem dX7_tellAlone_76 : decode cX7_tellAlone 76 = .ok (.bipush 48, 2) := by decide +kernel
theorem dX7_tellAlone_78 : decode cX7_tellAlone 78 = .ok (.iload_n 3, 1) := by decide +kernel
theorem dX7_tellAlone_79 : decode cX7_tellAlone 79 = .ok (.bipush 10, 2) := by decide +kernel
theorem dX7_tellAlone_81 : decode cX7_tellAlone 81 = .ok (.idiv, 1) := by decide +kernel
theorem dX7_tellAlone_82 : decode cX7_tellAlone 82 = .ok (.iadd, 1) := by decide +kernel
theorem dX7_tellAlone_83 : decode cX7_tellAlone 83 = .ok (.invokevirtual 251, 3) := by decide +kernel
theorem dX7_tellAlone_86 : decode cX7_tellAlone 86 = .ok (.aload_n 2, 1) := by decide +kernel
theorem dX7_tellAlone_87 : decode cX7_tellAlone 87 = .ok (.bipush 48, 2) := by decide +kernel
theorem dX7_tellAlone_89 : decode cX7_tellAlone 89 = .ok (.iload_n 3, 1) := by decide +kernel
theorem dX7_tellAlone_90 : decode cX7_tellAlone 90 = .ok (.bipush 10, 2) := by decide +kernel
theorem dX7_tellAlone_92 : decode cX7_tellAlone 92 = .ok (.irem, 1) := by decide +kernel
theorem dX7_tellAlone_93 : decode cX7_tellAlone 93 = .ok (.iadd, 1) := by decide +kernel
theorem dX7_tellAlone_94 : decode cX7_tellAlone 94 = .ok (.invokevirtual 251, 3) := by decide +kernel
theorem dX7_tellAlone_97 : decode cX7_tellAlone 97 = .ok (.return_, 1) := by decide +kernel
theorem dX7_copyRow_0 : decode cX7_copyRow 0 = .ok (.aload_n 0, 1) := by decide +kernel
theorem dX7_copyRow_1 : decode cX7_copyRow 1 = .ok (.iconst 0, 1) := by decide +kernel
theorem dX7_copyRow_2 : decode cX7_copyRow 2 = .ok (.aload_n 1, 1) := by decide +kernel
theorem dX7_copyRow_3 : decode cX7_copyRow 3 = .ok (.iconst 0, 1) := by decide +kernel
theorem dX7_copyRow_4 : decode cX7_copyRow 4 = .ok (.aload_n 0, 1) := by decide +kernel
theorem dX7_copyRow_5 : decode cX7_copyRow 5 = .ok (.arraylength, 1) := by decide +kernel
theorem dX7_copyRow_6 : decode cX7_copyRow 6 = .ok (.aload_n 1, 1) := by decide +kernel
theorem dX7_copyRow_7 : decode cX7_copyRow 7 = .ok (.arraylength, 1) := by decide +kernel
theorem dX7_copyRow_8 : decode cX7_copyRow 8 = .ok (.invokestatic 263, 3) := by decide +kernel
theorem dX7_copyRow_11 : decode cX7_copyRow 11 = .ok (.invokestatic 268, 3) := by decide +kernel
theorem dX7_copyRow_14 : decode cX7_copyRow 14 = .ok (.return_, 1) := by decide +kernel
end
section
set_option maxRecDepth 20000 in
theorem ggX8_init_X8_at : GoodIn wsX8_init wsX8_at := goodIn_r _ [17] (by decide +kernel) (by decide +kernel)
set_option maxRecDepth 20000 in
theorem gX8_init_X8_at : GoodIn wsX8_init (va_wsS RX8 35 yX8_at wsX8_at) := goodIn_app (goodIn_of _ (by decide +kernel)) ggX8_init_X8_at
theorem dX8_init_0 : decode cX8_init 0 = .ok (.aload_n 0, 1) := by decide +kernel
theorem dX8_init_1 : decode cX8_init 1 = .ok (.invokespecial 1, 3) := by decide +kernel
theorem dX8_init_4 : decode cX8_init 4 = .ok (.aload_n 0, 1) := by decide +kernel
theorem dX8_init_5 : decode cX8_init 5 = .ok (.sipush 133, 3) := by decide +kernel
theorem dX8_init_8 : decode cX8_init 8 = .ok (.newarray .int, 2) := by decide +kernel
theorem dX8_init_10 : decode cX8_init 10 = .ok (.putfield 7, 3) := by decide +kernel
theorem dX8_init_13 : decode cX8_init 13 = .ok (.aload_n 0, 1) := by decide +kernel
theorem dX8_init_14 : decode cX8_init 14 = .ok (.sipush 798, 3) := by decide +kernel
theorem dX8_init_17 : decode cX8_init 17 = .ok (.newarray .int, 2) := by decide +kernel
theorem dX8_init_19 : decode cX8_init 19 = .ok (.putfield 13, 3) := by decide +kernel
theorem dX8_init_22 : decode cX8_init 22 = .ok (.aload_n 0, 1) := by decide +kernel
theorem dX8_init_23 : decode cX8_init 23 = .ok (.sipush 266, 3) := by decide +kernel
theorem dX8_init_26 : decode cX8_init 26 = .ok (.newarray .int, 2) := by decide +kernel
theorem dX8_init_28 : decode cX8_init 28 = .ok (.putfield 16, 3) := by decide +kernel
theorem dX8_init_31 : decode cX8_init 31 = .ok (.aload_n 0, 1) := by decide +kernel
theorem dX8_init_32 : decode cX8_init 32 = .ok (.iconst 2, 1) := by decide +kernel
theorem dX8_init_33 : decode cX8_init 33 = .ok (.newarray .boolean, 2) := by decide +kernel
theorem dX8_init_35 : decode cX8_init 35 = .ok (.putfield 19, 3) := by decide +kernel
theorem dX8_init_38 : decode cX8_init 38 = .ok (.aload_n 0, 1) := by decide +kernel
theorem dX8_init_39 : decode cX8_init 39 = .ok (.bipush 80, 2) := by decide +kernel
theorem dX8_init_41 : decode cX8_init 41 = .ok (.newarray .int, 2) := by decide +kernel
theorem dX8_init_43 : decode cX8_init 43 = .ok (.putfield 23, 3) := by decide +kernel
theorem dX8_init_46 : decode cX8_init 46 = .ok (.aload_n 0, 1) := by decide +kernel
theorem dX8_init_47 : decode cX8_init 47 = .ok (.bipush 20, 2) := by decide +kernel
theorem dX8_init_49 : decode cX8_init 49 = .ok (.newarray .int, 2) := by decide +kernel
theorem dX8_init_51 : decode cX8_init 51 = .ok (.putfield 26, 3) := by decide +kernel
theorem dX8_init_54 : decode cX8_init 54 = .ok (.aload_n 0, 1) := by decide +kernel
theorem dX8_init_55 : decode cX8_init 55 = .ok (.bipush 100, 2) := by decide +kernel
theorem dX8_init_57 : decode cX8_init 57 = .ok (.newarray .int, 2) := by decide +kernel
theorem dX8_init_59 : decode cX8_init 59 = .ok (.putfield 29, 3) := by decide +kernel
theorem dX8_init_62 : decode cX8_init 62 = .ok (.aload_n 0, 1) := by decide +kernel
theorem dX8_init_63 : decode cX8_init 63 = .ok (.sipush 300, 3) := by decide +kernel
theorem dX8_init_66 : decode cX8_init 66 = .ok (.newarray .int, 2) := by decide +kernel
theorem dX8_init_68 : decode cX8_init 68 = .ok (.putfield 32, 3) := by decide +kernel
theorem dX8_init_71 : decode cX8_init 71 = .ok (.aload_n 0, 1) := by decide +kernel
theorem dX8_init_72 : decode cX8_init 72 = .ok (.getfield 7, 3) := by decide +kernel
theorem dX8_init_75 : decode cX8_init 75 = .ok (.iconst 0, 1) := by decide +kernel
theorem dX8_init_76 : decode cX8_init 76 = .ok (.bipush 8, 2) := by decide +kernel
theorem dX8_init_78 : decode cX8_init 78 = .ok (.iastore, 1) := by decide +kernel
theorem dX8_init_79 : decode cX8_init 79 = .ok (.aload_n 0, 1) := by decide +kernel
theorem dX8_init_80 : decode cX8_init 80 = .ok (.getfield 7, 3) := by decide +kernel
theorem dX8_init_83 : decode cX8_init 83 = .ok (.iconst 1, 1) := by decide +kernel
theorem dX8_init_84 : decode cX8_init 84 = .ok (.bipush 20, 2) := by decide +kernel
theorem dX8_init_86 : decode cX8_init 86 = .ok (.iastore, 1) := by decide +kernel
theorem dX8_init_87 : decode cX8_init 87 = .ok (.aload_n 0, 1) := by decide +kernel
theorem dX8_init_88 : decode cX8_init 88 = .ok (.getfield 7, 3) := by decide +kernel
theorem dX8_init_91 : decode cX8_init 91 = .ok (.iconst 2, 1) := by decide +kernel
theorem dX8_init_92 : decode cX8_init 92 = .ok (.bipush 30, 2) := by decide +kernel
theorem dX8_init_94 : decode cX8_init 94 = .ok (.iastore, 1) := by decide +kernel
theorem dX8_init_95 : decode cX8_init 95 = .ok (.aload_n 0, 1) := by decide +kernel
theorem dX8_init_96 : decode cX8_init 96 = .ok (.getfield 7, 3) := by decide +kernel
theorem dX8_init_99 : decode cX8_init 99 = .ok (.iconst 3, 1) := by decide +kernel
theorem dX8_init_100 : decode cX8_init 100 = .ok (.bipush 12, 2) := by decide +kernel
theorem dX8_init_102 : decode cX8_init 102 = .ok (.iastore, 1) := by decide +kernel
theorem dX8_init_103 : decode cX8_init 103 = .ok (.aload_n 0, 1) := by decide +kernel
theorem dX8_init_104 : decode cX8_init 104 = .ok (.getfield 7, 3) := by decide +kernel
theorem dX8_init_107 : decode cX8_init 107 = .ok (.iconst 5, 1) := by decide +kernel
theorem dX8_init_108 : decode cX8_init 108 = .ok (.iconst 1, 1) := by decide +kernel
theorem dX8_init_109 : decode cX8_init 109 = .ok (.iastore, 1) := by decide +kernel
theorem dX8_init_110 : decode cX8_init 110 = .ok (.aload_n 0, 1) := by decide +kernel
theorem dX8_init_111 : decode cX8_init 111 = .ok (.getfield 7, 3) := by decide +kernel
theorem dX8_init_114 : decode cX8_init 114 = .ok (.iconst 0, 1) := by decide +kernel
theorem dX8_init_115 : decode cX8_init 115 = .ok (.iconst 0, 1) := by decide +kernel
theorem dX8_init_116 : decode cX8_init 116 = .ok (.invokestatic 35, 3) := by decide +kernel
theorem dX8_init_119 : decode cX8_init 119 = .ok (.iconst (-1), 1) := by decide +kernel
theorem dX8_init_120 : decode cX8_init 120 = .ok (.iastore, 1) := by decide +kernel
theorem dX8_init_121 : decode cX8_init 121 = .ok (.aload_n 0, 1) := by decide +kernel
theorem dX8_init_122 : decode cX8_init 122 = .ok (.getfield 7, 3) := by decide +kernel
theorem dX8_init_125 : decode cX8_init 125 = .ok (.iconst 0, 1) := by decide +kernel
theorem dX8_init_126 : decode cX8_init 126 = .ok (.iconst 1, 1) := by decide +kernel
theorem dX8_init_127 : decode cX8_init 127 = .ok (.invokestatic 35, 3) := by decide +kernel
theorem dX8_init_130 : decode cX8_init 130 = .ok (.iconst 1, 1) := by decide +kernel
theorem dX8_init_131 : decode cX8_init 131 = .ok (.iastore, 1) := by decide +kernel
theorem dX8_init_132 : decode cX8_init 132 = .ok (.return_, 1) := by decide +kernel
theorem dX8_in_0 : decode cX8_in 0 = .ok (.iload_n 0, 1) := by decide +kernel
theorem dX8_in_1 : decode cX8_in 1 = .ok (.iload_n 1, 1) := by decide +kernel
theorem dX8_in_2 : decode cX8_in 2 = .ok (.if_icmp .lt 12, 3) := by decide +kernel
theorem dX8_in_5 : decode cX8_in 5 = .ok (.iload_n 0, 1) := by decide +kernel
theorem dX8_in_6 : decode cX8_in 6 = .ok (.iload_n 2, 1) := by decide +kernel
theorem dX8_in_7 : decode cX8_in 7 = .ok (.if_icmp .gt 7, 3) := by decide +kernel
theorem dX8_in_10 : decode cX8_in 10 = .ok (.iconst 1, 1) := by decide +kernel
theorem dX8_in_11 : decode cX8_in 11 = .ok (.goto 4, 3) := by decide +kernel
theorem dX8_in_14 : decode cX8_in 14 = .ok (.iconst 0, 1) := by decide +kernel
theorem dX8_in_15 : decode cX8_in 15 = .ok (.ireturn, 1) := by decide +kernel
theorem dX8_less_0 : decode cX8_less 0 = .ok (.iload_n 0, 1) := by decide +kernel
theorem dX8_less_1 : decode cX8_less 1 = .ok (.iload_n 1, 1) := by decide +kernel
theorem dX8_less_2 : decode cX8_less 2 = .ok (.if_icmp .ge 7, 3) := by decide +kernel
theorem dX8_less_5 : decode cX8_less 5 = .ok (.iload_n 0, 1) := by decide +kernel
theorem dX8_less_6 : decode cX8_less 6 = .ok (.goto 4, 3) := by decide +kernel
theorem dX8_less_9 : decode cX8_less 9 = .ok (.iload_n 1, 1) := by decide +kernel
theorem dX8_less_10 : decode cX8_less 10 = .ok (.ireturn, 1) := by decide +kernel
theorem dX8_at_0 : decode cX8_at 0 = .ok (.bipush 33, 2) := by decide +kernel
theorem dX8_at_2 : decode cX8_at 2 = .ok (.iconst 5, 1) := by decide +kernel
theorem dX8_at_3 : decode cX8_at 3 = .ok (.iload_n 0, 1) := by decide +kernel
theorem dX8_at_4 : decode cX8_at 4 = .ok (.imul, 1) := by decide +kernel
theorem dX8_at_5 : decode cX8_at 5 = .ok (.iadd, 1) := by decide +kernel
theorem dX8_at_6 : decode cX8_at 6 = .ok (.iload_n 1, 1) := by decide +kernel
theorem dX8_at_7 : decode cX8_at 7 = .ok (.iadd, 1) := by decide +kernel
theorem dX8_at_8 : decode cX8_at 8 = .ok (.ireturn, 1) := by decide +kernel
set_option maxRecDepth 20000 in
theorem ggX8_its_X8_at : GoodIn wsX8_its wsX8_at := goodIn_r _ [5] (by decide +kernel) (by decide +kernel)
set_option maxRecDepth 20000 in
theorem gX8_its_X8_at : GoodIn wsX8_its (va_wsS RX8 35 yX8_at wsX8_at) := goodIn_app (goodIn_of _ (by decide +kernel)) ggX8_its_X8_at
theorem dX8_its_0 : decode cX8_its 0 = .ok (.aload_n 0, 1) := by decide +kernel
theorem dX8_its_1 : decode cX8_its 1 = .ok (.getfield 7, 3) := by decide +kernel
theorem dX8_its_4 : decode cX8_its 4 = .ok (.iload_n 1, 1) := by decide +kernel
theorem dX8_its_5 : decode cX8_its 5 = .ok (.iload_n 2, 1) := by decide +kernel
theorem dX8_its_6 : decode cX8_its 6 = .ok (.invokestatic 35, 3) := by decide +kernel
theorem dX8_its_9 : decode cX8_its 9 = .ok (.iaload, 1) := by decide +kernel
theorem dX8_its_10 : decode cX8_its 10 = .ok (.ireturn, 1) := by decide +kernel
set_option maxRecDepth 20000 in
theorem ggX8_isStreet_X8_in : GoodIn wsX8_isStreet wsX8_in := goodIn_r _ [5] (by decide +kernel) (by decide +kernel)
set_option maxRecDepth 20000 in
theorem gX8_isStreet_X8_in : GoodIn wsX8_isStreet (va_wsS RX8 39 yX8_in wsX8_in) := goodIn_app (goodIn_of _ (by decide +kernel)) ggX8_isStreet_X8_in
theorem dX8_isStreet_0 : decode cX8_isStreet 0 = .ok (.iload_n 1, 1) := by decide +kernel
theorem dX8_isStreet_1 : decode cX8_isStreet 1 = .ok (.iconst 0, 1) := by decide +kernel
theorem dX8_isStreet_2 : decode cX8_isStreet 2 = .ok (.aload_n 0, 1) := by decide +kernel
theorem dX8_isStreet_3 : decode cX8_isStreet 3 = .ok (.getfield 7, 3) := by decide +kernel
theorem dX8_isStreet_6 : decode cX8_isStreet 6 = .ok (.iconst 5, 1) := by decide +kernel
theorem dX8_isStreet_7 : decode cX8_isStreet 7 = .ok (.iaload, 1) := by decide +kernel
theorem dX8_isStreet_8 : decode cX8_isStreet 8 = .ok (.iconst 1, 1) := by decide +kernel
theorem dX8_isStreet_9 : decode cX8_isStreet 9 = .ok (.isub, 1) := by decide +kernel
theorem dX8_isStreet_10 : decode cX8_isStreet 10 = .ok (.invokestatic 39, 3) := by decide +kernel
theorem dX8_isStreet_13 : decode cX8_isStreet 13 = .ok (.ireturn, 1) := by decide +kernel
theorem dX8_remembers_0 : decode cX8_remembers 0 = .ok (.aload_n 0, 1) := by decide +kernel
theorem dX8_remembers_1 : decode cX8_remembers 1 = .ok (.getfield 43, 3) := by decide +kernel
theorem dX8_remembers_4 : decode cX8_remembers 4 = .ok (.bipush 6, 2) := by decide +kernel
theorem dX8_remembers_6 : decode cX8_remembers 6 = .ok (.if_icmp .ne 44, 3) := by decide +kernel
theorem dX8_remembers_9 : decode cX8_remembers 9 = .ok (.iconst 0, 1) := by decide +kernel
theorem dX8_remembers_10 : decode cX8_remembers 10 = .ok (.istore_n 1, 1) := by decide +kernel
theorem dX8_remembers_11 : decode cX8_remembers 11 = .ok (.iload_n 1, 1) := by decide +kernel
theorem dX8_remembers_12 : decode cX8_remembers 12 = .ok (.sipush 665, 3) := by decide +kernel
theorem dX8_remembers_15 : decode cX8_remembers 15 = .ok (.if_icmp .ge 25, 3) := by decide +kernel
theorem dX8_remembers_18 : decode cX8_remembers 18 = .ok (.aload_n 0, 1) := by decide +kernel
theorem dX8_remembers_19 : decode cX8_remembers 19 = .ok (.getfield 13, 3) := by decide +kernel
theorem dX8_remembers_22 : decode cX8_remembers 22 = .ok (.iload_n 1, 1) := by decide +kernel
theorem dX8_remembers_23 : decode cX8_remembers 23 = .ok (.aload_n 0, 1) := by decide +kernel
theorem dX8_remembers_24 : decode cX8_remembers 24 = .ok (.getfield 13, 3) := by decide +kernel
theorem dX8_remembers_27 : decode cX8_remembers 27 = .ok (.sipush 133, 3) := by decide +kernel
theorem dX8_remembers_30 : decode cX8_remembers 30 = .ok (.iload_n 1, 1) := by decide +kernel
theorem dX8_remembers_31 : decode cX8_remembers 31 = .ok (.iadd, 1) := by decide +kernel
theorem dX8_remembers_32 : decode cX8_remembers 32 = .ok (.iaload, 1) := by decide +kernel
theorem dX8_remembers_33 : decode cX8_remembers 33 = .ok (.iastore, 1) := by decide +kernel
theorem dX8_remembers_34 : decode cX8_remembers 34 = .ok (.iinc 1 1, 3) := by decide +kernel
theorem dX8_remembers_37 : decode cX8_remembers 37 = .ok (.goto (-26), 3) := by decide +kernel
theorem dX8_remembers_40 : decode cX8_remembers 40 = .ok (.aload_n 0, 1) := by decide +kernel
theorem dX8_remembers_41 : decode cX8_remembers 41 = .ok (.dup, 1) := by decide +kernel
theorem dX8_remembers_42 : decode cX8_remembers 42 = .ok (.getfield 43, 3) := by decide +kernel
theorem dX8_remembers_45 : decode cX8_remembers 45 = .ok (.iconst 1, 1) := by decide +kernel
theorem dX8_remembers_46 : decode cX8_remembers 46 = .ok (.isub, 1) := by decide +kernel
theorem dX8_remembers_47 : decode cX8_remembers 47 = .ok (.putfield 43, 3) := by decide +kernel
theorem dX8_remembers_50 : decode cX8_remembers 50 = .ok (.iconst 0, 1) := by decide +kernel
theorem dX8_remembers_51 : decode cX8_remembers 51 = .ok (.istore_n 1, 1) := by decide +kernel
theorem dX8_remembers_52 : decode cX8_remembers 52 = .ok (.iload_n 1, 1) := by decide +kernel
theorem dX8_remembers_53 : decode cX8_remembers 53 = .ok (.sipush 133, 3) := by decide +kernel
theorem dX8_remembers_56 : decode cX8_remembers 56 = .ok (.if_icmp .ge 30, 3) := by decide +kernel
theorem dX8_remembers_59 : decode cX8_remembers 59 = .ok (.aload_n 0, 1) := by decide +kernel
theorem dX8_remembers_60 : decode cX8_remembers 60 = .ok (.getfield 13, 3) := by decide +kernel
theorem dX8_remembers_63 : decode cX8_remembers 63 = .ok (.sipush 133, 3) := by decide +kernel
theorem dX8_remembers_66 : decode cX8_remembers 66 = .ok (.aload_n 0, 1) := by decide +kernel
theorem dX8_remembers_67 : decode cX8_remembers 67 = .ok (.getfield 43, 3) := by decide +kernel
theorem dX8_remembers_70 : decode cX8_remembers 70 = .ok (.imul, 1) := by decide +kernel
theorem dX8_remembers_71 : decode cX8_remembers 71 = .ok (.iload_n 1, 1) := by decide +kernel
theorem dX8_remembers_72 : decode cX8_remembers 72 = .ok (.iadd, 1) := by decide +kernel
theorem dX8_remembers_73 : decode cX8_remembers 73 = .ok (.aload_n 0, 1) := by decide +kernel
theorem dX8_remembers_74 : decode cX8_remembers 74 = .ok (.getfield 7, 3) := by decide +kernel
theorem dX8_remembers_77 : decode cX8_remembers 77 = .ok (.iload_n 1, 1) := by decide +kernel
theorem dX8_remembers_78 : decode cX8_remembers 78 = .ok (.iaload, 1) := by decide +kernel
theorem dX8_remembers_79 : decode cX8_remembers 79 = .ok (.iastore, 1) := by decide +kernel
theorem dX8_remembers_80 : decode cX8_remembers 80 = .ok (.iinc 1 1, 3) := by decide +kernel
theorem dX8_remembers_83 : decode cX8_remembers 83 = .ok (.goto (-31), 3) := by decide +kernel
theorem dX8_remembers_86 : decode cX8_remembers 86 = .ok (.aload_n 0, 1) := by decide +kernel
theorem dX8_remembers_87 : decode cX8_remembers 87 = .ok (.dup, 1) := by decide +kernel
theorem dX8_remembers_88 : decode cX8_remembers 88 = .ok (.getfield 43, 3) := by decide +kernel
theorem dX8_remembers_91 : decode cX8_remembers 91 = .ok (.iconst 1, 1) := by decide +kernel
theorem dX8_remembers_92 : decode cX8_remembers 92 = .ok (.iadd, 1) := by decide +kernel
theorem dX8_remembers_93 : decode cX8_remembers 93 = .ok (.putfield 43, 3) := by decide +kernel
theorem dX8_remembers_96 : decode cX8_remembers 96 = .ok (.return_, 1) := by decide +kernel
set_option maxRecDepth 20000 in
theorem ggX8_parted_X8_its : GoodIn wsX8_parted wsX8_its := goodIn_r _ [7, 1, 8, 9, 6, 10, 14, 15, 16, 17, 18, 19, 20, 21, 22, 23, 24, 25, 26, 27] (by decide +kernel) (by decide +kernel)
set_option maxRecDepth 20000 in
theorem gX8_parted_X8_its : GoodIn wsX8_parted (wsV RX8 47 RX8 yX8_its wsX8_its) := goodIn_app (goodIn_of _ (by decide +kernel)) ggX8_parted_X8_its
set_option maxRecDepth 20000 in
theorem ggX8_parted_X8_less : GoodIn wsX8_parted wsX8_less := goodIn_r _ [13] (by decide +kernel) (by decide +kernel)
set_option maxRecDepth 20000 in
theorem gX8_parted_X8_less : GoodIn wsX8_parted (va_wsS RX8 50 yX8_less wsX8_less) := goodIn_app (goodIn_of _ (by decide +kernel)) ggX8_parted_X8_less
theorem dX8_parted_0 : decode cX8_parted 0 = .ok (.aload_n 0, 1) := by decide +kernel
theorem dX8_parted_1 : decode cX8_parted 1 = .ok (.iload_n 1, 1) := by decide +kernel
theorem dX8_parted_2 : decode cX8_parted 2 = .ok (.iconst 0, 1) := by decide +kernel
theorem dX8_parted_3 : decode cX8_parted 3 = .ok (.invokevirtual 47, 3) := by decide +kernel
theorem dX8_parted_6 : decode cX8_parted 6 = .ok (.istore_n 3, 1) := by decide +kernel
theorem dX8_parted_7 : decode cX8_parted 7 = .ok (.aload_n 0, 1) := by decide +kernel
theorem dX8_parted_8 : decode cX8_parted 8 = .ok (.iload_n 1, 1) := by decide +kernel
theorem dX8_parted_9 : decode cX8_parted 9 = .ok (.iconst 1, 1) := by decide +kernel
theorem dX8_parted_10 : decode cX8_parted 10 = .ok (.invokevirtual 47, 3) := by decide +kernel
theorem dX8_parted_13 : decode cX8_parted 13 = .ok (.istore 4, 2) := by decide +kernel
theorem dX8_parted_15 : decode cX8_parted 15 = .ok (.iconst 0, 1) := by decide +kernel
theorem dX8_parted_16 : decode cX8_parted 16 = .ok (.istore 5, 2) := by decide +kernel
theorem dX8_parted_18 : decode cX8_parted 18 = .ok (.iconst 0, 1) := by decide +kernel
theorem dX8_parted_19 : decode cX8_parted 19 = .ok (.istore 6, 2) := by decide +kernel
theorem dX8_parted_21 : decode cX8_parted 21 = .ok (.iconst 1, 1) := by decide +kernel
theorem dX8_parted_22 : decode cX8_parted 22 = .ok (.istore 7, 2) := by decide +kernel
theorem dX8_parted_24 : decode cX8_parted 24 = .ok (.iload 7, 2) := by decide +kernel
theorem dX8_parted_26 : decode cX8_parted 26 = .ok (.aload_n 0, 1) := by decide +kernel
theorem dX8_parted_27 : decode cX8_parted 27 = .ok (.getfield 7, 3) := by decide +kernel
theorem dX8_parted_30 : decode cX8_parted 30 = .ok (.iconst 5, 1) := by decide +kernel
theorem dX8_parted_31 : decode cX8_parted 31 = .ok (.iaload, 1) := by decide +kernel
theorem dX8_parted_32 : decode cX8_parted 32 = .ok (.if_icmp .ge 60, 3) := by decide +kernel
theorem dX8_parted_35 : decode cX8_parted 35 = .ok (.aload_n 0, 1) := by decide +kernel
theorem dX8_parted_36 : decode cX8_parted 36 = .ok (.iload 7, 2) := by decide +kernel
theorem dX8_parted_38 : decode cX8_parted 38 = .ok (.iconst 0, 1) := by decide +kernel
theorem dX8_parted_39 : decode cX8_parted 39 = .ok (.invokevirtual 47, 3) := by decide +kernel
theorem dX8_parted_42 : decode cX8_parted 42 = .ok (.iload_n 3, 1) := by decide +kernel
theorem dX8_parted_43 : decode cX8_parted 43 = .ok (.if_icmp .ne 43, 3) := by decide +kernel
theorem dX8_parted_46 : decode cX8_parted 46 = .ok (.iload 7, 2) := by decide +kernel
theorem dX8_parted_48 : decode cX8_parted 48 = .ok (.iload_n 2, 1) := by decide +kernel
theorem dX8_parted_49 : decode cX8_parted 49 = .ok (.if_icmp .eq 37, 3) := by decide +kernel
theorem dX8_parted_52 : decode cX8_parted 52 = .ok (.iload 5, 2) := by decide +kernel
theorem dX8_parted_54 : decode cX8_parted 54 = .ok (.aload_n 0, 1) := by decide +kernel
theorem dX8_parted_55 : decode cX8_parted 55 = .ok (.iload 7, 2) := by decide +kernel
theorem dX8_parted_57 : decode cX8_parted 57 = .ok (.iconst 1, 1) := by decide +kernel
theorem dX8_parted_58 : decode cX8_parted 58 = .ok (.invokevirtual 47, 3) := by decide +kernel
theorem dX8_parted_61 : decode cX8_parted 61 = .ok (.iadd, 1) := by decide +kernel
theorem dX8_parted_62 : decode cX8_parted 62 = .ok (.istore 5, 2) := by decide +kernel
theorem dX8_parted_64 : decode cX8_parted 64 = .ok (.iload 6, 2) := by decide +kernel
theorem dX8_parted_66 : decode cX8_parted 66 = .ok (.aload_n 0, 1) := by decide +kernel
theorem dX8_parted_67 : decode cX8_parted 67 = .ok (.iload 7, 2) := by decide +kernel
theorem dX8_parted_69 : decode cX8_parted 69 = .ok (.iconst 1, 1) := by decide +kernel
theorem dX8_parted_70 : decode cX8_parted 70 = .ok (.invokevirtual 47, 3) := by decide +kernel
theorem dX8_parted_73 : decode cX8_parted 73 = .ok (.iload 4, 2) := by decide +kernel
theorem dX8_parted_75 : decode cX8_parted 75 = .ok (.if_icmp .ge 7, 3) := by decide +kernel
theorem dX8_parted_78 : decode cX8_parted 78 = .ok (.iconst 5, 1) := by decide +kernel
theorem dX8_parted_79 : decode cX8_parted 79 = .ok (.goto 4, 3) := by decide +kernel
theorem dX8_parted_82 : decode cX8_parted 82 = .ok (.iconst 0, 1) := by decide +kernel
theorem dX8_parted_83 : decode cX8_parted 83 = .ok (.iadd, 1) := by decide +kernel
theorem dX8_parted_84 : decode cX8_parted 84 = .ok (.istore 6, 2) := by decide +kernel
theorem dX8_parted_86 : decode cX8_parted 86 = .ok (.iinc 7 1, 3) := by decide +kernel
theorem dX8_parted_89 : decode cX8_parted 89 = .ok (.goto (-65), 3) := by decide +kernel
theorem dX8_parted_92 : decode cX8_parted 92 = .ok (.aload_n 0, 1) := by decide +kernel
theorem dX8_parted_93 : decode cX8_parted 93 = .ok (.getfield 26, 3) := by decide +kernel
theorem dX8_parted_96 : decode cX8_parted 96 = .ok (.iload_n 3, 1) := by decide +kernel
theorem dX8_parted_97 : decode cX8_parted 97 = .ok (.iaload, 1) := by decide +kernel
theorem dX8_parted_98 : decode cX8_parted 98 = .ok (.iload 4, 2) := by decide +kernel
theorem dX8_parted_100 : decode cX8_parted 100 = .ok (.imul, 1) := by decide +kernel
theorem dX8_parted_101 : decode cX8_parted 101 = .ok (.iload 5, 2) := by decide +kernel
theorem dX8_parted_103 : decode cX8_parted 103 = .ok (.idiv, 1) := by decide +kernel
theorem dX8_parted_104 : decode cX8_parted 104 = .ok (.iload 6, 2) := by decide +kernel
theorem dX8_parted_106 : decode cX8_parted 106 = .ok (.iadd, 1) := by decide +kernel
theorem dX8_parted_107 : decode cX8_parted 107 = .ok (.aload_n 0, 1) := by decide +kernel
theorem dX8_parted_108 : decode cX8_parted 108 = .ok (.getfield 26, 3) := by decide +kernel
theorem dX8_parted_111 : decode cX8_parted 111 = .ok (.iload_n 3, 1) := by decide +kernel
theorem dX8_parted_112 : decode cX8_parted 112 = .ok (.iaload, 1) := by decide +kernel
theorem dX8_parted_113 : decode cX8_parted 113 = .ok (.invokestatic 50, 3) := by decide +kernel
theorem dX8_parted_116 : decode cX8_parted 116 = .ok (.ireturn, 1) := by decide +kernel
set_option maxRecDepth 20000 in
theorem ggX8_blows_X8_parted : GoodIn wsX8_blows wsX8_parted := goodIn_r _ [7, 2, 1, 8, 9, 10, 6, 11, 12, 13, 14, 15, 16, 17, 18, 19, 20, 21, 22, 23, 24, 25, 26, 27, 28, 29, 30, 31] (by decide +kernel) (by decide +kernel)
set_option maxRecDepth 20000 in
theorem gX8_blows_X8_parted : GoodIn wsX8_blows (wsV RX8 53 RX8 yX8_parted wsX8_parted) := goodIn_app (goodIn_of _ (by decide +kernel)) ggX8_blows_X8_parted
theorem dX8_blows_0 : decode cX8_blows 0 = .ok (.aload_n 0, 1) := by decide +kernel
theorem dX8_blows_1 : decode cX8_blows 1 = .ok (.getfield 26, 3) := by decide +kernel
theorem dX8_blows_4 : decode cX8_blows 4 = .ok (.iconst 0, 1) := by decide +kernel
theorem dX8_blows_5 : decode cX8_blows 5 = .ok (.iload_n 1, 1) := by decide +kernel
theorem dX8_blows_6 : decode cX8_blows 6 = .ok (.iastore, 1) := by decide +kernel
theorem dX8_blows_7 : decode cX8_blows 7 = .ok (.iconst 1, 1) := by decide +kernel
theorem dX8_blows_8 : decode cX8_blows 8 = .ok (.istore_n 2, 1) := by decide +kernel
theorem dX8_blows_9 : decode cX8_blows 9 = .ok (.iload_n 2, 1) := by decide +kernel
theorem dX8_blows_10 : decode cX8_blows 10 = .ok (.aload_n 0, 1) := by decide +kernel
theorem dX8_blows_11 : decode cX8_blows 11 = .ok (.getfield 7, 3) := by decide +kernel
theorem dX8_blows_14 : decode cX8_blows 14 = .ok (.iconst 5, 1) := by decide +kernel
theorem dX8_blows_15 : decode cX8_blows 15 = .ok (.iaload, 1) := by decide +kernel
theorem dX8_blows_16 : decode cX8_blows 16 = .ok (.if_icmp .ge 22, 3) := by decide +kernel
theorem dX8_blows_19 : decode cX8_blows 19 = .ok (.aload_n 0, 1) := by decide +kernel
theorem dX8_blows_20 : decode cX8_blows 20 = .ok (.getfield 26, 3) := by decide +kernel
theorem dX8_blows_23 : decode cX8_blows 23 = .ok (.iload_n 2, 1) := by decide +kernel
theorem dX8_blows_24 : decode cX8_blows 24 = .ok (.aload_n 0, 1) := by decide +kernel
theorem dX8_blows_25 : decode cX8_blows 25 = .ok (.iload_n 2, 1) := by decide +kernel
theorem dX8_blows_26 : decode cX8_blows 26 = .ok (.bipush (-6), 2) := by decide +kernel
theorem dX8_blows_28 : decode cX8_blows 28 = .ok (.invokevirtual 53, 3) := by decide +kernel
theorem dX8_blows_31 : decode cX8_blows 31 = .ok (.iastore, 1) := by decide +kernel
theorem dX8_blows_32 : decode cX8_blows 32 = .ok (.iinc 2 1, 3) := by decide +kernel
theorem dX8_blows_35 : decode cX8_blows 35 = .ok (.goto (-26), 3) := by decide +kernel
theorem dX8_blows_38 : decode cX8_blows 38 = .ok (.return_, 1) := by decide +kernel
theorem dX8_gustOf_0 : decode cX8_gustOf 0 = .ok (.aload_n 0, 1) := by decide +kernel
theorem dX8_gustOf_1 : decode cX8_gustOf 1 = .ok (.getfield 26, 3) := by decide +kernel
theorem dX8_gustOf_4 : decode cX8_gustOf 4 = .ok (.iload_n 1, 1) := by decide +kernel
theorem dX8_gustOf_5 : decode cX8_gustOf 5 = .ok (.iaload, 1) := by decide +kernel
theorem dX8_gustOf_6 : decode cX8_gustOf 6 = .ok (.aload_n 0, 1) := by decide +kernel
theorem dX8_gustOf_7 : decode cX8_gustOf 7 = .ok (.getfield 26, 3) := by decide +kernel
theorem dX8_gustOf_10 : decode cX8_gustOf 10 = .ok (.iload_n 1, 1) := by decide +kernel
theorem dX8_gustOf_11 : decode cX8_gustOf 11 = .ok (.iaload, 1) := by decide +kernel
theorem dX8_gustOf_12 : decode cX8_gustOf 12 = .ok (.aload_n 0, 1) := by decide +kernel
theorem dX8_gustOf_13 : decode cX8_gustOf 13 = .ok (.getfield 7, 3) := by decide +kernel
theorem dX8_gustOf_16 : decode cX8_gustOf 16 = .ok (.iconst 2, 1) := by decide +kernel
theorem dX8_gustOf_17 : decode cX8_gustOf 17 = .ok (.iaload, 1) := by decide +kernel
theorem dX8_gustOf_18 : decode cX8_gustOf 18 = .ok (.imul, 1) := by decide +kernel
theorem dX8_gustOf_19 : decode cX8_gustOf 19 = .ok (.bipush 100, 2) := by decide +kernel
theorem dX8_gustOf_21 : decode cX8_gustOf 21 = .ok (.idiv, 1) := by decide +kernel
theorem dX8_gustOf_22 : decode cX8_gustOf 22 = .ok (.iadd, 1) := by decide +kernel
theorem dX8_gustOf_23 : decode cX8_gustOf 23 = .ok (.ireturn, 1) := by decide +kernel
set_option maxRecDepth 20000 in
theorem ggX8_hatsOf_X8_gustOf : GoodIn wsX8_hatsOf wsX8_gustOf := goodIn_r _ [6, 7, 1, 18, 19, 20, 21, 22, 23, 24, 25, 26, 27, 28, 29, 30, 31] (by decide +kernel) (by decide +kernel)
set_option maxRecDepth 20000 in
theorem gX8_hatsOf_X8_gustOf : GoodIn wsX8_hatsOf (wsV RX8 56 RX8 yX8_gustOf wsX8_gustOf) := goodIn_app (goodIn_of _ (by decide +kernel)) ggX8_hatsOf_X8_gustOf
set_option maxRecDepth 20000 in
theorem ggX8_hatsOf_X8_its : GoodIn wsX8_hatsOf wsX8_its := goodIn_r _ [11, 1, 12, 13, 5, 14, 18, 19, 20, 21, 22, 23, 24, 25, 26, 27, 28, 29, 30, 31] (by decide +kernel) (by decide +kernel)
set_option maxRecDepth 20000 in
theorem gX8_hatsOf_X8_its : GoodIn wsX8_hatsOf (wsV RX8 47 RX8 yX8_its wsX8_its) := goodIn_app (goodIn_of _ (by decide +kernel)) ggX8_hatsOf_X8_its
set_option maxRecDepth 20000 in
theorem ggX8_hatsOf_X8_less : GoodIn wsX8_hatsOf wsX8_less := goodIn_r _ [17] (by decide +kernel) (by decide +kernel)
set_option maxRecDepth 20000 in
theorem gX8_hatsOf_X8_less : GoodIn wsX8_hatsOf (va_wsS RX8 50 yX8_less wsX8_less) := goodIn_app (goodIn_of _ (by decide +kernel)) ggX8_hatsOf_X8_less
theorem dX8_hatsOf_0 : decode cX8_hatsOf 0 = .ok (.aload_n 0, 1) := by decide +kernel
theorem dX8_hatsOf_1 : decode cX8_hatsOf 1 = .ok (.iload_n 1, 1) := by decide +kernel
theorem dX8_hatsOf_2 : decode cX8_hatsOf 2 = .ok (.invokevirtual 56, 3) := by decide +kernel
theorem dX8_hatsOf_5 : decode cX8_hatsOf 5 = .ok (.aload_n 0, 1) := by decide +kernel
theorem dX8_hatsOf_6 : decode cX8_hatsOf 6 = .ok (.getfield 7, 3) := by decide +kernel
theorem dX8_hatsOf_9 : decode cX8_hatsOf 9 = .ok (.iconst 1, 1) := by decide +kernel
theorem dX8_hatsOf_10 : decode cX8_hatsOf 10 = .ok (.iaload, 1) := by decide +kernel
theorem dX8_hatsOf_11 : decode cX8_hatsOf 11 = .ok (.isub, 1) := by decide +kernel
theorem dX8_hatsOf_12 : decode cX8_hatsOf 12 = .ok (.istore_n 2, 1) := by decide +kernel
theorem dX8_hatsOf_13 : decode cX8_hatsOf 13 = .ok (.iload_n 2, 1) := by decide +kernel
theorem dX8_hatsOf_14 : decode cX8_hatsOf 14 = .ok (.ifCond .le 20, 3) := by decide +kernel
theorem dX8_hatsOf_17 : decode cX8_hatsOf 17 = .ok (.iload_n 2, 1) := by decide +kernel
theorem dX8_hatsOf_18 : decode cX8_hatsOf 18 = .ok (.iconst 4, 1) := by decide +kernel
theorem dX8_hatsOf_19 : decode cX8_hatsOf 19 = .ok (.idiv, 1) := by decide +kernel
theorem dX8_hatsOf_20 : decode cX8_hatsOf 20 = .ok (.iconst 1, 1) := by decide +kernel
theorem dX8_hatsOf_21 : decode cX8_hatsOf 21 = .ok (.iadd, 1) := by decide +kernel
theorem dX8_hatsOf_22 : decode cX8_hatsOf 22 = .ok (.aload_n 0, 1) := by decide +kernel
theorem dX8_hatsOf_23 : decode cX8_hatsOf 23 = .ok (.iload_n 1, 1) := by decide +kernel
theorem dX8_hatsOf_24 : decode cX8_hatsOf 24 = .ok (.iconst 4, 1) := by decide +kernel
theorem dX8_hatsOf_25 : decode cX8_hatsOf 25 = .ok (.invokevirtual 47, 3) := by decide +kernel
theorem dX8_hatsOf_28 : decode cX8_hatsOf 28 = .ok (.invokestatic 50, 3) := by decide +kernel
theorem dX8_hatsOf_31 : decode cX8_hatsOf 31 = .ok (.goto 4, 3) := by decide +kernel
theorem dX8_hatsOf_34 : decode cX8_hatsOf 34 = .ok (.iconst 0, 1) := by decide +kernel
theorem dX8_hatsOf_35 : decode cX8_hatsOf 35 = .ok (.ireturn, 1) := by decide +kernel
set_option maxRecDepth 20000 in
theorem ggX8_hatsBy_X8_blows : GoodIn wsX8_hatsBy wsX8_blows := goodIn_r _ [6, 7, 1, 8, 9, 10, 5, 11, 12, 13, 14, 15, 16, 17, 18, 19, 20, 21, 30, 31, 32, 33, 34, 35, 36, 37, 38, 39, 40, 41, 42, 43] (by decide +kernel) (by decide +kernel)
set_option maxRecDepth 20000 in
theorem gX8_hatsBy_X8_blows : GoodIn wsX8_hatsBy (wsV RX8 60 RX8 yX8_blows wsX8_blows) := goodIn_app (goodIn_of _ (by decide +kernel)) ggX8_hatsBy_X8_blows
set_option maxRecDepth 20000 in
theorem ggX8_hatsBy_X8_hatsOf : GoodIn wsX8_hatsBy wsX8_hatsOf := goodIn_r _ [25, 1, 26, 27, 28, 5, 29, 7, 12, 13, 14, 15, 16, 17, 18, 19, 20, 21, 30, 31, 32, 33, 34, 35, 36, 37, 38, 39, 40, 41, 42, 43] (by decide +kernel) (by decide +kernel)
set_option maxRecDepth 20000 in
theorem gX8_hatsBy_X8_hatsOf : GoodIn wsX8_hatsBy (wsV RX8 64 RX8 yX8_hatsOf wsX8_hatsOf) := goodIn_app (goodIn_of _ (by decide +kernel)) ggX8_hatsBy_X8_hatsOf
theorem dX8_hatsBy_0 : decode cX8_hatsBy 0 = .ok (.aload_n 0, 1) := by decide +kernel
theorem dX8_hatsBy_1 : decode cX8_hatsBy 1 = .ok (.iload_n 1, 1) := by decide +kernel
theorem dX8_hatsBy_2 : decode cX8_hatsBy 2 = .ok (.invokevirtual 60, 3) := by decide +kernel
theorem dX8_hatsBy_5 : decode cX8_hatsBy 5 = .ok (.iconst 0, 1) := by decide +kernel
theorem dX8_hatsBy_6 : decode cX8_hatsBy 6 = .ok (.istore_n 2, 1) := by decide +kernel
theorem dX8_hatsBy_7 : decode cX8_hatsBy 7 = .ok (.iconst 0, 1) := by decide +kernel
theorem dX8_hatsBy_8 : decode cX8_hatsBy 8 = .ok (.istore_n 3, 1) := by decide +kernel
theorem dX8_hatsBy_9 : decode cX8_hatsBy 9 = .ok (.iload_n 3, 1) := by decide +kernel
theorem dX8_hatsBy_10 : decode cX8_hatsBy 10 = .ok (.aload_n 0, 1) := by decide +kernel
theorem dX8_hatsBy_11 : decode cX8_hatsBy 11 = .ok (.getfield 7, 3) := by decide +kernel
theorem dX8_hatsBy_14 : decode cX8_hatsBy 14 = .ok (.iconst 5, 1) := by decide +kernel
theorem dX8_hatsBy_15 : decode cX8_hatsBy 15 = .ok (.iaload, 1) := by decide +kernel
theorem dX8_hatsBy_16 : decode cX8_hatsBy 16 = .ok (.if_icmp .ge 17, 3) := by decide +kernel
theorem dX8_hatsBy_19 : decode cX8_hatsBy 19 = .ok (.iload_n 2, 1) := by decide +kernel
theorem dX8_hatsBy_20 : decode cX8_hatsBy 20 = .ok (.aload_n 0, 1) := by decide +kernel
theorem dX8_hatsBy_21 : decode cX8_hatsBy 21 = .ok (.iload_n 3, 1) := by decide +kernel
theorem dX8_hatsBy_22 : decode cX8_hatsBy 22 = .ok (.invokevirtual 64, 3) := by decide +kernel
theorem dX8_hatsBy_25 : decode cX8_hatsBy 25 = .ok (.iadd, 1) := by decide +kernel
theorem dX8_hatsBy_26 : decode cX8_hatsBy 26 = .ok (.istore_n 2, 1) := by decide +kernel
theorem dX8_hatsBy_27 : decode cX8_hatsBy 27 = .ok (.iinc 3 1, 3) := by decide +kernel
theorem dX8_hatsBy_30 : decode cX8_hatsBy 30 = .ok (.goto (-21), 3) := by decide +kernel
theorem dX8_hatsBy_33 : decode cX8_hatsBy 33 = .ok (.iload_n 2, 1) := by decide +kernel
theorem dX8_hatsBy_34 : decode cX8_hatsBy 34 = .ok (.ireturn, 1) := by decide +kernel
set_option maxRecDepth 20000 in
theorem ggX8_stepsOf_X8_its : GoodIn wsX8_stepsOf wsX8_its := goodIn_r _ [7, 2, 8, 9, 6, 10, 14, 15, 16, 17, 18, 19, 20, 21, 22, 23, 24, 25, 26, 27] (by decide +kernel) (by decide +kernel)
set_option maxRecDepth 20000 in
theorem gX8_stepsOf_X8_its : GoodIn wsX8_stepsOf (wsV RX8 47 RX8 yX8_its wsX8_its) := goodIn_app (goodIn_of _ (by decide +kernel)) ggX8_stepsOf_X8_its
set_option maxRecDepth 20000 in
theorem ggX8_stepsOf_X8_less : GoodIn wsX8_stepsOf wsX8_less := goodIn_r _ [13] (by decide +kernel) (by decide +kernel)
set_option maxRecDepth 20000 in
theorem gX8_stepsOf_X8_less : GoodIn wsX8_stepsOf (va_wsS RX8 50 yX8_less wsX8_less) := goodIn_app (goodIn_of _ (by decide +kernel)) ggX8_stepsOf_X8_less
theorem dX8_stepsOf_0 : decode cX8_stepsOf 0 = .ok (.aload_n 0, 1) := by decide +kernel
theorem dX8_stepsOf_1 : decode cX8_stepsOf 1 = .ok (.getfield 26, 3) := by decide +kernel
theorem dX8_stepsOf_4 : decode cX8_stepsOf 4 = .ok (.iload_n 1, 1) := by decide +kernel
theorem dX8_stepsOf_5 : decode cX8_stepsOf 5 = .ok (.iaload, 1) := by decide +kernel
theorem dX8_stepsOf_6 : decode cX8_stepsOf 6 = .ok (.aload_n 0, 1) := by decide +kernel
theorem dX8_stepsOf_7 : decode cX8_stepsOf 7 = .ok (.getfield 7, 3) := by decide +kernel
theorem dX8_stepsOf_10 : decode cX8_stepsOf 10 = .ok (.iconst 0, 1) := by decide +kernel
theorem dX8_stepsOf_11 : decode cX8_stepsOf 11 = .ok (.iaload, 1) := by decide +kernel
theorem dX8_stepsOf_12 : decode cX8_stepsOf 12 = .ok (.aload_n 0, 1) := by decide +kernel
theorem dX8_stepsOf_13 : decode cX8_stepsOf 13 = .ok (.iload_n 1, 1) := by decide +kernel
theorem dX8_stepsOf_14 : decode cX8_stepsOf 14 = .ok (.iconst 2, 1) := by decide +kernel
theorem dX8_stepsOf_15 : decode cX8_stepsOf 15 = .ok (.invokevirtual 47, 3) := by decide +kernel
theorem dX8_stepsOf_18 : decode cX8_stepsOf 18 = .ok (.imul, 1) := by decide +kernel
theorem dX8_stepsOf_19 : decode cX8_stepsOf 19 = .ok (.idiv, 1) := by decide +kernel
theorem dX8_stepsOf_20 : decode cX8_stepsOf 20 = .ok (.bipush 12, 2) := by decide +kernel
theorem dX8_stepsOf_22 : decode cX8_stepsOf 22 = .ok (.invokestatic 50, 3) := by decide +kernel
theorem dX8_stepsOf_25 : decode cX8_stepsOf 25 = .ok (.ireturn, 1) := by decide +kernel
set_option maxRecDepth 20000 in
theorem ggX8_anHour_X8_hatsBy : GoodIn wsX8_anHour wsX8_hatsBy := goodIn_r _ [6, 1, 7, 8, 9, 5, 10, 11, 12, 13, 14, 15, 16, 17, 18, 19, 20, 21, 22, 23, 24, 25, 26, 27, 28, 29, 30, 31, 32, 33, 34, 35, 36, 37, 38, 39, 40, 41, 42, 43, 44, 45, 46, 47] (by decide +kernel) (by decide +kernel)
set_option maxRecDepth 20000 in
theorem gX8_anHour_X8_hatsBy : GoodIn wsX8_anHour (wsV RX8 67 RX8 yX8_hatsBy wsX8_hatsBy) := goodIn_app (goodIn_of _ (by decide +kernel)) ggX8_anHour_X8_hatsBy
set_option maxRecDepth 20000 in
theorem ggX8_anHour_X8_hatsOf : GoodIn wsX8_anHour wsX8_hatsOf := goodIn_r _ [29, 1, 30, 31, 32, 5, 33, 11, 16, 17, 18, 19, 20, 21, 22, 23, 24, 25, 34, 35, 36, 37, 38, 39, 40, 41, 42, 43, 44, 45, 46, 47] (by decide +kernel) (by decide +kernel)
set_option maxRecDepth 20000 in
theorem gX8_anHour_X8_hatsOf : GoodIn wsX8_anHour (wsV RX8 64 RX8 yX8_hatsOf wsX8_hatsOf) := goodIn_app (goodIn_of _ (by decide +kernel)) ggX8_anHour_X8_hatsOf
theorem dX8_anHour_0 : decode cX8_anHour 0 = .ok (.aload_n 0, 1) := by decide +kernel
theorem dX8_anHour_1 : decode cX8_anHour 1 = .ok (.aload_n 0, 1) := by decide +kernel
theorem dX8_anHour_2 : decode cX8_anHour 2 = .ok (.getfield 7, 3) := by decide +kernel
theorem dX8_anHour_5 : decode cX8_anHour 5 = .ok (.iconst 4, 1) := by decide +kernel
theorem dX8_anHour_6 : decode cX8_anHour 6 = .ok (.iaload, 1) := by decide +kernel
theorem dX8_anHour_7 : decode cX8_anHour 7 = .ok (.invokevirtual 67, 3) := by decide +kernel
theorem dX8_anHour_10 : decode cX8_anHour 10 = .ok (.istore_n 1, 1) := by decide +kernel
theorem dX8_anHour_11 : decode cX8_anHour 11 = .ok (.iconst 0, 1) := by decide +kernel
theorem dX8_anHour_12 : decode cX8_anHour 12 = .ok (.istore_n 2, 1) := by decide +kernel
theorem dX8_anHour_13 : decode cX8_anHour 13 = .ok (.bipush (-6), 2) := by decide +kernel
theorem dX8_anHour_15 : decode cX8_anHour 15 = .ok (.istore_n 3, 1) := by decide +kernel
theorem dX8_anHour_16 : decode cX8_anHour 16 = .ok (.iconst 0, 1) := by decide +kernel
theorem dX8_anHour_17 : decode cX8_anHour 17 = .ok (.istore 4, 2) := by decide +kernel
theorem dX8_anHour_19 : decode cX8_anHour 19 = .ok (.iload 4, 2) := by decide +kernel
theorem dX8_anHour_21 : decode cX8_anHour 21 = .ok (.aload_n 0, 1) := by decide +kernel
theorem dX8_anHour_22 : decode cX8_anHour 22 = .ok (.getfield 7, 3) := by decide +kernel
theorem dX8_anHour_25 : decode cX8_anHour 25 = .ok (.iconst 5, 1) := by decide +kernel
theorem dX8_anHour_26 : decode cX8_anHour 26 = .ok (.iaload, 1) := by decide +kernel
theorem dX8_anHour_27 : decode cX8_anHour 27 = .ok (.if_icmp .ge 47, 3) := by decide +kernel
theorem dX8_anHour_30 : decode cX8_anHour 30 = .ok (.aload_n 0, 1) := by decide +kernel
theorem dX8_anHour_31 : decode cX8_anHour 31 = .ok (.iload 4, 2) := by decide +kernel
theorem dX8_anHour_33 : decode cX8_anHour 33 = .ok (.invokevirtual 64, 3) := by decide +kernel
theorem dX8_anHour_36 : decode cX8_anHour 36 = .ok (.iload_n 2, 1) := by decide +kernel
theorem dX8_anHour_37 : decode cX8_anHour 37 = .ok (.if_icmp .le 8, 3) := by decide +kernel
theorem dX8_anHour_40 : decode cX8_anHour 40 = .ok (.iload 4, 2) := by decide +kernel
theorem dX8_anHour_42 : decode cX8_anHour 42 = .ok (.goto 4, 3) := by decide +kernel
theorem dX8_anHour_45 : decode cX8_anHour 45 = .ok (.iload_n 3, 1) := by decide +kernel
theorem dX8_anHour_46 : decode cX8_anHour 46 = .ok (.istore_n 3, 1) := by decide +kernel
theorem dX8_anHour_47 : decode cX8_anHour 47 = .ok (.aload_n 0, 1) := by decide +kernel
theorem dX8_anHour_48 : decode cX8_anHour 48 = .ok (.iload 4, 2) := by decide +kernel
theorem dX8_anHour_50 : decode cX8_anHour 50 = .ok (.invokevirtual 64, 3) := by decide +kernel
theorem dX8_anHour_53 : decode cX8_anHour 53 = .ok (.iload_n 2, 1) := by decide +kernel
theorem dX8_anHour_54 : decode cX8_anHour 54 = .ok (.if_icmp .le 12, 3) := by decide +kernel
theorem dX8_anHour_57 : decode cX8_anHour 57 = .ok (.aload_n 0, 1) := by decide +kernel
theorem dX8_anHour_58 : decode cX8_anHour 58 = .ok (.iload 4, 2) := by decide +kernel
theorem dX8_anHour_60 : decode cX8_anHour 60 = .ok (.invokevirtual 64, 3) := by decide +kernel
theorem dX8_anHour_63 : decode cX8_anHour 63 = .ok (.goto 4, 3) := by decide +kernel
theorem dX8_anHour_66 : decode cX8_anHour 66 = .ok (.iload_n 2, 1) := by decide +kernel
theorem dX8_anHour_67 : decode cX8_anHour 67 = .ok (.istore_n 2, 1) := by decide +kernel
theorem dX8_anHour_68 : decode cX8_anHour 68 = .ok (.iinc 4 1, 3) := by decide +kernel
theorem dX8_anHour_71 : decode cX8_anHour 71 = .ok (.goto (-52), 3) := by decide +kernel
theorem dX8_anHour_74 : decode cX8_anHour 74 = .ok (.bipush 23, 2) := by decide +kernel
theorem dX8_anHour_76 : decode cX8_anHour 76 = .ok (.istore 4, 2) := by decide +kernel
theorem dX8_anHour_78 : decode cX8_anHour 78 = .ok (.iload 4, 2) := by decide +kernel
theorem dX8_anHour_80 : decode cX8_anHour 80 = .ok (.iconst 3, 1) := by decide +kernel
theorem dX8_anHour_81 : decode cX8_anHour 81 = .ok (.if_icmp .lt 31, 3) := by decide +kernel
theorem dX8_anHour_84 : decode cX8_anHour 84 = .ok (.aload_n 0, 1) := by decide +kernel
theorem dX8_anHour_85 : decode cX8_anHour 85 = .ok (.getfield 7, 3) := by decide +kernel
theorem dX8_anHour_88 : decode cX8_anHour 88 = .ok (.bipush 9, 2) := by decide +kernel
theorem dX8_anHour_90 : decode cX8_anHour 90 = .ok (.iload 4, 2) := by decide +kernel
theorem dX8_anHour_92 : decode cX8_anHour 92 = .ok (.iadd, 1) := by decide +kernel
theorem dX8_anHour_93 : decode cX8_anHour 93 = .ok (.aload_n 0, 1) := by decide +kernel
theorem dX8_anHour_94 : decode cX8_anHour 94 = .ok (.getfield 7, 3) := by decide +kernel
theorem dX8_anHour_97 : decode cX8_anHour 97 = .ok (.bipush 9, 2) := by decide +kernel
theorem dX8_anHour_99 : decode cX8_anHour 99 = .ok (.iload 4, 2) := by decide +kernel
theorem dX8_anHour_101 : decode cX8_anHour 101 = .ok (.iadd, 1) := by decide +kernel
theorem dX8_anHour_102 : decode cX8_anHour 102 = .ok (.iconst 3, 1) := by decide +kernel
theorem dX8_anHour_103 : decode cX8_anHour 103 = .ok (.isub, 1) := by decide +kernel
theorem dX8_anHour_104 : decode cX8_anHour 104 = .ok (.iaload, 1) := by decide +kernel
theorem dX8_anHour_105 : decode cX8_anHour 105 = .ok (.iastore, 1) := by decide +kernel
theorem dX8_anHour_106 : decode cX8_anHour 106 = .ok (.iinc 4 (-1), 3) := by decide +kernel
theorem dX8_anHour_109 : decode cX8_anHour 109 = .ok (.goto (-31), 3) := by decide +kernel
theorem dX8_anHour_112 : decode cX8_anHour 112 = .ok (.aload_n 0, 1) := by decide +kernel
theorem dX8_anHour_113 : decode cX8_anHour 113 = .ok (.getfield 7, 3) := by decide +kernel
theorem dX8_anHour_116 : decode cX8_anHour 116 = .ok (.bipush 9, 2) := by decide +kernel
theorem dX8_anHour_118 : decode cX8_anHour 118 = .ok (.aload_n 0, 1) := by decide +kernel
theorem dX8_anHour_119 : decode cX8_anHour 119 = .ok (.getfield 7, 3) := by decide +kernel
theorem dX8_anHour_122 : decode cX8_anHour 122 = .ok (.iconst 4, 1) := by decide +kernel
theorem dX8_anHour_123 : decode cX8_anHour 123 = .ok (.iaload, 1) := by decide +kernel
theorem dX8_anHour_124 : decode cX8_anHour 124 = .ok (.iastore, 1) := by decide +kernel
theorem dX8_anHour_125 : decode cX8_anHour 125 = .ok (.aload_n 0, 1) := by decide +kernel
theorem dX8_anHour_126 : decode cX8_anHour 126 = .ok (.getfield 7, 3) := by decide +kernel
theorem dX8_anHour_129 : decode cX8_anHour 129 = .ok (.bipush 10, 2) := by decide +kernel
theorem dX8_anHour_131 : decode cX8_anHour 131 = .ok (.iload_n 1, 1) := by decide +kernel
theorem dX8_anHour_132 : decode cX8_anHour 132 = .ok (.iastore, 1) := by decide +kernel
theorem dX8_anHour_133 : decode cX8_anHour 133 = .ok (.aload_n 0, 1) := by decide +kernel
theorem dX8_anHour_134 : decode cX8_anHour 134 = .ok (.getfield 7, 3) := by decide +kernel
theorem dX8_anHour_137 : decode cX8_anHour 137 = .ok (.bipush 11, 2) := by decide +kernel
theorem dX8_anHour_139 : decode cX8_anHour 139 = .ok (.iload_n 3, 1) := by decide +kernel
theorem dX8_anHour_140 : decode cX8_anHour 140 = .ok (.iastore, 1) := by decide +kernel
theorem dX8_anHour_141 : decode cX8_anHour 141 = .ok (.aload_n 0, 1) := by decide +kernel
theorem dX8_anHour_142 : decode cX8_anHour 142 = .ok (.getfield 7, 3) := by decide +kernel
theorem dX8_anHour_145 : decode cX8_anHour 145 = .ok (.bipush 8, 2) := by decide +kernel
theorem dX8_anHour_147 : decode cX8_anHour 147 = .ok (.dup2, 1) := by decide +kernel
theorem dX8_anHour_148 : decode cX8_anHour 148 = .ok (.iaload, 1) := by decide +kernel
theorem dX8_anHour_149 : decode cX8_anHour 149 = .ok (.aload_n 0, 1) := by decide +kernel
theorem dX8_anHour_150 : decode cX8_anHour 150 = .ok (.getfield 7, 3) := by decide +kernel
theorem dX8_anHour_153 : decode cX8_anHour 153 = .ok (.bipush 8, 2) := by decide +kernel
theorem dX8_anHour_155 : decode cX8_anHour 155 = .ok (.iaload, 1) := by decide +kernel
theorem dX8_anHour_156 : decode cX8_anHour 156 = .ok (.bipush 8, 2) := by decide +kernel
theorem dX8_anHour_158 : decode cX8_anHour 158 = .ok (.if_icmp .ge 7, 3) := by decide +kernel
theorem dX8_anHour_161 : decode cX8_anHour 161 = .ok (.iconst 1, 1) := by decide +kernel
theorem dX8_anHour_162 : decode cX8_anHour 162 = .ok (.goto 4, 3) := by decide +kernel
theorem dX8_anHour_165 : decode cX8_anHour 165 = .ok (.iconst 0, 1) := by decide +kernel
theorem dX8_anHour_166 : decode cX8_anHour 166 = .ok (.iadd, 1) := by decide +kernel
theorem dX8_anHour_167 : decode cX8_anHour 167 = .ok (.iastore, 1) := by decide +kernel
theorem dX8_anHour_168 : decode cX8_anHour 168 = .ok (.aload_n 0, 1) := by decide +kernel
theorem dX8_anHour_169 : decode cX8_anHour 169 = .ok (.getfield 7, 3) := by decide +kernel
theorem dX8_anHour_172 : decode cX8_anHour 172 = .ok (.bipush 6, 2) := by decide +kernel
theorem dX8_anHour_174 : decode cX8_anHour 174 = .ok (.dup2, 1) := by decide +kernel
theorem dX8_anHour_175 : decode cX8_anHour 175 = .ok (.iaload, 1) := by decide +kernel
theorem dX8_anHour_176 : decode cX8_anHour 176 = .ok (.iconst 1, 1) := by decide +kernel
theorem dX8_anHour_177 : decode cX8_anHour 177 = .ok (.iadd, 1) := by decide +kernel
theorem dX8_anHour_178 : decode cX8_anHour 178 = .ok (.iastore, 1) := by decide +kernel
theorem dX8_anHour_179 : decode cX8_anHour 179 = .ok (.aload_n 0, 1) := by decide +kernel
theorem dX8_anHour_180 : decode cX8_anHour 180 = .ok (.getfield 7, 3) := by decide +kernel
theorem dX8_anHour_183 : decode cX8_anHour 183 = .ok (.bipush 7, 2) := by decide +kernel
theorem dX8_anHour_185 : decode cX8_anHour 185 = .ok (.dup2, 1) := by decide +kernel
theorem dX8_anHour_186 : decode cX8_anHour 186 = .ok (.iaload, 1) := by decide +kernel
theorem dX8_anHour_187 : decode cX8_anHour 187 = .ok (.iload_n 1, 1) := by decide +kernel
theorem dX8_anHour_188 : decode cX8_anHour 188 = .ok (.iadd, 1) := by decide +kernel
theorem dX8_anHour_189 : decode cX8_anHour 189 = .ok (.iastore, 1) := by decide +kernel
theorem dX8_anHour_190 : decode cX8_anHour 190 = .ok (.iload_n 1, 1) := by decide +kernel
theorem dX8_anHour_191 : decode cX8_anHour 191 = .ok (.ireturn, 1) := by decide +kernel
set_option maxRecDepth 20000 in
theorem ggX8_pass_X8_in : GoodIn wsX8_pass wsX8_in := goodIn_r _ [5] (by decide +kernel) (by decide +kernel)
set_option maxRecDepth 20000 in
theorem gX8_pass_X8_in : GoodIn wsX8_pass (va_wsS RX8 39 yX8_in wsX8_in) := goodIn_app (goodIn_of _ (by decide +kernel)) ggX8_pass_X8_in
set_option maxRecDepth 20000 in
theorem ggX8_pass_X8_remembers : GoodIn wsX8_pass wsX8_remembers := goodIn_r _ [9, 10, 11, 1, 47, 48, 49, 50, 51, 52, 53, 54, 55, 56, 57, 58, 59, 60] (by decide +kernel) (by decide +kernel)
set_option maxRecDepth 20000 in
theorem gX8_pass_X8_remembers : GoodIn wsX8_pass (wsV RX8 70 RX8 yX8_remembers wsX8_remembers) := goodIn_app (goodIn_of _ (by decide +kernel)) ggX8_pass_X8_remembers
set_option maxRecDepth 20000 in
theorem ggX8_pass_X8_anHour : GoodIn wsX8_pass wsX8_anHour := goodIn_r _ [15, 1, 16, 17, 18, 4, 19, 20, 21, 22, 23, 24, 25, 26, 27, 28, 29, 30, 31, 32, 33, 34, 35, 36, 37, 38, 39, 40, 41, 42, 43, 44, 45, 46, 47, 48, 49, 50, 51, 52, 53, 54, 55, 56, 57, 58, 59, 60] (by decide +kernel) (by decide +kernel)
set_option maxRecDepth 20000 in
theorem gX8_pass_X8_anHour : GoodIn wsX8_pass (wsV RX8 73 RX8 yX8_anHour wsX8_anHour) := goodIn_app (goodIn_of _ (by decide +kernel)) ggX8_pass_X8_anHour
theorem dX8_pass_0 : decode cX8_pass 0 = .ok (.iload_n 1, 1) := by decide +kernel
theorem dX8_pass_1 : decode cX8_pass 1 = .ok (.iconst 1, 1) := by decide +kernel
theorem dX8_pass_2 : decode cX8_pass 2 = .ok (.bipush 24, 2) := by decide +kernel
theorem dX8_pass_4 : decode cX8_pass 4 = .ok (.invokestatic 39, 3) := by decide +kernel
theorem dX8_pass_7 : decode cX8_pass 7 = .ok (.ifCond .ne 6, 3) := by decide +kernel
theorem dX8_pass_10 : decode cX8_pass 10 = .ok (.bipush (-2), 2) := by decide +kernel
theorem dX8_pass_12 : decode cX8_pass 12 = .ok (.ireturn, 1) := by decide +kernel
theorem dX8_pass_13 : decode cX8_pass 13 = .ok (.aload_n 0, 1) := by decide +kernel
theorem dX8_pass_14 : decode cX8_pass 14 = .ok (.getfield 7, 3) := by decide +kernel
theorem dX8_pass_17 : decode cX8_pass 17 = .ok (.bipush 6, 2) := by decide +kernel
theorem dX8_pass_19 : decode cX8_pass 19 = .ok (.iaload, 1) := by decide +kernel
theorem dX8_pass_20 : decode cX8_pass 20 = .ok (.iload_n 1, 1) := by decide +kernel
theorem dX8_pass_21 : decode cX8_pass 21 = .ok (.iadd, 1) := by decide +kernel
theorem dX8_pass_22 : decode cX8_pass 22 = .ok (.sipush 999, 3) := by decide +kernel
theorem dX8_pass_25 : decode cX8_pass 25 = .ok (.if_icmp .le 6, 3) := by decide +kernel
theorem dX8_pass_28 : decode cX8_pass 28 = .ok (.bipush (-5), 2) := by decide +kernel
theorem dX8_pass_30 : decode cX8_pass 30 = .ok (.ireturn, 1) := by decide +kernel
theorem dX8_pass_31 : decode cX8_pass 31 = .ok (.aload_n 0, 1) := by decide +kernel
theorem dX8_pass_32 : decode cX8_pass 32 = .ok (.invokevirtual 70, 3) := by decide +kernel
theorem dX8_pass_35 : decode cX8_pass 35 = .ok (.iconst 0, 1) := by decide +kernel
theorem dX8_pass_36 : decode cX8_pass 36 = .ok (.istore_n 2, 1) := by decide +kernel
theorem dX8_pass_37 : decode cX8_pass 37 = .ok (.iconst 0, 1) := by decide +kernel
theorem dX8_pass_38 : decode cX8_pass 38 = .ok (.istore_n 3, 1) := by decide +kernel
theorem dX8_pass_39 : decode cX8_pass 39 = .ok (.iload_n 3, 1) := by decide +kernel
theorem dX8_pass_40 : decode cX8_pass 40 = .ok (.iload_n 1, 1) := by decide +kernel
theorem dX8_pass_41 : decode cX8_pass 41 = .ok (.if_icmp .ge 16, 3) := by decide +kernel
theorem dX8_pass_44 : decode cX8_pass 44 = .ok (.iload_n 2, 1) := by decide +kernel
theorem dX8_pass_45 : decode cX8_pass 45 = .ok (.aload_n 0, 1) := by decide +kernel
theorem dX8_pass_46 : decode cX8_pass 46 = .ok (.invokevirtual 73, 3) := by decide +kernel
theorem dX8_pass_49 : decode cX8_pass 49 = .ok (.iadd, 1) := by decide +kernel
theorem dX8_pass_50 : decode cX8_pass 50 = .ok (.istore_n 2, 1) := by decide +kernel
theorem dX8_pass_51 : decode cX8_pass 51 = .ok (.iinc 3 1, 3) := by decide +kernel
theorem dX8_pass_54 : decode cX8_pass 54 = .ok (.goto (-15), 3) := by decide +kernel
theorem dX8_pass_57 : decode cX8_pass 57 = .ok (.iload_n 2, 1) := by decide +kernel
theorem dX8_pass_58 : decode cX8_pass 58 = .ok (.ireturn, 1) := by decide +kernel
set_option maxRecDepth 20000 in
theorem ggX8_canSet_X8_in : GoodIn wsX8_canSet wsX8_in := goodIn_r _ [4] (by decide +kernel) (by decide +kernel)
set_option maxRecDepth 20000 in
theorem gX8_canSet_X8_in : GoodIn wsX8_canSet (va_wsS RX8 39 yX8_in wsX8_in) := goodIn_app (goodIn_of _ (by decide +kernel)) ggX8_canSet_X8_in
theorem dX8_canSet_0 : decode cX8_canSet 0 = .ok (.iload_n 0, 1) := by decide +kernel
theorem dX8_canSet_1 : decode cX8_canSet 1 = .ok (.tableswitch 51 0 2 #[27, 35, 43], 27) := by decide +kernel
theorem dX8_canSet_28 : decode cX8_canSet 28 = .ok (.iload_n 1, 1) := by decide +kernel
theorem dX8_canSet_29 : decode cX8_canSet 29 = .ok (.iconst 1, 1) := by decide +kernel
theorem dX8_canSet_30 : decode cX8_canSet 30 = .ok (.bipush 20, 2) := by decide +kernel
theorem dX8_canSet_32 : decode cX8_canSet 32 = .ok (.invokestatic 39, 3) := by decide +kernel
theorem dX8_canSet_35 : decode cX8_canSet 35 = .ok (.ireturn, 1) := by decide +kernel
theorem dX8_canSet_36 : decode cX8_canSet 36 = .ok (.iload_n 1, 1) := by decide +kernel
theorem dX8_canSet_37 : decode cX8_canSet 37 = .ok (.iconst 1, 1) := by decide +kernel
theorem dX8_canSet_38 : decode cX8_canSet 38 = .ok (.bipush 60, 2) := by decide +kernel
theorem dX8_canSet_40 : decode cX8_canSet 40 = .ok (.invokestatic 39, 3) := by decide +kernel
theorem dX8_canSet_43 : decode cX8_canSet 43 = .ok (.ireturn, 1) := by decide +kernel
theorem dX8_canSet_44 : decode cX8_canSet 44 = .ok (.iload_n 1, 1) := by decide +kernel
theorem dX8_canSet_45 : decode cX8_canSet 45 = .ok (.iconst 0, 1) := by decide +kernel
theorem dX8_canSet_46 : decode cX8_canSet 46 = .ok (.bipush 100, 2) := by decide +kernel
theorem dX8_canSet_48 : decode cX8_canSet 48 = .ok (.invokestatic 39, 3) := by decide +kernel
theorem dX8_canSet_51 : decode cX8_canSet 51 = .ok (.ireturn, 1) := by decide +kernel
theorem dX8_canSet_52 : decode cX8_canSet 52 = .ok (.iload_n 0, 1) := by decide +kernel
theorem dX8_canSet_53 : decode cX8_canSet 53 = .ok (.iconst 3, 1) := by decide +kernel
theorem dX8_canSet_54 : decode cX8_canSet 54 = .ok (.if_icmp .ne 17, 3) := by decide +kernel
theorem dX8_canSet_57 : decode cX8_canSet 57 = .ok (.iload_n 1, 1) := by decide +kernel
theorem dX8_canSet_58 : decode cX8_canSet 58 = .ok (.iconst 1, 1) := by decide +kernel
theorem dX8_canSet_59 : decode cX8_canSet 59 = .ok (.bipush 30, 2) := by decide +kernel
theorem dX8_canSet_61 : decode cX8_canSet 61 = .ok (.invokestatic 39, 3) := by decide +kernel
theorem dX8_canSet_64 : decode cX8_canSet 64 = .ok (.ifCond .eq 7, 3) := by decide +kernel
theorem dX8_canSet_67 : decode cX8_canSet 67 = .ok (.iconst 1, 1) := by decide +kernel
theorem dX8_canSet_68 : decode cX8_canSet 68 = .ok (.goto 4, 3) := by decide +kernel
theorem dX8_canSet_71 : decode cX8_canSet 71 = .ok (.iconst 0, 1) := by decide +kernel
theorem dX8_canSet_72 : decode cX8_canSet 72 = .ok (.ireturn, 1) := by decide +kernel
set_option maxRecDepth 20000 in
theorem ggX8_set_X8_canSet : GoodIn wsX8_set wsX8_canSet := goodIn_r _ [5, 6, 7, 4, 8] (by decide +kernel) (by decide +kernel)
set_option maxRecDepth 20000 in
theorem gX8_set_X8_canSet : GoodIn wsX8_set (va_wsS RX8 77 yX8_canSet wsX8_canSet) := goodIn_app (goodIn_of _ (by decide +kernel)) ggX8_set_X8_canSet
set_option maxRecDepth 20000 in
theorem ggX8_set_X8_remembers : GoodIn wsX8_set wsX8_remembers := goodIn_r _ [12, 13, 14, 1, 15, 16, 17, 18, 19, 20, 21, 22, 23, 24, 25, 26, 27, 28] (by decide +kernel) (by decide +kernel)
set_option maxRecDepth 20000 in
theorem gX8_set_X8_remembers : GoodIn wsX8_set (wsV RX8 70 RX8 yX8_remembers wsX8_remembers) := goodIn_app (goodIn_of _ (by decide +kernel)) ggX8_set_X8_remembers
theorem dX8_set_0 : decode cX8_set 0 = .ok (.iload_n 1, 1) := by decide +kernel
theorem dX8_set_1 : decode cX8_set 1 = .ok (.iload_n 2, 1) := by decide +kernel
theorem dX8_set_2 : decode cX8_set 2 = .ok (.invokestatic 77, 3) := by decide +kernel
theorem dX8_set_5 : decode cX8_set 5 = .ok (.ifCond .ne 6, 3) := by decide +kernel
theorem dX8_set_8 : decode cX8_set 8 = .ok (.bipush (-2), 2) := by decide +kernel
theorem dX8_set_10 : decode cX8_set 10 = .ok (.ireturn, 1) := by decide +kernel
theorem dX8_set_11 : decode cX8_set 11 = .ok (.aload_n 0, 1) := by decide +kernel
theorem dX8_set_12 : decode cX8_set 12 = .ok (.invokevirtual 70, 3) := by decide +kernel
theorem dX8_set_15 : decode cX8_set 15 = .ok (.aload_n 0, 1) := by decide +kernel
theorem dX8_set_16 : decode cX8_set 16 = .ok (.getfield 7, 3) := by decide +kernel
theorem dX8_set_19 : decode cX8_set 19 = .ok (.iload_n 1, 1) := by decide +kernel
theorem dX8_set_20 : decode cX8_set 20 = .ok (.iaload, 1) := by decide +kernel
theorem dX8_set_21 : decode cX8_set 21 = .ok (.istore_n 3, 1) := by decide +kernel
theorem dX8_set_22 : decode cX8_set 22 = .ok (.aload_n 0, 1) := by decide +kernel
theorem dX8_set_23 : decode cX8_set 23 = .ok (.getfield 7, 3) := by decide +kernel
theorem dX8_set_26 : decode cX8_set 26 = .ok (.iload_n 1, 1) := by decide +kernel
theorem dX8_set_27 : decode cX8_set 27 = .ok (.iload_n 2, 1) := by decide +kernel
theorem dX8_set_28 : decode cX8_set 28 = .ok (.iastore, 1) := by decide +kernel
theorem dX8_set_29 : decode cX8_set 29 = .ok (.iload_n 3, 1) := by decide +kernel
theorem dX8_set_30 : decode cX8_set 30 = .ok (.ireturn, 1) := by decide +kernel
set_option maxRecDepth 20000 in
theorem ggX8_branches_X8_its : GoodIn wsX8_branches wsX8_its := goodIn_r _ [6, 1, 7, 8, 5, 9, 10, 11, 12, 13, 14, 15, 16, 17, 18, 19, 20, 21, 22, 23] (by decide +kernel) (by decide +kernel)
set_option maxRecDepth 20000 in
theorem gX8_branches_X8_its : GoodIn wsX8_branches (wsV RX8 47 RX8 yX8_its wsX8_its) := goodIn_app (goodIn_of _ (by decide +kernel)) ggX8_branches_X8_its
theorem dX8_branches_0 : decode cX8_branches 0 = .ok (.iconst 0, 1) := by decide +kernel
theorem dX8_branches_1 : decode cX8_branches 1 = .ok (.istore_n 2, 1) := by decide +kernel
theorem dX8_branches_2 : decode cX8_branches 2 = .ok (.iconst 1, 1) := by decide +kernel
theorem dX8_branches_3 : decode cX8_branches 3 = .ok (.istore_n 3, 1) := by decide +kernel
theorem dX8_branches_4 : decode cX8_branches 4 = .ok (.iload_n 3, 1) := by decide +kernel
theorem dX8_branches_5 : decode cX8_branches 5 = .ok (.aload_n 0, 1) := by decide +kernel
theorem dX8_branches_6 : decode cX8_branches 6 = .ok (.getfield 7, 3) := by decide +kernel
theorem dX8_branches_9 : decode cX8_branches 9 = .ok (.iconst 5, 1) := by decide +kernel
theorem dX8_branches_10 : decode cX8_branches 10 = .ok (.iaload, 1) := by decide +kernel
theorem dX8_branches_11 : decode cX8_branches 11 = .ok (.if_icmp .ge 27, 3) := by decide +kernel
theorem dX8_branches_14 : decode cX8_branches 14 = .ok (.iload_n 2, 1) := by decide +kernel
theorem dX8_branches_15 : decode cX8_branches 15 = .ok (.aload_n 0, 1) := by decide +kernel
theorem dX8_branches_16 : decode cX8_branches 16 = .ok (.iload_n 3, 1) := by decide +kernel
theorem dX8_branches_17 : decode cX8_branches 17 = .ok (.iconst 0, 1) := by decide +kernel
theorem dX8_branches_18 : decode cX8_branches 18 = .ok (.invokevirtual 47, 3) := by decide +kernel
theorem dX8_branches_21 : decode cX8_branches 21 = .ok (.iload_n 1, 1) := by decide +kernel
theorem dX8_branches_22 : decode cX8_branches 22 = .ok (.if_icmp .ne 7, 3) := by decide +kernel
theorem dX8_branches_25 : decode cX8_branches 25 = .ok (.iconst 1, 1) := by decide +kernel
theorem dX8_branches_26 : decode cX8_branches 26 = .ok (.goto 4, 3) := by decide +kernel
theorem dX8_branches_29 : decode cX8_branches 29 = .ok (.iconst 0, 1) := by decide +kernel
theorem dX8_branches_30 : decode cX8_branches 30 = .ok (.iadd, 1) := by decide +kernel
theorem dX8_branches_31 : decode cX8_branches 31 = .ok (.istore_n 2, 1) := by decide +kernel
theorem dX8_branches_32 : decode cX8_branches 32 = .ok (.iinc 3 1, 3) := by decide +kernel
theorem dX8_branches_35 : decode cX8_branches 35 = .ok (.goto (-31), 3) := by decide +kernel
theorem dX8_branches_38 : decode cX8_branches 38 = .ok (.iload_n 2, 1) := by decide +kernel
theorem dX8_branches_39 : decode cX8_branches 39 = .ok (.ireturn, 1) := by decide +kernel
set_option maxRecDepth 20000 in
theorem ggX8_street_X8_isStreet : GoodIn wsX8_street wsX8_isStreet := goodIn_r _ [6, 1, 7, 8, 5, 9, 27, 28, 29, 30, 31, 32, 33, 34, 35, 36, 37, 38, 39, 40] (by decide +kernel) (by decide +kernel)
set_option maxRecDepth 20000 in
theorem gX8_street_X8_isStreet : GoodIn wsX8_street (wsV RX8 81 RX8 yX8_isStreet wsX8_isStreet) := goodIn_app (goodIn_of _ (by decide +kernel)) ggX8_street_X8_isStreet
set_option maxRecDepth 20000 in
theorem ggX8_street_X8_in : GoodIn wsX8_street wsX8_in := goodIn_r _ [9] (by decide +kernel) (by decide +kernel)
set_option maxRecDepth 20000 in
theorem gX8_street_X8_in : GoodIn wsX8_street (va_wsS RX8 39 yX8_in wsX8_in) := goodIn_app (goodIn_of _ (by decide +kernel)) ggX8_street_X8_in
set_option maxRecDepth 20000 in
theorem ggX8_street_X8_branches : GoodIn wsX8_street wsX8_branches := goodIn_r _ [13, 1, 14, 15, 16, 5, 17, 18, 19, 20, 27, 28, 29, 30, 31, 32, 33, 34, 35, 36, 37, 38, 39, 40] (by decide +kernel) (by decide +kernel)
set_option maxRecDepth 20000 in
theorem gX8_street_X8_branches : GoodIn wsX8_street (wsV RX8 85 RX8 yX8_branches wsX8_branches) := goodIn_app (goodIn_of _ (by decide +kernel)) ggX8_street_X8_branches
set_option maxRecDepth 20000 in
theorem ggX8_street_X8_remembers : GoodIn wsX8_street wsX8_remembers := goodIn_r _ [24, 25, 26, 1, 27, 28, 29, 30, 31, 32, 33, 34, 35, 36, 37, 38, 39, 40] (by decide +kernel) (by decide +kernel)
set_option maxRecDepth 20000 in
theorem gX8_street_X8_remembers : GoodIn wsX8_street (wsV RX8 70 RX8 yX8_remembers wsX8_remembers) := goodIn_app (goodIn_of _ (by decide +kernel)) ggX8_street_X8_remembers
set_option maxRecDepth 20000 in
theorem ggX8_street_X8_at : GoodIn wsX8_street wsX8_at := goodIn_r _ [20] (by decide +kernel) (by decide +kernel)
set_option maxRecDepth 20000 in
theorem gX8_street_X8_at : GoodIn wsX8_street (va_wsS RX8 35 yX8_at wsX8_at) := goodIn_app (goodIn_of _ (by decide +kernel)) ggX8_street_X8_at
theorem dX8_street_0 : decode cX8_street 0 = .ok (.aload_n 0, 1) := by decide +kernel
theorem dX8_street_1 : decode cX8_street 1 = .ok (.iload_n 1, 1) := by decide +kernel
theorem dX8_street_2 : decode cX8_street 2 = .ok (.invokevirtual 81, 3) := by decide +kernel
theorem dX8_street_5 : decode cX8_street 5 = .ok (.ifCond .ne 5, 3) := by decide +kernel
theorem dX8_street_8 : decode cX8_street 8 = .ok (.iconst (-1), 1) := by decide +kernel
theorem dX8_street_9 : decode cX8_street 9 = .ok (.ireturn, 1) := by decide +kernel
theorem dX8_street_10 : decode cX8_street 10 = .ok (.iload_n 2, 1) := by decide +kernel
theorem dX8_street_11 : decode cX8_street 11 = .ok (.iconst 1, 1) := by decide +kernel
theorem dX8_street_12 : decode cX8_street 12 = .ok (.bipush 9, 2) := by decide +kernel
theorem dX8_street_14 : decode cX8_street 14 = .ok (.invokestatic 39, 3) := by decide +kernel
theorem dX8_street_17 : decode cX8_street 17 = .ok (.ifCond .ne 6, 3) := by decide +kernel
theorem dX8_street_20 : decode cX8_street 20 = .ok (.bipush (-2), 2) := by decide +kernel
theorem dX8_street_22 : decode cX8_street 22 = .ok (.ireturn, 1) := by decide +kernel
theorem dX8_street_23 : decode cX8_street 23 = .ok (.aload_n 0, 1) := by decide +kernel
theorem dX8_street_24 : decode cX8_street 24 = .ok (.getfield 7, 3) := by decide +kernel
theorem dX8_street_27 : decode cX8_street 27 = .ok (.iconst 5, 1) := by decide +kernel
theorem dX8_street_28 : decode cX8_street 28 = .ok (.iaload, 1) := by decide +kernel
theorem dX8_street_29 : decode cX8_street 29 = .ok (.bipush 20, 2) := by decide +kernel
theorem dX8_street_31 : decode cX8_street 31 = .ok (.if_icmp .eq 12, 3) := by decide +kernel
theorem dX8_street_34 : decode cX8_street 34 = .ok (.aload_n 0, 1) := by decide +kernel
theorem dX8_street_35 : decode cX8_street 35 = .ok (.iload_n 1, 1) := by decide +kernel
theorem dX8_street_36 : decode cX8_street 36 = .ok (.invokevirtual 85, 3) := by decide +kernel
theorem dX8_street_39 : decode cX8_street 39 = .ok (.iconst 4, 1) := by decide +kernel
theorem dX8_street_40 : decode cX8_street 40 = .ok (.if_icmp .ne 6, 3) := by decide +kernel
theorem dX8_street_43 : decode cX8_street 43 = .ok (.bipush (-4), 2) := by decide +kernel
theorem dX8_street_45 : decode cX8_street 45 = .ok (.ireturn, 1) := by decide +kernel
theorem dX8_street_46 : decode cX8_street 46 = .ok (.aload_n 0, 1) := by decide +kernel
theorem dX8_street_47 : decode cX8_street 47 = .ok (.invokevirtual 70, 3) := by decide +kernel
theorem dX8_street_50 : decode cX8_street 50 = .ok (.aload_n 0, 1) := by decide +kernel
theorem dX8_street_51 : decode cX8_street 51 = .ok (.getfield 7, 3) := by decide +kernel
theorem dX8_street_54 : decode cX8_street 54 = .ok (.iconst 5, 1) := by decide +kernel
theorem dX8_street_55 : decode cX8_street 55 = .ok (.iaload, 1) := by decide +kernel
theorem dX8_street_56 : decode cX8_street 56 = .ok (.istore_n 3, 1) := by decide +kernel
theorem dX8_street_57 : decode cX8_street 57 = .ok (.aload_n 0, 1) := by decide +kernel
theorem dX8_street_58 : decode cX8_street 58 = .ok (.getfield 7, 3) := by decide +kernel
theorem dX8_street_61 : decode cX8_street 61 = .ok (.iload_n 3, 1) := by decide +kernel
theorem dX8_street_62 : decode cX8_street 62 = .ok (.iconst 0, 1) := by decide +kernel
theorem dX8_street_63 : decode cX8_street 63 = .ok (.invokestatic 35, 3) := by decide +kernel
theorem dX8_street_66 : decode cX8_street 66 = .ok (.iload_n 1, 1) := by decide +kernel
theorem dX8_street_67 : decode cX8_street 67 = .ok (.iastore, 1) := by decide +kernel
theorem dX8_street_68 : decode cX8_street 68 = .ok (.aload_n 0, 1) := by decide +kernel
theorem dX8_street_69 : decode cX8_street 69 = .ok (.getfield 7, 3) := by decide +kernel
theorem dX8_street_72 : decode cX8_street 72 = .ok (.iload_n 3, 1) := by decide +kernel
theorem dX8_street_73 : decode cX8_street 73 = .ok (.iconst 1, 1) := by decide +kernel
theorem dX8_street_74 : decode cX8_street 74 = .ok (.invokestatic 35, 3) := by decide +kernel
theorem dX8_street_77 : decode cX8_street 77 = .ok (.iload_n 2, 1) := by decide +kernel
theorem dX8_street_78 : decode cX8_street 78 = .ok (.iastore, 1) := by decide +kernel
theorem dX8_street_79 : decode cX8_street 79 = .ok (.aload_n 0, 1) := by decide +kernel
theorem dX8_street_80 : decode cX8_street 80 = .ok (.getfield 7, 3) := by decide +kernel
theorem dX8_street_83 : decode cX8_street 83 = .ok (.iload_n 3, 1) := by decide +kernel
theorem dX8_street_84 : decode cX8_street 84 = .ok (.iconst 2, 1) := by decide +kernel
theorem dX8_street_85 : decode cX8_street 85 = .ok (.invokestatic 35, 3) := by decide +kernel
theorem dX8_street_88 : decode cX8_street 88 = .ok (.iconst 0, 1) := by decide +kernel
theorem dX8_street_89 : decode cX8_street 89 = .ok (.iastore, 1) := by decide +kernel
theorem dX8_street_90 : decode cX8_street 90 = .ok (.aload_n 0, 1) := by decide +kernel
theorem dX8_street_91 : decode cX8_street 91 = .ok (.getfield 7, 3) := by decide +kernel
theorem dX8_street_94 : decode cX8_street 94 = .ok (.iload_n 3, 1) := by decide +kernel
theorem dX8_street_95 : decode cX8_street 95 = .ok (.iconst 3, 1) := by decide +kernel
theorem dX8_street_96 : decode cX8_street 96 = .ok (.invokestatic 35, 3) := by decide +kernel
theorem dX8_street_99 : decode cX8_street 99 = .ok (.iconst 0, 1) := by decide +kernel
theorem dX8_street_100 : decode cX8_street 100 = .ok (.iastore, 1) := by decide +kernel
theorem dX8_street_101 : decode cX8_street 101 = .ok (.aload_n 0, 1) := by decide +kernel
theorem dX8_street_102 : decode cX8_street 102 = .ok (.getfield 7, 3) := by decide +kernel
theorem dX8_street_105 : decode cX8_street 105 = .ok (.iload_n 3, 1) := by decide +kernel
theorem dX8_street_106 : decode cX8_street 106 = .ok (.iconst 4, 1) := by decide +kernel
theorem dX8_street_107 : decode cX8_street 107 = .ok (.invokestatic 35, 3) := by decide +kernel
theorem dX8_street_110 : decode cX8_street 110 = .ok (.iconst 0, 1) := by decide +kernel
theorem dX8_street_111 : decode cX8_street 111 = .ok (.iastore, 1) := by decide +kernel
theorem dX8_street_112 : decode cX8_street 112 = .ok (.aload_n 0, 1) := by decide +kernel
theorem dX8_street_113 : decode cX8_street 113 = .ok (.getfield 7, 3) := by decide +kernel
theorem dX8_street_116 : decode cX8_street 116 = .ok (.iconst 5, 1) := by decide +kernel
theorem dX8_street_117 : decode cX8_street 117 = .ok (.dup2, 1) := by decide +kernel
theorem dX8_street_118 : decode cX8_street 118 = .ok (.iaload, 1) := by decide +kernel
theorem dX8_street_119 : decode cX8_street 119 = .ok (.iconst 1, 1) := by decide +kernel
theorem dX8_street_120 : decode cX8_street 120 = .ok (.iadd, 1) := by decide +kernel
theorem dX8_street_121 : decode cX8_street 121 = .ok (.iastore, 1) := by decide +kernel
theorem dX8_street_122 : decode cX8_street 122 = .ok (.iload_n 3, 1) := by decide +kernel
theorem dX8_street_123 : decode cX8_street 123 = .ok (.ireturn, 1) := by decide +kernel
theorem dX8_kept_0 : decode cX8_kept 0 = .ok (.iload_n 0, 1) := by decide +kernel
theorem dX8_kept_1 : decode cX8_kept 1 = .ok (.ifCond .ne 7, 3) := by decide +kernel
theorem dX8_kept_4 : decode cX8_kept 4 = .ok (.iconst 2, 1) := by decide +kernel
theorem dX8_kept_5 : decode cX8_kept 5 = .ok (.goto 22, 3) := by decide +kernel
theorem dX8_kept_8 : decode cX8_kept 8 = .ok (.iload_n 0, 1) := by decide +kernel
theorem dX8_kept_9 : decode cX8_kept 9 = .ok (.iconst 1, 1) := by decide +kernel
theorem dX8_kept_10 : decode cX8_kept 10 = .ok (.if_icmp .ne 7, 3) := by decide +kernel
theorem dX8_kept_13 : decode cX8_kept 13 = .ok (.iconst 3, 1) := by decide +kernel
theorem dX8_kept_14 : decode cX8_kept 14 = .ok (.goto 13, 3) := by decide +kernel
theorem dX8_kept_17 : decode cX8_kept 17 = .ok (.iload_n 0, 1) := by decide +kernel
theorem dX8_kept_18 : decode cX8_kept 18 = .ok (.iconst 2, 1) := by decide +kernel
theorem dX8_kept_19 : decode cX8_kept 19 = .ok (.if_icmp .ne 7, 3) := by decide +kernel
theorem dX8_kept_22 : decode cX8_kept 22 = .ok (.iconst 4, 1) := by decide +kernel
theorem dX8_kept_23 : decode cX8_kept 23 = .ok (.goto 4, 3) := by decide +kernel
theorem dX8_kept_26 : decode cX8_kept 26 = .ok (.iconst 1, 1) := by decide +kernel
theorem dX8_kept_27 : decode cX8_kept 27 = .ok (.ireturn, 1) := by decide +kernel
set_option maxRecDepth 20000 in
theorem ggX8_canChange_X8_in : GoodIn wsX8_canChange wsX8_in := goodIn_r _ [4] (by decide +kernel) (by decide +kernel)
set_option maxRecDepth 20000 in
theorem gX8_canChange_X8_in : GoodIn wsX8_canChange (va_wsS RX8 39 yX8_in wsX8_in) := goodIn_app (goodIn_of _ (by decide +kernel)) ggX8_canChange_X8_in
theorem dX8_canChange_0 : decode cX8_canChange 0 = .ok (.iload_n 0, 1) := by decide +kernel
theorem dX8_canChange_1 : decode cX8_canChange 1 = .ok (.tableswitch 49 0 2 #[27, 34, 41], 27) := by decide +kernel
theorem dX8_canChange_28 : decode cX8_canChange 28 = .ok (.iload_n 1, 1) := by decide +kernel
theorem dX8_canChange_29 : decode cX8_canChange 29 = .ok (.iconst 0, 1) := by decide +kernel
theorem dX8_canChange_30 : decode cX8_canChange 30 = .ok (.iconst 5, 1) := by decide +kernel
theorem dX8_canChange_31 : decode cX8_canChange 31 = .ok (.invokestatic 39, 3) := by decide +kernel
theorem dX8_canChange_34 : decode cX8_canChange 34 = .ok (.ireturn, 1) := by decide +kernel
theorem dX8_canChange_35 : decode cX8_canChange 35 = .ok (.iload_n 1, 1) := by decide +kernel
theorem dX8_canChange_36 : decode cX8_canChange 36 = .ok (.iconst 0, 1) := by decide +kernel
theorem dX8_canChange_37 : decode cX8_canChange 37 = .ok (.iconst 1, 1) := by decide +kernel
theorem dX8_canChange_38 : decode cX8_canChange 38 = .ok (.invokestatic 39, 3) := by decide +kernel
theorem dX8_canChange_41 : decode cX8_canChange 41 = .ok (.ireturn, 1) := by decide +kernel
theorem dX8_canChange_42 : decode cX8_canChange 42 = .ok (.iload_n 1, 1) := by decide +kernel
theorem dX8_canChange_43 : decode cX8_canChange 43 = .ok (.iconst 0, 1) := by decide +kernel
theorem dX8_canChange_44 : decode cX8_canChange 44 = .ok (.bipush 99, 2) := by decide +kernel
theorem dX8_canChange_46 : decode cX8_canChange 46 = .ok (.invokestatic 39, 3) := by decide +kernel
theorem dX8_canChange_49 : decode cX8_canChange 49 = .ok (.ireturn, 1) := by decide +kernel
theorem dX8_canChange_50 : decode cX8_canChange 50 = .ok (.iload_n 0, 1) := by decide +kernel
theorem dX8_canChange_51 : decode cX8_canChange 51 = .ok (.iconst 3, 1) := by decide +kernel
theorem dX8_canChange_52 : decode cX8_canChange 52 = .ok (.if_icmp .ne 17, 3) := by decide +kernel
theorem dX8_canChange_55 : decode cX8_canChange 55 = .ok (.iload_n 1, 1) := by decide +kernel
theorem dX8_canChange_56 : decode cX8_canChange 56 = .ok (.iconst 1, 1) := by decide +kernel
theorem dX8_canChange_57 : decode cX8_canChange 57 = .ok (.bipush 9, 2) := by decide +kernel
theorem dX8_canChange_59 : decode cX8_canChange 59 = .ok (.invokestatic 39, 3) := by decide +kernel
theorem dX8_canChange_62 : decode cX8_canChange 62 = .ok (.ifCond .eq 7, 3) := by decide +kernel
theorem dX8_canChange_65 : decode cX8_canChange 65 = .ok (.iconst 1, 1) := by decide +kernel
theorem dX8_canChange_66 : decode cX8_canChange 66 = .ok (.goto 4, 3) := by decide +kernel
theorem dX8_canChange_69 : decode cX8_canChange 69 = .ok (.iconst 0, 1) := by decide +kernel
theorem dX8_canChange_70 : decode cX8_canChange 70 = .ok (.ireturn, 1) := by decide +kernel
set_option maxRecDepth 20000 in
theorem ggX8_change_X8_isStreet : GoodIn wsX8_change wsX8_isStreet := goodIn_r _ [6, 1, 7, 8, 5, 9, 29, 30, 31, 32, 33, 34, 35, 36, 37, 38, 39, 40, 41, 42] (by decide +kernel) (by decide +kernel)
set_option maxRecDepth 20000 in
theorem gX8_change_X8_isStreet : GoodIn wsX8_change (wsV RX8 81 RX8 yX8_isStreet wsX8_isStreet) := goodIn_app (goodIn_of _ (by decide +kernel)) ggX8_change_X8_isStreet
set_option maxRecDepth 20000 in
theorem ggX8_change_X8_canChange : GoodIn wsX8_change wsX8_canChange := goodIn_r _ [12, 7, 8, 5, 9] (by decide +kernel) (by decide +kernel)
set_option maxRecDepth 20000 in
theorem gX8_change_X8_canChange : GoodIn wsX8_change (va_wsS RX8 88 yX8_canChange wsX8_canChange) := goodIn_app (goodIn_of _ (by decide +kernel)) ggX8_change_X8_canChange
set_option maxRecDepth 20000 in
theorem ggX8_change_X8_remembers : GoodIn wsX8_change wsX8_remembers := goodIn_r _ [16, 17, 18, 1, 29, 30, 31, 32, 33, 34, 35, 36, 37, 38, 39, 40, 41, 42] (by decide +kernel) (by decide +kernel)
set_option maxRecDepth 20000 in
theorem gX8_change_X8_remembers : GoodIn wsX8_change (wsV RX8 70 RX8 yX8_remembers wsX8_remembers) := goodIn_app (goodIn_of _ (by decide +kernel)) ggX8_change_X8_remembers
set_option maxRecDepth 20000 in
theorem ggX8_change_X8_kept : GoodIn wsX8_change wsX8_kept := goodIn_r _ [21] (by decide +kernel) (by decide +kernel)
set_option maxRecDepth 20000 in
theorem gX8_change_X8_kept : GoodIn wsX8_change (va_wsS RX8 91 yX8_kept wsX8_kept) := goodIn_app (goodIn_of _ (by decide +kernel)) ggX8_change_X8_kept
set_option maxRecDepth 20000 in
theorem ggX8_change_X8_its : GoodIn wsX8_change wsX8_its := goodIn_r _ [25, 1, 26, 27, 5, 28, 29, 30, 31, 32, 33, 34, 35, 36, 37, 38, 39, 40, 41, 42] (by decide +kernel) (by decide +kernel)
set_option maxRecDepth 20000 in
theorem gX8_change_X8_its : GoodIn wsX8_change (wsV RX8 47 RX8 yX8_its wsX8_its) := goodIn_app (goodIn_of _ (by decide +kernel)) ggX8_change_X8_its
set_option maxRecDepth 20000 in
theorem ggX8_change_X8_at : GoodIn wsX8_change wsX8_at := goodIn_r _ [28] (by decide +kernel) (by decide +kernel)
set_option maxRecDepth 20000 in
theorem gX8_change_X8_at : GoodIn wsX8_change (va_wsS RX8 35 yX8_at wsX8_at) := goodIn_app (goodIn_of _ (by decide +kernel)) ggX8_change_X8_at
theorem dX8_change_0 : decode cX8_change 0 = .ok (.aload_n 0, 1) := by decide +kernel
theorem dX8_change_1 : decode cX8_change 1 = .ok (.iload_n 1, 1) := by decide +kernel
theorem dX8_change_2 : decode cX8_change 2 = .ok (.invokevirtual 81, 3) := by decide +kernel
theorem dX8_change_5 : decode cX8_change 5 = .ok (.ifCond .ne 5, 3) := by decide +kernel
theorem dX8_change_8 : decode cX8_change 8 = .ok (.iconst (-1), 1) := by decide +kernel
theorem dX8_change_9 : decode cX8_change 9 = .ok (.ireturn, 1) := by decide +kernel
theorem dX8_change_10 : decode cX8_change 10 = .ok (.iload_n 2, 1) := by decide +kernel
theorem dX8_change_11 : decode cX8_change 11 = .ok (.iload_n 3, 1) := by decide +kernel
theorem dX8_change_12 : decode cX8_change 12 = .ok (.invokestatic 88, 3) := by decide +kernel
theorem dX8_change_15 : decode cX8_change 15 = .ok (.ifCond .ne 6, 3) := by decide +kernel
theorem dX8_change_18 : decode cX8_change 18 = .ok (.bipush (-2), 2) := by decide +kernel
theorem dX8_change_20 : decode cX8_change 20 = .ok (.ireturn, 1) := by decide +kernel
theorem dX8_change_21 : decode cX8_change 21 = .ok (.aload_n 0, 1) := by decide +kernel
theorem dX8_change_22 : decode cX8_change 22 = .ok (.invokevirtual 70, 3) := by decide +kernel
theorem dX8_change_25 : decode cX8_change 25 = .ok (.aload_n 0, 1) := by decide +kernel
theorem dX8_change_26 : decode cX8_change 26 = .ok (.iload_n 1, 1) := by decide +kernel
theorem dX8_change_27 : decode cX8_change 27 = .ok (.iload_n 2, 1) := by decide +kernel
theorem dX8_change_28 : decode cX8_change 28 = .ok (.invokestatic 91, 3) := by decide +kernel
theorem dX8_change_31 : decode cX8_change 31 = .ok (.invokevirtual 47, 3) := by decide +kernel
theorem dX8_change_34 : decode cX8_change 34 = .ok (.istore 4, 2) := by decide +kernel
theorem dX8_change_36 : decode cX8_change 36 = .ok (.aload_n 0, 1) := by decide +kernel
theorem dX8_change_37 : decode cX8_change 37 = .ok (.getfield 7, 3) := by decide +kernel
theorem dX8_change_40 : decode cX8_change 40 = .ok (.iload_n 1, 1) := by decide +kernel
theorem dX8_change_41 : decode cX8_change 41 = .ok (.iload_n 2, 1) := by decide +kernel
theorem dX8_change_42 : decode cX8_change 42 = .ok (.invokestatic 91, 3) := by decide +kernel
theorem dX8_change_45 : decode cX8_change 45 = .ok (.invokestatic 35, 3) := by decide +kernel
theorem dX8_change_48 : decode cX8_change 48 = .ok (.iload_n 3, 1) := by decide +kernel
theorem dX8_change_49 : decode cX8_change 49 = .ok (.iastore, 1) := by decide +kernel
theorem dX8_change_50 : decode cX8_change 50 = .ok (.iload 4, 2) := by decide +kernel
theorem dX8_change_52 : decode cX8_change 52 = .ok (.ireturn, 1) := by decide +kernel
set_option maxRecDepth 20000 in
theorem ggX8_wind_X8_in : GoodIn wsX8_wind wsX8_in := goodIn_r _ [5] (by decide +kernel) (by decide +kernel)
set_option maxRecDepth 20000 in
theorem gX8_wind_X8_in : GoodIn wsX8_wind (va_wsS RX8 39 yX8_in wsX8_in) := goodIn_app (goodIn_of _ (by decide +kernel)) ggX8_wind_X8_in
set_option maxRecDepth 20000 in
theorem ggX8_wind_X8_remembers : GoodIn wsX8_wind wsX8_remembers := goodIn_r _ [9, 10, 11, 1, 12, 13, 14, 15, 16, 17, 18, 19, 20, 21, 22, 23, 24, 25] (by decide +kernel) (by decide +kernel)
set_option maxRecDepth 20000 in
theorem gX8_wind_X8_remembers : GoodIn wsX8_wind (wsV RX8 70 RX8 yX8_remembers wsX8_remembers) := goodIn_app (goodIn_of _ (by decide +kernel)) ggX8_wind_X8_remembers
theorem dX8_wind_0 : decode cX8_wind 0 = .ok (.iload_n 1, 1) := by decide +kernel
theorem dX8_wind_1 : decode cX8_wind 1 = .ok (.iconst 0, 1) := by decide +kernel
theorem dX8_wind_2 : decode cX8_wind 2 = .ok (.sipush 200, 3) := by decide +kernel
theorem dX8_wind_5 : decode cX8_wind 5 = .ok (.invokestatic 39, 3) := by decide +kernel
theorem dX8_wind_8 : decode cX8_wind 8 = .ok (.ifCond .ne 6, 3) := by decide +kernel
theorem dX8_wind_11 : decode cX8_wind 11 = .ok (.bipush (-2), 2) := by decide +kernel
theorem dX8_wind_13 : decode cX8_wind 13 = .ok (.ireturn, 1) := by decide +kernel
theorem dX8_wind_14 : decode cX8_wind 14 = .ok (.aload_n 0, 1) := by decide +kernel
theorem dX8_wind_15 : decode cX8_wind 15 = .ok (.invokevirtual 70, 3) := by decide +kernel
theorem dX8_wind_18 : decode cX8_wind 18 = .ok (.aload_n 0, 1) := by decide +kernel
theorem dX8_wind_19 : decode cX8_wind 19 = .ok (.getfield 7, 3) := by decide +kernel
theorem dX8_wind_22 : decode cX8_wind 22 = .ok (.iconst 4, 1) := by decide +kernel
theorem dX8_wind_23 : decode cX8_wind 23 = .ok (.iaload, 1) := by decide +kernel
theorem dX8_wind_24 : decode cX8_wind 24 = .ok (.istore_n 2, 1) := by decide +kernel
theorem dX8_wind_25 : decode cX8_wind 25 = .ok (.aload_n 0, 1) := by decide +kernel
theorem dX8_wind_26 : decode cX8_wind 26 = .ok (.getfield 7, 3) := by decide +kernel
theorem dX8_wind_29 : decode cX8_wind 29 = .ok (.iconst 4, 1) := by decide +kernel
theorem dX8_wind_30 : decode cX8_wind 30 = .ok (.iload_n 1, 1) := by decide +kernel
theorem dX8_wind_31 : decode cX8_wind 31 = .ok (.iastore, 1) := by decide +kernel
theorem dX8_wind_32 : decode cX8_wind 32 = .ok (.iload_n 2, 1) := by decide +kernel
theorem dX8_wind_33 : decode cX8_wind 33 = .ok (.ireturn, 1) := by decide +kernel
set_option maxRecDepth 20000 in
theorem ggX8_branchSet_X8_its : GoodIn wsX8_branchSet wsX8_its := goodIn_r _ [6, 1, 7, 8, 5, 9, 10, 11, 12, 13, 14, 15, 16, 17, 18, 19, 20, 21, 22, 23] (by decide +kernel) (by decide +kernel)
set_option maxRecDepth 20000 in
theorem gX8_branchSet_X8_its : GoodIn wsX8_branchSet (wsV RX8 47 RX8 yX8_its wsX8_its) := goodIn_app (goodIn_of _ (by decide +kernel)) ggX8_branchSet_X8_its
theorem dX8_branchSet_0 : decode cX8_branchSet 0 = .ok (.iconst 0, 1) := by decide +kernel
theorem dX8_branchSet_1 : decode cX8_branchSet 1 = .ok (.istore_n 2, 1) := by decide +kernel
theorem dX8_branchSet_2 : decode cX8_branchSet 2 = .ok (.iconst 1, 1) := by decide +kernel
theorem dX8_branchSet_3 : decode cX8_branchSet 3 = .ok (.istore_n 3, 1) := by decide +kernel
theorem dX8_branchSet_4 : decode cX8_branchSet 4 = .ok (.iload_n 3, 1) := by decide +kernel
theorem dX8_branchSet_5 : decode cX8_branchSet 5 = .ok (.aload_n 0, 1) := by decide +kernel
theorem dX8_branchSet_6 : decode cX8_branchSet 6 = .ok (.getfield 7, 3) := by decide +kernel
theorem dX8_branchSet_9 : decode cX8_branchSet 9 = .ok (.iconst 5, 1) := by decide +kernel
theorem dX8_branchSet_10 : decode cX8_branchSet 10 = .ok (.iaload, 1) := by decide +kernel
theorem dX8_branchSet_11 : decode cX8_branchSet 11 = .ok (.if_icmp .ge 29, 3) := by decide +kernel
theorem dX8_branchSet_14 : decode cX8_branchSet 14 = .ok (.iload_n 2, 1) := by decide +kernel
theorem dX8_branchSet_15 : decode cX8_branchSet 15 = .ok (.aload_n 0, 1) := by decide +kernel
theorem dX8_branchSet_16 : decode cX8_branchSet 16 = .ok (.iload_n 3, 1) := by decide +kernel
theorem dX8_branchSet_17 : decode cX8_branchSet 17 = .ok (.iconst 0, 1) := by decide +kernel
theorem dX8_branchSet_18 : decode cX8_branchSet 18 = .ok (.invokevirtual 47, 3) := by decide +kernel
theorem dX8_branchSet_21 : decode cX8_branchSet 21 = .ok (.iload_n 1, 1) := by decide +kernel
theorem dX8_branchSet_22 : decode cX8_branchSet 22 = .ok (.if_icmp .ne 9, 3) := by decide +kernel
theorem dX8_branchSet_25 : decode cX8_branchSet 25 = .ok (.iconst 1, 1) := by decide +kernel
theorem dX8_branchSet_26 : decode cX8_branchSet 26 = .ok (.iload_n 3, 1) := by decide +kernel
theorem dX8_branchSet_27 : decode cX8_branchSet 27 = .ok (.ishl, 1) := by decide +kernel
theorem dX8_branchSet_28 : decode cX8_branchSet 28 = .ok (.goto 4, 3) := by decide +kernel
theorem dX8_branchSet_31 : decode cX8_branchSet 31 = .ok (.iconst 0, 1) := by decide +kernel
theorem dX8_branchSet_32 : decode cX8_branchSet 32 = .ok (.ior, 1) := by decide +kernel
theorem dX8_branchSet_33 : decode cX8_branchSet 33 = .ok (.istore_n 2, 1) := by decide +kernel
theorem dX8_branchSet_34 : decode cX8_branchSet 34 = .ok (.iinc 3 1, 3) := by decide +kernel
theorem dX8_branchSet_37 : decode cX8_branchSet 37 = .ok (.goto (-33), 3) := by decide +kernel
theorem dX8_branchSet_40 : decode cX8_branchSet 40 = .ok (.iload_n 2, 1) := by decide +kernel
theorem dX8_branchSet_41 : decode cX8_branchSet 41 = .ok (.ireturn, 1) := by decide +kernel
set_option maxRecDepth 20000 in
theorem ggX8_behind_X8_its : GoodIn wsX8_behind wsX8_its := goodIn_r _ [6, 1, 7, 8, 5, 9, 10, 11, 12, 13, 14, 15, 16, 17, 18, 19, 20, 21, 22, 23] (by decide +kernel) (by decide +kernel)
set_option maxRecDepth 20000 in
theorem gX8_behind_X8_its : GoodIn wsX8_behind (wsV RX8 47 RX8 yX8_its wsX8_its) := goodIn_app (goodIn_of _ (by decide +kernel)) ggX8_behind_X8_its
theorem dX8_behind_0 : decode cX8_behind 0 = .ok (.iconst 1, 1) := by decide +kernel
theorem dX8_behind_1 : decode cX8_behind 1 = .ok (.iload_n 1, 1) := by decide +kernel
theorem dX8_behind_2 : decode cX8_behind 2 = .ok (.ishl, 1) := by decide +kernel
theorem dX8_behind_3 : decode cX8_behind 3 = .ok (.istore_n 2, 1) := by decide +kernel
theorem dX8_behind_4 : decode cX8_behind 4 = .ok (.iconst 0, 1) := by decide +kernel
theorem dX8_behind_5 : decode cX8_behind 5 = .ok (.istore_n 3, 1) := by decide +kernel
theorem dX8_behind_6 : decode cX8_behind 6 = .ok (.iload_n 1, 1) := by decide +kernel
theorem dX8_behind_7 : decode cX8_behind 7 = .ok (.iconst 1, 1) := by decide +kernel
theorem dX8_behind_8 : decode cX8_behind 8 = .ok (.iadd, 1) := by decide +kernel
theorem dX8_behind_9 : decode cX8_behind 9 = .ok (.istore 4, 2) := by decide +kernel
theorem dX8_behind_11 : decode cX8_behind 11 = .ok (.iload 4, 2) := by decide +kernel
theorem dX8_behind_13 : decode cX8_behind 13 = .ok (.aload_n 0, 1) := by decide +kernel
theorem dX8_behind_14 : decode cX8_behind 14 = .ok (.getfield 7, 3) := by decide +kernel
theorem dX8_behind_17 : decode cX8_behind 17 = .ok (.iconst 5, 1) := by decide +kernel
theorem dX8_behind_18 : decode cX8_behind 18 = .ok (.iaload, 1) := by decide +kernel
theorem dX8_behind_19 : decode cX8_behind 19 = .ok (.if_icmp .ge 70, 3) := by decide +kernel
theorem dX8_behind_22 : decode cX8_behind 22 = .ok (.aload_n 0, 1) := by decide +kernel
theorem dX8_behind_23 : decode cX8_behind 23 = .ok (.iload 4, 2) := by decide +kernel
theorem dX8_behind_25 : decode cX8_behind 25 = .ok (.iconst 0, 1) := by decide +kernel
theorem dX8_behind_26 : decode cX8_behind 26 = .ok (.invokevirtual 47, 3) := by decide +kernel
theorem dX8_behind_29 : decode cX8_behind 29 = .ok (.ifCond .lt 22, 3) := by decide +kernel
theorem dX8_behind_32 : decode cX8_behind 32 = .ok (.iload_n 2, 1) := by decide +kernel
theorem dX8_behind_33 : decode cX8_behind 33 = .ok (.aload_n 0, 1) := by decide +kernel
theorem dX8_behind_34 : decode cX8_behind 34 = .ok (.iload 4, 2) := by decide +kernel
theorem dX8_behind_36 : decode cX8_behind 36 = .ok (.iconst 0, 1) := by decide +kernel
theorem dX8_behind_37 : decode cX8_behind 37 = .ok (.invokevirtual 47, 3) := by decide +kernel
theorem dX8_behind_40 : decode cX8_behind 40 = .ok (.ishr, 1) := by decide +kernel
theorem dX8_behind_41 : decode cX8_behind 41 = .ok (.iconst 1, 1) := by decide +kernel
theorem dX8_behind_42 : decode cX8_behind 42 = .ok (.iand, 1) := by decide +kernel
theorem dX8_behind_43 : decode cX8_behind 43 = .ok (.iconst 1, 1) := by decide +kernel
theorem dX8_behind_44 : decode cX8_behind 44 = .ok (.if_icmp .ne 7, 3) := by decide +kernel
theorem dX8_behind_47 : decode cX8_behind 47 = .ok (.iconst 1, 1) := by decide +kernel
theorem dX8_behind_48 : decode cX8_behind 48 = .ok (.goto 4, 3) := by decide +kernel
theorem dX8_behind_51 : decode cX8_behind 51 = .ok (.iconst 0, 1) := by decide +kernel
theorem dX8_behind_52 : decode cX8_behind 52 = .ok (.istore 5, 2) := by decide +kernel
theorem dX8_behind_54 : decode cX8_behind 54 = .ok (.iload_n 2, 1) := by decide +kernel
theorem dX8_behind_55 : decode cX8_behind 55 = .ok (.iload 5, 2) := by decide +kernel
theorem dX8_behind_57 : decode cX8_behind 57 = .ok (.ifCond .eq 10, 3) := by decide +kernel
theorem dX8_behind_60 : decode cX8_behind 60 = .ok (.iconst 1, 1) := by decide +kernel
theorem dX8_behind_61 : decode cX8_behind 61 = .ok (.iload 4, 2) := by decide +kernel
theorem dX8_behind_63 : decode cX8_behind 63 = .ok (.ishl, 1) := by decide +kernel
theorem dX8_behind_64 : decode cX8_behind 64 = .ok (.goto 4, 3) := by decide +kernel
theorem dX8_behind_67 : decode cX8_behind 67 = .ok (.iconst 0, 1) := by decide +kernel
theorem dX8_behind_68 : decode cX8_behind 68 = .ok (.ior, 1) := by decide +kernel
theorem dX8_behind_69 : decode cX8_behind 69 = .ok (.istore_n 2, 1) := by decide +kernel
theorem dX8_behind_70 : decode cX8_behind 70 = .ok (.iload_n 3, 1) := by decide +kernel
theorem dX8_behind_71 : decode cX8_behind 71 = .ok (.iload 5, 2) := by decide +kernel
theorem dX8_behind_73 : decode cX8_behind 73 = .ok (.ifCond .eq 7, 3) := by decide +kernel
theorem dX8_behind_76 : decode cX8_behind 76 = .ok (.iconst 1, 1) := by decide +kernel
theorem dX8_behind_77 : decode cX8_behind 77 = .ok (.goto 4, 3) := by decide +kernel
theorem dX8_behind_80 : decode cX8_behind 80 = .ok (.iconst 0, 1) := by decide +kernel
theorem dX8_behind_81 : decode cX8_behind 81 = .ok (.iadd, 1) := by decide +kernel
theorem dX8_behind_82 : decode cX8_behind 82 = .ok (.istore_n 3, 1) := by decide +kernel
theorem dX8_behind_83 : decode cX8_behind 83 = .ok (.iinc 4 1, 3) := by decide +kernel
theorem dX8_behind_86 : decode cX8_behind 86 = .ok (.goto (-75), 3) := by decide +kernel
theorem dX8_behind_89 : decode cX8_behind 89 = .ok (.iload_n 3, 1) := by decide +kernel
theorem dX8_behind_90 : decode cX8_behind 90 = .ok (.ireturn, 1) := by decide +kernel
set_option maxRecDepth 20000 in
theorem ggX8_depth_X8_its : GoodIn wsX8_depth wsX8_its := goodIn_r _ [5, 6, 7, 8, 4, 9, 10, 11, 12, 13, 14, 15, 16, 17, 18, 19, 20, 21, 22, 23] (by decide +kernel) (by decide +kernel)
set_option maxRecDepth 20000 in
theorem gX8_depth_X8_its : GoodIn wsX8_depth (wsV RX8 47 RX8 yX8_its wsX8_its) := goodIn_app (goodIn_of _ (by decide +kernel)) ggX8_depth_X8_its
theorem dX8_depth_0 : decode cX8_depth 0 = .ok (.iconst 0, 1) := by decide +kernel
theorem dX8_depth_1 : decode cX8_depth 1 = .ok (.istore_n 2, 1) := by decide +kernel
theorem dX8_depth_2 : decode cX8_depth 2 = .ok (.iload_n 1, 1) := by decide +kernel
theorem dX8_depth_3 : decode cX8_depth 3 = .ok (.istore_n 3, 1) := by decide +kernel
theorem dX8_depth_4 : decode cX8_depth 4 = .ok (.iload_n 3, 1) := by decide +kernel
theorem dX8_depth_5 : decode cX8_depth 5 = .ok (.ifCond .le 16, 3) := by decide +kernel
theorem dX8_depth_8 : decode cX8_depth 8 = .ok (.aload_n 0, 1) := by decide +kernel
theorem dX8_depth_9 : decode cX8_depth 9 = .ok (.iload_n 3, 1) := by decide +kernel
theorem dX8_depth_10 : decode cX8_depth 10 = .ok (.iconst 0, 1) := by decide +kernel
theorem dX8_depth_11 : decode cX8_depth 11 = .ok (.invokevirtual 47, 3) := by decide +kernel
theorem dX8_depth_14 : decode cX8_depth 14 = .ok (.istore_n 3, 1) := by decide +kernel
theorem dX8_depth_15 : decode cX8_depth 15 = .ok (.iinc 2 1, 3) := by decide +kernel
theorem dX8_depth_18 : decode cX8_depth 18 = .ok (.goto (-14), 3) := by decide +kernel
theorem dX8_depth_21 : decode cX8_depth 21 = .ok (.iload_n 2, 1) := by decide +kernel
theorem dX8_depth_22 : decode cX8_depth 22 = .ok (.ireturn, 1) := by decide +kernel
set_option maxRecDepth 20000 in
theorem ggX8_of_X8_isStreet : GoodIn wsX8_of wsX8_isStreet := goodIn_r _ [5, 6, 7, 8, 4, 9, 29, 30, 31, 32, 33, 34, 35, 36, 37, 38, 39, 40, 41, 42] (by decide +kernel) (by decide +kernel)
set_option maxRecDepth 20000 in
theorem gX8_of_X8_isStreet : GoodIn wsX8_of (wsV RX8 81 RX8 yX8_isStreet wsX8_isStreet) := goodIn_app (goodIn_of _ (by decide +kernel)) ggX8_of_X8_isStreet
set_option maxRecDepth 20000 in
theorem ggX8_of_X8_its : GoodIn wsX8_of wsX8_its := goodIn_r _ [13, 6, 14, 15, 4, 16, 29, 30, 31, 32, 33, 34, 35, 36, 37, 38, 39, 40, 41, 42] (by decide +kernel) (by decide +kernel)
set_option maxRecDepth 20000 in
theorem gX8_of_X8_its : GoodIn wsX8_of (wsV RX8 47 RX8 yX8_its wsX8_its) := goodIn_app (goodIn_of _ (by decide +kernel)) ggX8_of_X8_its
set_option maxRecDepth 20000 in
theorem ggX8_of_X8_branchSet : GoodIn wsX8_of wsX8_branchSet := goodIn_r _ [20, 6, 10, 11, 12, 4, 13, 14, 15, 16, 29, 30, 31, 32, 33, 34, 35, 36, 37, 38, 39, 40, 41, 42] (by decide +kernel) (by decide +kernel)
set_option maxRecDepth 20000 in
theorem gX8_of_X8_branchSet : GoodIn wsX8_of (wsV RX8 94 RX8 yX8_branchSet wsX8_branchSet) := goodIn_app (goodIn_of _ (by decide +kernel)) ggX8_of_X8_branchSet
set_option maxRecDepth 20000 in
theorem ggX8_of_X8_behind : GoodIn wsX8_of wsX8_behind := goodIn_r _ [24, 6, 10, 11, 12, 4, 13, 14, 15, 16, 29, 30, 31, 32, 33, 34, 35, 36, 37, 38, 39, 40, 41, 42] (by decide +kernel) (by decide +kernel)
set_option maxRecDepth 20000 in
theorem gX8_of_X8_behind : GoodIn wsX8_of (wsV RX8 97 RX8 yX8_behind wsX8_behind) := goodIn_app (goodIn_of _ (by decide +kernel)) ggX8_of_X8_behind
set_option maxRecDepth 20000 in
theorem ggX8_of_X8_depth : GoodIn wsX8_of wsX8_depth := goodIn_r _ [28, 10, 11, 12, 4, 13, 6, 14, 15, 16, 29, 30, 31, 32, 33, 34, 35, 36, 37, 38, 39, 40, 41, 42] (by decide +kernel) (by decide +kernel)
set_option maxRecDepth 20000 in
theorem gX8_of_X8_depth : GoodIn wsX8_of (wsV RX8 100 RX8 yX8_depth wsX8_depth) := goodIn_app (goodIn_of _ (by decide +kernel)) ggX8_of_X8_depth
theorem dX8_of_0 : decode cX8_of 0 = .ok (.aload_n 0, 1) := by decide +kernel
theorem dX8_of_1 : decode cX8_of 1 = .ok (.iload_n 1, 1) := by decide +kernel
theorem dX8_of_2 : decode cX8_of 2 = .ok (.invokevirtual 81, 3) := by decide +kernel
theorem dX8_of_5 : decode cX8_of 5 = .ok (.ifCond .ne 5, 3) := by decide +kernel
theorem dX8_of_8 : decode cX8_of 8 = .ok (.iconst (-1), 1) := by decide +kernel
theorem dX8_of_9 : decode cX8_of 9 = .ok (.ireturn, 1) := by decide +kernel
theorem dX8_of_10 : decode cX8_of 10 = .ok (.iload_n 2, 1) := by decide +kernel
theorem dX8_of_11 : decode cX8_of 11 = .ok (.tableswitch 91 0 7 #[45, 66, 66, 66, 66, 73, 79, 85], 45) := by decide +kernel
theorem dX8_of_56 : decode cX8_of 56 = .ok (.aload_n 0, 1) := by decide +kernel
theorem dX8_of_57 : decode cX8_of 57 = .ok (.iload_n 1, 1) := by decide +kernel
theorem dX8_of_58 : decode cX8_of 58 = .ok (.iconst 0, 1) := by decide +kernel
theorem dX8_of_59 : decode cX8_of 59 = .ok (.invokevirtual 47, 3) := by decide +kernel
theorem dX8_of_62 : decode cX8_of 62 = .ok (.ifCond .ge 8, 3) := by decide +kernel
theorem dX8_of_65 : decode cX8_of 65 = .ok (.bipush (-6), 2) := by decide +kernel
theorem dX8_of_67 : decode cX8_of 67 = .ok (.goto 9, 3) := by decide +kernel
theorem dX8_of_70 : decode cX8_of 70 = .ok (.aload_n 0, 1) := by decide +kernel
theorem dX8_of_71 : decode cX8_of 71 = .ok (.iload_n 1, 1) := by decide +kernel
theorem dX8_of_72 : decode cX8_of 72 = .ok (.iconst 0, 1) := by decide +kernel
theorem dX8_of_73 : decode cX8_of 73 = .ok (.invokevirtual 47, 3) := by decide +kernel
theorem dX8_of_76 : decode cX8_of 76 = .ok (.ireturn, 1) := by decide +kernel
theorem dX8_of_77 : decode cX8_of 77 = .ok (.aload_n 0, 1) := by decide +kernel
theorem dX8_of_78 : decode cX8_of 78 = .ok (.iload_n 1, 1) := by decide +kernel
theorem dX8_of_79 : decode cX8_of 79 = .ok (.iload_n 2, 1) := by decide +kernel
theorem dX8_of_80 : decode cX8_of 80 = .ok (.invokevirtual 47, 3) := by decide +kernel
theorem dX8_of_83 : decode cX8_of 83 = .ok (.ireturn, 1) := by decide +kernel
theorem dX8_of_84 : decode cX8_of 84 = .ok (.aload_n 0, 1) := by decide +kernel
theorem dX8_of_85 : decode cX8_of 85 = .ok (.iload_n 1, 1) := by decide +kernel
theorem dX8_of_86 : decode cX8_of 86 = .ok (.invokevirtual 94, 3) := by decide +kernel
theorem dX8_of_89 : decode cX8_of 89 = .ok (.ireturn, 1) := by decide +kernel
theorem dX8_of_90 : decode cX8_of 90 = .ok (.aload_n 0, 1) := by decide +kernel
theorem dX8_of_91 : decode cX8_of 91 = .ok (.iload_n 1, 1) := by decide +kernel
theorem dX8_of_92 : decode cX8_of 92 = .ok (.invokevirtual 97, 3) := by decide +kernel
theorem dX8_of_95 : decode cX8_of 95 = .ok (.ireturn, 1) := by decide +kernel
theorem dX8_of_96 : decode cX8_of 96 = .ok (.aload_n 0, 1) := by decide +kernel
theorem dX8_of_97 : decode cX8_of 97 = .ok (.iload_n 1, 1) := by decide +kernel
theorem dX8_of_98 : decode cX8_of 98 = .ok (.invokevirtual 100, 3) := by decide +kernel
theorem dX8_of_101 : decode cX8_of 101 = .ok (.ireturn, 1) := by decide +kernel
theorem dX8_of_102 : decode cX8_of 102 = .ok (.bipush (-2), 2) := by decide +kernel
theorem dX8_of_104 : decode cX8_of 104 = .ok (.ireturn, 1) := by decide +kernel
set_option maxRecDepth 20000 in
theorem ggX8_now_X8_isStreet : GoodIn wsX8_now wsX8_isStreet := goodIn_r _ [7, 1, 8, 9, 6, 10, 41, 42, 43, 44, 45, 46, 47, 48, 49, 50, 51, 52, 53, 54] (by decide +kernel) (by decide +kernel)
set_option maxRecDepth 20000 in
theorem gX8_now_X8_isStreet : GoodIn wsX8_now (wsV RX8 81 RX8 yX8_isStreet wsX8_isStreet) := goodIn_app (goodIn_of _ (by decide +kernel)) ggX8_now_X8_isStreet
set_option maxRecDepth 20000 in
theorem ggX8_now_X8_blows : GoodIn wsX8_now wsX8_blows := goodIn_r _ [14, 2, 1, 15, 16, 17, 6, 18, 19, 20, 21, 22, 23, 24, 25, 26, 27, 28, 41, 42, 43, 44, 45, 46, 47, 48, 49, 50, 51, 52, 53, 54] (by decide +kernel) (by decide +kernel)
set_option maxRecDepth 20000 in
theorem gX8_now_X8_blows : GoodIn wsX8_now (wsV RX8 60 RX8 yX8_blows wsX8_blows) := goodIn_app (goodIn_of _ (by decide +kernel)) ggX8_now_X8_blows
set_option maxRecDepth 20000 in
theorem ggX8_now_X8_gustOf : GoodIn wsX8_now wsX8_gustOf := goodIn_r _ [32, 2, 1, 41, 42, 43, 44, 45, 46, 47, 48, 49, 50, 51, 52, 53, 54] (by decide +kernel) (by decide +kernel)
set_option maxRecDepth 20000 in
theorem gX8_now_X8_gustOf : GoodIn wsX8_now (wsV RX8 56 RX8 yX8_gustOf wsX8_gustOf) := goodIn_app (goodIn_of _ (by decide +kernel)) ggX8_now_X8_gustOf
set_option maxRecDepth 20000 in
theorem ggX8_now_X8_its : GoodIn wsX8_now wsX8_its := goodIn_r _ [22, 1, 23, 24, 6, 25, 41, 42, 43, 44, 45, 46, 47, 48, 49, 50, 51, 52, 53, 54] (by decide +kernel) (by decide +kernel)
set_option maxRecDepth 20000 in
theorem gX8_now_X8_its : GoodIn wsX8_now (wsV RX8 47 RX8 yX8_its wsX8_its) := goodIn_app (goodIn_of _ (by decide +kernel)) ggX8_now_X8_its
set_option maxRecDepth 20000 in
theorem ggX8_now_X8_stepsOf : GoodIn wsX8_now wsX8_stepsOf := goodIn_r _ [36, 2, 1, 19, 20, 21, 6, 22, 23, 24, 25, 26, 27, 28, 41, 42, 43, 44, 45, 46, 47, 48, 49, 50, 51, 52, 53, 54] (by decide +kernel) (by decide +kernel)
set_option maxRecDepth 20000 in
theorem gX8_now_X8_stepsOf : GoodIn wsX8_now (wsV RX8 103 RX8 yX8_stepsOf wsX8_stepsOf) := goodIn_app (goodIn_of _ (by decide +kernel)) ggX8_now_X8_stepsOf
set_option maxRecDepth 20000 in
theorem ggX8_now_X8_less : GoodIn wsX8_now wsX8_less := goodIn_r _ [28] (by decide +kernel) (by decide +kernel)
set_option maxRecDepth 20000 in
theorem gX8_now_X8_less : GoodIn wsX8_now (va_wsS RX8 50 yX8_less wsX8_less) := goodIn_app (goodIn_of _ (by decide +kernel)) ggX8_now_X8_less
set_option maxRecDepth 20000 in
theorem ggX8_now_X8_hatsOf : GoodIn wsX8_now wsX8_hatsOf := goodIn_r _ [40, 1, 29, 30, 31, 6, 32, 2, 19, 20, 21, 22, 23, 24, 25, 26, 27, 28, 41, 42, 43, 44, 45, 46, 47, 48, 49, 50, 51, 52, 53, 54] (by decide +kernel) (by decide +kernel)
set_option maxRecDepth 20000 in
theorem gX8_now_X8_hatsOf : GoodIn wsX8_now (wsV RX8 64 RX8 yX8_hatsOf wsX8_hatsOf) := goodIn_app (goodIn_of _ (by decide +kernel)) ggX8_now_X8_hatsOf
theorem dX8_now_0 : decode cX8_now 0 = .ok (.aload_n 0, 1) := by decide +kernel
theorem dX8_now_1 : decode cX8_now 1 = .ok (.iload_n 1, 1) := by decide +kernel
theorem dX8_now_2 : decode cX8_now 2 = .ok (.invokevirtual 81, 3) := by decide +kernel
theorem dX8_now_5 : decode cX8_now 5 = .ok (.ifCond .ne 5, 3) := by decide +kernel
theorem dX8_now_8 : decode cX8_now 8 = .ok (.iconst (-1), 1) := by decide +kernel
theorem dX8_now_9 : decode cX8_now 9 = .ok (.ireturn, 1) := by decide +kernel
theorem dX8_now_10 : decode cX8_now 10 = .ok (.aload_n 0, 1) := by decide +kernel
theorem dX8_now_11 : decode cX8_now 11 = .ok (.aload_n 0, 1) := by decide +kernel
theorem dX8_now_12 : decode cX8_now 12 = .ok (.getfield 7, 3) := by decide +kernel
theorem dX8_now_15 : decode cX8_now 15 = .ok (.iconst 4, 1) := by decide +kernel
theorem dX8_now_16 : decode cX8_now 16 = .ok (.iaload, 1) := by decide +kernel
theorem dX8_now_17 : decode cX8_now 17 = .ok (.invokevirtual 60, 3) := by decide +kernel
theorem dX8_now_20 : decode cX8_now 20 = .ok (.iload_n 2, 1) := by decide +kernel
theorem dX8_now_21 : decode cX8_now 21 = .ok (.tableswitch 107 0 4 #[35, 42, 48, 68, 101], 35) := by decide +kernel
theorem dX8_now_56 : decode cX8_now 56 = .ok (.aload_n 0, 1) := by decide +kernel
theorem dX8_now_57 : decode cX8_now 57 = .ok (.getfield 26, 3) := by decide +kernel
theorem dX8_now_60 : decode cX8_now 60 = .ok (.iload_n 1, 1) := by decide +kernel
theorem dX8_now_61 : decode cX8_now 61 = .ok (.iaload, 1) := by decide +kernel
theorem dX8_now_62 : decode cX8_now 62 = .ok (.ireturn, 1) := by decide +kernel
theorem dX8_now_63 : decode cX8_now 63 = .ok (.aload_n 0, 1) := by decide +kernel
theorem dX8_now_64 : decode cX8_now 64 = .ok (.iload_n 1, 1) := by decide +kernel
theorem dX8_now_65 : decode cX8_now 65 = .ok (.invokevirtual 56, 3) := by decide +kernel
theorem dX8_now_68 : decode cX8_now 68 = .ok (.ireturn, 1) := by decide +kernel
theorem dX8_now_69 : decode cX8_now 69 = .ok (.aload_n 0, 1) := by decide +kernel
theorem dX8_now_70 : decode cX8_now 70 = .ok (.iload_n 1, 1) := by decide +kernel
theorem dX8_now_71 : decode cX8_now 71 = .ok (.iconst 2, 1) := by decide +kernel
theorem dX8_now_72 : decode cX8_now 72 = .ok (.invokevirtual 47, 3) := by decide +kernel
theorem dX8_now_75 : decode cX8_now 75 = .ok (.ifCond .ne 8, 3) := by decide +kernel
theorem dX8_now_78 : decode cX8_now 78 = .ok (.bipush (-6), 2) := by decide +kernel
theorem dX8_now_80 : decode cX8_now 80 = .ok (.goto 8, 3) := by decide +kernel
theorem dX8_now_83 : decode cX8_now 83 = .ok (.aload_n 0, 1) := by decide +kernel
theorem dX8_now_84 : decode cX8_now 84 = .ok (.iload_n 1, 1) := by decide +kernel
theorem dX8_now_85 : decode cX8_now 85 = .ok (.invokevirtual 103, 3) := by decide +kernel
theorem dX8_now_88 : decode cX8_now 88 = .ok (.ireturn, 1) := by decide +kernel
theorem dX8_now_89 : decode cX8_now 89 = .ok (.aload_n 0, 1) := by decide +kernel
theorem dX8_now_90 : decode cX8_now 90 = .ok (.iload_n 1, 1) := by decide +kernel
theorem dX8_now_91 : decode cX8_now 91 = .ok (.iconst 3, 1) := by decide +kernel
theorem dX8_now_92 : decode cX8_now 92 = .ok (.invokevirtual 47, 3) := by decide +kernel
theorem dX8_now_95 : decode cX8_now 95 = .ok (.ifCond .ne 8, 3) := by decide +kernel
theorem dX8_now_98 : decode cX8_now 98 = .ok (.bipush (-6), 2) := by decide +kernel
theorem dX8_now_100 : decode cX8_now 100 = .ok (.goto 21, 3) := by decide +kernel
theorem dX8_now_103 : decode cX8_now 103 = .ok (.aload_n 0, 1) := by decide +kernel
theorem dX8_now_104 : decode cX8_now 104 = .ok (.getfield 26, 3) := by decide +kernel
theorem dX8_now_107 : decode cX8_now 107 = .ok (.iload_n 1, 1) := by decide +kernel
theorem dX8_now_108 : decode cX8_now 108 = .ok (.iaload, 1) := by decide +kernel
theorem dX8_now_109 : decode cX8_now 109 = .ok (.aload_n 0, 1) := by decide +kernel
theorem dX8_now_110 : decode cX8_now 110 = .ok (.getfield 7, 3) := by decide +kernel
theorem dX8_now_113 : decode cX8_now 113 = .ok (.iconst 3, 1) := by decide +kernel
theorem dX8_now_114 : decode cX8_now 114 = .ok (.iaload, 1) := by decide +kernel
theorem dX8_now_115 : decode cX8_now 115 = .ok (.idiv, 1) := by decide +kernel
theorem dX8_now_116 : decode cX8_now 116 = .ok (.bipush 9, 2) := by decide +kernel
theorem dX8_now_118 : decode cX8_now 118 = .ok (.invokestatic 50, 3) := by decide +kernel
theorem dX8_now_121 : decode cX8_now 121 = .ok (.ireturn, 1) := by decide +kernel
theorem dX8_now_122 : decode cX8_now 122 = .ok (.aload_n 0, 1) := by decide +kernel
theorem dX8_now_123 : decode cX8_now 123 = .ok (.iload_n 1, 1) := by decide +kernel
theorem dX8_now_124 : decode cX8_now 124 = .ok (.invokevirtual 64, 3) := by decide +kernel
theorem dX8_now_127 : decode cX8_now 127 = .ok (.ireturn, 1) := by decide +kernel
theorem dX8_now_128 : decode cX8_now 128 = .ok (.bipush (-2), 2) := by decide +kernel
theorem dX8_now_130 : decode cX8_now 130 = .ok (.ireturn, 1) := by decide +kernel
set_option maxRecDepth 20000 in
theorem ggX8_record_X8_in : GoodIn wsX8_record wsX8_in := goodIn_r _ [5] (by decide +kernel) (by decide +kernel)
set_option maxRecDepth 20000 in
theorem gX8_record_X8_in : GoodIn wsX8_record (va_wsS RX8 39 yX8_in wsX8_in) := goodIn_app (goodIn_of _ (by decide +kernel)) ggX8_record_X8_in
theorem dX8_record_0 : decode cX8_record 0 = .ok (.iload_n 1, 1) := by decide +kernel
theorem dX8_record_1 : decode cX8_record 1 = .ok (.iconst 0, 1) := by decide +kernel
theorem dX8_record_2 : decode cX8_record 2 = .ok (.aload_n 0, 1) := by decide +kernel
theorem dX8_record_3 : decode cX8_record 3 = .ok (.getfield 7, 3) := by decide +kernel
theorem dX8_record_6 : decode cX8_record 6 = .ok (.bipush 8, 2) := by decide +kernel
theorem dX8_record_8 : decode cX8_record 8 = .ok (.iaload, 1) := by decide +kernel
theorem dX8_record_9 : decode cX8_record 9 = .ok (.iconst 1, 1) := by decide +kernel
theorem dX8_record_10 : decode cX8_record 10 = .ok (.isub, 1) := by decide +kernel
theorem dX8_record_11 : decode cX8_record 11 = .ok (.invokestatic 39, 3) := by decide +kernel
theorem dX8_record_14 : decode cX8_record 14 = .ok (.ifCond .ne 5, 3) := by decide +kernel
theorem dX8_record_17 : decode cX8_record 17 = .ok (.iconst (-1), 1) := by decide +kernel
theorem dX8_record_18 : decode cX8_record 18 = .ok (.ireturn, 1) := by decide +kernel
theorem dX8_record_19 : decode cX8_record 19 = .ok (.iload_n 2, 1) := by decide +kernel
theorem dX8_record_20 : decode cX8_record 20 = .ok (.iconst 0, 1) := by decide +kernel
theorem dX8_record_21 : decode cX8_record 21 = .ok (.iconst 2, 1) := by decide +kernel
theorem dX8_record_22 : decode cX8_record 22 = .ok (.invokestatic 39, 3) := by decide +kernel
theorem dX8_record_25 : decode cX8_record 25 = .ok (.ifCond .eq 19, 3) := by decide +kernel
theorem dX8_record_28 : decode cX8_record 28 = .ok (.aload_n 0, 1) := by decide +kernel
theorem dX8_record_29 : decode cX8_record 29 = .ok (.getfield 7, 3) := by decide +kernel
theorem dX8_record_32 : decode cX8_record 32 = .ok (.bipush 9, 2) := by decide +kernel
theorem dX8_record_34 : decode cX8_record 34 = .ok (.iconst 3, 1) := by decide +kernel
theorem dX8_record_35 : decode cX8_record 35 = .ok (.iload_n 1, 1) := by decide +kernel
theorem dX8_record_36 : decode cX8_record 36 = .ok (.imul, 1) := by decide +kernel
theorem dX8_record_37 : decode cX8_record 37 = .ok (.iadd, 1) := by decide +kernel
theorem dX8_record_38 : decode cX8_record 38 = .ok (.iload_n 2, 1) := by decide +kernel
theorem dX8_record_39 : decode cX8_record 39 = .ok (.iadd, 1) := by decide +kernel
theorem dX8_record_40 : decode cX8_record 40 = .ok (.iaload, 1) := by decide +kernel
theorem dX8_record_41 : decode cX8_record 41 = .ok (.goto 5, 3) := by decide +kernel
theorem dX8_record_44 : decode cX8_record 44 = .ok (.bipush (-2), 2) := by decide +kernel
theorem dX8_record_46 : decode cX8_record 46 = .ok (.ireturn, 1) := by decide +kernel
set_option maxRecDepth 20000 in
theorem ggX8_sign_X8_in : GoodIn wsX8_sign wsX8_in := goodIn_r _ [6] (by decide +kernel) (by decide +kernel)
set_option maxRecDepth 20000 in
theorem gX8_sign_X8_in : GoodIn wsX8_sign (va_wsS RX8 39 yX8_in wsX8_in) := goodIn_app (goodIn_of _ (by decide +kernel)) ggX8_sign_X8_in
theorem dX8_sign_0 : decode cX8_sign 0 = .ok (.iload_n 1, 1) := by decide +kernel
theorem dX8_sign_1 : decode cX8_sign 1 = .ok (.iconst 0, 1) := by decide +kernel
theorem dX8_sign_2 : decode cX8_sign 2 = .ok (.aload_n 0, 1) := by decide +kernel
theorem dX8_sign_3 : decode cX8_sign 3 = .ok (.getfield 106, 3) := by decide +kernel
theorem dX8_sign_6 : decode cX8_sign 6 = .ok (.iconst 1, 1) := by decide +kernel
theorem dX8_sign_7 : decode cX8_sign 7 = .ok (.isub, 1) := by decide +kernel
theorem dX8_sign_8 : decode cX8_sign 8 = .ok (.invokestatic 39, 3) := by decide +kernel
theorem dX8_sign_11 : decode cX8_sign 11 = .ok (.ifCond .eq 12, 3) := by decide +kernel
theorem dX8_sign_14 : decode cX8_sign 14 = .ok (.aload_n 0, 1) := by decide +kernel
theorem dX8_sign_15 : decode cX8_sign 15 = .ok (.getfield 23, 3) := by decide +kernel
theorem dX8_sign_18 : decode cX8_sign 18 = .ok (.iload_n 1, 1) := by decide +kernel
theorem dX8_sign_19 : decode cX8_sign 19 = .ok (.iaload, 1) := by decide +kernel
theorem dX8_sign_20 : decode cX8_sign 20 = .ok (.goto 4, 3) := by decide +kernel
theorem dX8_sign_23 : decode cX8_sign 23 = .ok (.iconst (-1), 1) := by decide +kernel
theorem dX8_sign_24 : decode cX8_sign 24 = .ok (.ireturn, 1) := by decide +kernel
set_option maxRecDepth 20000 in
theorem ggX8_people_X8_its : GoodIn wsX8_people wsX8_its := goodIn_r _ [6, 1, 7, 8, 5, 9, 10, 11, 12, 13, 14, 15, 16, 17, 18, 19, 20, 21, 22, 23] (by decide +kernel) (by decide +kernel)
set_option maxRecDepth 20000 in
theorem gX8_people_X8_its : GoodIn wsX8_people (wsV RX8 47 RX8 yX8_its wsX8_its) := goodIn_app (goodIn_of _ (by decide +kernel)) ggX8_people_X8_its
theorem dX8_people_0 : decode cX8_people 0 = .ok (.iconst 0, 1) := by decide +kernel
theorem dX8_people_1 : decode cX8_people 1 = .ok (.istore_n 1, 1) := by decide +kernel
theorem dX8_people_2 : decode cX8_people 2 = .ok (.iconst 0, 1) := by decide +kernel
theorem dX8_people_3 : decode cX8_people 3 = .ok (.istore_n 2, 1) := by decide +kernel
theorem dX8_people_4 : decode cX8_people 4 = .ok (.iload_n 2, 1) := by decide +kernel
theorem dX8_people_5 : decode cX8_people 5 = .ok (.aload_n 0, 1) := by decide +kernel
theorem dX8_people_6 : decode cX8_people 6 = .ok (.getfield 7, 3) := by decide +kernel
theorem dX8_people_9 : decode cX8_people 9 = .ok (.iconst 5, 1) := by decide +kernel
theorem dX8_people_10 : decode cX8_people 10 = .ok (.iaload, 1) := by decide +kernel
theorem dX8_people_11 : decode cX8_people 11 = .ok (.if_icmp .ge 18, 3) := by decide +kernel
theorem dX8_people_14 : decode cX8_people 14 = .ok (.iload_n 1, 1) := by decide +kernel
theorem dX8_people_15 : decode cX8_people 15 = .ok (.aload_n 0, 1) := by decide +kernel
theorem dX8_people_16 : decode cX8_people 16 = .ok (.iload_n 2, 1) := by decide +kernel
theorem dX8_people_17 : decode cX8_people 17 = .ok (.iconst 4, 1) := by decide +kernel
theorem dX8_people_18 : decode cX8_people 18 = .ok (.invokevirtual 47, 3) := by decide +kernel
theorem dX8_people_21 : decode cX8_people 21 = .ok (.iadd, 1) := by decide +kernel
theorem dX8_people_22 : decode cX8_people 22 = .ok (.istore_n 1, 1) := by decide +kernel
theorem dX8_people_23 : decode cX8_people 23 = .ok (.iinc 2 1, 3) := by decide +kernel
theorem dX8_people_26 : decode cX8_people 26 = .ok (.goto (-22), 3) := by decide +kernel
theorem dX8_people_29 : decode cX8_people 29 = .ok (.iload_n 1, 1) := by decide +kernel
theorem dX8_people_30 : decode cX8_people 30 = .ok (.ireturn, 1) := by decide +kernel
set_option maxRecDepth 20000 in
theorem ggX8_calm_X8_blows : GoodIn wsX8_calm wsX8_blows := goodIn_r _ [7, 2, 1, 8, 9, 10, 6, 11, 12, 13, 14, 15, 16, 17, 18, 19, 20, 21, 30, 31, 32, 33, 34, 35, 36, 37, 38, 39, 40, 41, 42, 43] (by decide +kernel) (by decide +kernel)
set_option maxRecDepth 20000 in
theorem gX8_calm_X8_blows : GoodIn wsX8_calm (wsV RX8 60 RX8 yX8_blows wsX8_blows) := goodIn_app (goodIn_of _ (by decide +kernel)) ggX8_calm_X8_blows
set_option maxRecDepth 20000 in
theorem ggX8_calm_X8_hatsOf : GoodIn wsX8_calm wsX8_hatsOf := goodIn_r _ [25, 1, 26, 27, 28, 6, 29, 2, 12, 13, 14, 15, 16, 17, 18, 19, 20, 21, 30, 31, 32, 33, 34, 35, 36, 37, 38, 39, 40, 41, 42, 43] (by decide +kernel) (by decide +kernel)
set_option maxRecDepth 20000 in
theorem gX8_calm_X8_hatsOf : GoodIn wsX8_calm (wsV RX8 64 RX8 yX8_hatsOf wsX8_hatsOf) := goodIn_app (goodIn_of _ (by decide +kernel)) ggX8_calm_X8_hatsOf
theorem dX8_calm_0 : decode cX8_calm 0 = .ok (.aload_n 0, 1) := by decide +kernel
theorem dX8_calm_1 : decode cX8_calm 1 = .ok (.aload_n 0, 1) := by decide +kernel
theorem dX8_calm_2 : decode cX8_calm 2 = .ok (.getfield 7, 3) := by decide +kernel
theorem dX8_calm_5 : decode cX8_calm 5 = .ok (.iconst 4, 1) := by decide +kernel
theorem dX8_calm_6 : decode cX8_calm 6 = .ok (.iaload, 1) := by decide +kernel
theorem dX8_calm_7 : decode cX8_calm 7 = .ok (.invokevirtual 60, 3) := by decide +kernel
theorem dX8_calm_10 : decode cX8_calm 10 = .ok (.iconst 0, 1) := by decide +kernel
theorem dX8_calm_11 : decode cX8_calm 11 = .ok (.istore_n 2, 1) := by decide +kernel
theorem dX8_calm_12 : decode cX8_calm 12 = .ok (.iconst 0, 1) := by decide +kernel
theorem dX8_calm_13 : decode cX8_calm 13 = .ok (.istore_n 3, 1) := by decide +kernel
theorem dX8_calm_14 : decode cX8_calm 14 = .ok (.iconst 0, 1) := by decide +kernel
theorem dX8_calm_15 : decode cX8_calm 15 = .ok (.istore 4, 2) := by decide +kernel
theorem dX8_calm_17 : decode cX8_calm 17 = .ok (.iload 4, 2) := by decide +kernel
theorem dX8_calm_19 : decode cX8_calm 19 = .ok (.aload_n 0, 1) := by decide +kernel
theorem dX8_calm_20 : decode cX8_calm 20 = .ok (.getfield 7, 3) := by decide +kernel
theorem dX8_calm_23 : decode cX8_calm 23 = .ok (.iconst 5, 1) := by decide +kernel
theorem dX8_calm_24 : decode cX8_calm 24 = .ok (.iaload, 1) := by decide +kernel
theorem dX8_calm_25 : decode cX8_calm 25 = .ok (.if_icmp .ge 52, 3) := by decide +kernel
theorem dX8_calm_28 : decode cX8_calm 28 = .ok (.iload_n 2, 1) := by decide +kernel
theorem dX8_calm_29 : decode cX8_calm 29 = .ok (.aload_n 0, 1) := by decide +kernel
theorem dX8_calm_30 : decode cX8_calm 30 = .ok (.iload 4, 2) := by decide +kernel
theorem dX8_calm_32 : decode cX8_calm 32 = .ok (.invokevirtual 64, 3) := by decide +kernel
theorem dX8_calm_35 : decode cX8_calm 35 = .ok (.ifCond .ne 10, 3) := by decide +kernel
theorem dX8_calm_38 : decode cX8_calm 38 = .ok (.iconst 1, 1) := by decide +kernel
theorem dX8_calm_39 : decode cX8_calm 39 = .ok (.iload 4, 2) := by decide +kernel
theorem dX8_calm_41 : decode cX8_calm 41 = .ok (.ishl, 1) := by decide +kernel
theorem dX8_calm_42 : decode cX8_calm 42 = .ok (.goto 4, 3) := by decide +kernel
theorem dX8_calm_45 : decode cX8_calm 45 = .ok (.iconst 0, 1) := by decide +kernel
theorem dX8_calm_46 : decode cX8_calm 46 = .ok (.ior, 1) := by decide +kernel
theorem dX8_calm_47 : decode cX8_calm 47 = .ok (.istore_n 2, 1) := by decide +kernel
theorem dX8_calm_48 : decode cX8_calm 48 = .ok (.aload_n 0, 1) := by decide +kernel
theorem dX8_calm_49 : decode cX8_calm 49 = .ok (.getfield 26, 3) := by decide +kernel
theorem dX8_calm_52 : decode cX8_calm 52 = .ok (.iload 4, 2) := by decide +kernel
theorem dX8_calm_54 : decode cX8_calm 54 = .ok (.iaload, 1) := by decide +kernel
theorem dX8_calm_55 : decode cX8_calm 55 = .ok (.aload_n 0, 1) := by decide +kernel
theorem dX8_calm_56 : decode cX8_calm 56 = .ok (.getfield 26, 3) := by decide +kernel
theorem dX8_calm_59 : decode cX8_calm 59 = .ok (.iload_n 3, 1) := by decide +kernel
theorem dX8_calm_60 : decode cX8_calm 60 = .ok (.iaload, 1) := by decide +kernel
theorem dX8_calm_61 : decode cX8_calm 61 = .ok (.if_icmp .ge 8, 3) := by decide +kernel
theorem dX8_calm_64 : decode cX8_calm 64 = .ok (.iload 4, 2) := by decide +kernel
theorem dX8_calm_66 : decode cX8_calm 66 = .ok (.goto 4, 3) := by decide +kernel
theorem dX8_calm_69 : decode cX8_calm 69 = .ok (.iload_n 3, 1) := by decide +kernel
theorem dX8_calm_70 : decode cX8_calm 70 = .ok (.istore_n 3, 1) := by decide +kernel
theorem dX8_calm_71 : decode cX8_calm 71 = .ok (.iinc 4 1, 3) := by decide +kernel
theorem dX8_calm_74 : decode cX8_calm 74 = .ok (.goto (-57), 3) := by decide +kernel
theorem dX8_calm_77 : decode cX8_calm 77 = .ok (.iload_n 1, 1) := by decide +kernel
theorem dX8_calm_78 : decode cX8_calm 78 = .ok (.bipush 6, 2) := by decide +kernel
theorem dX8_calm_80 : decode cX8_calm 80 = .ok (.if_icmp .ne 7, 3) := by decide +kernel
theorem dX8_calm_83 : decode cX8_calm 83 = .ok (.iload_n 2, 1) := by decide +kernel
theorem dX8_calm_84 : decode cX8_calm 84 = .ok (.goto 4, 3) := by decide +kernel
theorem dX8_calm_87 : decode cX8_calm 87 = .ok (.iload_n 3, 1) := by decide +kernel
theorem dX8_calm_88 : decode cX8_calm 88 = .ok (.ireturn, 1) := by decide +kernel
set_option maxRecDepth 20000 in
theorem ggX8_count_X8_people : GoodIn wsX8_count wsX8_people := goodIn_r _ [8, 1, 9, 10, 11, 7, 12, 13, 14, 15, 47, 48, 49, 50, 51, 52, 53, 54, 55, 56, 57, 58, 59, 60] (by decide +kernel) (by decide +kernel)
set_option maxRecDepth 20000 in
theorem gX8_count_X8_people : GoodIn wsX8_count (wsV RX8 109 RX8 yX8_people wsX8_people) := goodIn_app (goodIn_of _ (by decide +kernel)) ggX8_count_X8_people
set_option maxRecDepth 20000 in
theorem ggX8_count_X8_hatsBy : GoodIn wsX8_count wsX8_hatsBy := goodIn_r _ [19, 1, 20, 21, 22, 7, 23, 24, 25, 26, 27, 28, 9, 10, 11, 12, 13, 14, 15, 29, 30, 31, 32, 33, 34, 35, 36, 37, 38, 39, 47, 48, 49, 50, 51, 52, 53, 54, 55, 56, 57, 58, 59, 60] (by decide +kernel) (by decide +kernel)
set_option maxRecDepth 20000 in
theorem gX8_count_X8_hatsBy : GoodIn wsX8_count (wsV RX8 67 RX8 yX8_hatsBy wsX8_hatsBy) := goodIn_app (goodIn_of _ (by decide +kernel)) ggX8_count_X8_hatsBy
set_option maxRecDepth 20000 in
theorem ggX8_count_X8_calm : GoodIn wsX8_count wsX8_calm := goodIn_r _ [43, 1, 24, 20, 21, 22, 7, 23, 25, 26, 27, 28, 9, 10, 11, 12, 13, 14, 15, 29, 30, 31, 32, 33, 34, 35, 36, 37, 38, 39, 47, 48, 49, 50, 51, 52, 53, 54, 55, 56, 57, 58, 59, 60] (by decide +kernel) (by decide +kernel)
set_option maxRecDepth 20000 in
theorem gX8_count_X8_calm : GoodIn wsX8_count (wsV RX8 112 RX8 yX8_calm wsX8_calm) := goodIn_app (goodIn_of _ (by decide +kernel)) ggX8_count_X8_calm
set_option maxRecDepth 20000 in
theorem ggX8_count_X8_in : GoodIn wsX8_count wsX8_in := goodIn_r _ [46] (by decide +kernel) (by decide +kernel)
set_option maxRecDepth 20000 in
theorem gX8_count_X8_in : GoodIn wsX8_count (va_wsS RX8 39 yX8_in wsX8_in) := goodIn_app (goodIn_of _ (by decide +kernel)) ggX8_count_X8_in
theorem dX8_count_0 : decode cX8_count 0 = .ok (.iload_n 1, 1) := by decide +kernel
theorem dX8_count_1 : decode cX8_count 1 = .ok (.tableswitch 129 0 13 #[71, 78, 85, 85, 97, 102, 113, 113, 129, 129, 129, 129, 119, 124], 71) := by decide +kernel
theorem dX8_count_72 : decode cX8_count 72 = .ok (.aload_n 0, 1) := by decide +kernel
theorem dX8_count_73 : decode cX8_count 73 = .ok (.getfield 7, 3) := by decide +kernel
theorem dX8_count_76 : decode cX8_count 76 = .ok (.iconst 5, 1) := by decide +kernel
theorem dX8_count_77 : decode cX8_count 77 = .ok (.iaload, 1) := by decide +kernel
theorem dX8_count_78 : decode cX8_count 78 = .ok (.ireturn, 1) := by decide +kernel
theorem dX8_count_79 : decode cX8_count 79 = .ok (.aload_n 0, 1) := by decide +kernel
theorem dX8_count_80 : decode cX8_count 80 = .ok (.getfield 7, 3) := by decide +kernel
theorem dX8_count_83 : decode cX8_count 83 = .ok (.iconst 4, 1) := by decide +kernel
theorem dX8_count_84 : decode cX8_count 84 = .ok (.iaload, 1) := by decide +kernel
theorem dX8_count_85 : decode cX8_count 85 = .ok (.ireturn, 1) := by decide +kernel
theorem dX8_count_86 : decode cX8_count 86 = .ok (.aload_n 0, 1) := by decide +kernel
theorem dX8_count_87 : decode cX8_count 87 = .ok (.getfield 7, 3) := by decide +kernel
theorem dX8_count_90 : decode cX8_count 90 = .ok (.bipush 6, 2) := by decide +kernel
theorem dX8_count_92 : decode cX8_count 92 = .ok (.iload_n 1, 1) := by decide +kernel
theorem dX8_count_93 : decode cX8_count 93 = .ok (.iadd, 1) := by decide +kernel
theorem dX8_count_94 : decode cX8_count 94 = .ok (.iconst 2, 1) := by decide +kernel
theorem dX8_count_95 : decode cX8_count 95 = .ok (.isub, 1) := by decide +kernel
theorem dX8_count_96 : decode cX8_count 96 = .ok (.iaload, 1) := by decide +kernel
theorem dX8_count_97 : decode cX8_count 97 = .ok (.ireturn, 1) := by decide +kernel
theorem dX8_count_98 : decode cX8_count 98 = .ok (.aload_n 0, 1) := by decide +kernel
theorem dX8_count_99 : decode cX8_count 99 = .ok (.invokevirtual 109, 3) := by decide +kernel
theorem dX8_count_102 : decode cX8_count 102 = .ok (.ireturn, 1) := by decide +kernel
theorem dX8_count_103 : decode cX8_count 103 = .ok (.aload_n 0, 1) := by decide +kernel
theorem dX8_count_104 : decode cX8_count 104 = .ok (.aload_n 0, 1) := by decide +kernel
theorem dX8_count_105 : decode cX8_count 105 = .ok (.getfield 7, 3) := by decide +kernel
theorem dX8_count_108 : decode cX8_count 108 = .ok (.iconst 4, 1) := by decide +kernel
theorem dX8_count_109 : decode cX8_count 109 = .ok (.iaload, 1) := by decide +kernel
theorem dX8_count_110 : decode cX8_count 110 = .ok (.invokevirtual 67, 3) := by decide +kernel
theorem dX8_count_113 : decode cX8_count 113 = .ok (.ireturn, 1) := by decide +kernel
theorem dX8_count_114 : decode cX8_count 114 = .ok (.aload_n 0, 1) := by decide +kernel
theorem dX8_count_115 : decode cX8_count 115 = .ok (.iload_n 1, 1) := by decide +kernel
theorem dX8_count_116 : decode cX8_count 116 = .ok (.invokevirtual 112, 3) := by decide +kernel
theorem dX8_count_119 : decode cX8_count 119 = .ok (.ireturn, 1) := by decide +kernel
theorem dX8_count_120 : decode cX8_count 120 = .ok (.aload_n 0, 1) := by decide +kernel
theorem dX8_count_121 : decode cX8_count 121 = .ok (.getfield 106, 3) := by decide +kernel
theorem dX8_count_124 : decode cX8_count 124 = .ok (.ireturn, 1) := by decide +kernel
theorem dX8_count_125 : decode cX8_count 125 = .ok (.aload_n 0, 1) := by decide +kernel
theorem dX8_count_126 : decode cX8_count 126 = .ok (.getfield 43, 3) := by decide +kernel
theorem dX8_count_129 : decode cX8_count 129 = .ok (.ireturn, 1) := by decide +kernel
theorem dX8_count_130 : decode cX8_count 130 = .ok (.iload_n 1, 1) := by decide +kernel
theorem dX8_count_131 : decode cX8_count 131 = .ok (.bipush 8, 2) := by decide +kernel
theorem dX8_count_133 : decode cX8_count 133 = .ok (.bipush 11, 2) := by decide +kernel
theorem dX8_count_135 : decode cX8_count 135 = .ok (.invokestatic 39, 3) := by decide +kernel
theorem dX8_count_138 : decode cX8_count 138 = .ok (.ifCond .eq 15, 3) := by decide +kernel
theorem dX8_count_141 : decode cX8_count 141 = .ok (.aload_n 0, 1) := by decide +kernel
theorem dX8_count_142 : decode cX8_count 142 = .ok (.getfield 7, 3) := by decide +kernel
theorem dX8_count_145 : decode cX8_count 145 = .ok (.iload_n 1, 1) := by decide +kernel
theorem dX8_count_146 : decode cX8_count 146 = .ok (.bipush 8, 2) := by decide +kernel
theorem dX8_count_148 : decode cX8_count 148 = .ok (.isub, 1) := by decide +kernel
theorem dX8_count_149 : decode cX8_count 149 = .ok (.iaload, 1) := by decide +kernel
theorem dX8_count_150 : decode cX8_count 150 = .ok (.goto 5, 3) := by decide +kernel
theorem dX8_count_153 : decode cX8_count 153 = .ok (.bipush (-2), 2) := by decide +kernel
theorem dX8_count_155 : decode cX8_count 155 = .ok (.ireturn, 1) := by decide +kernel
set_option maxRecDepth 20000 in
theorem ggX8_ifWind_X8_in : GoodIn wsX8_ifWind wsX8_in := goodIn_r _ [4] (by decide +kernel) (by decide +kernel)
set_option maxRecDepth 20000 in
theorem gX8_ifWind_X8_in : GoodIn wsX8_ifWind (va_wsS RX8 39 yX8_in wsX8_in) := goodIn_app (goodIn_of _ (by decide +kernel)) ggX8_ifWind_X8_in
set_option maxRecDepth 20000 in
theorem ggX8_ifWind_X8_hatsBy : GoodIn wsX8_ifWind wsX8_hatsBy := goodIn_r _ [8, 9, 10, 11, 12, 3, 13, 14, 15, 16, 17, 18, 19, 20, 21, 22, 23, 24, 25, 26, 27, 28, 29, 30, 31, 32, 33, 34, 35, 36, 37, 38, 39, 40, 41, 42, 43, 44, 45, 46, 47, 48, 49, 50] (by decide +kernel) (by decide +kernel)
set_option maxRecDepth 20000 in
theorem gX8_ifWind_X8_hatsBy : GoodIn wsX8_ifWind (wsV RX8 67 RX8 yX8_hatsBy wsX8_hatsBy) := goodIn_app (goodIn_of _ (by decide +kernel)) ggX8_ifWind_X8_hatsBy
theorem dX8_ifWind_0 : decode cX8_ifWind 0 = .ok (.iload_n 1, 1) := by decide +kernel
theorem dX8_ifWind_1 : decode cX8_ifWind 1 = .ok (.iconst 0, 1) := by decide +kernel
theorem dX8_ifWind_2 : decode cX8_ifWind 2 = .ok (.sipush 200, 3) := by decide +kernel
theorem dX8_ifWind_5 : decode cX8_ifWind 5 = .ok (.invokestatic 39, 3) := by decide +kernel
theorem dX8_ifWind_8 : decode cX8_ifWind 8 = .ok (.ifCond .eq 11, 3) := by decide +kernel
theorem dX8_ifWind_11 : decode cX8_ifWind 11 = .ok (.aload_n 0, 1) := by decide +kernel
theorem dX8_ifWind_12 : decode cX8_ifWind 12 = .ok (.iload_n 1, 1) := by decide +kernel
theorem dX8_ifWind_13 : decode cX8_ifWind 13 = .ok (.invokevirtual 67, 3) := by decide +kernel
theorem dX8_ifWind_16 : decode cX8_ifWind 16 = .ok (.goto 5, 3) := by decide +kernel
theorem dX8_ifWind_19 : decode cX8_ifWind 19 = .ok (.bipush (-2), 2) := by decide +kernel
theorem dX8_ifWind_21 : decode cX8_ifWind 21 = .ok (.ireturn, 1) := by decide +kernel
set_option maxRecDepth 20000 in
theorem ggX8_windFor_X8_in : GoodIn wsX8_windFor wsX8_in := goodIn_r _ [4] (by decide +kernel) (by decide +kernel)
set_option maxRecDepth 20000 in
theorem gX8_windFor_X8_in : GoodIn wsX8_windFor (va_wsS RX8 39 yX8_in wsX8_in) := goodIn_app (goodIn_of _ (by decide +kernel)) ggX8_windFor_X8_in
set_option maxRecDepth 20000 in
theorem ggX8_windFor_X8_hatsBy : GoodIn wsX8_windFor wsX8_hatsBy := goodIn_r _ [8, 9, 10, 11, 12, 3, 13, 14, 15, 16, 17, 18, 19, 20, 21, 22, 23, 24, 25, 26, 27, 28, 29, 30, 31, 32, 33, 34, 35, 36, 37, 38, 39, 40, 41, 42, 43, 44, 45, 46, 47, 48, 49, 50] (by decide +kernel) (by decide +kernel)
set_option maxRecDepth 20000 in
theorem gX8_windFor_X8_hatsBy : GoodIn wsX8_windFor (wsV RX8 67 RX8 yX8_hatsBy wsX8_hatsBy) := goodIn_app (goodIn_of _ (by decide +kernel)) ggX8_windFor_X8_hatsBy
theorem dX8_windFor_0 : decode cX8_windFor 0 = .ok (.iload_n 1, 1) := by decide +kernel
theorem dX8_windFor_1 : decode cX8_windFor 1 = .ok (.iconst 1, 1) := by decide +kernel
theorem dX8_windFor_2 : decode cX8_windFor 2 = .ok (.sipush 999, 3) := by decide +kernel
theorem dX8_windFor_5 : decode cX8_windFor 5 = .ok (.invokestatic 39, 3) := by decide +kernel
theorem dX8_windFor_8 : decode cX8_windFor 8 = .ok (.ifCond .ne 6, 3) := by decide +kernel
theorem dX8_windFor_11 : decode cX8_windFor 11 = .ok (.bipush (-2), 2) := by decide +kernel
theorem dX8_windFor_13 : decode cX8_windFor 13 = .ok (.ireturn, 1) := by decide +kernel
theorem dX8_windFor_14 : decode cX8_windFor 14 = .ok (.iconst 0, 1) := by decide +kernel
theorem dX8_windFor_15 : decode cX8_windFor 15 = .ok (.istore_n 2, 1) := by decide +kernel
theorem dX8_windFor_16 : decode cX8_windFor 16 = .ok (.iload_n 2, 1) := by decide +kernel
theorem dX8_windFor_17 : decode cX8_windFor 17 = .ok (.sipush 200, 3) := by decide +kernel
theorem dX8_windFor_20 : decode cX8_windFor 20 = .ok (.if_icmp .gt 20, 3) := by decide +kernel
theorem dX8_windFor_23 : decode cX8_windFor 23 = .ok (.aload_n 0, 1) := by decide +kernel
theorem dX8_windFor_24 : decode cX8_windFor 24 = .ok (.iload_n 2, 1) := by decide +kernel
theorem dX8_windFor_25 : decode cX8_windFor 25 = .ok (.invokevirtual 67, 3) := by decide +kernel
theorem dX8_windFor_28 : decode cX8_windFor 28 = .ok (.iload_n 1, 1) := by decide +kernel
theorem dX8_windFor_29 : decode cX8_windFor 29 = .ok (.if_icmp .lt 5, 3) := by decide +kernel
theorem dX8_windFor_32 : decode cX8_windFor 32 = .ok (.iload_n 2, 1) := by decide +kernel
theorem dX8_windFor_33 : decode cX8_windFor 33 = .ok (.ireturn, 1) := by decide +kernel
theorem dX8_windFor_34 : decode cX8_windFor 34 = .ok (.iinc 2 1, 3) := by decide +kernel
theorem dX8_windFor_37 : decode cX8_windFor 37 = .ok (.goto (-21), 3) := by decide +kernel
theorem dX8_windFor_40 : decode cX8_windFor 40 = .ok (.bipush (-6), 2) := by decide +kernel
theorem dX8_windFor_42 : decode cX8_windFor 42 = .ok (.ireturn, 1) := by decide +kernel
set_option maxRecDepth 20000 in
theorem ggX8_windOfFlag_X8_isStreet : GoodIn wsX8_windOfFlag wsX8_isStreet := goodIn_r _ [5, 6, 7, 8, 4, 9, 33, 34, 35, 36, 37, 38, 39, 40, 41, 42, 43, 44, 45, 46] (by decide +kernel) (by decide +kernel)
set_option maxRecDepth 20000 in
theorem gX8_windOfFlag_X8_isStreet : GoodIn wsX8_windOfFlag (wsV RX8 81 RX8 yX8_isStreet wsX8_isStreet) := goodIn_app (goodIn_of _ (by decide +kernel)) ggX8_windOfFlag_X8_isStreet
set_option maxRecDepth 20000 in
theorem ggX8_windOfFlag_X8_in : GoodIn wsX8_windOfFlag wsX8_in := goodIn_r _ [9] (by decide +kernel) (by decide +kernel)
set_option maxRecDepth 20000 in
theorem gX8_windOfFlag_X8_in : GoodIn wsX8_windOfFlag (va_wsS RX8 39 yX8_in wsX8_in) := goodIn_app (goodIn_of _ (by decide +kernel)) ggX8_windOfFlag_X8_in
set_option maxRecDepth 20000 in
theorem ggX8_windOfFlag_X8_its : GoodIn wsX8_windOfFlag wsX8_its := goodIn_r _ [13, 6, 14, 15, 4, 16, 33, 34, 35, 36, 37, 38, 39, 40, 41, 42, 43, 44, 45, 46] (by decide +kernel) (by decide +kernel)
set_option maxRecDepth 20000 in
theorem gX8_windOfFlag_X8_its : GoodIn wsX8_windOfFlag (wsV RX8 47 RX8 yX8_its wsX8_its) := goodIn_app (goodIn_of _ (by decide +kernel)) ggX8_windOfFlag_X8_its
set_option maxRecDepth 20000 in
theorem ggX8_windOfFlag_X8_blows : GoodIn wsX8_windOfFlag wsX8_blows := goodIn_r _ [20, 21, 6, 22, 23, 24, 4, 25, 10, 11, 12, 13, 14, 15, 16, 26, 27, 28, 33, 34, 35, 36, 37, 38, 39, 40, 41, 42, 43, 44, 45, 46] (by decide +kernel) (by decide +kernel)
set_option maxRecDepth 20000 in
theorem gX8_windOfFlag_X8_blows : GoodIn wsX8_windOfFlag (wsV RX8 60 RX8 yX8_blows wsX8_blows) := goodIn_app (goodIn_of _ (by decide +kernel)) ggX8_windOfFlag_X8_blows
set_option maxRecDepth 20000 in
theorem ggX8_windOfFlag_X8_stepsOf : GoodIn wsX8_windOfFlag wsX8_stepsOf := goodIn_r _ [32, 21, 6, 10, 11, 12, 4, 13, 14, 15, 16, 26, 27, 28, 33, 34, 35, 36, 37, 38, 39, 40, 41, 42, 43, 44, 45, 46] (by decide +kernel) (by decide +kernel)
set_option maxRecDepth 20000 in
theorem gX8_windOfFlag_X8_stepsOf : GoodIn wsX8_windOfFlag (wsV RX8 103 RX8 yX8_stepsOf wsX8_stepsOf) := goodIn_app (goodIn_of _ (by decide +kernel)) ggX8_windOfFlag_X8_stepsOf
theorem dX8_windOfFlag_0 : decode cX8_windOfFlag 0 = .ok (.aload_n 0, 1) := by decide +kernel
theorem dX8_windOfFlag_1 : decode cX8_windOfFlag 1 = .ok (.iload_n 1, 1) := by decide +kernel
theorem dX8_windOfFlag_2 : decode cX8_windOfFlag 2 = .ok (.invokevirtual 81, 3) := by decide +kernel
theorem dX8_windOfFlag_5 : decode cX8_windOfFlag 5 = .ok (.ifCond .ne 5, 3) := by decide +kernel
theorem dX8_windOfFlag_8 : decode cX8_windOfFlag 8 = .ok (.iconst (-1), 1) := by decide +kernel
theorem dX8_windOfFlag_9 : decode cX8_windOfFlag 9 = .ok (.ireturn, 1) := by decide +kernel
theorem dX8_windOfFlag_10 : decode cX8_windOfFlag 10 = .ok (.iload_n 2, 1) := by decide +kernel
theorem dX8_windOfFlag_11 : decode cX8_windOfFlag 11 = .ok (.iconst 1, 1) := by decide +kernel
theorem dX8_windOfFlag_12 : decode cX8_windOfFlag 12 = .ok (.bipush 12, 2) := by decide +kernel
theorem dX8_windOfFlag_14 : decode cX8_windOfFlag 14 = .ok (.invokestatic 39, 3) := by decide +kernel
theorem dX8_windOfFlag_17 : decode cX8_windOfFlag 17 = .ok (.ifCond .ne 6, 3) := by decide +kernel
theorem dX8_windOfFlag_20 : decode cX8_windOfFlag 20 = .ok (.bipush (-2), 2) := by decide +kernel
theorem dX8_windOfFlag_22 : decode cX8_windOfFlag 22 = .ok (.ireturn, 1) := by decide +kernel
theorem dX8_windOfFlag_23 : decode cX8_windOfFlag 23 = .ok (.aload_n 0, 1) := by decide +kernel
theorem dX8_windOfFlag_24 : decode cX8_windOfFlag 24 = .ok (.iload_n 1, 1) := by decide +kernel
theorem dX8_windOfFlag_25 : decode cX8_windOfFlag 25 = .ok (.iconst 2, 1) := by decide +kernel
theorem dX8_windOfFlag_26 : decode cX8_windOfFlag 26 = .ok (.invokevirtual 47, 3) := by decide +kernel
theorem dX8_windOfFlag_29 : decode cX8_windOfFlag 29 = .ok (.ifCond .ne 6, 3) := by decide +kernel
theorem dX8_windOfFlag_32 : decode cX8_windOfFlag 32 = .ok (.bipush (-5), 2) := by decide +kernel
theorem dX8_windOfFlag_34 : decode cX8_windOfFlag 34 = .ok (.ireturn, 1) := by decide +kernel
theorem dX8_windOfFlag_35 : decode cX8_windOfFlag 35 = .ok (.iconst 0, 1) := by decide +kernel
theorem dX8_windOfFlag_36 : decode cX8_windOfFlag 36 = .ok (.istore_n 3, 1) := by decide +kernel
theorem dX8_windOfFlag_37 : decode cX8_windOfFlag 37 = .ok (.iload_n 3, 1) := by decide +kernel
theorem dX8_windOfFlag_38 : decode cX8_windOfFlag 38 = .ok (.sipush 200, 3) := by decide +kernel
theorem dX8_windOfFlag_41 : decode cX8_windOfFlag 41 = .ok (.if_icmp .gt 25, 3) := by decide +kernel
theorem dX8_windOfFlag_44 : decode cX8_windOfFlag 44 = .ok (.aload_n 0, 1) := by decide +kernel
theorem dX8_windOfFlag_45 : decode cX8_windOfFlag 45 = .ok (.iload_n 3, 1) := by decide +kernel
theorem dX8_windOfFlag_46 : decode cX8_windOfFlag 46 = .ok (.invokevirtual 60, 3) := by decide +kernel
theorem dX8_windOfFlag_49 : decode cX8_windOfFlag 49 = .ok (.aload_n 0, 1) := by decide +kernel
theorem dX8_windOfFlag_50 : decode cX8_windOfFlag 50 = .ok (.iload_n 1, 1) := by decide +kernel
theorem dX8_windOfFlag_51 : decode cX8_windOfFlag 51 = .ok (.invokevirtual 103, 3) := by decide +kernel
theorem dX8_windOfFlag_54 : decode cX8_windOfFlag 54 = .ok (.iload_n 2, 1) := by decide +kernel
theorem dX8_windOfFlag_55 : decode cX8_windOfFlag 55 = .ok (.if_icmp .lt 5, 3) := by decide +kernel
theorem dX8_windOfFlag_58 : decode cX8_windOfFlag 58 = .ok (.iload_n 3, 1) := by decide +kernel
theorem dX8_windOfFlag_59 : decode cX8_windOfFlag 59 = .ok (.ireturn, 1) := by decide +kernel
theorem dX8_windOfFlag_60 : decode cX8_windOfFlag 60 = .ok (.iinc 3 1, 3) := by decide +kernel
theorem dX8_windOfFlag_63 : decode cX8_windOfFlag 63 = .ok (.goto (-26), 3) := by decide +kernel
theorem dX8_windOfFlag_66 : decode cX8_windOfFlag 66 = .ok (.bipush (-6), 2) := by decide +kernel
theorem dX8_windOfFlag_68 : decode cX8_windOfFlag 68 = .ok (.ireturn, 1) := by decide +kernel
set_option maxRecDepth 20000 in
theorem ggX8_without_X8_isStreet : GoodIn wsX8_without wsX8_isStreet := goodIn_r _ [7, 1, 8, 9, 6, 10, 29, 30, 31, 32, 33, 34, 35, 36, 37, 38, 39, 40, 41, 42] (by decide +kernel) (by decide +kernel)
set_option maxRecDepth 20000 in
theorem gX8_without_X8_isStreet : GoodIn wsX8_without (wsV RX8 81 RX8 yX8_isStreet wsX8_isStreet) := goodIn_app (goodIn_of _ (by decide +kernel)) ggX8_without_X8_isStreet
set_option maxRecDepth 20000 in
theorem ggX8_without_X8_its : GoodIn wsX8_without wsX8_its := goodIn_r _ [14, 1, 15, 16, 6, 17, 29, 30, 31, 32, 33, 34, 35, 36, 37, 38, 39, 40, 41, 42] (by decide +kernel) (by decide +kernel)
set_option maxRecDepth 20000 in
theorem gX8_without_X8_its : GoodIn wsX8_without (wsV RX8 47 RX8 yX8_its wsX8_its) := goodIn_app (goodIn_of _ (by decide +kernel)) ggX8_without_X8_its
set_option maxRecDepth 20000 in
theorem ggX8_without_X8_blows : GoodIn wsX8_without wsX8_blows := goodIn_r _ [21, 2, 1, 22, 23, 24, 6, 25, 11, 12, 13, 14, 15, 16, 17, 26, 27, 28, 29, 30, 31, 32, 33, 34, 35, 36, 37, 38, 39, 40, 41, 42] (by decide +kernel) (by decide +kernel)
set_option maxRecDepth 20000 in
theorem gX8_without_X8_blows : GoodIn wsX8_without (wsV RX8 60 RX8 yX8_blows wsX8_blows) := goodIn_app (goodIn_of _ (by decide +kernel)) ggX8_without_X8_blows
set_option maxRecDepth 20000 in
theorem ggX8_without_X8_parted : GoodIn wsX8_without wsX8_parted := goodIn_r _ [25, 1, 2, 11, 12, 13, 6, 14, 15, 16, 17, 26, 27, 28, 29, 30, 31, 32, 33, 34, 35, 36, 37, 38, 39, 40, 41, 42] (by decide +kernel) (by decide +kernel)
set_option maxRecDepth 20000 in
theorem gX8_without_X8_parted : GoodIn wsX8_without (wsV RX8 53 RX8 yX8_parted wsX8_parted) := goodIn_app (goodIn_of _ (by decide +kernel)) ggX8_without_X8_parted
theorem dX8_without_0 : decode cX8_without 0 = .ok (.aload_n 0, 1) := by decide +kernel
theorem dX8_without_1 : decode cX8_without 1 = .ok (.iload_n 1, 1) := by decide +kernel
theorem dX8_without_2 : decode cX8_without 2 = .ok (.invokevirtual 81, 3) := by decide +kernel
theorem dX8_without_5 : decode cX8_without 5 = .ok (.ifCond .eq 11, 3) := by decide +kernel
theorem dX8_without_8 : decode cX8_without 8 = .ok (.aload_n 0, 1) := by decide +kernel
theorem dX8_without_9 : decode cX8_without 9 = .ok (.iload_n 2, 1) := by decide +kernel
theorem dX8_without_10 : decode cX8_without 10 = .ok (.invokevirtual 81, 3) := by decide +kernel
theorem dX8_without_13 : decode cX8_without 13 = .ok (.ifCond .ne 5, 3) := by decide +kernel
theorem dX8_without_16 : decode cX8_without 16 = .ok (.iconst (-1), 1) := by decide +kernel
theorem dX8_without_17 : decode cX8_without 17 = .ok (.ireturn, 1) := by decide +kernel
theorem dX8_without_18 : decode cX8_without 18 = .ok (.iload_n 1, 1) := by decide +kernel
theorem dX8_without_19 : decode cX8_without 19 = .ok (.iload_n 2, 1) := by decide +kernel
theorem dX8_without_20 : decode cX8_without 20 = .ok (.if_icmp .eq 26, 3) := by decide +kernel
theorem dX8_without_23 : decode cX8_without 23 = .ok (.iload_n 1, 1) := by decide +kernel
theorem dX8_without_24 : decode cX8_without 24 = .ok (.ifCond .eq 22, 3) := by decide +kernel
theorem dX8_without_27 : decode cX8_without 27 = .ok (.iload_n 2, 1) := by decide +kernel
theorem dX8_without_28 : decode cX8_without 28 = .ok (.ifCond .eq 18, 3) := by decide +kernel
theorem dX8_without_31 : decode cX8_without 31 = .ok (.aload_n 0, 1) := by decide +kernel
theorem dX8_without_32 : decode cX8_without 32 = .ok (.iload_n 1, 1) := by decide +kernel
theorem dX8_without_33 : decode cX8_without 33 = .ok (.iconst 0, 1) := by decide +kernel
theorem dX8_without_34 : decode cX8_without 34 = .ok (.invokevirtual 47, 3) := by decide +kernel
theorem dX8_without_37 : decode cX8_without 37 = .ok (.aload_n 0, 1) := by decide +kernel
theorem dX8_without_38 : decode cX8_without 38 = .ok (.iload_n 2, 1) := by decide +kernel
theorem dX8_without_39 : decode cX8_without 39 = .ok (.iconst 0, 1) := by decide +kernel
theorem dX8_without_40 : decode cX8_without 40 = .ok (.invokevirtual 47, 3) := by decide +kernel
theorem dX8_without_43 : decode cX8_without 43 = .ok (.if_icmp .eq 6, 3) := by decide +kernel
theorem dX8_without_46 : decode cX8_without 46 = .ok (.bipush (-5), 2) := by decide +kernel
theorem dX8_without_48 : decode cX8_without 48 = .ok (.ireturn, 1) := by decide +kernel
theorem dX8_without_49 : decode cX8_without 49 = .ok (.aload_n 0, 1) := by decide +kernel
theorem dX8_without_50 : decode cX8_without 50 = .ok (.aload_n 0, 1) := by decide +kernel
theorem dX8_without_51 : decode cX8_without 51 = .ok (.getfield 7, 3) := by decide +kernel
theorem dX8_without_54 : decode cX8_without 54 = .ok (.iconst 4, 1) := by decide +kernel
theorem dX8_without_55 : decode cX8_without 55 = .ok (.iaload, 1) := by decide +kernel
theorem dX8_without_56 : decode cX8_without 56 = .ok (.invokevirtual 60, 3) := by decide +kernel
theorem dX8_without_59 : decode cX8_without 59 = .ok (.aload_n 0, 1) := by decide +kernel
theorem dX8_without_60 : decode cX8_without 60 = .ok (.iload_n 1, 1) := by decide +kernel
theorem dX8_without_61 : decode cX8_without 61 = .ok (.iload_n 2, 1) := by decide +kernel
theorem dX8_without_62 : decode cX8_without 62 = .ok (.invokevirtual 53, 3) := by decide +kernel
theorem dX8_without_65 : decode cX8_without 65 = .ok (.aload_n 0, 1) := by decide +kernel
theorem dX8_without_66 : decode cX8_without 66 = .ok (.getfield 26, 3) := by decide +kernel
theorem dX8_without_69 : decode cX8_without 69 = .ok (.iload_n 1, 1) := by decide +kernel
theorem dX8_without_70 : decode cX8_without 70 = .ok (.iaload, 1) := by decide +kernel
theorem dX8_without_71 : decode cX8_without 71 = .ok (.isub, 1) := by decide +kernel
theorem dX8_without_72 : decode cX8_without 72 = .ok (.sipush 500, 3) := by decide +kernel
theorem dX8_without_75 : decode cX8_without 75 = .ok (.iadd, 1) := by decide +kernel
theorem dX8_without_76 : decode cX8_without 76 = .ok (.ireturn, 1) := by decide +kernel
set_option maxRecDepth 20000 in
theorem ggX8_windiest_X8_blows : GoodIn wsX8_windiest wsX8_blows := goodIn_r _ [7, 2, 1, 8, 9, 10, 6, 11, 12, 13, 14, 15, 16, 17, 18, 19, 20, 21, 26, 27, 28, 29, 30, 31, 32, 33, 34, 35, 36, 37, 38, 39] (by decide +kernel) (by decide +kernel)
set_option maxRecDepth 20000 in
theorem gX8_windiest_X8_blows : GoodIn wsX8_windiest (wsV RX8 60 RX8 yX8_blows wsX8_blows) := goodIn_app (goodIn_of _ (by decide +kernel)) ggX8_windiest_X8_blows
set_option maxRecDepth 20000 in
theorem ggX8_windiest_X8_branchSet : GoodIn wsX8_windiest wsX8_branchSet := goodIn_r _ [25, 1, 12, 13, 14, 6, 15, 16, 17, 18, 26, 27, 28, 29, 30, 31, 32, 33, 34, 35, 36, 37, 38, 39] (by decide +kernel) (by decide +kernel)
set_option maxRecDepth 20000 in
theorem gX8_windiest_X8_branchSet : GoodIn wsX8_windiest (wsV RX8 94 RX8 yX8_branchSet wsX8_branchSet) := goodIn_app (goodIn_of _ (by decide +kernel)) ggX8_windiest_X8_branchSet
theorem dX8_windiest_0 : decode cX8_windiest 0 = .ok (.aload_n 0, 1) := by decide +kernel
theorem dX8_windiest_1 : decode cX8_windiest 1 = .ok (.aload_n 0, 1) := by decide +kernel
theorem dX8_windiest_2 : decode cX8_windiest 2 = .ok (.getfield 7, 3) := by decide +kernel
theorem dX8_windiest_5 : decode cX8_windiest 5 = .ok (.iconst 4, 1) := by decide +kernel
theorem dX8_windiest_6 : decode cX8_windiest 6 = .ok (.iaload, 1) := by decide +kernel
theorem dX8_windiest_7 : decode cX8_windiest 7 = .ok (.invokevirtual 60, 3) := by decide +kernel
theorem dX8_windiest_10 : decode cX8_windiest 10 = .ok (.bipush (-6), 2) := by decide +kernel
theorem dX8_windiest_12 : decode cX8_windiest 12 = .ok (.istore_n 1, 1) := by decide +kernel
theorem dX8_windiest_13 : decode cX8_windiest 13 = .ok (.iconst 0, 1) := by decide +kernel
theorem dX8_windiest_14 : decode cX8_windiest 14 = .ok (.istore_n 2, 1) := by decide +kernel
theorem dX8_windiest_15 : decode cX8_windiest 15 = .ok (.iload_n 2, 1) := by decide +kernel
theorem dX8_windiest_16 : decode cX8_windiest 16 = .ok (.aload_n 0, 1) := by decide +kernel
theorem dX8_windiest_17 : decode cX8_windiest 17 = .ok (.getfield 7, 3) := by decide +kernel
theorem dX8_windiest_20 : decode cX8_windiest 20 = .ok (.iconst 5, 1) := by decide +kernel
theorem dX8_windiest_21 : decode cX8_windiest 21 = .ok (.iaload, 1) := by decide +kernel
theorem dX8_windiest_22 : decode cX8_windiest 22 = .ok (.if_icmp .ge 54, 3) := by decide +kernel
theorem dX8_windiest_25 : decode cX8_windiest 25 = .ok (.aload_n 0, 1) := by decide +kernel
theorem dX8_windiest_26 : decode cX8_windiest 26 = .ok (.iload_n 2, 1) := by decide +kernel
theorem dX8_windiest_27 : decode cX8_windiest 27 = .ok (.invokevirtual 94, 3) := by decide +kernel
theorem dX8_windiest_30 : decode cX8_windiest 30 = .ok (.ifCond .ne 7, 3) := by decide +kernel
theorem dX8_windiest_33 : decode cX8_windiest 33 = .ok (.iconst 1, 1) := by decide +kernel
theorem dX8_windiest_34 : decode cX8_windiest 34 = .ok (.goto 4, 3) := by decide +kernel
theorem dX8_windiest_37 : decode cX8_windiest 37 = .ok (.iconst 0, 1) := by decide +kernel
theorem dX8_windiest_38 : decode cX8_windiest 38 = .ok (.istore_n 3, 1) := by decide +kernel
theorem dX8_windiest_39 : decode cX8_windiest 39 = .ok (.iload_n 3, 1) := by decide +kernel
theorem dX8_windiest_40 : decode cX8_windiest 40 = .ok (.ifCond .eq 28, 3) := by decide +kernel
theorem dX8_windiest_43 : decode cX8_windiest 43 = .ok (.iload_n 1, 1) := by decide +kernel
theorem dX8_windiest_44 : decode cX8_windiest 44 = .ok (.bipush (-6), 2) := by decide +kernel
theorem dX8_windiest_46 : decode cX8_windiest 46 = .ok (.if_icmp .eq 18, 3) := by decide +kernel
theorem dX8_windiest_49 : decode cX8_windiest 49 = .ok (.aload_n 0, 1) := by decide +kernel
theorem dX8_windiest_50 : decode cX8_windiest 50 = .ok (.getfield 26, 3) := by decide +kernel
theorem dX8_windiest_53 : decode cX8_windiest 53 = .ok (.iload_n 2, 1) := by decide +kernel
theorem dX8_windiest_54 : decode cX8_windiest 54 = .ok (.iaload, 1) := by decide +kernel
theorem dX8_windiest_55 : decode cX8_windiest 55 = .ok (.aload_n 0, 1) := by decide +kernel
theorem dX8_windiest_56 : decode cX8_windiest 56 = .ok (.getfield 26, 3) := by decide +kernel
theorem dX8_windiest_59 : decode cX8_windiest 59 = .ok (.iload_n 1, 1) := by decide +kernel
theorem dX8_windiest_60 : decode cX8_windiest 60 = .ok (.iaload, 1) := by decide +kernel
theorem dX8_windiest_61 : decode cX8_windiest 61 = .ok (.if_icmp .le 7, 3) := by decide +kernel
theorem dX8_windiest_64 : decode cX8_windiest 64 = .ok (.iload_n 2, 1) := by decide +kernel
theorem dX8_windiest_65 : decode cX8_windiest 65 = .ok (.goto 4, 3) := by decide +kernel
theorem dX8_windiest_68 : decode cX8_windiest 68 = .ok (.iload_n 1, 1) := by decide +kernel
theorem dX8_windiest_69 : decode cX8_windiest 69 = .ok (.istore_n 1, 1) := by decide +kernel
theorem dX8_windiest_70 : decode cX8_windiest 70 = .ok (.iinc 2 1, 3) := by decide +kernel
theorem dX8_windiest_73 : decode cX8_windiest 73 = .ok (.goto (-58), 3) := by decide +kernel
theorem dX8_windiest_76 : decode cX8_windiest 76 = .ok (.iload_n 1, 1) := by decide +kernel
theorem dX8_windiest_77 : decode cX8_windiest 77 = .ok (.ireturn, 1) := by decide +kernel
set_option maxRecDepth 20000 in
theorem ggX8_put_X8_in : GoodIn wsX8_put wsX8_in := goodIn_r _ [7] (by decide +kernel) (by decide +kernel)
set_option maxRecDepth 20000 in
theorem gX8_put_X8_in : GoodIn wsX8_put (va_wsS RX8 39 yX8_in wsX8_in) := goodIn_app (goodIn_of _ (by decide +kernel)) ggX8_put_X8_in
theorem dX8_put_0 : decode cX8_put 0 = .ok (.iconst 0, 1) := by decide +kernel
theorem dX8_put_1 : decode cX8_put 1 = .ok (.istore_n 3, 1) := by decide +kernel
theorem dX8_put_2 : decode cX8_put 2 = .ok (.iconst 1, 1) := by decide +kernel
theorem dX8_put_3 : decode cX8_put 3 = .ok (.istore 4, 2) := by decide +kernel
theorem dX8_put_5 : decode cX8_put 5 = .ok (.iconst 0, 1) := by decide +kernel
theorem dX8_put_6 : decode cX8_put 6 = .ok (.istore 5, 2) := by decide +kernel
theorem dX8_put_8 : decode cX8_put 8 = .ok (.iconst 0, 1) := by decide +kernel
theorem dX8_put_9 : decode cX8_put 9 = .ok (.istore 6, 2) := by decide +kernel
theorem dX8_put_11 : decode cX8_put 11 = .ok (.iload 6, 2) := by decide +kernel
theorem dX8_put_13 : decode cX8_put 13 = .ok (.bipush 8, 2) := by decide +kernel
theorem dX8_put_15 : decode cX8_put 15 = .ok (.if_icmp .ge 90, 3) := by decide +kernel
theorem dX8_put_18 : decode cX8_put 18 = .ok (.lload_n 1, 1) := by decide +kernel
theorem dX8_put_19 : decode cX8_put 19 = .ok (.bipush 8, 2) := by decide +kernel
theorem dX8_put_21 : decode cX8_put 21 = .ok (.iload 6, 2) := by decide +kernel
theorem dX8_put_23 : decode cX8_put 23 = .ok (.imul, 1) := by decide +kernel
theorem dX8_put_24 : decode cX8_put 24 = .ok (.lshr, 1) := by decide +kernel
theorem dX8_put_25 : decode cX8_put 25 = .ok (.ldc2_w 115, 3) := by decide +kernel
theorem dX8_put_28 : decode cX8_put 28 = .ok (.land, 1) := by decide +kernel
theorem dX8_put_29 : decode cX8_put 29 = .ok (.l2i, 1) := by decide +kernel
theorem dX8_put_30 : decode cX8_put 30 = .ok (.istore 7, 2) := by decide +kernel
theorem dX8_put_32 : decode cX8_put 32 = .ok (.iload 5, 2) := by decide +kernel
theorem dX8_put_34 : decode cX8_put 34 = .ok (.ifCond .ne 8, 3) := by decide +kernel
theorem dX8_put_37 : decode cX8_put 37 = .ok (.iload 7, 2) := by decide +kernel
theorem dX8_put_39 : decode cX8_put 39 = .ok (.ifCond .ne 7, 3) := by decide +kernel
theorem dX8_put_42 : decode cX8_put 42 = .ok (.iconst 1, 1) := by decide +kernel
theorem dX8_put_43 : decode cX8_put 43 = .ok (.goto 4, 3) := by decide +kernel
theorem dX8_put_46 : decode cX8_put 46 = .ok (.iconst 0, 1) := by decide +kernel
theorem dX8_put_47 : decode cX8_put 47 = .ok (.istore 5, 2) := by decide +kernel
theorem dX8_put_49 : decode cX8_put 49 = .ok (.iload 4, 2) := by decide +kernel
theorem dX8_put_51 : decode cX8_put 51 = .ok (.ifCond .eq 32, 3) := by decide +kernel
theorem dX8_put_54 : decode cX8_put 54 = .ok (.iload 5, 2) := by decide +kernel
theorem dX8_put_56 : decode cX8_put 56 = .ok (.ifCond .eq 11, 3) := by decide +kernel
theorem dX8_put_59 : decode cX8_put 59 = .ok (.iload 7, 2) := by decide +kernel
theorem dX8_put_61 : decode cX8_put 61 = .ok (.ifCond .ne 22, 3) := by decide +kernel
theorem dX8_put_64 : decode cX8_put 64 = .ok (.goto 15, 3) := by decide +kernel
theorem dX8_put_67 : decode cX8_put 67 = .ok (.iload 7, 2) := by decide +kernel
theorem dX8_put_69 : decode cX8_put 69 = .ok (.bipush 33, 2) := by decide +kernel
theorem dX8_put_71 : decode cX8_put 71 = .ok (.bipush 126, 2) := by decide +kernel
theorem dX8_put_73 : decode cX8_put 73 = .ok (.invokestatic 39, 3) := by decide +kernel
theorem dX8_put_76 : decode cX8_put 76 = .ok (.ifCond .eq 7, 3) := by decide +kernel
theorem dX8_put_79 : decode cX8_put 79 = .ok (.iconst 1, 1) := by decide +kernel
theorem dX8_put_80 : decode cX8_put 80 = .ok (.goto 4, 3) := by decide +kernel
theorem dX8_put_83 : decode cX8_put 83 = .ok (.iconst 0, 1) := by decide +kernel
theorem dX8_put_84 : decode cX8_put 84 = .ok (.istore 4, 2) := by decide +kernel
theorem dX8_put_86 : decode cX8_put 86 = .ok (.iload_n 3, 1) := by decide +kernel
theorem dX8_put_87 : decode cX8_put 87 = .ok (.iload 5, 2) := by decide +kernel
theorem dX8_put_89 : decode cX8_put 89 = .ok (.ifCond .eq 7, 3) := by decide +kernel
theorem dX8_put_92 : decode cX8_put 92 = .ok (.iconst 0, 1) := by decide +kernel
theorem dX8_put_93 : decode cX8_put 93 = .ok (.goto 4, 3) := by decide +kernel
theorem dX8_put_96 : decode cX8_put 96 = .ok (.iconst 1, 1) := by decide +kernel
theorem dX8_put_97 : decode cX8_put 97 = .ok (.iadd, 1) := by decide +kernel
theorem dX8_put_98 : decode cX8_put 98 = .ok (.istore_n 3, 1) := by decide +kernel
theorem dX8_put_99 : decode cX8_put 99 = .ok (.iinc 6 1, 3) := by decide +kernel
theorem dX8_put_102 : decode cX8_put 102 = .ok (.goto (-91), 3) := by decide +kernel
theorem dX8_put_105 : decode cX8_put 105 = .ok (.iload 4, 2) := by decide +kernel
theorem dX8_put_107 : decode cX8_put 107 = .ok (.ifCond .eq 7, 3) := by decide +kernel
theorem dX8_put_110 : decode cX8_put 110 = .ok (.iload_n 3, 1) := by decide +kernel
theorem dX8_put_111 : decode cX8_put 111 = .ok (.ifCond .ne 6, 3) := by decide +kernel
theorem dX8_put_114 : decode cX8_put 114 = .ok (.bipush (-2), 2) := by decide +kernel
theorem dX8_put_116 : decode cX8_put 116 = .ok (.ireturn, 1) := by decide +kernel
theorem dX8_put_117 : decode cX8_put 117 = .ok (.aload_n 0, 1) := by decide +kernel
theorem dX8_put_118 : decode cX8_put 118 = .ok (.getfield 106, 3) := by decide +kernel
theorem dX8_put_121 : decode cX8_put 121 = .ok (.iload_n 3, 1) := by decide +kernel
theorem dX8_put_122 : decode cX8_put 122 = .ok (.iadd, 1) := by decide +kernel
theorem dX8_put_123 : decode cX8_put 123 = .ok (.bipush 80, 2) := by decide +kernel
theorem dX8_put_125 : decode cX8_put 125 = .ok (.if_icmp .le 6, 3) := by decide +kernel
theorem dX8_put_128 : decode cX8_put 128 = .ok (.bipush (-4), 2) := by decide +kernel
theorem dX8_put_130 : decode cX8_put 130 = .ok (.ireturn, 1) := by decide +kernel
theorem dX8_put_131 : decode cX8_put 131 = .ok (.iload_n 3, 1) := by decide +kernel
theorem dX8_put_132 : decode cX8_put 132 = .ok (.iconst 1, 1) := by decide +kernel
theorem dX8_put_133 : decode cX8_put 133 = .ok (.isub, 1) := by decide +kernel
theorem dX8_put_134 : decode cX8_put 134 = .ok (.istore 6, 2) := by decide +kernel
theorem dX8_put_136 : decode cX8_put 136 = .ok (.iload 6, 2) := by decide +kernel
theorem dX8_put_138 : decode cX8_put 138 = .ok (.ifCond .lt 40, 3) := by decide +kernel
theorem dX8_put_141 : decode cX8_put 141 = .ok (.aload_n 0, 1) := by decide +kernel
theorem dX8_put_142 : decode cX8_put 142 = .ok (.getfield 23, 3) := by decide +kernel
theorem dX8_put_145 : decode cX8_put 145 = .ok (.aload_n 0, 1) := by decide +kernel
theorem dX8_put_146 : decode cX8_put 146 = .ok (.getfield 106, 3) := by decide +kernel
theorem dX8_put_149 : decode cX8_put 149 = .ok (.lload_n 1, 1) := by decide +kernel
theorem dX8_put_150 : decode cX8_put 150 = .ok (.bipush 8, 2) := by decide +kernel
theorem dX8_put_152 : decode cX8_put 152 = .ok (.iload 6, 2) := by decide +kernel
theorem dX8_put_154 : decode cX8_put 154 = .ok (.imul, 1) := by decide +kernel
theorem dX8_put_155 : decode cX8_put 155 = .ok (.lshr, 1) := by decide +kernel
theorem dX8_put_156 : decode cX8_put 156 = .ok (.ldc2_w 115, 3) := by decide +kernel
theorem dX8_put_159 : decode cX8_put 159 = .ok (.land, 1) := by decide +kernel
theorem dX8_put_160 : decode cX8_put 160 = .ok (.l2i, 1) := by decide +kernel
theorem dX8_put_161 : decode cX8_put 161 = .ok (.iastore, 1) := by decide +kernel
theorem dX8_put_162 : decode cX8_put 162 = .ok (.aload_n 0, 1) := by decide +kernel
theorem dX8_put_163 : decode cX8_put 163 = .ok (.dup, 1) := by decide +kernel
theorem dX8_put_164 : decode cX8_put 164 = .ok (.getfield 106, 3) := by decide +kernel
theorem dX8_put_167 : decode cX8_put 167 = .ok (.iconst 1, 1) := by decide +kernel
theorem dX8_put_168 : decode cX8_put 168 = .ok (.iadd, 1) := by decide +kernel
theorem dX8_put_169 : decode cX8_put 169 = .ok (.putfield 106, 3) := by decide +kernel
theorem dX8_put_172 : decode cX8_put 172 = .ok (.iinc 6 (-1), 3) := by decide +kernel
theorem dX8_put_175 : decode cX8_put 175 = .ok (.goto (-39), 3) := by decide +kernel
theorem dX8_put_178 : decode cX8_put 178 = .ok (.aload_n 0, 1) := by decide +kernel
theorem dX8_put_179 : decode cX8_put 179 = .ok (.getfield 106, 3) := by decide +kernel
theorem dX8_put_182 : decode cX8_put 182 = .ok (.ireturn, 1) := by decide +kernel
theorem dX8_wipe_0 : decode cX8_wipe 0 = .ok (.aload_n 0, 1) := by decide +kernel
theorem dX8_wipe_1 : decode cX8_wipe 1 = .ok (.getfield 106, 3) := by decide +kernel
theorem dX8_wipe_4 : decode cX8_wipe 4 = .ok (.istore_n 1, 1) := by decide +kernel
theorem dX8_wipe_5 : decode cX8_wipe 5 = .ok (.aload_n 0, 1) := by decide +kernel
theorem dX8_wipe_6 : decode cX8_wipe 6 = .ok (.iconst 0, 1) := by decide +kernel
theorem dX8_wipe_7 : decode cX8_wipe 7 = .ok (.putfield 106, 3) := by decide +kernel
theorem dX8_wipe_10 : decode cX8_wipe 10 = .ok (.iload_n 1, 1) := by decide +kernel
theorem dX8_wipe_11 : decode cX8_wipe 11 = .ok (.ireturn, 1) := by decide +kernel
set_option maxRecDepth 20000 in
theorem ggX8_begins_X8_in : GoodIn wsX8_begins wsX8_in := goodIn_r _ [8] (by decide +kernel) (by decide +kernel)
set_option maxRecDepth 20000 in
theorem gX8_begins_X8_in : GoodIn wsX8_begins (va_wsS RX8 39 yX8_in wsX8_in) := goodIn_app (goodIn_of _ (by decide +kernel)) ggX8_begins_X8_in
theorem dX8_begins_0 : decode cX8_begins 0 = .ok (.iconst 0, 1) := by decide +kernel
theorem dX8_begins_1 : decode cX8_begins 1 = .ok (.istore_n 2, 1) := by decide +kernel
theorem dX8_begins_2 : decode cX8_begins 2 = .ok (.iconst 0, 1) := by decide +kernel
theorem dX8_begins_3 : decode cX8_begins 3 = .ok (.istore_n 3, 1) := by decide +kernel
theorem dX8_begins_4 : decode cX8_begins 4 = .ok (.iload_n 3, 1) := by decide +kernel
theorem dX8_begins_5 : decode cX8_begins 5 = .ok (.aload_n 0, 1) := by decide +kernel
theorem dX8_begins_6 : decode cX8_begins 6 = .ok (.getfield 117, 3) := by decide +kernel
theorem dX8_begins_9 : decode cX8_begins 9 = .ok (.if_icmp .ge 34, 3) := by decide +kernel
theorem dX8_begins_12 : decode cX8_begins 12 = .ok (.iload_n 2, 1) := by decide +kernel
theorem dX8_begins_13 : decode cX8_begins 13 = .ok (.aload_n 0, 1) := by decide +kernel
theorem dX8_begins_14 : decode cX8_begins 14 = .ok (.getfield 29, 3) := by decide +kernel
theorem dX8_begins_17 : decode cX8_begins 17 = .ok (.iconst 5, 1) := by decide +kernel
theorem dX8_begins_18 : decode cX8_begins 18 = .ok (.iload_n 3, 1) := by decide +kernel
theorem dX8_begins_19 : decode cX8_begins 19 = .ok (.imul, 1) := by decide +kernel
theorem dX8_begins_20 : decode cX8_begins 20 = .ok (.iconst 0, 1) := by decide +kernel
theorem dX8_begins_21 : decode cX8_begins 21 = .ok (.iadd, 1) := by decide +kernel
theorem dX8_begins_22 : decode cX8_begins 22 = .ok (.iaload, 1) := by decide +kernel
theorem dX8_begins_23 : decode cX8_begins 23 = .ok (.aload_n 0, 1) := by decide +kernel
theorem dX8_begins_24 : decode cX8_begins 24 = .ok (.getfield 120, 3) := by decide +kernel
theorem dX8_begins_27 : decode cX8_begins 27 = .ok (.if_icmp .ne 7, 3) := by decide +kernel
theorem dX8_begins_30 : decode cX8_begins 30 = .ok (.iconst 1, 1) := by decide +kernel
theorem dX8_begins_31 : decode cX8_begins 31 = .ok (.goto 4, 3) := by decide +kernel
theorem dX8_begins_34 : decode cX8_begins 34 = .ok (.iconst 0, 1) := by decide +kernel
theorem dX8_begins_35 : decode cX8_begins 35 = .ok (.iadd, 1) := by decide +kernel
theorem dX8_begins_36 : decode cX8_begins 36 = .ok (.istore_n 2, 1) := by decide +kernel
theorem dX8_begins_37 : decode cX8_begins 37 = .ok (.iinc 3 1, 3) := by decide +kernel
theorem dX8_begins_40 : decode cX8_begins 40 = .ok (.goto (-36), 3) := by decide +kernel
theorem dX8_begins_43 : decode cX8_begins 43 = .ok (.iload_n 1, 1) := by decide +kernel
theorem dX8_begins_44 : decode cX8_begins 44 = .ok (.iconst 1, 1) := by decide +kernel
theorem dX8_begins_45 : decode cX8_begins 45 = .ok (.bipush 9, 2) := by decide +kernel
theorem dX8_begins_47 : decode cX8_begins 47 = .ok (.invokestatic 39, 3) := by decide +kernel
theorem dX8_begins_50 : decode cX8_begins 50 = .ok (.ifCond .eq 24, 3) := by decide +kernel
theorem dX8_begins_53 : decode cX8_begins 53 = .ok (.aload_n 0, 1) := by decide +kernel
theorem dX8_begins_54 : decode cX8_begins 54 = .ok (.getfield 117, 3) := by decide +kernel
theorem dX8_begins_57 : decode cX8_begins 57 = .ok (.bipush 20, 2) := by decide +kernel
theorem dX8_begins_59 : decode cX8_begins 59 = .ok (.if_icmp .eq 15, 3) := by decide +kernel
theorem dX8_begins_62 : decode cX8_begins 62 = .ok (.aload_n 0, 1) := by decide +kernel
theorem dX8_begins_63 : decode cX8_begins 63 = .ok (.getfield 120, 3) := by decide +kernel
theorem dX8_begins_66 : decode cX8_begins 66 = .ok (.ifCond .lt 10, 3) := by decide +kernel
theorem dX8_begins_69 : decode cX8_begins 69 = .ok (.iload_n 2, 1) := by decide +kernel
theorem dX8_begins_70 : decode cX8_begins 70 = .ok (.iconst 4, 1) := by decide +kernel
theorem dX8_begins_71 : decode cX8_begins 71 = .ok (.if_icmp .ne 5, 3) := by decide +kernel
theorem dX8_begins_74 : decode cX8_begins 74 = .ok (.iconst 0, 1) := by decide +kernel
theorem dX8_begins_75 : decode cX8_begins 75 = .ok (.ireturn, 1) := by decide +kernel
theorem dX8_begins_76 : decode cX8_begins 76 = .ok (.aload_n 0, 1) := by decide +kernel
theorem dX8_begins_77 : decode cX8_begins 77 = .ok (.getfield 29, 3) := by decide +kernel
theorem dX8_begins_80 : decode cX8_begins 80 = .ok (.iconst 5, 1) := by decide +kernel
theorem dX8_begins_81 : decode cX8_begins 81 = .ok (.aload_n 0, 1) := by decide +kernel
theorem dX8_begins_82 : decode cX8_begins 82 = .ok (.getfield 117, 3) := by decide +kernel
theorem dX8_begins_85 : decode cX8_begins 85 = .ok (.imul, 1) := by decide +kernel
theorem dX8_begins_86 : decode cX8_begins 86 = .ok (.iconst 0, 1) := by decide +kernel
theorem dX8_begins_87 : decode cX8_begins 87 = .ok (.iadd, 1) := by decide +kernel
theorem dX8_begins_88 : decode cX8_begins 88 = .ok (.aload_n 0, 1) := by decide +kernel
theorem dX8_begins_89 : decode cX8_begins 89 = .ok (.getfield 120, 3) := by decide +kernel
theorem dX8_begins_92 : decode cX8_begins 92 = .ok (.iastore, 1) := by decide +kernel
theorem dX8_begins_93 : decode cX8_begins 93 = .ok (.aload_n 0, 1) := by decide +kernel
theorem dX8_begins_94 : decode cX8_begins 94 = .ok (.getfield 29, 3) := by decide +kernel
theorem dX8_begins_97 : decode cX8_begins 97 = .ok (.iconst 5, 1) := by decide +kernel
theorem dX8_begins_98 : decode cX8_begins 98 = .ok (.aload_n 0, 1) := by decide +kernel
theorem dX8_begins_99 : decode cX8_begins 99 = .ok (.getfield 117, 3) := by decide +kernel
theorem dX8_begins_102 : decode cX8_begins 102 = .ok (.imul, 1) := by decide +kernel
theorem dX8_begins_103 : decode cX8_begins 103 = .ok (.iconst 1, 1) := by decide +kernel
theorem dX8_begins_104 : decode cX8_begins 104 = .ok (.iadd, 1) := by decide +kernel
theorem dX8_begins_105 : decode cX8_begins 105 = .ok (.iload_n 1, 1) := by decide +kernel
theorem dX8_begins_106 : decode cX8_begins 106 = .ok (.iastore, 1) := by decide +kernel
theorem dX8_begins_107 : decode cX8_begins 107 = .ok (.aload_n 0, 1) := by decide +kernel
theorem dX8_begins_108 : decode cX8_begins 108 = .ok (.getfield 29, 3) := by decide +kernel
theorem dX8_begins_111 : decode cX8_begins 111 = .ok (.iconst 5, 1) := by decide +kernel
theorem dX8_begins_112 : decode cX8_begins 112 = .ok (.aload_n 0, 1) := by decide +kernel
theorem dX8_begins_113 : decode cX8_begins 113 = .ok (.getfield 117, 3) := by decide +kernel
theorem dX8_begins_116 : decode cX8_begins 116 = .ok (.imul, 1) := by decide +kernel
theorem dX8_begins_117 : decode cX8_begins 117 = .ok (.iconst 2, 1) := by decide +kernel
theorem dX8_begins_118 : decode cX8_begins 118 = .ok (.iadd, 1) := by decide +kernel
theorem dX8_begins_119 : decode cX8_begins 119 = .ok (.iconst 0, 1) := by decide +kernel
theorem dX8_begins_120 : decode cX8_begins 120 = .ok (.iastore, 1) := by decide +kernel
theorem dX8_begins_121 : decode cX8_begins 121 = .ok (.aload_n 0, 1) := by decide +kernel
theorem dX8_begins_122 : decode cX8_begins 122 = .ok (.getfield 29, 3) := by decide +kernel
theorem dX8_begins_125 : decode cX8_begins 125 = .ok (.iconst 5, 1) := by decide +kernel
theorem dX8_begins_126 : decode cX8_begins 126 = .ok (.aload_n 0, 1) := by decide +kernel
theorem dX8_begins_127 : decode cX8_begins 127 = .ok (.getfield 117, 3) := by decide +kernel
theorem dX8_begins_130 : decode cX8_begins 130 = .ok (.imul, 1) := by decide +kernel
theorem dX8_begins_131 : decode cX8_begins 131 = .ok (.iconst 3, 1) := by decide +kernel
theorem dX8_begins_132 : decode cX8_begins 132 = .ok (.iadd, 1) := by decide +kernel
theorem dX8_begins_133 : decode cX8_begins 133 = .ok (.iconst 0, 1) := by decide +kernel
theorem dX8_begins_134 : decode cX8_begins 134 = .ok (.iastore, 1) := by decide +kernel
theorem dX8_begins_135 : decode cX8_begins 135 = .ok (.aload_n 0, 1) := by decide +kernel
theorem dX8_begins_136 : decode cX8_begins 136 = .ok (.getfield 29, 3) := by decide +kernel
theorem dX8_begins_139 : decode cX8_begins 139 = .ok (.iconst 5, 1) := by decide +kernel
theorem dX8_begins_140 : decode cX8_begins 140 = .ok (.aload_n 0, 1) := by decide +kernel
theorem dX8_begins_141 : decode cX8_begins 141 = .ok (.getfield 117, 3) := by decide +kernel
theorem dX8_begins_144 : decode cX8_begins 144 = .ok (.imul, 1) := by decide +kernel
theorem dX8_begins_145 : decode cX8_begins 145 = .ok (.iconst 4, 1) := by decide +kernel
theorem dX8_begins_146 : decode cX8_begins 146 = .ok (.iadd, 1) := by decide +kernel
theorem dX8_begins_147 : decode cX8_begins 147 = .ok (.iconst 0, 1) := by decide +kernel
theorem dX8_begins_148 : decode cX8_begins 148 = .ok (.iastore, 1) := by decide +kernel
theorem dX8_begins_149 : decode cX8_begins 149 = .ok (.aload_n 0, 1) := by decide +kernel
theorem dX8_begins_150 : decode cX8_begins 150 = .ok (.dup, 1) := by decide +kernel
theorem dX8_begins_151 : decode cX8_begins 151 = .ok (.getfield 117, 3) := by decide +kernel
theorem dX8_begins_154 : decode cX8_begins 154 = .ok (.iconst 1, 1) := by decide +kernel
theorem dX8_begins_155 : decode cX8_begins 155 = .ok (.iadd, 1) := by decide +kernel
theorem dX8_begins_156 : decode cX8_begins 156 = .ok (.putfield 117, 3) := by decide +kernel
theorem dX8_begins_159 : decode cX8_begins 159 = .ok (.aload_n 0, 1) := by decide +kernel
theorem dX8_begins_160 : decode cX8_begins 160 = .ok (.iconst 1, 1) := by decide +kernel
theorem dX8_begins_161 : decode cX8_begins 161 = .ok (.putfield 123, 3) := by decide +kernel
theorem dX8_begins_164 : decode cX8_begins 164 = .ok (.iconst 1, 1) := by decide +kernel
theorem dX8_begins_165 : decode cX8_begins 165 = .ok (.ireturn, 1) := by decide +kernel
theorem dX8_counts_0 : decode cX8_counts 0 = .ok (.aload_n 0, 1) := by decide +kernel
theorem dX8_counts_1 : decode cX8_counts 1 = .ok (.getfield 123, 3) := by decide +kernel
theorem dX8_counts_4 : decode cX8_counts 4 = .ok (.iconst 4, 1) := by decide +kernel
theorem dX8_counts_5 : decode cX8_counts 5 = .ok (.if_icmp .eq 11, 3) := by decide +kernel
theorem dX8_counts_8 : decode cX8_counts 8 = .ok (.aload_n 0, 1) := by decide +kernel
theorem dX8_counts_9 : decode cX8_counts 9 = .ok (.getfield 123, 3) := by decide +kernel
theorem dX8_counts_12 : decode cX8_counts 12 = .ok (.iconst 5, 1) := by decide +kernel
theorem dX8_counts_13 : decode cX8_counts 13 = .ok (.if_icmp .ne 7, 3) := by decide +kernel
theorem dX8_counts_16 : decode cX8_counts 16 = .ok (.iload_n 1, 1) := by decide +kernel
theorem dX8_counts_17 : decode cX8_counts 17 = .ok (.ifCond .ge 5, 3) := by decide +kernel
theorem dX8_counts_20 : decode cX8_counts 20 = .ok (.iconst 0, 1) := by decide +kernel
theorem dX8_counts_21 : decode cX8_counts 21 = .ok (.ireturn, 1) := by decide +kernel
theorem dX8_counts_22 : decode cX8_counts 22 = .ok (.aload_n 0, 1) := by decide +kernel
theorem dX8_counts_23 : decode cX8_counts 23 = .ok (.getfield 29, 3) := by decide +kernel
theorem dX8_counts_26 : decode cX8_counts 26 = .ok (.iconst 5, 1) := by decide +kernel
theorem dX8_counts_27 : decode cX8_counts 27 = .ok (.aload_n 0, 1) := by decide +kernel
theorem dX8_counts_28 : decode cX8_counts 28 = .ok (.getfield 117, 3) := by decide +kernel
theorem dX8_counts_31 : decode cX8_counts 31 = .ok (.imul, 1) := by decide +kernel
theorem dX8_counts_32 : decode cX8_counts 32 = .ok (.iconst 5, 1) := by decide +kernel
theorem dX8_counts_33 : decode cX8_counts 33 = .ok (.isub, 1) := by decide +kernel
theorem dX8_counts_34 : decode cX8_counts 34 = .ok (.iconst 4, 1) := by decide +kernel
theorem dX8_counts_35 : decode cX8_counts 35 = .ok (.iadd, 1) := by decide +kernel
theorem dX8_counts_36 : decode cX8_counts 36 = .ok (.bipush 10, 2) := by decide +kernel
theorem dX8_counts_38 : decode cX8_counts 38 = .ok (.aload_n 0, 1) := by decide +kernel
theorem dX8_counts_39 : decode cX8_counts 39 = .ok (.getfield 29, 3) := by decide +kernel
theorem dX8_counts_42 : decode cX8_counts 42 = .ok (.iconst 5, 1) := by decide +kernel
theorem dX8_counts_43 : decode cX8_counts 43 = .ok (.aload_n 0, 1) := by decide +kernel
theorem dX8_counts_44 : decode cX8_counts 44 = .ok (.getfield 117, 3) := by decide +kernel
theorem dX8_counts_47 : decode cX8_counts 47 = .ok (.imul, 1) := by decide +kernel
theorem dX8_counts_48 : decode cX8_counts 48 = .ok (.iconst 5, 1) := by decide +kernel
theorem dX8_counts_49 : decode cX8_counts 49 = .ok (.isub, 1) := by decide +kernel
theorem dX8_counts_50 : decode cX8_counts 50 = .ok (.iconst 4, 1) := by decide +kernel
theorem dX8_counts_51 : decode cX8_counts 51 = .ok (.iadd, 1) := by decide +kernel
theorem dX8_counts_52 : decode cX8_counts 52 = .ok (.iaload, 1) := by decide +kernel
theorem dX8_counts_53 : decode cX8_counts 53 = .ok (.imul, 1) := by decide +kernel
theorem dX8_counts_54 : decode cX8_counts 54 = .ok (.iload_n 1, 1) := by decide +kernel
theorem dX8_counts_55 : decode cX8_counts 55 = .ok (.iadd, 1) := by decide +kernel
theorem dX8_counts_56 : decode cX8_counts 56 = .ok (.iastore, 1) := by decide +kernel
theorem dX8_counts_57 : decode cX8_counts 57 = .ok (.aload_n 0, 1) := by decide +kernel
theorem dX8_counts_58 : decode cX8_counts 58 = .ok (.aload_n 0, 1) := by decide +kernel
theorem dX8_counts_59 : decode cX8_counts 59 = .ok (.getfield 123, 3) := by decide +kernel
theorem dX8_counts_62 : decode cX8_counts 62 = .ok (.iconst 5, 1) := by decide +kernel
theorem dX8_counts_63 : decode cX8_counts 63 = .ok (.if_icmp .eq 7, 3) := by decide +kernel
theorem dX8_counts_66 : decode cX8_counts 66 = .ok (.iload_n 1, 1) := by decide +kernel
theorem dX8_counts_67 : decode cX8_counts 67 = .ok (.ifCond .ne 8, 3) := by decide +kernel
theorem dX8_counts_70 : decode cX8_counts 70 = .ok (.bipush 6, 2) := by decide +kernel
theorem dX8_counts_72 : decode cX8_counts 72 = .ok (.goto 4, 3) := by decide +kernel
theorem dX8_counts_75 : decode cX8_counts 75 = .ok (.iconst 5, 1) := by decide +kernel
theorem dX8_counts_76 : decode cX8_counts 76 = .ok (.putfield 123, 3) := by decide +kernel
theorem dX8_counts_79 : decode cX8_counts 79 = .ok (.iconst 1, 1) := by decide +kernel
theorem dX8_counts_80 : decode cX8_counts 80 = .ok (.ireturn, 1) := by decide +kernel
theorem dX8_turns_0 : decode cX8_turns 0 = .ok (.aload_n 0, 1) := by decide +kernel
theorem dX8_turns_1 : decode cX8_turns 1 = .ok (.getfield 123, 3) := by decide +kernel
theorem dX8_turns_4 : decode cX8_turns 4 = .ok (.ifCond .eq 39, 3) := by decide +kernel
theorem dX8_turns_7 : decode cX8_turns 7 = .ok (.aload_n 0, 1) := by decide +kernel
theorem dX8_turns_8 : decode cX8_turns 8 = .ok (.getfield 123, 3) := by decide +kernel
theorem dX8_turns_11 : decode cX8_turns 11 = .ok (.iconst 4, 1) := by decide +kernel
theorem dX8_turns_12 : decode cX8_turns 12 = .ok (.if_icmp .eq 31, 3) := by decide +kernel
theorem dX8_turns_15 : decode cX8_turns 15 = .ok (.iload_n 1, 1) := by decide +kernel
theorem dX8_turns_16 : decode cX8_turns 16 = .ok (.bipush 40, 2) := by decide +kernel
theorem dX8_turns_18 : decode cX8_turns 18 = .ok (.if_icmp .ne 12, 3) := by decide +kernel
theorem dX8_turns_21 : decode cX8_turns 21 = .ok (.aload_n 0, 1) := by decide +kernel
theorem dX8_turns_22 : decode cX8_turns 22 = .ok (.getfield 123, 3) := by decide +kernel
theorem dX8_turns_25 : decode cX8_turns 25 = .ok (.bipush 7, 2) := by decide +kernel
theorem dX8_turns_27 : decode cX8_turns 27 = .ok (.if_icmp .eq 16, 3) := by decide +kernel
theorem dX8_turns_30 : decode cX8_turns 30 = .ok (.iload_n 1, 1) := by decide +kernel
theorem dX8_turns_31 : decode cX8_turns 31 = .ok (.bipush 40, 2) := by decide +kernel
theorem dX8_turns_33 : decode cX8_turns 33 = .ok (.if_icmp .eq 12, 3) := by decide +kernel
theorem dX8_turns_36 : decode cX8_turns 36 = .ok (.aload_n 0, 1) := by decide +kernel
theorem dX8_turns_37 : decode cX8_turns 37 = .ok (.getfield 120, 3) := by decide +kernel
theorem dX8_turns_40 : decode cX8_turns 40 = .ok (.ifCond .ge 5, 3) := by decide +kernel
theorem dX8_turns_43 : decode cX8_turns 43 = .ok (.iconst 0, 1) := by decide +kernel
theorem dX8_turns_44 : decode cX8_turns 44 = .ok (.ireturn, 1) := by decide +kernel
theorem dX8_turns_45 : decode cX8_turns 45 = .ok (.iload_n 1, 1) := by decide +kernel
theorem dX8_turns_46 : decode cX8_turns 46 = .ok (.bipush 40, 2) := by decide +kernel
theorem dX8_turns_48 : decode cX8_turns 48 = .ok (.if_icmp .ne 13, 3) := by decide +kernel
theorem dX8_turns_51 : decode cX8_turns 51 = .ok (.aload_n 0, 1) := by decide +kernel
theorem dX8_turns_52 : decode cX8_turns 52 = .ok (.aload_n 0, 1) := by decide +kernel
theorem dX8_turns_53 : decode cX8_turns 53 = .ok (.getfield 117, 3) := by decide +kernel
theorem dX8_turns_56 : decode cX8_turns 56 = .ok (.iconst 1, 1) := by decide +kernel
theorem dX8_turns_57 : decode cX8_turns 57 = .ok (.isub, 1) := by decide +kernel
theorem dX8_turns_58 : decode cX8_turns 58 = .ok (.putfield 120, 3) := by decide +kernel
theorem dX8_turns_61 : decode cX8_turns 61 = .ok (.aload_n 0, 1) := by decide +kernel
theorem dX8_turns_62 : decode cX8_turns 62 = .ok (.iload_n 1, 1) := by decide +kernel
theorem dX8_turns_63 : decode cX8_turns 63 = .ok (.bipush 41, 2) := by decide +kernel
theorem dX8_turns_65 : decode cX8_turns 65 = .ok (.if_icmp .ne 8, 3) := by decide +kernel
theorem dX8_turns_68 : decode cX8_turns 68 = .ok (.bipush 7, 2) := by decide +kernel
theorem dX8_turns_70 : decode cX8_turns 70 = .ok (.goto 4, 3) := by decide +kernel
theorem dX8_turns_73 : decode cX8_turns 73 = .ok (.iconst 0, 1) := by decide +kernel
theorem dX8_turns_74 : decode cX8_turns 74 = .ok (.putfield 123, 3) := by decide +kernel
theorem dX8_turns_77 : decode cX8_turns 77 = .ok (.aload_n 0, 1) := by decide +kernel
theorem dX8_turns_78 : decode cX8_turns 78 = .ok (.iload_n 1, 1) := by decide +kernel
theorem dX8_turns_79 : decode cX8_turns 79 = .ok (.bipush 41, 2) := by decide +kernel
theorem dX8_turns_81 : decode cX8_turns 81 = .ok (.if_icmp .ne 19, 3) := by decide +kernel
theorem dX8_turns_84 : decode cX8_turns 84 = .ok (.aload_n 0, 1) := by decide +kernel
theorem dX8_turns_85 : decode cX8_turns 85 = .ok (.getfield 29, 3) := by decide +kernel
theorem dX8_turns_88 : decode cX8_turns 88 = .ok (.iconst 5, 1) := by decide +kernel
theorem dX8_turns_89 : decode cX8_turns 89 = .ok (.aload_n 0, 1) := by decide +kernel
theorem dX8_turns_90 : decode cX8_turns 90 = .ok (.getfield 120, 3) := by decide +kernel
theorem dX8_turns_93 : decode cX8_turns 93 = .ok (.imul, 1) := by decide +kernel
theorem dX8_turns_94 : decode cX8_turns 94 = .ok (.iconst 0, 1) := by decide +kernel
theorem dX8_turns_95 : decode cX8_turns 95 = .ok (.iadd, 1) := by decide +kernel
theorem dX8_turns_96 : decode cX8_turns 96 = .ok (.iaload, 1) := by decide +kernel
theorem dX8_turns_97 : decode cX8_turns 97 = .ok (.goto 7, 3) := by decide +kernel
theorem dX8_turns_100 : decode cX8_turns 100 = .ok (.aload_n 0, 1) := by decide +kernel
theorem dX8_turns_101 : decode cX8_turns 101 = .ok (.getfield 120, 3) := by decide +kernel
theorem dX8_turns_104 : decode cX8_turns 104 = .ok (.putfield 120, 3) := by decide +kernel
theorem dX8_turns_107 : decode cX8_turns 107 = .ok (.iconst 1, 1) := by decide +kernel
theorem dX8_turns_108 : decode cX8_turns 108 = .ok (.ireturn, 1) := by decide +kernel
set_option maxRecDepth 20000 in
theorem ggX8_goes_X8_in : GoodIn wsX8_goes wsX8_in := goodIn_r _ [7] (by decide +kernel) (by decide +kernel)
set_option maxRecDepth 20000 in
theorem gX8_goes_X8_in : GoodIn wsX8_goes (va_wsS RX8 39 yX8_in wsX8_in) := goodIn_app (goodIn_of _ (by decide +kernel)) ggX8_goes_X8_in
set_option maxRecDepth 20000 in
theorem ggX8_goes_X8_begins : GoodIn wsX8_goes wsX8_begins := goodIn_r _ [11, 3, 2, 12, 1, 4, 5, 6, 7, 21, 22, 23, 24, 25, 26, 27, 28, 29, 30, 31, 32, 33, 34] (by decide +kernel) (by decide +kernel)
set_option maxRecDepth 20000 in
theorem gX8_goes_X8_begins : GoodIn wsX8_goes (wsV RX8 126 RX8 yX8_begins wsX8_begins) := goodIn_app (goodIn_of _ (by decide +kernel)) ggX8_goes_X8_begins
set_option maxRecDepth 20000 in
theorem ggX8_goes_X8_turns : GoodIn wsX8_goes wsX8_turns := goodIn_r _ [16, 1, 12, 3, 2, 21, 22, 23, 24, 25, 26, 27, 28, 29, 30, 31, 32, 33, 34] (by decide +kernel) (by decide +kernel)
set_option maxRecDepth 20000 in
theorem gX8_goes_X8_turns : GoodIn wsX8_goes (wsV RX8 129 RX8 yX8_turns wsX8_turns) := goodIn_app (goodIn_of _ (by decide +kernel)) ggX8_goes_X8_turns
set_option maxRecDepth 20000 in
theorem ggX8_goes_X8_counts : GoodIn wsX8_goes wsX8_counts := goodIn_r _ [20, 1, 2, 3, 21, 22, 23, 24, 25, 26, 27, 28, 29, 30, 31, 32, 33, 34] (by decide +kernel) (by decide +kernel)
set_option maxRecDepth 20000 in
theorem gX8_goes_X8_counts : GoodIn wsX8_goes (wsV RX8 132 RX8 yX8_counts wsX8_counts) := goodIn_app (goodIn_of _ (by decide +kernel)) ggX8_goes_X8_counts
theorem dX8_goes_0 : decode cX8_goes 0 = .ok (.iload_n 1, 1) := by decide +kernel
theorem dX8_goes_1 : decode cX8_goes 1 = .ok (.bipush 48, 2) := by decide +kernel
theorem dX8_goes_3 : decode cX8_goes 3 = .ok (.bipush 57, 2) := by decide +kernel
theorem dX8_goes_5 : decode cX8_goes 5 = .ok (.invokestatic 39, 3) := by decide +kernel
theorem dX8_goes_8 : decode cX8_goes 8 = .ok (.ifCond .eq 10, 3) := by decide +kernel
theorem dX8_goes_11 : decode cX8_goes 11 = .ok (.iload_n 1, 1) := by decide +kernel
theorem dX8_goes_12 : decode cX8_goes 12 = .ok (.bipush 48, 2) := by decide +kernel
theorem dX8_goes_14 : decode cX8_goes 14 = .ok (.isub, 1) := by decide +kernel
theorem dX8_goes_15 : decode cX8_goes 15 = .ok (.goto 4, 3) := by decide +kernel
theorem dX8_goes_18 : decode cX8_goes 18 = .ok (.iconst (-1), 1) := by decide +kernel
theorem dX8_goes_19 : decode cX8_goes 19 = .ok (.istore_n 2, 1) := by decide +kernel
theorem dX8_goes_20 : decode cX8_goes 20 = .ok (.aload_n 0, 1) := by decide +kernel
theorem dX8_goes_21 : decode cX8_goes 21 = .ok (.getfield 123, 3) := by decide +kernel
theorem dX8_goes_24 : decode cX8_goes 24 = .ok (.ifCond .ne 9, 3) := by decide +kernel
theorem dX8_goes_27 : decode cX8_goes 27 = .ok (.aload_n 0, 1) := by decide +kernel
theorem dX8_goes_28 : decode cX8_goes 28 = .ok (.iload_n 2, 1) := by decide +kernel
theorem dX8_goes_29 : decode cX8_goes 29 = .ok (.invokevirtual 126, 3) := by decide +kernel
theorem dX8_goes_32 : decode cX8_goes 32 = .ok (.ireturn, 1) := by decide +kernel
theorem dX8_goes_33 : decode cX8_goes 33 = .ok (.iload_n 1, 1) := by decide +kernel
theorem dX8_goes_34 : decode cX8_goes 34 = .ok (.bipush 97, 2) := by decide +kernel
theorem dX8_goes_36 : decode cX8_goes 36 = .ok (.bipush 101, 2) := by decide +kernel
theorem dX8_goes_38 : decode cX8_goes 38 = .ok (.invokestatic 39, 3) := by decide +kernel
theorem dX8_goes_41 : decode cX8_goes 41 = .ok (.ifCond .eq 39, 3) := by decide +kernel
theorem dX8_goes_44 : decode cX8_goes 44 = .ok (.aload_n 0, 1) := by decide +kernel
theorem dX8_goes_45 : decode cX8_goes 45 = .ok (.getfield 123, 3) := by decide +kernel
theorem dX8_goes_48 : decode cX8_goes 48 = .ok (.iconst 1, 1) := by decide +kernel
theorem dX8_goes_49 : decode cX8_goes 49 = .ok (.if_icmp .ne 31, 3) := by decide +kernel
theorem dX8_goes_52 : decode cX8_goes 52 = .ok (.aload_n 0, 1) := by decide +kernel
theorem dX8_goes_53 : decode cX8_goes 53 = .ok (.getfield 29, 3) := by decide +kernel
theorem dX8_goes_56 : decode cX8_goes 56 = .ok (.iconst 5, 1) := by decide +kernel
theorem dX8_goes_57 : decode cX8_goes 57 = .ok (.aload_n 0, 1) := by decide +kernel
theorem dX8_goes_58 : decode cX8_goes 58 = .ok (.getfield 117, 3) := by decide +kernel
theorem dX8_goes_61 : decode cX8_goes 61 = .ok (.imul, 1) := by decide +kernel
theorem dX8_goes_62 : decode cX8_goes 62 = .ok (.iconst 5, 1) := by decide +kernel
theorem dX8_goes_63 : decode cX8_goes 63 = .ok (.isub, 1) := by decide +kernel
theorem dX8_goes_64 : decode cX8_goes 64 = .ok (.iconst 2, 1) := by decide +kernel
theorem dX8_goes_65 : decode cX8_goes 65 = .ok (.iadd, 1) := by decide +kernel
theorem dX8_goes_66 : decode cX8_goes 66 = .ok (.iload_n 1, 1) := by decide +kernel
theorem dX8_goes_67 : decode cX8_goes 67 = .ok (.bipush 97, 2) := by decide +kernel
theorem dX8_goes_69 : decode cX8_goes 69 = .ok (.isub, 1) := by decide +kernel
theorem dX8_goes_70 : decode cX8_goes 70 = .ok (.iconst 1, 1) := by decide +kernel
theorem dX8_goes_71 : decode cX8_goes 71 = .ok (.iadd, 1) := by decide +kernel
theorem dX8_goes_72 : decode cX8_goes 72 = .ok (.iastore, 1) := by decide +kernel
theorem dX8_goes_73 : decode cX8_goes 73 = .ok (.aload_n 0, 1) := by decide +kernel
theorem dX8_goes_74 : decode cX8_goes 74 = .ok (.iconst 2, 1) := by decide +kernel
theorem dX8_goes_75 : decode cX8_goes 75 = .ok (.putfield 123, 3) := by decide +kernel
theorem dX8_goes_78 : decode cX8_goes 78 = .ok (.iconst 1, 1) := by decide +kernel
theorem dX8_goes_79 : decode cX8_goes 79 = .ok (.ireturn, 1) := by decide +kernel
theorem dX8_goes_80 : decode cX8_goes 80 = .ok (.iload_n 1, 1) := by decide +kernel
theorem dX8_goes_81 : decode cX8_goes 81 = .ok (.bipush 33, 2) := by decide +kernel
theorem dX8_goes_83 : decode cX8_goes 83 = .ok (.if_icmp .ne 42, 3) := by decide +kernel
theorem dX8_goes_86 : decode cX8_goes 86 = .ok (.aload_n 0, 1) := by decide +kernel
theorem dX8_goes_87 : decode cX8_goes 87 = .ok (.getfield 123, 3) := by decide +kernel
theorem dX8_goes_90 : decode cX8_goes 90 = .ok (.iconst 1, 1) := by decide +kernel
theorem dX8_goes_91 : decode cX8_goes 91 = .ok (.if_icmp .eq 11, 3) := by decide +kernel
theorem dX8_goes_94 : decode cX8_goes 94 = .ok (.aload_n 0, 1) := by decide +kernel
theorem dX8_goes_95 : decode cX8_goes 95 = .ok (.getfield 123, 3) := by decide +kernel
theorem dX8_goes_98 : decode cX8_goes 98 = .ok (.iconst 2, 1) := by decide +kernel
theorem dX8_goes_99 : decode cX8_goes 99 = .ok (.if_icmp .ne 26, 3) := by decide +kernel
theorem dX8_goes_102 : decode cX8_goes 102 = .ok (.aload_n 0, 1) := by decide +kernel
theorem dX8_goes_103 : decode cX8_goes 103 = .ok (.getfield 29, 3) := by decide +kernel
theorem dX8_goes_106 : decode cX8_goes 106 = .ok (.iconst 5, 1) := by decide +kernel
theorem dX8_goes_107 : decode cX8_goes 107 = .ok (.aload_n 0, 1) := by decide +kernel
theorem dX8_goes_108 : decode cX8_goes 108 = .ok (.getfield 117, 3) := by decide +kernel
theorem dX8_goes_111 : decode cX8_goes 111 = .ok (.imul, 1) := by decide +kernel
theorem dX8_goes_112 : decode cX8_goes 112 = .ok (.iconst 5, 1) := by decide +kernel
theorem dX8_goes_113 : decode cX8_goes 113 = .ok (.isub, 1) := by decide +kernel
theorem dX8_goes_114 : decode cX8_goes 114 = .ok (.iconst 3, 1) := by decide +kernel
theorem dX8_goes_115 : decode cX8_goes 115 = .ok (.iadd, 1) := by decide +kernel
theorem dX8_goes_116 : decode cX8_goes 116 = .ok (.iconst 1, 1) := by decide +kernel
theorem dX8_goes_117 : decode cX8_goes 117 = .ok (.iastore, 1) := by decide +kernel
theorem dX8_goes_118 : decode cX8_goes 118 = .ok (.aload_n 0, 1) := by decide +kernel
theorem dX8_goes_119 : decode cX8_goes 119 = .ok (.iconst 3, 1) := by decide +kernel
theorem dX8_goes_120 : decode cX8_goes 120 = .ok (.putfield 123, 3) := by decide +kernel
theorem dX8_goes_123 : decode cX8_goes 123 = .ok (.iconst 1, 1) := by decide +kernel
theorem dX8_goes_124 : decode cX8_goes 124 = .ok (.ireturn, 1) := by decide +kernel
theorem dX8_goes_125 : decode cX8_goes 125 = .ok (.iload_n 1, 1) := by decide +kernel
theorem dX8_goes_126 : decode cX8_goes 126 = .ok (.bipush 42, 2) := by decide +kernel
theorem dX8_goes_128 : decode cX8_goes 128 = .ok (.if_icmp .ne 22, 3) := by decide +kernel
theorem dX8_goes_131 : decode cX8_goes 131 = .ok (.aload_n 0, 1) := by decide +kernel
theorem dX8_goes_132 : decode cX8_goes 132 = .ok (.getfield 123, 3) := by decide +kernel
theorem dX8_goes_135 : decode cX8_goes 135 = .ok (.iconst 1, 1) := by decide +kernel
theorem dX8_goes_136 : decode cX8_goes 136 = .ok (.iconst 3, 1) := by decide +kernel
theorem dX8_goes_137 : decode cX8_goes 137 = .ok (.invokestatic 39, 3) := by decide +kernel
theorem dX8_goes_140 : decode cX8_goes 140 = .ok (.ifCond .eq 10, 3) := by decide +kernel
theorem dX8_goes_143 : decode cX8_goes 143 = .ok (.aload_n 0, 1) := by decide +kernel
theorem dX8_goes_144 : decode cX8_goes 144 = .ok (.iconst 4, 1) := by decide +kernel
theorem dX8_goes_145 : decode cX8_goes 145 = .ok (.putfield 123, 3) := by decide +kernel
theorem dX8_goes_148 : decode cX8_goes 148 = .ok (.iconst 1, 1) := by decide +kernel
theorem dX8_goes_149 : decode cX8_goes 149 = .ok (.ireturn, 1) := by decide +kernel
theorem dX8_goes_150 : decode cX8_goes 150 = .ok (.iload_n 1, 1) := by decide +kernel
theorem dX8_goes_151 : decode cX8_goes 151 = .ok (.bipush 40, 2) := by decide +kernel
theorem dX8_goes_153 : decode cX8_goes 153 = .ok (.if_icmp .eq 15, 3) := by decide +kernel
theorem dX8_goes_156 : decode cX8_goes 156 = .ok (.iload_n 1, 1) := by decide +kernel
theorem dX8_goes_157 : decode cX8_goes 157 = .ok (.bipush 44, 2) := by decide +kernel
theorem dX8_goes_159 : decode cX8_goes 159 = .ok (.if_icmp .eq 9, 3) := by decide +kernel
theorem dX8_goes_162 : decode cX8_goes 162 = .ok (.iload_n 1, 1) := by decide +kernel
theorem dX8_goes_163 : decode cX8_goes 163 = .ok (.bipush 41, 2) := by decide +kernel
theorem dX8_goes_165 : decode cX8_goes 165 = .ok (.if_icmp .ne 11, 3) := by decide +kernel
theorem dX8_goes_168 : decode cX8_goes 168 = .ok (.aload_n 0, 1) := by decide +kernel
theorem dX8_goes_169 : decode cX8_goes 169 = .ok (.iload_n 1, 1) := by decide +kernel
theorem dX8_goes_170 : decode cX8_goes 170 = .ok (.invokevirtual 129, 3) := by decide +kernel
theorem dX8_goes_173 : decode cX8_goes 173 = .ok (.goto 8, 3) := by decide +kernel
theorem dX8_goes_176 : decode cX8_goes 176 = .ok (.aload_n 0, 1) := by decide +kernel
theorem dX8_goes_177 : decode cX8_goes 177 = .ok (.iload_n 2, 1) := by decide +kernel
theorem dX8_goes_178 : decode cX8_goes 178 = .ok (.invokevirtual 132, 3) := by decide +kernel
theorem dX8_goes_181 : decode cX8_goes 181 = .ok (.ireturn, 1) := by decide +kernel
set_option maxRecDepth 20000 in
theorem ggX8_fault_X8_goes : GoodIn wsX8_fault wsX8_goes := goodIn_r _ [10, 2, 11, 1, 12, 13, 9, 14, 15, 16, 17, 18, 3, 19, 20, 21, 22, 23, 24, 25, 26, 27, 28, 29, 30, 31, 32, 33, 34, 35, 36, 37, 38, 39, 40] (by decide +kernel) (by decide +kernel)
set_option maxRecDepth 20000 in
theorem gX8_fault_X8_goes : GoodIn wsX8_fault (wsV RX8 135 RX8 yX8_goes wsX8_goes) := goodIn_app (goodIn_of _ (by decide +kernel)) ggX8_fault_X8_goes
theorem dX8_fault_0 : decode cX8_fault 0 = .ok (.aload_n 0, 1) := by decide +kernel
theorem dX8_fault_1 : decode cX8_fault 1 = .ok (.iconst 0, 1) := by decide +kernel
theorem dX8_fault_2 : decode cX8_fault 2 = .ok (.putfield 117, 3) := by decide +kernel
theorem dX8_fault_5 : decode cX8_fault 5 = .ok (.aload_n 0, 1) := by decide +kernel
theorem dX8_fault_6 : decode cX8_fault 6 = .ok (.iconst 0, 1) := by decide +kernel
theorem dX8_fault_7 : decode cX8_fault 7 = .ok (.putfield 123, 3) := by decide +kernel
theorem dX8_fault_10 : decode cX8_fault 10 = .ok (.aload_n 0, 1) := by decide +kernel
theorem dX8_fault_11 : decode cX8_fault 11 = .ok (.iconst (-1), 1) := by decide +kernel
theorem dX8_fault_12 : decode cX8_fault 12 = .ok (.putfield 120, 3) := by decide +kernel
theorem dX8_fault_15 : decode cX8_fault 15 = .ok (.iconst 0, 1) := by decide +kernel
theorem dX8_fault_16 : decode cX8_fault 16 = .ok (.istore_n 1, 1) := by decide +kernel
theorem dX8_fault_17 : decode cX8_fault 17 = .ok (.iload_n 1, 1) := by decide +kernel
theorem dX8_fault_18 : decode cX8_fault 18 = .ok (.aload_n 0, 1) := by decide +kernel
theorem dX8_fault_19 : decode cX8_fault 19 = .ok (.getfield 106, 3) := by decide +kernel
theorem dX8_fault_22 : decode cX8_fault 22 = .ok (.if_icmp .ge 24, 3) := by decide +kernel
theorem dX8_fault_25 : decode cX8_fault 25 = .ok (.aload_n 0, 1) := by decide +kernel
theorem dX8_fault_26 : decode cX8_fault 26 = .ok (.aload_n 0, 1) := by decide +kernel
theorem dX8_fault_27 : decode cX8_fault 27 = .ok (.getfield 23, 3) := by decide +kernel
theorem dX8_fault_30 : decode cX8_fault 30 = .ok (.iload_n 1, 1) := by decide +kernel
theorem dX8_fault_31 : decode cX8_fault 31 = .ok (.iaload, 1) := by decide +kernel
theorem dX8_fault_32 : decode cX8_fault 32 = .ok (.invokevirtual 135, 3) := by decide +kernel
theorem dX8_fault_35 : decode cX8_fault 35 = .ok (.ifCond .ne 5, 3) := by decide +kernel
theorem dX8_fault_38 : decode cX8_fault 38 = .ok (.iload_n 1, 1) := by decide +kernel
theorem dX8_fault_39 : decode cX8_fault 39 = .ok (.ireturn, 1) := by decide +kernel
theorem dX8_fault_40 : decode cX8_fault 40 = .ok (.iinc 1 1, 3) := by decide +kernel
theorem dX8_fault_43 : decode cX8_fault 43 = .ok (.goto (-26), 3) := by decide +kernel
theorem dX8_fault_46 : decode cX8_fault 46 = .ok (.aload_n 0, 1) := by decide +kernel
theorem dX8_fault_47 : decode cX8_fault 47 = .ok (.getfield 120, 3) := by decide +kernel
theorem dX8_fault_50 : decode cX8_fault 50 = .ok (.ifCond .ge 23, 3) := by decide +kernel
theorem dX8_fault_53 : decode cX8_fault 53 = .ok (.aload_n 0, 1) := by decide +kernel
theorem dX8_fault_54 : decode cX8_fault 54 = .ok (.getfield 123, 3) := by decide +kernel
theorem dX8_fault_57 : decode cX8_fault 57 = .ok (.ifCond .eq 16, 3) := by decide +kernel
theorem dX8_fault_60 : decode cX8_fault 60 = .ok (.aload_n 0, 1) := by decide +kernel
theorem dX8_fault_61 : decode cX8_fault 61 = .ok (.getfield 123, 3) := by decide +kernel
theorem dX8_fault_64 : decode cX8_fault 64 = .ok (.iconst 4, 1) := by decide +kernel
theorem dX8_fault_65 : decode cX8_fault 65 = .ok (.if_icmp .eq 8, 3) := by decide +kernel
theorem dX8_fault_68 : decode cX8_fault 68 = .ok (.bipush (-6), 2) := by decide +kernel
theorem dX8_fault_70 : decode cX8_fault 70 = .ok (.goto 7, 3) := by decide +kernel
theorem dX8_fault_73 : decode cX8_fault 73 = .ok (.aload_n 0, 1) := by decide +kernel
theorem dX8_fault_74 : decode cX8_fault 74 = .ok (.getfield 106, 3) := by decide +kernel
theorem dX8_fault_77 : decode cX8_fault 77 = .ok (.ireturn, 1) := by decide +kernel
set_option maxRecDepth 20000 in
theorem ggX8_build_X8_fault : GoodIn wsX8_build wsX8_fault := goodIn_r _ [9, 1, 10, 11, 4, 12, 13, 14, 15, 8, 16, 3, 17, 18, 19, 20, 21, 22, 23, 24, 25, 26, 27, 28, 29, 30, 31, 38, 39, 40, 41, 42, 43, 44, 45, 46, 47, 48, 49, 50, 51] (by decide +kernel) (by decide +kernel)
set_option maxRecDepth 20000 in
theorem gX8_build_X8_fault : GoodIn wsX8_build (wsV RX8 138 RX8 yX8_fault wsX8_fault) := goodIn_app (goodIn_of _ (by decide +kernel)) ggX8_build_X8_fault
set_option maxRecDepth 20000 in
theorem ggX8_build_X8_remembers : GoodIn wsX8_build wsX8_remembers := goodIn_r _ [35, 36, 37, 2, 38, 39, 40, 41, 42, 43, 44, 45, 46, 47, 48, 49, 50, 51] (by decide +kernel) (by decide +kernel)
set_option maxRecDepth 20000 in
theorem gX8_build_X8_remembers : GoodIn wsX8_build (wsV RX8 70 RX8 yX8_remembers wsX8_remembers) := goodIn_app (goodIn_of _ (by decide +kernel)) ggX8_build_X8_remembers
theorem dX8_build_0 : decode cX8_build 0 = .ok (.aload_n 0, 1) := by decide +kernel
theorem dX8_build_1 : decode cX8_build 1 = .ok (.invokevirtual 138, 3) := by decide +kernel
theorem dX8_build_4 : decode cX8_build 4 = .ok (.bipush (-6), 2) := by decide +kernel
theorem dX8_build_6 : decode cX8_build 6 = .ok (.if_icmp .eq 6, 3) := by decide +kernel
theorem dX8_build_9 : decode cX8_build 9 = .ok (.bipush (-3), 2) := by decide +kernel
theorem dX8_build_11 : decode cX8_build 11 = .ok (.ireturn, 1) := by decide +kernel
theorem dX8_build_12 : decode cX8_build 12 = .ok (.aload_n 0, 1) := by decide +kernel
theorem dX8_build_13 : decode cX8_build 13 = .ok (.invokevirtual 70, 3) := by decide +kernel
theorem dX8_build_16 : decode cX8_build 16 = .ok (.iconst 0, 1) := by decide +kernel
theorem dX8_build_17 : decode cX8_build 17 = .ok (.istore_n 1, 1) := by decide +kernel
theorem dX8_build_18 : decode cX8_build 18 = .ok (.iload_n 1, 1) := by decide +kernel
theorem dX8_build_19 : decode cX8_build 19 = .ok (.iconst 5, 1) := by decide +kernel
theorem dX8_build_20 : decode cX8_build 20 = .ok (.aload_n 0, 1) := by decide +kernel
theorem dX8_build_21 : decode cX8_build 21 = .ok (.getfield 117, 3) := by decide +kernel
theorem dX8_build_24 : decode cX8_build 24 = .ok (.imul, 1) := by decide +kernel
theorem dX8_build_25 : decode cX8_build 25 = .ok (.if_icmp .ge 24, 3) := by decide +kernel
theorem dX8_build_28 : decode cX8_build 28 = .ok (.aload_n 0, 1) := by decide +kernel
theorem dX8_build_29 : decode cX8_build 29 = .ok (.getfield 7, 3) := by decide +kernel
theorem dX8_build_32 : decode cX8_build 32 = .ok (.bipush 33, 2) := by decide +kernel
theorem dX8_build_34 : decode cX8_build 34 = .ok (.iload_n 1, 1) := by decide +kernel
theorem dX8_build_35 : decode cX8_build 35 = .ok (.iadd, 1) := by decide +kernel
theorem dX8_build_36 : decode cX8_build 36 = .ok (.aload_n 0, 1) := by decide +kernel
theorem dX8_build_37 : decode cX8_build 37 = .ok (.getfield 29, 3) := by decide +kernel
theorem dX8_build_40 : decode cX8_build 40 = .ok (.iload_n 1, 1) := by decide +kernel
theorem dX8_build_41 : decode cX8_build 41 = .ok (.iaload, 1) := by decide +kernel
theorem dX8_build_42 : decode cX8_build 42 = .ok (.iastore, 1) := by decide +kernel
theorem dX8_build_43 : decode cX8_build 43 = .ok (.iinc 1 1, 3) := by decide +kernel
theorem dX8_build_46 : decode cX8_build 46 = .ok (.goto (-28), 3) := by decide +kernel
theorem dX8_build_49 : decode cX8_build 49 = .ok (.aload_n 0, 1) := by decide +kernel
theorem dX8_build_50 : decode cX8_build 50 = .ok (.getfield 7, 3) := by decide +kernel
theorem dX8_build_53 : decode cX8_build 53 = .ok (.iconst 5, 1) := by decide +kernel
theorem dX8_build_54 : decode cX8_build 54 = .ok (.aload_n 0, 1) := by decide +kernel
theorem dX8_build_55 : decode cX8_build 55 = .ok (.getfield 117, 3) := by decide +kernel
theorem dX8_build_58 : decode cX8_build 58 = .ok (.iastore, 1) := by decide +kernel
theorem dX8_build_59 : decode cX8_build 59 = .ok (.aload_n 0, 1) := by decide +kernel
theorem dX8_build_60 : decode cX8_build 60 = .ok (.iconst 0, 1) := by decide +kernel
theorem dX8_build_61 : decode cX8_build 61 = .ok (.putfield 106, 3) := by decide +kernel
theorem dX8_build_64 : decode cX8_build 64 = .ok (.aload_n 0, 1) := by decide +kernel
theorem dX8_build_65 : decode cX8_build 65 = .ok (.getfield 117, 3) := by decide +kernel
theorem dX8_build_68 : decode cX8_build 68 = .ok (.ireturn, 1) := by decide +kernel
theorem dX8_writes_0 : decode cX8_writes 0 = .ok (.aload_n 0, 1) := by decide +kernel
theorem dX8_writes_1 : decode cX8_writes 1 = .ok (.getfield 32, 3) := by decide +kernel
theorem dX8_writes_4 : decode cX8_writes 4 = .ok (.aload_n 0, 1) := by decide +kernel
theorem dX8_writes_5 : decode cX8_writes 5 = .ok (.getfield 141, 3) := by decide +kernel
theorem dX8_writes_8 : decode cX8_writes 8 = .ok (.iload_n 1, 1) := by decide +kernel
theorem dX8_writes_9 : decode cX8_writes 9 = .ok (.iastore, 1) := by decide +kernel
theorem dX8_writes_10 : decode cX8_writes 10 = .ok (.aload_n 0, 1) := by decide +kernel
theorem dX8_writes_11 : decode cX8_writes 11 = .ok (.dup, 1) := by decide +kernel
theorem dX8_writes_12 : decode cX8_writes 12 = .ok (.getfield 141, 3) := by decide +kernel
theorem dX8_writes_15 : decode cX8_writes 15 = .ok (.iconst 1, 1) := by decide +kernel
theorem dX8_writes_16 : decode cX8_writes 16 = .ok (.iadd, 1) := by decide +kernel
theorem dX8_writes_17 : decode cX8_writes 17 = .ok (.putfield 141, 3) := by decide +kernel
theorem dX8_writes_20 : decode cX8_writes 20 = .ok (.return_, 1) := by decide +kernel
set_option maxRecDepth 20000 in
theorem ggX8_writesStreet_X8_its : GoodIn wsX8_writesStreet wsX8_its := goodIn_r _ [5, 6, 7, 8, 4, 9, 16, 17, 18, 19, 20, 21, 22, 23, 24, 25, 26, 27, 28, 29] (by decide +kernel) (by decide +kernel)
set_option maxRecDepth 20000 in
theorem gX8_writesStreet_X8_its : GoodIn wsX8_writesStreet (wsV RX8 47 RX8 yX8_its wsX8_its) := goodIn_app (goodIn_of _ (by decide +kernel)) ggX8_writesStreet_X8_its
set_option maxRecDepth 20000 in
theorem ggX8_writesStreet_X8_writes : GoodIn wsX8_writesStreet wsX8_writes := goodIn_r _ [13, 14, 15, 16, 17, 18, 19, 20, 21, 22, 23, 24, 25, 26, 27, 28, 29] (by decide +kernel) (by decide +kernel)
set_option maxRecDepth 20000 in
theorem gX8_writesStreet_X8_writes : GoodIn wsX8_writesStreet (wsV RX8 144 RX8 yX8_writes wsX8_writes) := goodIn_app (goodIn_of _ (by decide +kernel)) ggX8_writesStreet_X8_writes
theorem dX8_writesStreet_0 : decode cX8_writesStreet 0 = .ok (.aload_n 0, 1) := by decide +kernel
theorem dX8_writesStreet_1 : decode cX8_writesStreet 1 = .ok (.bipush 48, 2) := by decide +kernel
theorem dX8_writesStreet_3 : decode cX8_writesStreet 3 = .ok (.aload_n 0, 1) := by decide +kernel
theorem dX8_writesStreet_4 : decode cX8_writesStreet 4 = .ok (.iload_n 1, 1) := by decide +kernel
theorem dX8_writesStreet_5 : decode cX8_writesStreet 5 = .ok (.iconst 1, 1) := by decide +kernel
theorem dX8_writesStreet_6 : decode cX8_writesStreet 6 = .ok (.invokevirtual 47, 3) := by decide +kernel
theorem dX8_writesStreet_9 : decode cX8_writesStreet 9 = .ok (.iadd, 1) := by decide +kernel
theorem dX8_writesStreet_10 : decode cX8_writesStreet 10 = .ok (.invokevirtual 144, 3) := by decide +kernel
theorem dX8_writesStreet_13 : decode cX8_writesStreet 13 = .ok (.aload_n 0, 1) := by decide +kernel
theorem dX8_writesStreet_14 : decode cX8_writesStreet 14 = .ok (.iload_n 1, 1) := by decide +kernel
theorem dX8_writesStreet_15 : decode cX8_writesStreet 15 = .ok (.iconst 2, 1) := by decide +kernel
theorem dX8_writesStreet_16 : decode cX8_writesStreet 16 = .ok (.invokevirtual 47, 3) := by decide +kernel
theorem dX8_writesStreet_19 : decode cX8_writesStreet 19 = .ok (.ifCond .le 18, 3) := by decide +kernel
theorem dX8_writesStreet_22 : decode cX8_writesStreet 22 = .ok (.aload_n 0, 1) := by decide +kernel
theorem dX8_writesStreet_23 : decode cX8_writesStreet 23 = .ok (.bipush 97, 2) := by decide +kernel
theorem dX8_writesStreet_25 : decode cX8_writesStreet 25 = .ok (.aload_n 0, 1) := by decide +kernel
theorem dX8_writesStreet_26 : decode cX8_writesStreet 26 = .ok (.iload_n 1, 1) := by decide +kernel
theorem dX8_writesStreet_27 : decode cX8_writesStreet 27 = .ok (.iconst 2, 1) := by decide +kernel
theorem dX8_writesStreet_28 : decode cX8_writesStreet 28 = .ok (.invokevirtual 47, 3) := by decide +kernel
theorem dX8_writesStreet_31 : decode cX8_writesStreet 31 = .ok (.iadd, 1) := by decide +kernel
theorem dX8_writesStreet_32 : decode cX8_writesStreet 32 = .ok (.iconst 1, 1) := by decide +kernel
theorem dX8_writesStreet_33 : decode cX8_writesStreet 33 = .ok (.isub, 1) := by decide +kernel
theorem dX8_writesStreet_34 : decode cX8_writesStreet 34 = .ok (.invokevirtual 144, 3) := by decide +kernel
theorem dX8_writesStreet_37 : decode cX8_writesStreet 37 = .ok (.aload_n 0, 1) := by decide +kernel
theorem dX8_writesStreet_38 : decode cX8_writesStreet 38 = .ok (.iload_n 1, 1) := by decide +kernel
theorem dX8_writesStreet_39 : decode cX8_writesStreet 39 = .ok (.iconst 3, 1) := by decide +kernel
theorem dX8_writesStreet_40 : decode cX8_writesStreet 40 = .ok (.invokevirtual 47, 3) := by decide +kernel
theorem dX8_writesStreet_43 : decode cX8_writesStreet 43 = .ok (.iconst 1, 1) := by decide +kernel
theorem dX8_writesStreet_44 : decode cX8_writesStreet 44 = .ok (.if_icmp .ne 9, 3) := by decide +kernel
theorem dX8_writesStreet_47 : decode cX8_writesStreet 47 = .ok (.aload_n 0, 1) := by decide +kernel
theorem dX8_writesStreet_48 : decode cX8_writesStreet 48 = .ok (.bipush 33, 2) := by decide +kernel
theorem dX8_writesStreet_50 : decode cX8_writesStreet 50 = .ok (.invokevirtual 144, 3) := by decide +kernel
theorem dX8_writesStreet_53 : decode cX8_writesStreet 53 = .ok (.aload_n 0, 1) := by decide +kernel
theorem dX8_writesStreet_54 : decode cX8_writesStreet 54 = .ok (.iload_n 1, 1) := by decide +kernel
theorem dX8_writesStreet_55 : decode cX8_writesStreet 55 = .ok (.iconst 4, 1) := by decide +kernel
theorem dX8_writesStreet_56 : decode cX8_writesStreet 56 = .ok (.invokevirtual 47, 3) := by decide +kernel
theorem dX8_writesStreet_59 : decode cX8_writesStreet 59 = .ok (.istore_n 2, 1) := by decide +kernel
theorem dX8_writesStreet_60 : decode cX8_writesStreet 60 = .ok (.iload_n 2, 1) := by decide +kernel
theorem dX8_writesStreet_61 : decode cX8_writesStreet 61 = .ok (.ifCond .le 9, 3) := by decide +kernel
theorem dX8_writesStreet_64 : decode cX8_writesStreet 64 = .ok (.aload_n 0, 1) := by decide +kernel
theorem dX8_writesStreet_65 : decode cX8_writesStreet 65 = .ok (.bipush 42, 2) := by decide +kernel
theorem dX8_writesStreet_67 : decode cX8_writesStreet 67 = .ok (.invokevirtual 144, 3) := by decide +kernel
theorem dX8_writesStreet_70 : decode cX8_writesStreet 70 = .ok (.iload_n 2, 1) := by decide +kernel
theorem dX8_writesStreet_71 : decode cX8_writesStreet 71 = .ok (.bipush 9, 2) := by decide +kernel
theorem dX8_writesStreet_73 : decode cX8_writesStreet 73 = .ok (.if_icmp .le 14, 3) := by decide +kernel
theorem dX8_writesStreet_76 : decode cX8_writesStreet 76 = .ok (.aload_n 0, 1) := by decide +kernel
theorem dX8_writesStreet_77 : decode cX8_writesStreet 77 = .ok (.bipush 48, 2) := by decide +kernel
theorem dX8_writesStreet_79 : decode cX8_writesStreet 79 = .ok (.iload_n 2, 1) := by decide +kernel
theorem dX8_writesStreet_80 : decode cX8_writesStreet 80 = .ok (.bipush 10, 2) := by decide +kernel
theorem dX8_writesStreet_82 : decode cX8_writesStreet 82 = .ok (.idiv, 1) := by decide +kernel
theorem dX8_writesStreet_83 : decode cX8_writesStreet 83 = .ok (.iadd, 1) := by decide +kernel
theorem dX8_writesStreet_84 : decode cX8_writesStreet 84 = .ok (.invokevirtual 144, 3) := by decide +kernel
theorem dX8_writesStreet_87 : decode cX8_writesStreet 87 = .ok (.iload_n 2, 1) := by decide +kernel
theorem dX8_writesStreet_88 : decode cX8_writesStreet 88 = .ok (.ifCond .le 14, 3) := by decide +kernel
theorem dX8_writesStreet_91 : decode cX8_writesStreet 91 = .ok (.aload_n 0, 1) := by decide +kernel
theorem dX8_writesStreet_92 : decode cX8_writesStreet 92 = .ok (.bipush 48, 2) := by decide +kernel
theorem dX8_writesStreet_94 : decode cX8_writesStreet 94 = .ok (.iload_n 2, 1) := by decide +kernel
theorem dX8_writesStreet_95 : decode cX8_writesStreet 95 = .ok (.bipush 10, 2) := by decide +kernel
theorem dX8_writesStreet_97 : decode cX8_writesStreet 97 = .ok (.irem, 1) := by decide +kernel
theorem dX8_writesStreet_98 : decode cX8_writesStreet 98 = .ok (.iadd, 1) := by decide +kernel
theorem dX8_writesStreet_99 : decode cX8_writesStreet 99 = .ok (.invokevirtual 144, 3) := by decide +kernel
theorem dX8_writesStreet_102 : decode cX8_writesStreet 102 = .ok (.return_, 1) := by decide +kernel
set_option maxRecDepth 20000 in
theorem ggX8_nextBranch_X8_its : GoodIn wsX8_nextBranch wsX8_its := goodIn_r _ [6, 1, 7, 8, 5, 9, 10, 11, 12, 13, 14, 15, 16, 17, 18, 19, 20, 21, 22, 23] (by decide +kernel) (by decide +kernel)
set_option maxRecDepth 20000 in
theorem gX8_nextBranch_X8_its : GoodIn wsX8_nextBranch (wsV RX8 47 RX8 yX8_its wsX8_its) := goodIn_app (goodIn_of _ (by decide +kernel)) ggX8_nextBranch_X8_its
theorem dX8_nextBranch_0 : decode cX8_nextBranch 0 = .ok (.iload_n 2, 1) := by decide +kernel
theorem dX8_nextBranch_1 : decode cX8_nextBranch 1 = .ok (.iconst 1, 1) := by decide +kernel
theorem dX8_nextBranch_2 : decode cX8_nextBranch 2 = .ok (.iadd, 1) := by decide +kernel
theorem dX8_nextBranch_3 : decode cX8_nextBranch 3 = .ok (.istore_n 3, 1) := by decide +kernel
theorem dX8_nextBranch_4 : decode cX8_nextBranch 4 = .ok (.iload_n 3, 1) := by decide +kernel
theorem dX8_nextBranch_5 : decode cX8_nextBranch 5 = .ok (.aload_n 0, 1) := by decide +kernel
theorem dX8_nextBranch_6 : decode cX8_nextBranch 6 = .ok (.getfield 7, 3) := by decide +kernel
theorem dX8_nextBranch_9 : decode cX8_nextBranch 9 = .ok (.iconst 5, 1) := by decide +kernel
theorem dX8_nextBranch_10 : decode cX8_nextBranch 10 = .ok (.iaload, 1) := by decide +kernel
theorem dX8_nextBranch_11 : decode cX8_nextBranch 11 = .ok (.if_icmp .ge 21, 3) := by decide +kernel
theorem dX8_nextBranch_14 : decode cX8_nextBranch 14 = .ok (.aload_n 0, 1) := by decide +kernel
theorem dX8_nextBranch_15 : decode cX8_nextBranch 15 = .ok (.iload_n 3, 1) := by decide +kernel
theorem dX8_nextBranch_16 : decode cX8_nextBranch 16 = .ok (.iconst 0, 1) := by decide +kernel
theorem dX8_nextBranch_17 : decode cX8_nextBranch 17 = .ok (.invokevirtual 47, 3) := by decide +kernel
theorem dX8_nextBranch_20 : decode cX8_nextBranch 20 = .ok (.iload_n 1, 1) := by decide +kernel
theorem dX8_nextBranch_21 : decode cX8_nextBranch 21 = .ok (.if_icmp .ne 5, 3) := by decide +kernel
theorem dX8_nextBranch_24 : decode cX8_nextBranch 24 = .ok (.iload_n 3, 1) := by decide +kernel
theorem dX8_nextBranch_25 : decode cX8_nextBranch 25 = .ok (.ireturn, 1) := by decide +kernel
theorem dX8_nextBranch_26 : decode cX8_nextBranch 26 = .ok (.iinc 3 1, 3) := by decide +kernel
theorem dX8_nextBranch_29 : decode cX8_nextBranch 29 = .ok (.goto (-25), 3) := by decide +kernel
theorem dX8_nextBranch_32 : decode cX8_nextBranch 32 = .ok (.bipush (-6), 2) := by decide +kernel
theorem dX8_nextBranch_34 : decode cX8_nextBranch 34 = .ok (.ireturn, 1) := by decide +kernel
set_option maxRecDepth 20000 in
theorem ggX8_goesUp_X8_its : GoodIn wsX8_goesUp wsX8_its := goodIn_r _ [5, 6, 7, 8, 4, 9, 20, 21, 22, 23, 24, 25, 26, 27, 28, 29, 30, 31, 32, 33] (by decide +kernel) (by decide +kernel)
set_option maxRecDepth 20000 in
theorem gX8_goesUp_X8_its : GoodIn wsX8_goesUp (wsV RX8 47 RX8 yX8_its wsX8_its) := goodIn_app (goodIn_of _ (by decide +kernel)) ggX8_goesUp_X8_its
set_option maxRecDepth 20000 in
theorem ggX8_goesUp_X8_nextBranch : GoodIn wsX8_goesUp wsX8_nextBranch := goodIn_r _ [13, 6, 1, 2, 3, 4, 5, 7, 8, 9, 20, 21, 22, 23, 24, 25, 26, 27, 28, 29, 30, 31, 32, 33] (by decide +kernel) (by decide +kernel)
set_option maxRecDepth 20000 in
theorem gX8_goesUp_X8_nextBranch : GoodIn wsX8_goesUp (wsV RX8 147 RX8 yX8_nextBranch wsX8_nextBranch) := goodIn_app (goodIn_of _ (by decide +kernel)) ggX8_goesUp_X8_nextBranch
set_option maxRecDepth 20000 in
theorem ggX8_goesUp_X8_writes : GoodIn wsX8_goesUp wsX8_writes := goodIn_r _ [17, 18, 19, 20, 21, 22, 23, 24, 25, 26, 27, 28, 29, 30, 31, 32, 33] (by decide +kernel) (by decide +kernel)
set_option maxRecDepth 20000 in
theorem gX8_goesUp_X8_writes : GoodIn wsX8_goesUp (wsV RX8 144 RX8 yX8_writes wsX8_writes) := goodIn_app (goodIn_of _ (by decide +kernel)) ggX8_goesUp_X8_writes
theorem dX8_goesUp_0 : decode cX8_goesUp 0 = .ok (.iload_n 1, 1) := by decide +kernel
theorem dX8_goesUp_1 : decode cX8_goesUp 1 = .ok (.istore_n 2, 1) := by decide +kernel
theorem dX8_goesUp_2 : decode cX8_goesUp 2 = .ok (.iload_n 2, 1) := by decide +kernel
theorem dX8_goesUp_3 : decode cX8_goesUp 3 = .ok (.ifCond .le 45, 3) := by decide +kernel
theorem dX8_goesUp_6 : decode cX8_goesUp 6 = .ok (.aload_n 0, 1) := by decide +kernel
theorem dX8_goesUp_7 : decode cX8_goesUp 7 = .ok (.aload_n 0, 1) := by decide +kernel
theorem dX8_goesUp_8 : decode cX8_goesUp 8 = .ok (.iload_n 2, 1) := by decide +kernel
theorem dX8_goesUp_9 : decode cX8_goesUp 9 = .ok (.iconst 0, 1) := by decide +kernel
theorem dX8_goesUp_10 : decode cX8_goesUp 10 = .ok (.invokevirtual 47, 3) := by decide +kernel
theorem dX8_goesUp_13 : decode cX8_goesUp 13 = .ok (.iload_n 2, 1) := by decide +kernel
theorem dX8_goesUp_14 : decode cX8_goesUp 14 = .ok (.invokevirtual 147, 3) := by decide +kernel
theorem dX8_goesUp_17 : decode cX8_goesUp 17 = .ok (.istore_n 3, 1) := by decide +kernel
theorem dX8_goesUp_18 : decode cX8_goesUp 18 = .ok (.iload_n 3, 1) := by decide +kernel
theorem dX8_goesUp_19 : decode cX8_goesUp 19 = .ok (.bipush (-6), 2) := by decide +kernel
theorem dX8_goesUp_21 : decode cX8_goesUp 21 = .ok (.if_icmp .eq 11, 3) := by decide +kernel
theorem dX8_goesUp_24 : decode cX8_goesUp 24 = .ok (.aload_n 0, 1) := by decide +kernel
theorem dX8_goesUp_25 : decode cX8_goesUp 25 = .ok (.bipush 44, 2) := by decide +kernel
theorem dX8_goesUp_27 : decode cX8_goesUp 27 = .ok (.invokevirtual 144, 3) := by decide +kernel
theorem dX8_goesUp_30 : decode cX8_goesUp 30 = .ok (.iload_n 3, 1) := by decide +kernel
theorem dX8_goesUp_31 : decode cX8_goesUp 31 = .ok (.ireturn, 1) := by decide +kernel
theorem dX8_goesUp_32 : decode cX8_goesUp 32 = .ok (.aload_n 0, 1) := by decide +kernel
theorem dX8_goesUp_33 : decode cX8_goesUp 33 = .ok (.bipush 41, 2) := by decide +kernel
theorem dX8_goesUp_35 : decode cX8_goesUp 35 = .ok (.invokevirtual 144, 3) := by decide +kernel
theorem dX8_goesUp_38 : decode cX8_goesUp 38 = .ok (.aload_n 0, 1) := by decide +kernel
theorem dX8_goesUp_39 : decode cX8_goesUp 39 = .ok (.iload_n 2, 1) := by decide +kernel
theorem dX8_goesUp_40 : decode cX8_goesUp 40 = .ok (.iconst 0, 1) := by decide +kernel
theorem dX8_goesUp_41 : decode cX8_goesUp 41 = .ok (.invokevirtual 47, 3) := by decide +kernel
theorem dX8_goesUp_44 : decode cX8_goesUp 44 = .ok (.istore_n 2, 1) := by decide +kernel
theorem dX8_goesUp_45 : decode cX8_goesUp 45 = .ok (.goto (-43), 3) := by decide +kernel
theorem dX8_goesUp_48 : decode cX8_goesUp 48 = .ok (.iconst (-1), 1) := by decide +kernel
theorem dX8_goesUp_49 : decode cX8_goesUp 49 = .ok (.ireturn, 1) := by decide +kernel
set_option maxRecDepth 20000 in
theorem ggX8_write_X8_writesStreet : GoodIn wsX8_write wsX8_writesStreet := goodIn_r _ [9, 10, 11, 12, 8, 13, 14, 15, 16, 17, 18, 19, 20, 21, 3, 1, 30, 31, 32, 33, 34, 35, 36, 37, 38, 39, 40, 41, 42, 43] (by decide +kernel) (by decide +kernel)
set_option maxRecDepth 20000 in
theorem gX8_write_X8_writesStreet : GoodIn wsX8_write (wsV RX8 150 RX8 yX8_writesStreet wsX8_writesStreet) := goodIn_app (goodIn_of _ (by decide +kernel)) ggX8_write_X8_writesStreet
set_option maxRecDepth 20000 in
theorem ggX8_write_X8_nextBranch : GoodIn wsX8_write wsX8_nextBranch := goodIn_r _ [25, 14, 10, 11, 12, 8, 13, 15, 16, 17, 30, 31, 32, 33, 34, 35, 36, 37, 38, 39, 40, 41, 42, 43] (by decide +kernel) (by decide +kernel)
set_option maxRecDepth 20000 in
theorem gX8_write_X8_nextBranch : GoodIn wsX8_write (wsV RX8 147 RX8 yX8_nextBranch wsX8_nextBranch) := goodIn_app (goodIn_of _ (by decide +kernel)) ggX8_write_X8_nextBranch
set_option maxRecDepth 20000 in
theorem ggX8_write_X8_writes : GoodIn wsX8_write wsX8_writes := goodIn_r _ [21, 3, 1, 30, 31, 32, 33, 34, 35, 36, 37, 38, 39, 40, 41, 42, 43] (by decide +kernel) (by decide +kernel)
set_option maxRecDepth 20000 in
theorem gX8_write_X8_writes : GoodIn wsX8_write (wsV RX8 144 RX8 yX8_writes wsX8_writes) := goodIn_app (goodIn_of _ (by decide +kernel)) ggX8_write_X8_writes
set_option maxRecDepth 20000 in
theorem ggX8_write_X8_goesUp : GoodIn wsX8_write wsX8_goesUp := goodIn_r _ [29, 10, 11, 12, 8, 13, 14, 15, 16, 17, 22, 23, 24, 25, 18, 19, 20, 21, 3, 1, 30, 31, 32, 33, 34, 35, 36, 37, 38, 39, 40, 41, 42, 43] (by decide +kernel) (by decide +kernel)
set_option maxRecDepth 20000 in
theorem gX8_write_X8_goesUp : GoodIn wsX8_write (wsV RX8 153 RX8 yX8_goesUp wsX8_goesUp) := goodIn_app (goodIn_of _ (by decide +kernel)) ggX8_write_X8_goesUp
theorem dX8_write_0 : decode cX8_write 0 = .ok (.aload_n 0, 1) := by decide +kernel
theorem dX8_write_1 : decode cX8_write 1 = .ok (.iconst 0, 1) := by decide +kernel
theorem dX8_write_2 : decode cX8_write 2 = .ok (.putfield 141, 3) := by decide +kernel
theorem dX8_write_5 : decode cX8_write 5 = .ok (.iconst 0, 1) := by decide +kernel
theorem dX8_write_6 : decode cX8_write 6 = .ok (.istore_n 1, 1) := by decide +kernel
theorem dX8_write_7 : decode cX8_write 7 = .ok (.iload_n 1, 1) := by decide +kernel
theorem dX8_write_8 : decode cX8_write 8 = .ok (.ifCond .lt 46, 3) := by decide +kernel
theorem dX8_write_11 : decode cX8_write 11 = .ok (.aload_n 0, 1) := by decide +kernel
theorem dX8_write_12 : decode cX8_write 12 = .ok (.iload_n 1, 1) := by decide +kernel
theorem dX8_write_13 : decode cX8_write 13 = .ok (.invokevirtual 150, 3) := by decide +kernel
theorem dX8_write_16 : decode cX8_write 16 = .ok (.aload_n 0, 1) := by decide +kernel
theorem dX8_write_17 : decode cX8_write 17 = .ok (.iload_n 1, 1) := by decide +kernel
theorem dX8_write_18 : decode cX8_write 18 = .ok (.iload_n 1, 1) := by decide +kernel
theorem dX8_write_19 : decode cX8_write 19 = .ok (.invokevirtual 147, 3) := by decide +kernel
theorem dX8_write_22 : decode cX8_write 22 = .ok (.istore_n 2, 1) := by decide +kernel
theorem dX8_write_23 : decode cX8_write 23 = .ok (.iload_n 2, 1) := by decide +kernel
theorem dX8_write_24 : decode cX8_write 24 = .ok (.bipush (-6), 2) := by decide +kernel
theorem dX8_write_26 : decode cX8_write 26 = .ok (.if_icmp .eq 9, 3) := by decide +kernel
theorem dX8_write_29 : decode cX8_write 29 = .ok (.aload_n 0, 1) := by decide +kernel
theorem dX8_write_30 : decode cX8_write 30 = .ok (.bipush 40, 2) := by decide +kernel
theorem dX8_write_32 : decode cX8_write 32 = .ok (.invokevirtual 144, 3) := by decide +kernel
theorem dX8_write_35 : decode cX8_write 35 = .ok (.iload_n 2, 1) := by decide +kernel
theorem dX8_write_36 : decode cX8_write 36 = .ok (.bipush (-6), 2) := by decide +kernel
theorem dX8_write_38 : decode cX8_write 38 = .ok (.if_icmp .eq 7, 3) := by decide +kernel
theorem dX8_write_41 : decode cX8_write 41 = .ok (.iload_n 2, 1) := by decide +kernel
theorem dX8_write_42 : decode cX8_write 42 = .ok (.goto 8, 3) := by decide +kernel
theorem dX8_write_45 : decode cX8_write 45 = .ok (.aload_n 0, 1) := by decide +kernel
theorem dX8_write_46 : decode cX8_write 46 = .ok (.iload_n 1, 1) := by decide +kernel
theorem dX8_write_47 : decode cX8_write 47 = .ok (.invokevirtual 153, 3) := by decide +kernel
theorem dX8_write_50 : decode cX8_write 50 = .ok (.istore_n 1, 1) := by decide +kernel
theorem dX8_write_51 : decode cX8_write 51 = .ok (.goto (-44), 3) := by decide +kernel
theorem dX8_write_54 : decode cX8_write 54 = .ok (.aload_n 0, 1) := by decide +kernel
theorem dX8_write_55 : decode cX8_write 55 = .ok (.getfield 141, 3) := by decide +kernel
theorem dX8_write_58 : decode cX8_write 58 = .ok (.bipush 80, 2) := by decide +kernel
theorem dX8_write_60 : decode cX8_write 60 = .ok (.if_icmp .le 6, 3) := by decide +kernel
theorem dX8_write_63 : decode cX8_write 63 = .ok (.bipush (-4), 2) := by decide +kernel
theorem dX8_write_65 : decode cX8_write 65 = .ok (.ireturn, 1) := by decide +kernel
theorem dX8_write_66 : decode cX8_write 66 = .ok (.iconst 0, 1) := by decide +kernel
theorem dX8_write_67 : decode cX8_write 67 = .ok (.istore_n 2, 1) := by decide +kernel
theorem dX8_write_68 : decode cX8_write 68 = .ok (.iload_n 2, 1) := by decide +kernel
theorem dX8_write_69 : decode cX8_write 69 = .ok (.aload_n 0, 1) := by decide +kernel
theorem dX8_write_70 : decode cX8_write 70 = .ok (.getfield 141, 3) := by decide +kernel
theorem dX8_write_73 : decode cX8_write 73 = .ok (.if_icmp .ge 21, 3) := by decide +kernel
theorem dX8_write_76 : decode cX8_write 76 = .ok (.aload_n 0, 1) := by decide +kernel
theorem dX8_write_77 : decode cX8_write 77 = .ok (.getfield 23, 3) := by decide +kernel
theorem dX8_write_80 : decode cX8_write 80 = .ok (.iload_n 2, 1) := by decide +kernel
theorem dX8_write_81 : decode cX8_write 81 = .ok (.aload_n 0, 1) := by decide +kernel
theorem dX8_write_82 : decode cX8_write 82 = .ok (.getfield 32, 3) := by decide +kernel
theorem dX8_write_85 : decode cX8_write 85 = .ok (.iload_n 2, 1) := by decide +kernel
theorem dX8_write_86 : decode cX8_write 86 = .ok (.iaload, 1) := by decide +kernel
theorem dX8_write_87 : decode cX8_write 87 = .ok (.iastore, 1) := by decide +kernel
theorem dX8_write_88 : decode cX8_write 88 = .ok (.iinc 2 1, 3) := by decide +kernel
theorem dX8_write_91 : decode cX8_write 91 = .ok (.goto (-23), 3) := by decide +kernel
theorem dX8_write_94 : decode cX8_write 94 = .ok (.aload_n 0, 1) := by decide +kernel
theorem dX8_write_95 : decode cX8_write 95 = .ok (.aload_n 0, 1) := by decide +kernel
theorem dX8_write_96 : decode cX8_write 96 = .ok (.getfield 141, 3) := by decide +kernel
theorem dX8_write_99 : decode cX8_write 99 = .ok (.putfield 106, 3) := by decide +kernel
theorem dX8_write_102 : decode cX8_write 102 = .ok (.aload_n 0, 1) := by decide +kernel
theorem dX8_write_103 : decode cX8_write 103 = .ok (.getfield 106, 3) := by decide +kernel
theorem dX8_write_106 : decode cX8_write 106 = .ok (.ireturn, 1) := by decide +kernel
theorem dX8_undo_0 : decode cX8_undo 0 = .ok (.aload_n 0, 1) := by decide +kernel
theorem dX8_undo_1 : decode cX8_undo 1 = .ok (.getfield 43, 3) := by decide +kernel
theorem dX8_undo_4 : decode cX8_undo 4 = .ok (.ifCond .ne 6, 3) := by decide +kernel
theorem dX8_undo_7 : decode cX8_undo 7 = .ok (.bipush (-5), 2) := by decide +kernel
theorem dX8_undo_9 : decode cX8_undo 9 = .ok (.ireturn, 1) := by decide +kernel
theorem dX8_undo_10 : decode cX8_undo 10 = .ok (.aload_n 0, 1) := by decide +kernel
theorem dX8_undo_11 : decode cX8_undo 11 = .ok (.dup, 1) := by decide +kernel
theorem dX8_undo_12 : decode cX8_undo 12 = .ok (.getfield 43, 3) := by decide +kernel
theorem dX8_undo_15 : decode cX8_undo 15 = .ok (.iconst 1, 1) := by decide +kernel
theorem dX8_undo_16 : decode cX8_undo 16 = .ok (.isub, 1) := by decide +kernel
theorem dX8_undo_17 : decode cX8_undo 17 = .ok (.putfield 43, 3) := by decide +kernel
theorem dX8_undo_20 : decode cX8_undo 20 = .ok (.iconst 0, 1) := by decide +kernel
theorem dX8_undo_21 : decode cX8_undo 21 = .ok (.istore_n 1, 1) := by decide +kernel
theorem dX8_undo_22 : decode cX8_undo 22 = .ok (.iload_n 1, 1) := by decide +kernel
theorem dX8_undo_23 : decode cX8_undo 23 = .ok (.sipush 133, 3) := by decide +kernel
theorem dX8_undo_26 : decode cX8_undo 26 = .ok (.if_icmp .ge 30, 3) := by decide +kernel
theorem dX8_undo_29 : decode cX8_undo 29 = .ok (.aload_n 0, 1) := by decide +kernel
theorem dX8_undo_30 : decode cX8_undo 30 = .ok (.getfield 7, 3) := by decide +kernel
theorem dX8_undo_33 : decode cX8_undo 33 = .ok (.iload_n 1, 1) := by decide +kernel
theorem dX8_undo_34 : decode cX8_undo 34 = .ok (.aload_n 0, 1) := by decide +kernel
theorem dX8_undo_35 : decode cX8_undo 35 = .ok (.getfield 13, 3) := by decide +kernel
theorem dX8_undo_38 : decode cX8_undo 38 = .ok (.sipush 133, 3) := by decide +kernel
theorem dX8_undo_41 : decode cX8_undo 41 = .ok (.aload_n 0, 1) := by decide +kernel
theorem dX8_undo_42 : decode cX8_undo 42 = .ok (.getfield 43, 3) := by decide +kernel
theorem dX8_undo_45 : decode cX8_undo 45 = .ok (.imul, 1) := by decide +kernel
theorem dX8_undo_46 : decode cX8_undo 46 = .ok (.iload_n 1, 1) := by decide +kernel
theorem dX8_undo_47 : decode cX8_undo 47 = .ok (.iadd, 1) := by decide +kernel
theorem dX8_undo_48 : decode cX8_undo 48 = .ok (.iaload, 1) := by decide +kernel
theorem dX8_undo_49 : decode cX8_undo 49 = .ok (.iastore, 1) := by decide +kernel
theorem dX8_undo_50 : decode cX8_undo 50 = .ok (.iinc 1 1, 3) := by decide +kernel
theorem dX8_undo_53 : decode cX8_undo 53 = .ok (.goto (-31), 3) := by decide +kernel
theorem dX8_undo_56 : decode cX8_undo 56 = .ok (.aload_n 0, 1) := by decide +kernel
theorem dX8_undo_57 : decode cX8_undo 57 = .ok (.getfield 43, 3) := by decide +kernel
theorem dX8_undo_60 : decode cX8_undo 60 = .ok (.ireturn, 1) := by decide +kernel
set_option maxRecDepth 20000 in
theorem ggX8_save_X8_in : GoodIn wsX8_save wsX8_in := goodIn_r _ [7] (by decide +kernel) (by decide +kernel)
set_option maxRecDepth 20000 in
theorem gX8_save_X8_in : GoodIn wsX8_save (va_wsS RX8 39 yX8_in wsX8_in) := goodIn_app (goodIn_of _ (by decide +kernel)) ggX8_save_X8_in
theorem dX8_save_0 : decode cX8_save 0 = .ok (.iload_n 1, 1) := by decide +kernel
theorem dX8_save_1 : decode cX8_save 1 = .ok (.iconst 0, 1) := by decide +kernel
theorem dX8_save_2 : decode cX8_save 2 = .ok (.iconst 1, 1) := by decide +kernel
theorem dX8_save_3 : decode cX8_save 3 = .ok (.invokestatic 39, 3) := by decide +kernel
theorem dX8_save_6 : decode cX8_save 6 = .ok (.ifCond .ne 6, 3) := by decide +kernel
theorem dX8_save_9 : decode cX8_save 9 = .ok (.bipush (-2), 2) := by decide +kernel
theorem dX8_save_11 : decode cX8_save 11 = .ok (.ireturn, 1) := by decide +kernel
theorem dX8_save_12 : decode cX8_save 12 = .ok (.iconst 0, 1) := by decide +kernel
theorem dX8_save_13 : decode cX8_save 13 = .ok (.istore_n 2, 1) := by decide +kernel
theorem dX8_save_14 : decode cX8_save 14 = .ok (.iload_n 2, 1) := by decide +kernel
theorem dX8_save_15 : decode cX8_save 15 = .ok (.sipush 133, 3) := by decide +kernel
theorem dX8_save_18 : decode cX8_save 18 = .ok (.if_icmp .ge 27, 3) := by decide +kernel
theorem dX8_save_21 : decode cX8_save 21 = .ok (.aload_n 0, 1) := by decide +kernel
theorem dX8_save_22 : decode cX8_save 22 = .ok (.getfield 16, 3) := by decide +kernel
theorem dX8_save_25 : decode cX8_save 25 = .ok (.sipush 133, 3) := by decide +kernel
theorem dX8_save_28 : decode cX8_save 28 = .ok (.iload_n 1, 1) := by decide +kernel
theorem dX8_save_29 : decode cX8_save 29 = .ok (.imul, 1) := by decide +kernel
theorem dX8_save_30 : decode cX8_save 30 = .ok (.iload_n 2, 1) := by decide +kernel
theorem dX8_save_31 : decode cX8_save 31 = .ok (.iadd, 1) := by decide +kernel
theorem dX8_save_32 : decode cX8_save 32 = .ok (.aload_n 0, 1) := by decide +kernel
theorem dX8_save_33 : decode cX8_save 33 = .ok (.getfield 7, 3) := by decide +kernel
theorem dX8_save_36 : decode cX8_save 36 = .ok (.iload_n 2, 1) := by decide +kernel
theorem dX8_save_37 : decode cX8_save 37 = .ok (.iaload, 1) := by decide +kernel
theorem dX8_save_38 : decode cX8_save 38 = .ok (.iastore, 1) := by decide +kernel
theorem dX8_save_39 : decode cX8_save 39 = .ok (.iinc 2 1, 3) := by decide +kernel
theorem dX8_save_42 : decode cX8_save 42 = .ok (.goto (-28), 3) := by decide +kernel
theorem dX8_save_45 : decode cX8_save 45 = .ok (.aload_n 0, 1) := by decide +kernel
theorem dX8_save_46 : decode cX8_save 46 = .ok (.getfield 19, 3) := by decide +kernel
theorem dX8_save_49 : decode cX8_save 49 = .ok (.iload_n 1, 1) := by decide +kernel
theorem dX8_save_50 : decode cX8_save 50 = .ok (.iconst 1, 1) := by decide +kernel
theorem dX8_save_51 : decode cX8_save 51 = .ok (.bastore, 1) := by decide +kernel
theorem dX8_save_52 : decode cX8_save 52 = .ok (.aload_n 0, 1) := by decide +kernel
theorem dX8_save_53 : decode cX8_save 53 = .ok (.getfield 7, 3) := by decide +kernel
theorem dX8_save_56 : decode cX8_save 56 = .ok (.iconst 5, 1) := by decide +kernel
theorem dX8_save_57 : decode cX8_save 57 = .ok (.iaload, 1) := by decide +kernel
theorem dX8_save_58 : decode cX8_save 58 = .ok (.ireturn, 1) := by decide +kernel
set_option maxRecDepth 20000 in
theorem ggX8_restore_X8_in : GoodIn wsX8_restore wsX8_in := goodIn_r _ [7] (by decide +kernel) (by decide +kernel)
set_option maxRecDepth 20000 in
theorem gX8_restore_X8_in : GoodIn wsX8_restore (va_wsS RX8 39 yX8_in wsX8_in) := goodIn_app (goodIn_of _ (by decide +kernel)) ggX8_restore_X8_in
set_option maxRecDepth 20000 in
theorem ggX8_restore_X8_remembers : GoodIn wsX8_restore wsX8_remembers := goodIn_r _ [11, 12, 13, 2, 14, 15, 16, 17, 18, 19, 20, 21, 22, 23, 24, 25, 26, 27] (by decide +kernel) (by decide +kernel)
set_option maxRecDepth 20000 in
theorem gX8_restore_X8_remembers : GoodIn wsX8_restore (wsV RX8 70 RX8 yX8_remembers wsX8_remembers) := goodIn_app (goodIn_of _ (by decide +kernel)) ggX8_restore_X8_remembers
theorem dX8_restore_0 : decode cX8_restore 0 = .ok (.iload_n 1, 1) := by decide +kernel
theorem dX8_restore_1 : decode cX8_restore 1 = .ok (.iconst 0, 1) := by decide +kernel
theorem dX8_restore_2 : decode cX8_restore 2 = .ok (.iconst 1, 1) := by decide +kernel
theorem dX8_restore_3 : decode cX8_restore 3 = .ok (.invokestatic 39, 3) := by decide +kernel
theorem dX8_restore_6 : decode cX8_restore 6 = .ok (.ifCond .ne 6, 3) := by decide +kernel
theorem dX8_restore_9 : decode cX8_restore 9 = .ok (.bipush (-2), 2) := by decide +kernel
theorem dX8_restore_11 : decode cX8_restore 11 = .ok (.ireturn, 1) := by decide +kernel
theorem dX8_restore_12 : decode cX8_restore 12 = .ok (.aload_n 0, 1) := by decide +kernel
theorem dX8_restore_13 : decode cX8_restore 13 = .ok (.getfield 19, 3) := by decide +kernel
theorem dX8_restore_16 : decode cX8_restore 16 = .ok (.iload_n 1, 1) := by decide +kernel
theorem dX8_restore_17 : decode cX8_restore 17 = .ok (.baload, 1) := by decide +kernel
theorem dX8_restore_18 : decode cX8_restore 18 = .ok (.ifCond .ne 6, 3) := by decide +kernel
theorem dX8_restore_21 : decode cX8_restore 21 = .ok (.bipush (-5), 2) := by decide +kernel
theorem dX8_restore_23 : decode cX8_restore 23 = .ok (.ireturn, 1) := by decide +kernel
theorem dX8_restore_24 : decode cX8_restore 24 = .ok (.aload_n 0, 1) := by decide +kernel
theorem dX8_restore_25 : decode cX8_restore 25 = .ok (.invokevirtual 70, 3) := by decide +kernel
theorem dX8_restore_28 : decode cX8_restore 28 = .ok (.iconst 0, 1) := by decide +kernel
theorem dX8_restore_29 : decode cX8_restore 29 = .ok (.istore_n 2, 1) := by decide +kernel
theorem dX8_restore_30 : decode cX8_restore 30 = .ok (.iload_n 2, 1) := by decide +kernel
theorem dX8_restore_31 : decode cX8_restore 31 = .ok (.sipush 133, 3) := by decide +kernel
theorem dX8_restore_34 : decode cX8_restore 34 = .ok (.if_icmp .ge 27, 3) := by decide +kernel
theorem dX8_restore_37 : decode cX8_restore 37 = .ok (.aload_n 0, 1) := by decide +kernel
theorem dX8_restore_38 : decode cX8_restore 38 = .ok (.getfield 7, 3) := by decide +kernel
theorem dX8_restore_41 : decode cX8_restore 41 = .ok (.iload_n 2, 1) := by decide +kernel
theorem dX8_restore_42 : decode cX8_restore 42 = .ok (.aload_n 0, 1) := by decide +kernel
theorem dX8_restore_43 : decode cX8_restore 43 = .ok (.getfield 16, 3) := by decide +kernel
theorem dX8_restore_46 : decode cX8_restore 46 = .ok (.sipush 133, 3) := by decide +kernel
theorem dX8_restore_49 : decode cX8_restore 49 = .ok (.iload_n 1, 1) := by decide +kernel
theorem dX8_restore_50 : decode cX8_restore 50 = .ok (.imul, 1) := by decide +kernel
theorem dX8_restore_51 : decode cX8_restore 51 = .ok (.iload_n 2, 1) := by decide +kernel
theorem dX8_restore_52 : decode cX8_restore 52 = .ok (.iadd, 1) := by decide +kernel
theorem dX8_restore_53 : decode cX8_restore 53 = .ok (.iaload, 1) := by decide +kernel
theorem dX8_restore_54 : decode cX8_restore 54 = .ok (.iastore, 1) := by decide +kernel
theorem dX8_restore_55 : decode cX8_restore 55 = .ok (.iinc 2 1, 3) := by decide +kernel
theorem dX8_restore_58 : decode cX8_restore 58 = .ok (.goto (-28), 3) := by decide +kernel
theorem dX8_restore_61 : decode cX8_restore 61 = .ok (.aload_n 0, 1) := by decide +kernel
theorem dX8_restore_62 : decode cX8_restore 62 = .ok (.getfield 7, 3) := by decide +kernel
theorem dX8_restore_65 : decode cX8_restore 65 = .ok (.iconst 5, 1) := by decide +kernel
theorem dX8_restore_66 : decode cX8_restore 66 = .ok (.iaload, 1) := by decide +kernel
theorem dX8_restore_67 : decode cX8_restore 67 = .ok (.ireturn, 1) := by decide +kernel
end
section
theorem dJ6_bitCount_0f7a4_0 : decode cJ6_bitCount_0f7a4 0 = .ok (.iload_n 0, 1) := by decide +kernel
theorem dJ6_bitCount_0f7a4_1 : decode cJ6_bitCount_0f7a4 1 = .ok (.iload_n 0, 1) := by decide +kernel
theorem dJ6_bitCount_0f7a4_2 : decode cJ6_bitCount_0f7a4 2 = .ok (.iconst 1, 1) := by decide +kernel
theorem dJ6_bitCount_0f7a4_3 : decode cJ6_bitCount_0f7a4 3 = .ok (.iushr, 1) := by decide +kernel
theorem dJ6_bitCount_0f7a4_4 : decode cJ6_bitCount_0f7a4 4 = .ok (.ldc_w 265, 3) := by decide +kernel
theorem dJ6_bitCount_0f7a4_7 : decode cJ6_bitCount_0f7a4 7 = .ok (.iand, 1) := by decide +kernel
theorem dJ6_bitCount_0f7a4_8 : decode cJ6_bitCount_0f7a4 8 = .ok (.isub, 1) := by decide +kernel
theorem dJ6_bitCount_0f7a4_9 : decode cJ6_bitCount_0f7a4 9 = .ok (.istore_n 0, 1) := by decide +kernel
theorem dJ6_bitCount_0f7a4_10 : decode cJ6_bitCount_0f7a4 10 = .ok (.iload_n 0, 1) := by decide +kernel
theorem dJ6_bitCount_0f7a4_11 : decode cJ6_bitCount_0f7a4 11 = .ok (.ldc_w 266, 3) := by decide +kernel
theorem dJ6_bitCount_0f7a4_14 : decode cJ6_bitCount_0f7a4 14 = .ok (.iand, 1) := by decide +kernel
theorem dJ6_bitCount_0f7a4_15 : decode cJ6_bitCount_0f7a4 15 = .ok (.iload_n 0, 1) := by decide +kernel
theorem dJ6_bitCount_0f7a4_16 : decode cJ6_bitCount_0f7a4 16 = .ok (.iconst 2, 1) := by decide +kernel
theorem dJ6_bitCount_0f7a4_17 : decode cJ6_bitCount_0f7a4 17 = .ok (.iushr, 1) := by decide +kernel
theorem dJ6_bitCount_0f7a4_18 : decode cJ6_bitCount_0f7a4 18 = .ok (.ldc_w 266, 3) := by decide +kernel
theorem dJ6_bitCount_0f7a4_21 : decode cJ6_bitCount_0f7a4 21 = .ok (.iand, 1) := by decide +kernel
theorem dJ6_bitCount_0f7a4_22 : decode cJ6_bitCount_0f7a4 22 = .ok (.iadd, 1) := by decide +kernel
theorem dJ6_bitCount_0f7a4_23 : decode cJ6_bitCount_0f7a4 23 = .ok (.istore_n 0, 1) := by decide +kernel
theorem dJ6_bitCount_0f7a4_24 : decode cJ6_bitCount_0f7a4 24 = .ok (.iload_n 0, 1) := by decide +kernel
theorem dJ6_bitCount_0f7a4_25 : decode cJ6_bitCount_0f7a4 25 = .ok (.iload_n 0, 1) := by decide +kernel
theorem dJ6_bitCount_0f7a4_26 : decode cJ6_bitCount_0f7a4 26 = .ok (.iconst 4, 1) := by decide +kernel
theorem dJ6_bitCount_0f7a4_27 : decode cJ6_bitCount_0f7a4 27 = .ok (.iushr, 1) := by decide +kernel
theorem dJ6_bitCount_0f7a4_28 : decode cJ6_bitCount_0f7a4 28 = .ok (.iadd, 1) := by decide +kernel
theorem dJ6_bitCount_0f7a4_29 : decode cJ6_bitCount_0f7a4 29 = .ok (.ldc_w 267, 3) := by decide +kernel
theorem dJ6_bitCount_0f7a4_32 : decode cJ6_bitCount_0f7a4 32 = .ok (.iand, 1) := by decide +kernel
theorem dJ6_bitCount_0f7a4_33 : decode cJ6_bitCount_0f7a4 33 = .ok (.istore_n 0, 1) := by decide +kernel
theorem dJ6_bitCount_0f7a4_34 : decode cJ6_bitCount_0f7a4 34 = .ok (.iload_n 0, 1) := by decide +kernel
theorem dJ6_bitCount_0f7a4_35 : decode cJ6_bitCount_0f7a4 35 = .ok (.iload_n 0, 1) := by decide +kernel
theorem dJ6_bitCount_0f7a4_36 : decode cJ6_bitCount_0f7a4 36 = .ok (.bipush 8, 2) := by decide +kernel
theorem dJ6_bitCount_0f7a4_38 : decode cJ6_bitCount_0f7a4 38 = .ok (.iushr, 1) := by decide +kernel
theorem dJ6_bitCount_0f7a4_39 : decode cJ6_bitCount_0f7a4 39 = .ok (.iadd, 1) := by decide +kernel
theorem dJ6_bitCount_0f7a4_40 : decode cJ6_bitCount_0f7a4 40 = .ok (.istore_n 0, 1) := by decide +kernel
theorem dJ6_bitCount_0f7a4_41 : decode cJ6_bitCount_0f7a4 41 = .ok (.iload_n 0, 1) := by decide +kernel
theorem dJ6_bitCount_0f7a4_42 : decode cJ6_bitCount_0f7a4 42 = .ok (.iload_n 0, 1) := by decide +kernel
theorem dJ6_bitCount_0f7a4_43 : decode cJ6_bitCount_0f7a4 43 = .ok (.bipush 16, 2) := by decide +kernel
theorem dJ6_bitCount_0f7a4_45 : decode cJ6_bitCount_0f7a4 45 = .ok (.iushr, 1) := by decide +kernel
theorem dJ6_bitCount_0f7a4_46 : decode cJ6_bitCount_0f7a4 46 = .ok (.iadd, 1) := by decide +kernel
theorem dJ6_bitCount_0f7a4_47 : decode cJ6_bitCount_0f7a4 47 = .ok (.istore_n 0, 1) := by decide +kernel
theorem dJ6_bitCount_0f7a4_48 : decode cJ6_bitCount_0f7a4 48 = .ok (.iload_n 0, 1) := by decide +kernel
theorem dJ6_bitCount_0f7a4_49 : decode cJ6_bitCount_0f7a4 49 = .ok (.bipush 63, 2) := by decide +kernel
theorem dJ6_bitCount_0f7a4_51 : decode cJ6_bitCount_0f7a4 51 = .ok (.iand, 1) := by decide +kernel
theorem dJ6_bitCount_0f7a4_52 : decode cJ6_bitCount_0f7a4 52 = .ok (.ireturn, 1) := by decide +kernel
theorem dJ9_min_7cf53_0 : decode cJ9_min_7cf53 0 = .ok (.iload_n 0, 1) := by decide +kernel
theorem dJ9_min_7cf53_1 : decode cJ9_min_7cf53 1 = .ok (.iload_n 1, 1) := by decide +kernel
theorem dJ9_min_7cf53_2 : decode cJ9_min_7cf53 2 = .ok (.if_icmp .gt 7, 3) := by decide +kernel
theorem dJ9_min_7cf53_5 : decode cJ9_min_7cf53 5 = .ok (.iload_n 0, 1) := by decide +kernel
theorem dJ9_min_7cf53_6 : decode cJ9_min_7cf53 6 = .ok (.goto 4, 3) := by decide +kernel
theorem dJ9_min_7cf53_9 : decode cJ9_min_7cf53 9 = .ok (.iload_n 1, 1) := by decide +kernel
theorem dJ9_min_7cf53_10 : decode cJ9_min_7cf53 10 = .ok (.ireturn, 1) := by decide +kernel
set_option maxRecDepth 20000 in
theorem ggL_law_X7_init : GoodIn wsL_law wsX7_init := goodIn_r _ [9, 10, 11, 12, 13, 14, 15, 16, 17, 18, 19, 20, 21, 22, 23, 24, 25, 26, 27, 28, 29, 30, 31, 32, 33, 34, 35, 36, 37, 38, 39, 40, 41, 42, 43, 44, 45, 46, 47, 48, 49, 50, 51, 52, 53, 54, 55, 56, 57, 58, 59, 60, 61, 62, 63, 64, 65, 66, 67, 68, 69, 70, 71, 72, 73, 74, 75, 76, 77, 78, 79, 80, 81, 82, 83, 84, 85, 86, 87, 88, 89, 90, 91, 92, 93, 94, 95, 96, 97, 98, 99, 100, 101, 102, 103, 104, 105, 106, 107, 718, 719, 720, 721, 696, 697, 698, 699, 700, 701, 702, 703, 722, 723, 724, 725, 726, 727, 728, 729, 730, 731, 732, 733, 734, 735, 736, 737, 738, 739, 740, 741, 742, 743, 744] (by decide +kernel) (by decide +kernel)
set_option maxRecDepth 20000 in
theorem gL_law_X7_init : GoodIn wsL_law (wsX7_init) := ggL_law_X7_init
set_option maxRecDepth 20000 in
theorem ggL_law_X8_init : GoodIn wsL_law wsX8_init := goodIn_r _ [110, 111, 11, 12, 60, 112, 113, 114, 26, 115, 116, 117, 118, 119, 120, 121, 5, 122, 704, 705, 706, 707, 708, 709, 710, 711, 712, 713, 714, 715, 716, 717] (by decide +kernel) (by decide +kernel)
set_option maxRecDepth 20000 in
theorem gL_law_X8_init : GoodIn wsL_law (wsX8_init) := ggL_law_X8_init
set_option maxRecDepth 20000 in
theorem ggL_law_X7_set : GoodIn wsL_law wsX7_set := goodIn_r _ [126, 127, 128, 129, 24, 16, 130, 131, 132, 2, 133, 134, 135, 136, 137, 138, 139, 23, 140, 92, 91, 90, 141, 142, 143, 15, 144, 47, 51, 55, 56, 145, 146, 147, 148, 149, 150, 151, 152, 153, 154, 155, 156, 157, 50, 158, 61, 62, 63, 64, 65, 66, 159, 160, 161, 54, 162, 70, 71, 72, 73, 74, 696, 697, 698, 699, 700, 701, 702, 703, 718, 719, 720, 721, 725, 726, 727, 734, 735, 736, 737, 738, 739, 740, 741, 742, 743, 744] (by decide +kernel) (by decide +kernel)
set_option maxRecDepth 20000 in
theorem gL_law_X7_set : GoodIn wsL_law (wsV RL 13 RX7 yX7_set wsX7_set) := goodIn_app (goodIn_of _ (by decide +kernel)) ggL_law_X7_set
set_option maxRecDepth 20000 in
theorem ggL_law_X8_set : GoodIn wsL_law wsX8_set := goodIn_r _ [166, 112, 167, 168, 5, 169, 170, 171, 172, 173, 174, 175, 176, 177, 113, 704, 705, 706, 707, 708, 709, 710, 711, 712, 713, 714, 715, 716, 717] (by decide +kernel) (by decide +kernel)
set_option maxRecDepth 20000 in
theorem gL_law_X8_set : GoodIn wsL_law (wsV RL 17 RX8 yX8_set wsX8_set) := goodIn_app (goodIn_of _ (by decide +kernel)) ggL_law_X8_set
set_option maxRecDepth 20000 in
theorem ggL_law_X7_build : GoodIn wsL_law wsX7_build := goodIn_r _ [181, 36, 31, 24, 16, 182, 183, 184, 185, 186, 187, 35, 188, 105, 106, 107, 189, 190, 191, 192, 193, 50, 194, 66, 195, 196, 197, 198, 199, 200, 201, 202, 203, 135, 2, 136, 204, 205, 206, 207, 208, 209, 210, 211, 61, 212, 213, 214, 215, 216, 217, 218, 219, 76, 77, 78, 62, 63, 64, 65, 220, 221, 222, 223, 224, 225, 226, 227, 228, 229, 230, 231, 232, 233, 234, 235, 236, 237, 238, 239, 240, 241, 242, 243, 244, 245, 246, 247, 248, 132, 133, 249, 250, 251, 252, 253, 254, 255, 256, 257, 258, 259, 260, 261, 262, 137, 138, 139, 23, 140, 92, 91, 90, 141, 142, 143, 15, 144, 47, 51, 55, 56, 145, 146, 147, 148, 149, 150, 151, 152, 153, 154, 155, 156, 157, 158, 159, 160, 161, 54, 162, 70, 71, 72, 73, 74, 263, 264, 265, 266, 30, 267, 99, 100, 696, 697, 698, 699, 700, 701, 702, 703, 718, 719, 720, 721, 731, 732, 733, 734, 735, 736, 737, 738, 739, 728, 729, 730, 725, 726, 727, 740, 741, 742, 743, 744] (by decide +kernel) (by decide +kernel)
set_option maxRecDepth 20000 in
theorem gL_law_X7_build : GoodIn wsL_law (wsV RL 18 RX7 yX7_build wsX7_build) := goodIn_app (goodIn_of _ (by decide +kernel)) ggL_law_X7_build
set_option maxRecDepth 20000 in
theorem ggL_law_X8_build : GoodIn wsL_law wsX8_build := goodIn_r _ [271, 272, 112, 118, 273, 274, 275, 276, 5, 277, 278, 279, 116, 280, 281, 282, 283, 170, 171, 172, 284, 285, 286, 287, 288, 289, 290, 291, 292, 293, 294, 295, 173, 174, 175, 176, 177, 113, 704, 705, 706, 707, 708, 709, 710, 711, 712, 713, 714, 715, 716, 717] (by decide +kernel) (by decide +kernel)
set_option maxRecDepth 20000 in
theorem gL_law_X8_build : GoodIn wsL_law (wsV RL 22 RX8 yX8_build wsX8_build) := goodIn_app (goodIn_of _ (by decide +kernel)) ggL_law_X8_build
set_option maxRecDepth 20000 in
theorem ggL_law_X7_street : GoodIn wsL_law wsX7_street := goodIn_r _ [299, 16, 182, 24, 300, 246, 247, 50, 248, 66, 132, 2, 133, 134, 135, 136, 301, 205, 206, 207, 208, 209, 210, 211, 61, 212, 213, 214, 215, 216, 217, 218, 137, 138, 139, 23, 140, 92, 91, 90, 141, 142, 143, 15, 144, 47, 51, 55, 56, 145, 146, 147, 148, 149, 150, 151, 152, 153, 154, 155, 156, 157, 158, 62, 63, 64, 65, 159, 160, 161, 54, 162, 70, 71, 72, 73, 74, 302, 76, 77, 78, 696, 697, 698, 699, 700, 701, 702, 703, 718, 719, 720, 721, 734, 735, 736, 737, 738, 739, 725, 726, 727, 740, 741, 742, 743, 744] (by decide +kernel) (by decide +kernel)
set_option maxRecDepth 20000 in
theorem gL_law_X7_street : GoodIn wsL_law (wsV RL 23 RX7 yX7_street wsX7_street) := goodIn_app (goodIn_of _ (by decide +kernel)) ggL_law_X7_street
set_option maxRecDepth 20000 in
theorem ggL_law_X8_street : GoodIn wsL_law wsX8_street := goodIn_r _ [306, 112, 307, 308, 309, 5, 310, 170, 171, 172, 311, 312, 313, 314, 315, 316, 317, 318, 120, 121, 122, 173, 174, 175, 176, 177, 113, 704, 705, 706, 707, 708, 709, 710, 711, 712, 713, 714, 715, 716, 717] (by decide +kernel) (by decide +kernel)
set_option maxRecDepth 20000 in
theorem gL_law_X8_street : GoodIn wsL_law (wsV RL 26 RX8 yX8_street wsX8_street) := goodIn_app (goodIn_of _ (by decide +kernel)) ggL_law_X8_street
set_option maxRecDepth 20000 in
theorem ggL_law_X7_change : GoodIn wsL_law wsX7_change := goodIn_r _ [322, 16, 182, 323, 324, 24, 300, 246, 247, 50, 248, 66, 132, 2, 133, 131, 134, 135, 136, 137, 138, 139, 23, 140, 92, 91, 90, 141, 142, 143, 15, 144, 47, 51, 55, 56, 145, 146, 147, 148, 149, 150, 151, 152, 153, 154, 155, 156, 157, 158, 61, 62, 63, 64, 65, 159, 160, 161, 54, 162, 70, 71, 72, 73, 74, 325, 326, 327, 328, 696, 697, 698, 699, 700, 701, 702, 703, 718, 719, 720, 721, 734, 735, 736, 737, 738, 739, 725, 726, 727, 740, 741, 742, 743, 744] (by decide +kernel) (by decide +kernel)
set_option maxRecDepth 20000 in
theorem gL_law_X7_change : GoodIn wsL_law (wsV RL 27 RX7 yX7_change wsX7_change) := goodIn_app (goodIn_of _ (by decide +kernel)) ggL_law_X7_change
set_option maxRecDepth 20000 in
theorem ggL_law_X8_change : GoodIn wsL_law wsX8_change := goodIn_r _ [332, 112, 307, 308, 309, 5, 310, 170, 171, 172, 333, 334, 335, 173, 174, 175, 176, 177, 113, 336, 337, 338, 315, 316, 317, 318, 120, 121, 122, 704, 705, 706, 707, 708, 709, 710, 711, 712, 713, 714, 715, 716, 717] (by decide +kernel) (by decide +kernel)
set_option maxRecDepth 20000 in
theorem gL_law_X8_change : GoodIn wsL_law (wsV RL 31 RX8 yX8_change wsX8_change) := goodIn_app (goodIn_of _ (by decide +kernel)) ggL_law_X8_change
set_option maxRecDepth 20000 in
theorem ggL_law_X7_wind : GoodIn wsL_law wsX7_wind := goodIn_r _ [342, 24, 16, 343, 344, 345, 2, 346, 134, 135, 136, 137, 138, 139, 23, 140, 92, 91, 90, 141, 142, 143, 15, 144, 47, 51, 55, 56, 145, 146, 147, 148, 149, 150, 151, 152, 153, 154, 155, 156, 157, 50, 158, 61, 62, 63, 64, 65, 66, 159, 160, 161, 54, 162, 70, 71, 72, 73, 74, 696, 697, 698, 699, 700, 701, 702, 703, 718, 719, 720, 721, 725, 726, 727, 734, 735, 736, 737, 738, 739, 740, 741, 742, 743, 744] (by decide +kernel) (by decide +kernel)
set_option maxRecDepth 20000 in
theorem gL_law_X7_wind : GoodIn wsL_law (wsV RL 32 RX7 yX7_wind wsX7_wind) := goodIn_app (goodIn_of _ (by decide +kernel)) ggL_law_X7_wind
set_option maxRecDepth 20000 in
theorem ggL_law_X8_wind : GoodIn wsL_law wsX8_wind := goodIn_r _ [350, 112, 170, 171, 5, 172, 173, 174, 175, 176, 177, 113, 704, 705, 706, 707, 708, 709, 710, 711, 712, 713, 714, 715, 716, 717] (by decide +kernel) (by decide +kernel)
set_option maxRecDepth 20000 in
theorem gL_law_X8_wind : GoodIn wsL_law (wsV RL 36 RX8 yX8_wind wsX8_wind) := goodIn_app (goodIn_of _ (by decide +kernel)) ggL_law_X8_wind
set_option maxRecDepth 20000 in
theorem ggL_law_X7_pass : GoodIn wsL_law wsX7_pass := goodIn_r _ [354, 16, 355, 356, 24, 20, 343, 134, 135, 2, 136, 137, 138, 139, 23, 140, 92, 91, 90, 141, 142, 143, 15, 144, 47, 51, 55, 56, 145, 146, 147, 148, 149, 150, 151, 152, 153, 154, 155, 156, 157, 50, 158, 61, 62, 63, 64, 65, 66, 159, 160, 161, 54, 162, 70, 71, 72, 73, 74, 357, 358, 359, 19, 360, 361, 362, 363, 364, 365, 366, 367, 82, 83, 368, 369, 370, 371, 372, 373, 84, 374, 246, 247, 248, 132, 133, 375, 376, 377, 378, 379, 380, 381, 382, 383, 384, 385, 386, 387, 388, 389, 390, 391, 392, 393, 394, 395, 396, 397, 398, 399, 400, 401, 402, 403, 404, 405, 406, 696, 697, 698, 699, 700, 701, 702, 703, 718, 719, 720, 721, 740, 741, 742, 743, 744, 725, 726, 727, 734, 735, 736, 737, 738, 739, 722, 723, 724] (by decide +kernel) (by decide +kernel)
set_option maxRecDepth 20000 in
theorem gL_law_X7_pass : GoodIn wsL_law (wsV RL 37 RX7 yX7_pass wsX7_pass) := goodIn_app (goodIn_of _ (by decide +kernel)) ggL_law_X7_pass
set_option maxRecDepth 20000 in
theorem ggL_law_X8_pass : GoodIn wsL_law wsX8_pass := goodIn_r _ [410, 112, 170, 171, 5, 172, 173, 174, 175, 176, 177, 113, 411, 412, 413, 414, 415, 416, 417, 418, 419, 420, 421, 422, 117, 423, 424, 425, 426, 315, 316, 317, 318, 120, 121, 122, 427, 428, 429, 430, 431, 432, 433, 434, 435, 436, 437, 704, 705, 706, 707, 708, 709, 710, 711, 712, 713, 714, 715, 716, 717] (by decide +kernel) (by decide +kernel)
set_option maxRecDepth 20000 in
theorem gL_law_X8_pass : GoodIn wsL_law (wsV RL 40 RX8 yX8_pass wsX8_pass) := goodIn_app (goodIn_of _ (by decide +kernel)) ggL_law_X8_pass
set_option maxRecDepth 20000 in
theorem ggL_law_X7_write : GoodIn wsL_law wsX7_write := goodIn_r _ [441, 32, 16, 182, 442, 31, 443, 264, 265, 266, 30, 267, 99, 100, 444, 445, 2, 446, 184, 447, 300, 246, 247, 50, 248, 66, 132, 133, 448, 449, 450, 451, 452, 453, 454, 455, 456, 457, 458, 98, 459, 460, 461, 462, 463, 152, 153, 154, 696, 697, 698, 699, 700, 701, 702, 703, 718, 719, 720, 721, 728, 729, 730, 734, 735, 736, 737, 738, 739] (by decide +kernel) (by decide +kernel)
set_option maxRecDepth 20000 in
theorem gL_law_X7_write : GoodIn wsL_law (wsV RL 41 RX7 yX7_write wsX7_write) := goodIn_app (goodIn_of _ (by decide +kernel)) ggL_law_X7_write
set_option maxRecDepth 20000 in
theorem ggL_law_X8_write : GoodIn wsL_law wsX8_write := goodIn_r _ [467, 468, 116, 119, 273, 469, 470, 471, 5, 472, 315, 316, 317, 318, 112, 120, 121, 122, 473, 474, 475, 476, 477, 478, 479, 480, 481, 482, 483, 484, 704, 705, 706, 707, 708, 709, 710, 711, 712, 713, 714, 715, 716, 717] (by decide +kernel) (by decide +kernel)
set_option maxRecDepth 20000 in
theorem gL_law_X8_write : GoodIn wsL_law (wsV RL 44 RX8 yX8_write wsX8_write) := goodIn_app (goodIn_of _ (by decide +kernel)) ggL_law_X8_write
set_option maxRecDepth 20000 in
theorem ggL_law_X7_of : GoodIn wsL_law wsX7_of := goodIn_r _ [488, 16, 182, 447, 451, 452, 453, 454, 300, 246, 247, 50, 248, 66, 132, 2, 133, 489, 209, 210, 211, 61, 490, 491, 492, 493, 212, 213, 214, 215, 216, 217, 218, 494, 495, 496, 497, 498, 696, 697, 698, 699, 700, 701, 702, 703, 718, 719, 720, 721, 734, 735, 736, 737, 738, 739] (by decide +kernel) (by decide +kernel)
set_option maxRecDepth 20000 in
theorem gL_law_X7_of : GoodIn wsL_law (wsV RL 45 RX7 yX7_of wsX7_of) := goodIn_app (goodIn_of _ (by decide +kernel)) ggL_law_X7_of
set_option maxRecDepth 20000 in
theorem ggL_law_X8_of : GoodIn wsL_law wsX8_of := goodIn_r _ [502, 307, 308, 309, 5, 310, 112, 170, 171, 172, 315, 316, 317, 318, 120, 121, 122, 503, 504, 505, 506, 507, 508, 509, 510, 511, 512, 513, 514, 704, 705, 706, 707, 708, 709, 710, 711, 712, 713, 714, 715, 716, 717] (by decide +kernel) (by decide +kernel)
set_option maxRecDepth 20000 in
theorem gL_law_X8_of : GoodIn wsL_law (wsV RL 48 RX8 yX8_of wsX8_of) := goodIn_app (goodIn_of _ (by decide +kernel)) ggL_law_X8_of
set_option maxRecDepth 20000 in
theorem ggL_law_X7_now : GoodIn wsL_law wsX7_now := goodIn_r _ [518, 16, 182, 20, 519, 300, 246, 247, 50, 248, 66, 132, 2, 133, 357, 358, 359, 19, 360, 361, 362, 363, 364, 365, 366, 367, 82, 83, 368, 369, 370, 371, 372, 373, 84, 374, 375, 376, 377, 378, 379, 148, 149, 150, 380, 381, 520, 393, 394, 395, 390, 521, 522, 523, 524, 525, 526, 527, 528, 529, 530, 531, 387, 388, 389, 391, 392, 696, 697, 698, 699, 700, 701, 702, 703, 718, 719, 720, 721, 722, 723, 724, 734, 735, 736, 737, 738, 739] (by decide +kernel) (by decide +kernel)
set_option maxRecDepth 20000 in
theorem gL_law_X7_now : GoodIn wsL_law (wsV RL 49 RX7 yX7_now wsX7_now) := goodIn_app (goodIn_of _ (by decide +kernel)) ggL_law_X7_now
set_option maxRecDepth 20000 in
theorem ggL_law_X8_now : GoodIn wsL_law wsX8_now := goodIn_r _ [535, 112, 117, 307, 308, 309, 5, 310, 170, 171, 172, 419, 420, 421, 422, 423, 424, 425, 426, 315, 316, 317, 318, 120, 121, 122, 427, 428, 429, 434, 435, 436, 437, 536, 537, 538, 539, 430, 431, 432, 433, 704, 705, 706, 707, 708, 709, 710, 711, 712, 713, 714, 715, 716, 717] (by decide +kernel) (by decide +kernel)
set_option maxRecDepth 20000 in
theorem gL_law_X8_now : GoodIn wsL_law (wsV RL 52 RX8 yX8_now wsX8_now) := goodIn_app (goodIn_of _ (by decide +kernel)) ggL_law_X8_now
set_option maxRecDepth 20000 in
theorem ggL_law_X7_record : GoodIn wsL_law wsX7_record := goodIn_r _ [543, 16, 355, 544, 545, 546, 547, 548, 549, 54, 550, 73, 551, 148, 149, 150, 131, 132, 2, 133, 696, 697, 698, 699, 700, 701, 702, 703, 718, 719, 720, 721, 740, 741, 742, 743, 744] (by decide +kernel) (by decide +kernel)
set_option maxRecDepth 20000 in
theorem gL_law_X7_record : GoodIn wsL_law (wsV RL 53 RX7 yX7_record wsX7_record) := goodIn_app (goodIn_of _ (by decide +kernel)) ggL_law_X7_record
set_option maxRecDepth 20000 in
theorem ggL_law_X8_record : GoodIn wsL_law wsX8_record := goodIn_r _ [555, 112, 170, 171, 5, 172, 704, 705, 706, 707, 708, 709, 710, 711, 712, 713, 714, 715, 716, 717] (by decide +kernel) (by decide +kernel)
set_option maxRecDepth 20000 in
theorem gL_law_X8_record : GoodIn wsL_law (wsV RL 56 RX8 yX8_record wsX8_record) := goodIn_app (goodIn_of _ (by decide +kernel)) ggL_law_X8_record
set_option maxRecDepth 20000 in
theorem ggL_law_X7_sign : GoodIn wsL_law wsX7_sign := goodIn_r _ [559, 31, 443, 560, 131, 132, 2, 133, 696, 697, 698, 699, 700, 701, 702, 703, 728, 729, 730] (by decide +kernel) (by decide +kernel)
set_option maxRecDepth 20000 in
theorem gL_law_X7_sign : GoodIn wsL_law (wsV RL 57 RX7 yX7_sign wsX7_sign) := goodIn_app (goodIn_of _ (by decide +kernel)) ggL_law_X7_sign
set_option maxRecDepth 20000 in
theorem ggL_law_X8_sign : GoodIn wsL_law wsX8_sign := goodIn_r _ [564, 273, 116, 170, 171, 5, 172, 704, 705, 706, 707, 708, 709, 710, 711, 712, 713, 714, 715, 716, 717] (by decide +kernel) (by decide +kernel)
set_option maxRecDepth 20000 in
theorem gL_law_X8_sign : GoodIn wsL_law (wsV RL 60 RX8 yX8_sign wsX8_sign) := goodIn_app (goodIn_of _ (by decide +kernel)) ggL_law_X8_sign
set_option maxRecDepth 20000 in
theorem ggL_law_X7_count : GoodIn wsL_law wsX7_count := goodIn_r _ [568, 16, 182, 184, 343, 355, 356, 569, 130, 31, 443, 24, 570, 571, 572, 573, 50, 574, 66, 65, 575, 576, 577, 2, 578, 20, 579, 364, 365, 19, 366, 367, 82, 83, 368, 369, 580, 371, 372, 373, 84, 374, 246, 247, 248, 132, 133, 375, 376, 377, 378, 379, 148, 149, 150, 380, 381, 382, 383, 384, 385, 361, 386, 387, 388, 389, 390, 391, 392, 393, 394, 395, 581, 582, 583, 584, 357, 358, 359, 360, 362, 363, 370, 531, 585, 586, 587, 588, 519, 696, 697, 698, 699, 700, 701, 702, 703, 718, 719, 720, 721, 734, 735, 736, 737, 738, 739, 740, 741, 742, 743, 744, 728, 729, 730, 725, 726, 727, 722, 723, 724] (by decide +kernel) (by decide +kernel)
set_option maxRecDepth 20000 in
theorem gL_law_X7_count : GoodIn wsL_law (wsV RL 61 RX7 yX7_count wsX7_count) := goodIn_app (goodIn_of _ (by decide +kernel)) ggL_law_X7_count
set_option maxRecDepth 20000 in
theorem ggL_law_X8_count : GoodIn wsL_law wsX8_count := goodIn_r _ [592, 112, 273, 177, 593, 594, 595, 5, 596, 315, 316, 317, 318, 120, 121, 122, 415, 416, 417, 418, 419, 420, 421, 422, 117, 423, 424, 425, 426, 427, 428, 429, 430, 431, 432, 433, 434, 435, 436, 437, 597, 598, 599, 600, 170, 171, 172, 704, 705, 706, 707, 708, 709, 710, 711, 712, 713, 714, 715, 716, 717] (by decide +kernel) (by decide +kernel)
set_option maxRecDepth 20000 in
theorem gL_law_X8_count : GoodIn wsL_law (wsV RL 64 RX8 yX8_count wsX8_count) := goodIn_app (goodIn_of _ (by decide +kernel)) ggL_law_X8_count
set_option maxRecDepth 20000 in
theorem ggL_law_X7_ifWind : GoodIn wsL_law wsX7_ifWind := goodIn_r _ [604, 344, 345, 2, 346, 134, 135, 136, 575, 576, 577, 578, 20, 16, 182, 579, 364, 365, 19, 366, 367, 82, 83, 368, 369, 580, 371, 372, 373, 84, 374, 246, 247, 50, 248, 66, 132, 133, 375, 376, 377, 378, 379, 148, 149, 150, 380, 381, 382, 383, 384, 385, 361, 386, 387, 388, 389, 390, 391, 392, 393, 394, 395, 696, 697, 698, 699, 700, 701, 702, 703, 718, 719, 720, 721, 734, 735, 736, 737, 738, 739, 722, 723, 724] (by decide +kernel) (by decide +kernel)
set_option maxRecDepth 20000 in
theorem gL_law_X7_ifWind : GoodIn wsL_law (wsV RL 65 RX7 yX7_ifWind wsX7_ifWind) := goodIn_app (goodIn_of _ (by decide +kernel)) ggL_law_X7_ifWind
set_option maxRecDepth 20000 in
theorem ggL_law_X8_ifWind : GoodIn wsL_law wsX8_ifWind := goodIn_r _ [608, 170, 171, 5, 172, 415, 416, 417, 418, 112, 419, 420, 421, 422, 117, 423, 424, 425, 426, 315, 316, 317, 318, 120, 121, 122, 427, 428, 429, 430, 431, 432, 433, 434, 435, 436, 437, 704, 705, 706, 707, 708, 709, 710, 711, 712, 713, 714, 715, 716, 717] (by decide +kernel) (by decide +kernel)
set_option maxRecDepth 20000 in
theorem gL_law_X8_ifWind : GoodIn wsL_law (wsV RL 68 RX8 yX8_ifWind wsX8_ifWind) := goodIn_app (goodIn_of _ (by decide +kernel)) ggL_law_X8_ifWind
set_option maxRecDepth 20000 in
theorem ggL_law_X7_windFor : GoodIn wsL_law wsX7_windFor := goodIn_r _ [612, 20, 16, 182, 134, 135, 2, 136, 579, 364, 365, 19, 366, 367, 82, 83, 368, 369, 580, 371, 372, 373, 84, 374, 246, 247, 50, 248, 66, 132, 133, 375, 376, 377, 378, 379, 148, 149, 150, 380, 381, 382, 383, 384, 385, 361, 386, 387, 388, 389, 390, 391, 392, 393, 394, 395, 696, 697, 698, 699, 700, 701, 702, 703, 718, 719, 720, 721, 734, 735, 736, 737, 738, 739, 722, 723, 724] (by decide +kernel) (by decide +kernel)
set_option maxRecDepth 20000 in
theorem gL_law_X7_windFor : GoodIn wsL_law (wsV RL 69 RX7 yX7_windFor wsX7_windFor) := goodIn_app (goodIn_of _ (by decide +kernel)) ggL_law_X7_windFor
set_option maxRecDepth 20000 in
theorem ggL_law_X8_windFor : GoodIn wsL_law wsX8_windFor := goodIn_r _ [616, 170, 171, 5, 172, 415, 416, 417, 418, 112, 419, 420, 421, 422, 117, 423, 424, 425, 426, 315, 316, 317, 318, 120, 121, 122, 427, 428, 429, 430, 431, 432, 433, 434, 435, 436, 437, 704, 705, 706, 707, 708, 709, 710, 711, 712, 713, 714, 715, 716, 717] (by decide +kernel) (by decide +kernel)
set_option maxRecDepth 20000 in
theorem gL_law_X8_windFor : GoodIn wsL_law (wsV RL 72 RX8 yX8_windFor wsX8_windFor) := goodIn_app (goodIn_of _ (by decide +kernel)) ggL_law_X8_windFor
set_option maxRecDepth 20000 in
theorem ggL_law_X7_windOfFlag : GoodIn wsL_law wsX7_windOfFlag := goodIn_r _ [620, 16, 182, 452, 20, 300, 246, 247, 50, 248, 66, 132, 2, 133, 134, 135, 136, 579, 364, 365, 19, 366, 367, 82, 83, 368, 369, 580, 371, 372, 373, 84, 374, 375, 376, 377, 378, 379, 148, 149, 150, 380, 381, 521, 522, 523, 524, 361, 525, 390, 696, 697, 698, 699, 700, 701, 702, 703, 718, 719, 720, 721, 734, 735, 736, 737, 738, 739, 722, 723, 724] (by decide +kernel) (by decide +kernel)
set_option maxRecDepth 20000 in
theorem gL_law_X7_windOfFlag : GoodIn wsL_law (wsV RL 73 RX7 yX7_windOfFlag wsX7_windOfFlag) := goodIn_app (goodIn_of _ (by decide +kernel)) ggL_law_X7_windOfFlag
set_option maxRecDepth 20000 in
theorem ggL_law_X8_windOfFlag : GoodIn wsL_law wsX8_windOfFlag := goodIn_r _ [624, 307, 308, 309, 5, 310, 112, 170, 171, 172, 315, 316, 317, 318, 120, 121, 122, 419, 420, 421, 422, 117, 423, 424, 425, 426, 427, 428, 429, 536, 537, 538, 539, 704, 705, 706, 707, 708, 709, 710, 711, 712, 713, 714, 715, 716, 717] (by decide +kernel) (by decide +kernel)
set_option maxRecDepth 20000 in
theorem gL_law_X8_windOfFlag : GoodIn wsL_law (wsV RL 76 RX8 yX8_windOfFlag wsX8_windOfFlag) := goodIn_app (goodIn_of _ (by decide +kernel)) ggL_law_X8_windOfFlag
set_option maxRecDepth 20000 in
theorem ggL_law_X7_without : GoodIn wsL_law wsX7_without := goodIn_r _ [628, 16, 182, 447, 20, 519, 343, 300, 246, 247, 50, 248, 66, 132, 2, 133, 357, 358, 359, 19, 360, 361, 362, 363, 364, 365, 366, 367, 82, 83, 368, 369, 370, 371, 372, 373, 84, 374, 375, 376, 377, 378, 379, 148, 149, 150, 380, 381, 579, 580, 696, 697, 698, 699, 700, 701, 702, 703, 718, 719, 720, 721, 734, 735, 736, 737, 738, 739, 722, 723, 724] (by decide +kernel) (by decide +kernel)
set_option maxRecDepth 20000 in
theorem gL_law_X7_without : GoodIn wsL_law (wsV RL 77 RX7 yX7_without wsX7_without) := goodIn_app (goodIn_of _ (by decide +kernel)) ggL_law_X7_without
set_option maxRecDepth 20000 in
theorem ggL_law_X8_without : GoodIn wsL_law wsX8_without := goodIn_r _ [632, 112, 117, 307, 308, 309, 5, 310, 170, 171, 172, 315, 316, 317, 318, 120, 121, 122, 419, 420, 421, 422, 423, 424, 425, 426, 427, 428, 429, 704, 705, 706, 707, 708, 709, 710, 711, 712, 713, 714, 715, 716, 717] (by decide +kernel) (by decide +kernel)
set_option maxRecDepth 20000 in
theorem gL_law_X8_without : GoodIn wsL_law (wsV RL 80 RX8 yX8_without wsX8_without) := goodIn_app (goodIn_of _ (by decide +kernel)) ggL_law_X8_without
set_option maxRecDepth 20000 in
theorem ggL_law_X7_windiest : GoodIn wsL_law wsX7_windiest := goodIn_r _ [636, 20, 16, 182, 184, 519, 357, 358, 359, 19, 360, 361, 362, 363, 364, 365, 366, 367, 82, 83, 368, 369, 370, 371, 372, 373, 84, 374, 246, 247, 50, 248, 66, 132, 2, 133, 375, 376, 377, 378, 379, 148, 149, 150, 380, 381, 489, 209, 210, 211, 61, 696, 697, 698, 699, 700, 701, 702, 703, 718, 719, 720, 721, 734, 735, 736, 737, 738, 739, 722, 723, 724] (by decide +kernel) (by decide +kernel)
set_option maxRecDepth 20000 in
theorem gL_law_X7_windiest : GoodIn wsL_law (wsV RL 81 RX7 yX7_windiest wsX7_windiest) := goodIn_app (goodIn_of _ (by decide +kernel)) ggL_law_X7_windiest
set_option maxRecDepth 20000 in
theorem ggL_law_X8_windiest : GoodIn wsL_law wsX8_windiest := goodIn_r _ [640, 112, 117, 419, 420, 421, 5, 422, 423, 424, 425, 426, 315, 316, 317, 318, 120, 121, 122, 427, 428, 429, 503, 504, 505, 506, 704, 705, 706, 707, 708, 709, 710, 711, 712, 713, 714, 715, 716, 717] (by decide +kernel) (by decide +kernel)
set_option maxRecDepth 20000 in
theorem gL_law_X8_windiest : GoodIn wsL_law (wsV RL 84 RX8 yX8_windiest wsX8_windiest) := goodIn_app (goodIn_of _ (by decide +kernel)) ggL_law_X8_windiest
set_option maxRecDepth 20000 in
theorem ggL_law_X7_put : GoodIn wsL_law wsX7_put := goodIn_r _ [644, 31, 443, 645, 646, 647, 2, 648, 134, 135, 136, 455, 456, 457, 30, 458, 99, 100, 98, 696, 697, 698, 699, 700, 701, 702, 703, 728, 729, 730] (by decide +kernel) (by decide +kernel)
set_option maxRecDepth 20000 in
theorem gL_law_X7_put : GoodIn wsL_law (wsV RL 87 RX7 yX7_put wsX7_put) := goodIn_app (goodIn_of _ (by decide +kernel)) ggL_law_X7_put
set_option maxRecDepth 20000 in
theorem ggL_law_X8_put : GoodIn wsL_law wsX8_put := goodIn_r _ [652, 653, 273, 116, 170, 171, 5, 172, 704, 705, 706, 707, 708, 709, 710, 711, 712, 713, 714, 715, 716, 717] (by decide +kernel) (by decide +kernel)
set_option maxRecDepth 20000 in
theorem gL_law_X8_put : GoodIn wsL_law (wsV RL 91 RX8 yX8_put wsX8_put) := goodIn_app (goodIn_of _ (by decide +kernel)) ggL_law_X8_put
set_option maxRecDepth 20000 in
theorem ggL_law_X7_wipe : GoodIn wsL_law wsX7_wipe := goodIn_r _ [657, 31, 443, 264, 265, 266, 30, 267, 99, 100, 696, 697, 698, 699, 700, 701, 702, 703, 728, 729, 730] (by decide +kernel) (by decide +kernel)
set_option maxRecDepth 20000 in
theorem gL_law_X7_wipe : GoodIn wsL_law (wsV RL 92 RX7 yX7_wipe wsX7_wipe) := goodIn_app (goodIn_of _ (by decide +kernel)) ggL_law_X7_wipe
set_option maxRecDepth 20000 in
theorem ggL_law_X8_wipe : GoodIn wsL_law wsX8_wipe := goodIn_r _ [661, 273, 704, 705, 706, 707, 708, 709, 710, 711, 712, 713, 714, 715, 716, 717] (by decide +kernel) (by decide +kernel)
set_option maxRecDepth 20000 in
theorem gL_law_X8_wipe : GoodIn wsL_law (wsV RL 95 RX8 yX8_wipe wsX8_wipe) := goodIn_app (goodIn_of _ (by decide +kernel)) ggL_law_X8_wipe
set_option maxRecDepth 20000 in
theorem ggL_law_X7_fault : GoodIn wsL_law wsX7_fault := goodIn_r _ [665, 36, 31, 185, 186, 187, 35, 188, 105, 106, 107, 189, 190, 191, 192, 193, 50, 194, 66, 195, 196, 197, 198, 199, 200, 201, 202, 203, 135, 2, 136, 204, 205, 206, 207, 208, 209, 210, 211, 61, 212, 213, 214, 215, 216, 217, 218, 219, 76, 77, 78, 62, 63, 64, 65, 220, 221, 222, 223, 224, 225, 226, 227, 228, 229, 230, 231, 232, 233, 234, 235, 236, 237, 238, 239, 240, 241, 242, 243, 244, 245, 246, 247, 248, 132, 133, 249, 250, 251, 252, 253, 254, 255, 256, 257, 258, 259, 260, 261, 262, 696, 697, 698, 699, 700, 701, 702, 703, 731, 732, 733, 728, 729, 730, 734, 735, 736, 737, 738, 739] (by decide +kernel) (by decide +kernel)
set_option maxRecDepth 20000 in
theorem gL_law_X7_fault : GoodIn wsL_law (wsV RL 96 RX7 yX7_fault wsX7_fault) := goodIn_app (goodIn_of _ (by decide +kernel)) ggL_law_X7_fault
set_option maxRecDepth 20000 in
theorem ggL_law_X8_fault : GoodIn wsL_law wsX8_fault := goodIn_r _ [277, 272, 278, 279, 273, 116, 280, 281, 282, 5, 283, 118, 170, 171, 172, 284, 285, 286, 287, 288, 289, 290, 291, 292, 293, 294, 295, 704, 705, 706, 707, 708, 709, 710, 711, 712, 713, 714, 715, 716, 717] (by decide +kernel) (by decide +kernel)
set_option maxRecDepth 20000 in
theorem gL_law_X8_fault : GoodIn wsL_law (wsV RL 99 RX8 yX8_fault wsX8_fault) := goodIn_app (goodIn_of _ (by decide +kernel)) ggL_law_X8_fault
set_option maxRecDepth 20000 in
theorem ggL_law_X7_undo : GoodIn wsL_law wsX7_undo := goodIn_r _ [670, 24, 570, 16, 671, 672, 673, 23, 674, 92, 90, 91, 141, 142, 143, 15, 144, 47, 51, 55, 56, 145, 2, 146, 147, 148, 149, 150, 151, 152, 153, 154, 155, 156, 157, 50, 158, 61, 62, 63, 64, 65, 66, 159, 160, 161, 54, 162, 70, 71, 72, 73, 74, 696, 697, 698, 699, 700, 701, 702, 703, 725, 726, 727, 718, 719, 720, 721, 734, 735, 736, 737, 738, 739, 740, 741, 742, 743, 744] (by decide +kernel) (by decide +kernel)
set_option maxRecDepth 20000 in
theorem gL_law_X7_undo : GoodIn wsL_law (wsV RL 100 RX7 yX7_undo wsX7_undo) := goodIn_app (goodIn_of _ (by decide +kernel)) ggL_law_X7_undo
set_option maxRecDepth 20000 in
theorem ggL_law_X8_undo : GoodIn wsL_law wsX8_undo := goodIn_r _ [678, 177, 112, 113, 704, 705, 706, 707, 708, 709, 710, 711, 712, 713, 714, 715, 716, 717] (by decide +kernel) (by decide +kernel)
set_option maxRecDepth 20000 in
theorem gL_law_X8_undo : GoodIn wsL_law (wsV RL 103 RX8 yX8_undo wsX8_undo) := goodIn_app (goodIn_of _ (by decide +kernel)) ggL_law_X8_undo
set_option maxRecDepth 20000 in
theorem ggL_law_X7_save : GoodIn wsL_law wsX7_save := goodIn_r _ [682, 25, 16, 27, 182, 184, 131, 132, 2, 133, 683, 142, 143, 15, 144, 47, 51, 55, 56, 145, 146, 147, 148, 149, 150, 151, 152, 153, 154, 155, 156, 157, 50, 158, 61, 62, 63, 64, 65, 66, 159, 160, 161, 54, 162, 70, 71, 72, 73, 74, 696, 697, 698, 699, 700, 701, 702, 703, 718, 719, 720, 721, 734, 735, 736, 737, 738, 739, 740, 741, 742, 743, 744] (by decide +kernel) (by decide +kernel)
set_option maxRecDepth 20000 in
theorem gL_law_X7_save : GoodIn wsL_law (wsV RL 104 RX7 yX7_save wsX7_save) := goodIn_app (goodIn_of _ (by decide +kernel)) ggL_law_X7_save
set_option maxRecDepth 20000 in
theorem ggL_law_X8_save : GoodIn wsL_law wsX8_save := goodIn_r _ [687, 114, 112, 115, 170, 171, 5, 172, 704, 705, 706, 707, 708, 709, 710, 711, 712, 713, 714, 715, 716, 717] (by decide +kernel) (by decide +kernel)
set_option maxRecDepth 20000 in
theorem gL_law_X8_save : GoodIn wsL_law (wsV RL 107 RX8 yX8_save wsX8_save) := goodIn_app (goodIn_of _ (by decide +kernel)) ggL_law_X8_save
set_option maxRecDepth 20000 in
theorem ggL_law_X7_restore : GoodIn wsL_law wsX7_restore := goodIn_r _ [691, 27, 24, 16, 25, 182, 184, 131, 132, 2, 133, 137, 138, 139, 23, 140, 92, 91, 90, 141, 142, 143, 15, 144, 47, 51, 55, 56, 145, 146, 147, 148, 149, 150, 151, 152, 153, 154, 155, 156, 157, 50, 158, 61, 62, 63, 64, 65, 66, 159, 160, 161, 54, 162, 70, 71, 72, 73, 74, 683, 696, 697, 698, 699, 700, 701, 702, 703, 718, 719, 720, 721, 734, 735, 736, 737, 738, 739, 725, 726, 727, 740, 741, 742, 743, 744] (by decide +kernel) (by decide +kernel)
set_option maxRecDepth 20000 in
theorem gL_law_X7_restore : GoodIn wsL_law (wsV RL 108 RX7 yX7_restore wsX7_restore) := goodIn_app (goodIn_of _ (by decide +kernel)) ggL_law_X7_restore
set_option maxRecDepth 20000 in
theorem ggL_law_X8_restore : GoodIn wsL_law wsX8_restore := goodIn_r _ [695, 115, 112, 114, 170, 171, 5, 172, 173, 174, 175, 176, 177, 113, 704, 705, 706, 707, 708, 709, 710, 711, 712, 713, 714, 715, 716, 717] (by decide +kernel) (by decide +kernel)
set_option maxRecDepth 20000 in
theorem gL_law_X8_restore : GoodIn wsL_law (wsV RL 111 RX8 yX8_restore wsX8_restore) := goodIn_app (goodIn_of _ (by decide +kernel)) ggL_law_X8_restore
theorem dL_law_0 : decode cL_law 0 = .ok (.new 7, 3) := by decide +kernel
theorem dL_law_3 : decode cL_law 3 = .ok (.dup, 1) := by decide +kernel
theorem dL_law_4 : decode cL_law 4 = .ok (.invokespecial 9, 3) := by decide +kernel
theorem dL_law_7 : decode cL_law 7 = .ok (.astore_n 1, 1) := by decide +kernel
theorem dL_law_8 : decode cL_law 8 = .ok (.new 10, 3) := by decide +kernel
theorem dL_law_11 : decode cL_law 11 = .ok (.dup, 1) := by decide +kernel
theorem dL_law_12 : decode cL_law 12 = .ok (.invokespecial 12, 3) := by decide +kernel
theorem dL_law_15 : decode cL_law 15 = .ok (.astore_n 2, 1) := by decide +kernel
theorem dL_law_16 : decode cL_law 16 = .ok (.iconst 0, 1) := by decide +kernel
theorem dL_law_17 : decode cL_law 17 = .ok (.istore_n 3, 1) := by decide +kernel
theorem dL_law_18 : decode cL_law 18 = .ok (.iload_n 3, 1) := by decide +kernel
theorem dL_law_19 : decode cL_law 19 = .ok (.aload_n 0, 1) := by decide +kernel
theorem dL_law_20 : decode cL_law 20 = .ok (.arraylength, 1) := by decide +kernel
theorem dL_law_21 : decode cL_law 21 = .ok (.iconst 4, 1) := by decide +kernel
theorem dL_law_22 : decode cL_law 22 = .ok (.isub, 1) := by decide +kernel
theorem dL_law_23 : decode cL_law 23 = .ok (.if_icmp .gt 712, 3) := by decide +kernel
theorem dL_law_26 : decode cL_law 26 = .ok (.aload_n 0, 1) := by decide +kernel
theorem dL_law_27 : decode cL_law 27 = .ok (.iload_n 3, 1) := by decide +kernel
theorem dL_law_28 : decode cL_law 28 = .ok (.iaload, 1) := by decide +kernel
theorem dL_law_29 : decode cL_law 29 = .ok (.bipush 31, 2) := by decide +kernel
theorem dL_law_31 : decode cL_law 31 = .ok (.iand, 1) := by decide +kernel
theorem dL_law_32 : decode cL_law 32 = .ok (.tableswitch 697 0 22 #[108, 141, 154, 187, 230, 253, 276, 289, 322, 355, 388, 411, 434, 457, 480, 513, 546, 559, 612, 625, 638, 651, 674], 108) := by decide +kernel
theorem dL_law_140 : decode cL_law 140 = .ok (.aload_n 1, 1) := by decide +kernel
theorem dL_law_141 : decode cL_law 141 = .ok (.aload_n 0, 1) := by decide +kernel
theorem dL_law_142 : decode cL_law 142 = .ok (.iload_n 3, 1) := by decide +kernel
theorem dL_law_143 : decode cL_law 143 = .ok (.iconst 1, 1) := by decide +kernel
theorem dL_law_144 : decode cL_law 144 = .ok (.iadd, 1) := by decide +kernel
theorem dL_law_145 : decode cL_law 145 = .ok (.iaload, 1) := by decide +kernel
theorem dL_law_146 : decode cL_law 146 = .ok (.aload_n 0, 1) := by decide +kernel
theorem dL_law_147 : decode cL_law 147 = .ok (.iload_n 3, 1) := by decide +kernel
theorem dL_law_148 : decode cL_law 148 = .ok (.iconst 2, 1) := by decide +kernel
theorem dL_law_149 : decode cL_law 149 = .ok (.iadd, 1) := by decide +kernel
theorem dL_law_150 : decode cL_law 150 = .ok (.iaload, 1) := by decide +kernel
theorem dL_law_151 : decode cL_law 151 = .ok (.invokevirtual 13, 3) := by decide +kernel
theorem dL_law_154 : decode cL_law 154 = .ok (.aload_n 2, 1) := by decide +kernel
theorem dL_law_155 : decode cL_law 155 = .ok (.aload_n 0, 1) := by decide +kernel
theorem dL_law_156 : decode cL_law 156 = .ok (.iload_n 3, 1) := by decide +kernel
theorem dL_law_157 : decode cL_law 157 = .ok (.iconst 1, 1) := by decide +kernel
theorem dL_law_158 : decode cL_law 158 = .ok (.iadd, 1) := by decide +kernel
theorem dL_law_159 : decode cL_law 159 = .ok (.iaload, 1) := by decide +kernel
theorem dL_law_160 : decode cL_law 160 = .ok (.aload_n 0, 1) := by decide +kernel
theorem dL_law_161 : decode cL_law 161 = .ok (.iload_n 3, 1) := by decide +kernel
theorem dL_law_162 : decode cL_law 162 = .ok (.iconst 2, 1) := by decide +kernel
theorem dL_law_163 : decode cL_law 163 = .ok (.iadd, 1) := by decide +kernel
theorem dL_law_164 : decode cL_law 164 = .ok (.iaload, 1) := by decide +kernel
theorem dL_law_165 : decode cL_law 165 = .ok (.invokevirtual 17, 3) := by decide +kernel
theorem dL_law_168 : decode cL_law 168 = .ok (.if_icmp .eq 561, 3) := by decide +kernel
theorem dL_law_171 : decode cL_law 171 = .ok (.iconst 0, 1) := by decide +kernel
theorem dL_law_172 : decode cL_law 172 = .ok (.ireturn, 1) := by decide +kernel
theorem dL_law_173 : decode cL_law 173 = .ok (.aload_n 1, 1) := by decide +kernel
theorem dL_law_174 : decode cL_law 174 = .ok (.invokevirtual 18, 3) := by decide +kernel
theorem dL_law_177 : decode cL_law 177 = .ok (.aload_n 2, 1) := by decide +kernel
theorem dL_law_178 : decode cL_law 178 = .ok (.invokevirtual 22, 3) := by decide +kernel
theorem dL_law_181 : decode cL_law 181 = .ok (.if_icmp .eq 548, 3) := by decide +kernel
theorem dL_law_184 : decode cL_law 184 = .ok (.iconst 0, 1) := by decide +kernel
theorem dL_law_185 : decode cL_law 185 = .ok (.ireturn, 1) := by decide +kernel
theorem dL_law_186 : decode cL_law 186 = .ok (.aload_n 1, 1) := by decide +kernel
theorem dL_law_187 : decode cL_law 187 = .ok (.aload_n 0, 1) := by decide +kernel
theorem dL_law_188 : decode cL_law 188 = .ok (.iload_n 3, 1) := by decide +kernel
theorem dL_law_189 : decode cL_law 189 = .ok (.iconst 1, 1) := by decide +kernel
theorem dL_law_190 : decode cL_law 190 = .ok (.iadd, 1) := by decide +kernel
theorem dL_law_191 : decode cL_law 191 = .ok (.iaload, 1) := by decide +kernel
theorem dL_law_192 : decode cL_law 192 = .ok (.aload_n 0, 1) := by decide +kernel
theorem dL_law_193 : decode cL_law 193 = .ok (.iload_n 3, 1) := by decide +kernel
theorem dL_law_194 : decode cL_law 194 = .ok (.iconst 2, 1) := by decide +kernel
theorem dL_law_195 : decode cL_law 195 = .ok (.iadd, 1) := by decide +kernel
theorem dL_law_196 : decode cL_law 196 = .ok (.iaload, 1) := by decide +kernel
theorem dL_law_197 : decode cL_law 197 = .ok (.invokevirtual 23, 3) := by decide +kernel
theorem dL_law_200 : decode cL_law 200 = .ok (.aload_n 2, 1) := by decide +kernel
theorem dL_law_201 : decode cL_law 201 = .ok (.aload_n 0, 1) := by decide +kernel
theorem dL_law_202 : decode cL_law 202 = .ok (.iload_n 3, 1) := by decide +kernel
theorem dL_law_203 : decode cL_law 203 = .ok (.iconst 1, 1) := by decide +kernel
theorem dL_law_204 : decode cL_law 204 = .ok (.iadd, 1) := by decide +kernel
theorem dL_law_205 : decode cL_law 205 = .ok (.iaload, 1) := by decide +kernel
theorem dL_law_206 : decode cL_law 206 = .ok (.aload_n 0, 1) := by decide +kernel
theorem dL_law_207 : decode cL_law 207 = .ok (.iload_n 3, 1) := by decide +kernel
theorem dL_law_208 : decode cL_law 208 = .ok (.iconst 2, 1) := by decide +kernel
theorem dL_law_209 : decode cL_law 209 = .ok (.iadd, 1) := by decide +kernel
theorem dL_law_210 : decode cL_law 210 = .ok (.iaload, 1) := by decide +kernel
theorem dL_law_211 : decode cL_law 211 = .ok (.invokevirtual 26, 3) := by decide +kernel
theorem dL_law_214 : decode cL_law 214 = .ok (.if_icmp .eq 515, 3) := by decide +kernel
theorem dL_law_217 : decode cL_law 217 = .ok (.iconst 0, 1) := by decide +kernel
theorem dL_law_218 : decode cL_law 218 = .ok (.ireturn, 1) := by decide +kernel
theorem dL_law_219 : decode cL_law 219 = .ok (.aload_n 1, 1) := by decide +kernel
theorem dL_law_220 : decode cL_law 220 = .ok (.aload_n 0, 1) := by decide +kernel
theorem dL_law_221 : decode cL_law 221 = .ok (.iload_n 3, 1) := by decide +kernel
theorem dL_law_222 : decode cL_law 222 = .ok (.iconst 1, 1) := by decide +kernel
theorem dL_law_223 : decode cL_law 223 = .ok (.iadd, 1) := by decide +kernel
theorem dL_law_224 : decode cL_law 224 = .ok (.iaload, 1) := by decide +kernel
theorem dL_law_225 : decode cL_law 225 = .ok (.aload_n 0, 1) := by decide +kernel
theorem dL_law_226 : decode cL_law 226 = .ok (.iload_n 3, 1) := by decide +kernel
theorem dL_law_227 : decode cL_law 227 = .ok (.iconst 2, 1) := by decide +kernel
theorem dL_law_228 : decode cL_law 228 = .ok (.iadd, 1) := by decide +kernel
theorem dL_law_229 : decode cL_law 229 = .ok (.iaload, 1) := by decide +kernel
theorem dL_law_230 : decode cL_law 230 = .ok (.aload_n 0, 1) := by decide +kernel
theorem dL_law_231 : decode cL_law 231 = .ok (.iload_n 3, 1) := by decide +kernel
theorem dL_law_232 : decode cL_law 232 = .ok (.iconst 3, 1) := by decide +kernel
theorem dL_law_233 : decode cL_law 233 = .ok (.iadd, 1) := by decide +kernel
theorem dL_law_234 : decode cL_law 234 = .ok (.iaload, 1) := by decide +kernel
theorem dL_law_235 : decode cL_law 235 = .ok (.invokevirtual 27, 3) := by decide +kernel
theorem dL_law_238 : decode cL_law 238 = .ok (.aload_n 2, 1) := by decide +kernel
theorem dL_law_239 : decode cL_law 239 = .ok (.aload_n 0, 1) := by decide +kernel
theorem dL_law_240 : decode cL_law 240 = .ok (.iload_n 3, 1) := by decide +kernel
theorem dL_law_241 : decode cL_law 241 = .ok (.iconst 1, 1) := by decide +kernel
theorem dL_law_242 : decode cL_law 242 = .ok (.iadd, 1) := by decide +kernel
theorem dL_law_243 : decode cL_law 243 = .ok (.iaload, 1) := by decide +kernel
theorem dL_law_244 : decode cL_law 244 = .ok (.aload_n 0, 1) := by decide +kernel
theorem dL_law_245 : decode cL_law 245 = .ok (.iload_n 3, 1) := by decide +kernel
theorem dL_law_246 : decode cL_law 246 = .ok (.iconst 2, 1) := by decide +kernel
theorem dL_law_247 : decode cL_law 247 = .ok (.iadd, 1) := by decide +kernel
theorem dL_law_248 : decode cL_law 248 = .ok (.iaload, 1) := by decide +kernel
theorem dL_law_249 : decode cL_law 249 = .ok (.aload_n 0, 1) := by decide +kernel
theorem dL_law_250 : decode cL_law 250 = .ok (.iload_n 3, 1) := by decide +kernel
theorem dL_law_251 : decode cL_law 251 = .ok (.iconst 3, 1) := by decide +kernel
theorem dL_law_252 : decode cL_law 252 = .ok (.iadd, 1) := by decide +kernel
theorem dL_law_253 : decode cL_law 253 = .ok (.iaload, 1) := by decide +kernel
theorem dL_law_254 : decode cL_law 254 = .ok (.invokevirtual 31, 3) := by decide +kernel
theorem dL_law_257 : decode cL_law 257 = .ok (.if_icmp .eq 472, 3) := by decide +kernel
theorem dL_law_260 : decode cL_law 260 = .ok (.iconst 0, 1) := by decide +kernel
theorem dL_law_261 : decode cL_law 261 = .ok (.ireturn, 1) := by decide +kernel
theorem dL_law_262 : decode cL_law 262 = .ok (.aload_n 1, 1) := by decide +kernel
theorem dL_law_263 : decode cL_law 263 = .ok (.aload_n 0, 1) := by decide +kernel
theorem dL_law_264 : decode cL_law 264 = .ok (.iload_n 3, 1) := by decide +kernel
theorem dL_law_265 : decode cL_law 265 = .ok (.iconst 1, 1) := by decide +kernel
theorem dL_law_266 : decode cL_law 266 = .ok (.iadd, 1) := by decide +kernel
theorem dL_law_267 : decode cL_law 267 = .ok (.iaload, 1) := by decide +kernel
theorem dL_law_268 : decode cL_law 268 = .ok (.invokevirtual 32, 3) := by decide +kernel
theorem dL_law_271 : decode cL_law 271 = .ok (.aload_n 2, 1) := by decide +kernel
theorem dL_law_272 : decode cL_law 272 = .ok (.aload_n 0, 1) := by decide +kernel
theorem dL_law_273 : decode cL_law 273 = .ok (.iload_n 3, 1) := by decide +kernel
theorem dL_law_274 : decode cL_law 274 = .ok (.iconst 1, 1) := by decide +kernel
theorem dL_law_275 : decode cL_law 275 = .ok (.iadd, 1) := by decide +kernel
theorem dL_law_276 : decode cL_law 276 = .ok (.iaload, 1) := by decide +kernel
theorem dL_law_277 : decode cL_law 277 = .ok (.invokevirtual 36, 3) := by decide +kernel
theorem dL_law_280 : decode cL_law 280 = .ok (.if_icmp .eq 449, 3) := by decide +kernel
theorem dL_law_283 : decode cL_law 283 = .ok (.iconst 0, 1) := by decide +kernel
theorem dL_law_284 : decode cL_law 284 = .ok (.ireturn, 1) := by decide +kernel
theorem dL_law_285 : decode cL_law 285 = .ok (.aload_n 1, 1) := by decide +kernel
theorem dL_law_286 : decode cL_law 286 = .ok (.aload_n 0, 1) := by decide +kernel
theorem dL_law_287 : decode cL_law 287 = .ok (.iload_n 3, 1) := by decide +kernel
theorem dL_law_288 : decode cL_law 288 = .ok (.iconst 1, 1) := by decide +kernel
theorem dL_law_289 : decode cL_law 289 = .ok (.iadd, 1) := by decide +kernel
theorem dL_law_290 : decode cL_law 290 = .ok (.iaload, 1) := by decide +kernel
theorem dL_law_291 : decode cL_law 291 = .ok (.invokevirtual 37, 3) := by decide +kernel
theorem dL_law_294 : decode cL_law 294 = .ok (.aload_n 2, 1) := by decide +kernel
theorem dL_law_295 : decode cL_law 295 = .ok (.aload_n 0, 1) := by decide +kernel
theorem dL_law_296 : decode cL_law 296 = .ok (.iload_n 3, 1) := by decide +kernel
theorem dL_law_297 : decode cL_law 297 = .ok (.iconst 1, 1) := by decide +kernel
theorem dL_law_298 : decode cL_law 298 = .ok (.iadd, 1) := by decide +kernel
theorem dL_law_299 : decode cL_law 299 = .ok (.iaload, 1) := by decide +kernel
theorem dL_law_300 : decode cL_law 300 = .ok (.invokevirtual 40, 3) := by decide +kernel
theorem dL_law_303 : decode cL_law 303 = .ok (.if_icmp .eq 426, 3) := by decide +kernel
theorem dL_law_306 : decode cL_law 306 = .ok (.iconst 0, 1) := by decide +kernel
theorem dL_law_307 : decode cL_law 307 = .ok (.ireturn, 1) := by decide +kernel
theorem dL_law_308 : decode cL_law 308 = .ok (.aload_n 1, 1) := by decide +kernel
theorem dL_law_309 : decode cL_law 309 = .ok (.invokevirtual 41, 3) := by decide +kernel
theorem dL_law_312 : decode cL_law 312 = .ok (.aload_n 2, 1) := by decide +kernel
theorem dL_law_313 : decode cL_law 313 = .ok (.invokevirtual 44, 3) := by decide +kernel
theorem dL_law_316 : decode cL_law 316 = .ok (.if_icmp .eq 413, 3) := by decide +kernel
theorem dL_law_319 : decode cL_law 319 = .ok (.iconst 0, 1) := by decide +kernel
theorem dL_law_320 : decode cL_law 320 = .ok (.ireturn, 1) := by decide +kernel
theorem dL_law_321 : decode cL_law 321 = .ok (.aload_n 1, 1) := by decide +kernel
theorem dL_law_322 : decode cL_law 322 = .ok (.aload_n 0, 1) := by decide +kernel
theorem dL_law_323 : decode cL_law 323 = .ok (.iload_n 3, 1) := by decide +kernel
theorem dL_law_324 : decode cL_law 324 = .ok (.iconst 1, 1) := by decide +kernel
theorem dL_law_325 : decode cL_law 325 = .ok (.iadd, 1) := by decide +kernel
theorem dL_law_326 : decode cL_law 326 = .ok (.iaload, 1) := by decide +kernel
theorem dL_law_327 : decode cL_law 327 = .ok (.aload_n 0, 1) := by decide +kernel
theorem dL_law_328 : decode cL_law 328 = .ok (.iload_n 3, 1) := by decide +kernel
theorem dL_law_329 : decode cL_law 329 = .ok (.iconst 2, 1) := by decide +kernel
theorem dL_law_330 : decode cL_law 330 = .ok (.iadd, 1) := by decide +kernel
theorem dL_law_331 : decode cL_law 331 = .ok (.iaload, 1) := by decide +kernel
theorem dL_law_332 : decode cL_law 332 = .ok (.invokevirtual 45, 3) := by decide +kernel
theorem dL_law_335 : decode cL_law 335 = .ok (.aload_n 2, 1) := by decide +kernel
theorem dL_law_336 : decode cL_law 336 = .ok (.aload_n 0, 1) := by decide +kernel
theorem dL_law_337 : decode cL_law 337 = .ok (.iload_n 3, 1) := by decide +kernel
theorem dL_law_338 : decode cL_law 338 = .ok (.iconst 1, 1) := by decide +kernel
theorem dL_law_339 : decode cL_law 339 = .ok (.iadd, 1) := by decide +kernel
theorem dL_law_340 : decode cL_law 340 = .ok (.iaload, 1) := by decide +kernel
theorem dL_law_341 : decode cL_law 341 = .ok (.aload_n 0, 1) := by decide +kernel
theorem dL_law_342 : decode cL_law 342 = .ok (.iload_n 3, 1) := by decide +kernel
theorem dL_law_343 : decode cL_law 343 = .ok (.iconst 2, 1) := by decide +kernel
theorem dL_law_344 : decode cL_law 344 = .ok (.iadd, 1) := by decide +kernel
theorem dL_law_345 : decode cL_law 345 = .ok (.iaload, 1) := by decide +kernel
theorem dL_law_346 : decode cL_law 346 = .ok (.invokevirtual 48, 3) := by decide +kernel
theorem dL_law_349 : decode cL_law 349 = .ok (.if_icmp .eq 380, 3) := by decide +kernel
theorem dL_law_352 : decode cL_law 352 = .ok (.iconst 0, 1) := by decide +kernel
theorem dL_law_353 : decode cL_law 353 = .ok (.ireturn, 1) := by decide +kernel
theorem dL_law_354 : decode cL_law 354 = .ok (.aload_n 1, 1) := by decide +kernel
theorem dL_law_355 : decode cL_law 355 = .ok (.aload_n 0, 1) := by decide +kernel
theorem dL_law_356 : decode cL_law 356 = .ok (.iload_n 3, 1) := by decide +kernel
theorem dL_law_357 : decode cL_law 357 = .ok (.iconst 1, 1) := by decide +kernel
theorem dL_law_358 : decode cL_law 358 = .ok (.iadd, 1) := by decide +kernel
theorem dL_law_359 : decode cL_law 359 = .ok (.iaload, 1) := by decide +kernel
theorem dL_law_360 : decode cL_law 360 = .ok (.aload_n 0, 1) := by decide +kernel
theorem dL_law_361 : decode cL_law 361 = .ok (.iload_n 3, 1) := by decide +kernel
theorem dL_law_362 : decode cL_law 362 = .ok (.iconst 2, 1) := by decide +kernel
theorem dL_law_363 : decode cL_law 363 = .ok (.iadd, 1) := by decide +kernel
theorem dL_law_364 : decode cL_law 364 = .ok (.iaload, 1) := by decide +kernel
theorem dL_law_365 : decode cL_law 365 = .ok (.invokevirtual 49, 3) := by decide +kernel
theorem dL_law_368 : decode cL_law 368 = .ok (.aload_n 2, 1) := by decide +kernel
theorem dL_law_369 : decode cL_law 369 = .ok (.aload_n 0, 1) := by decide +kernel
theorem dL_law_370 : decode cL_law 370 = .ok (.iload_n 3, 1) := by decide +kernel
theorem dL_law_371 : decode cL_law 371 = .ok (.iconst 1, 1) := by decide +kernel
theorem dL_law_372 : decode cL_law 372 = .ok (.iadd, 1) := by decide +kernel
theorem dL_law_373 : decode cL_law 373 = .ok (.iaload, 1) := by decide +kernel
theorem dL_law_374 : decode cL_law 374 = .ok (.aload_n 0, 1) := by decide +kernel
theorem dL_law_375 : decode cL_law 375 = .ok (.iload_n 3, 1) := by decide +kernel
theorem dL_law_376 : decode cL_law 376 = .ok (.iconst 2, 1) := by decide +kernel
theorem dL_law_377 : decode cL_law 377 = .ok (.iadd, 1) := by decide +kernel
theorem dL_law_378 : decode cL_law 378 = .ok (.iaload, 1) := by decide +kernel
theorem dL_law_379 : decode cL_law 379 = .ok (.invokevirtual 52, 3) := by decide +kernel
theorem dL_law_382 : decode cL_law 382 = .ok (.if_icmp .eq 347, 3) := by decide +kernel
theorem dL_law_385 : decode cL_law 385 = .ok (.iconst 0, 1) := by decide +kernel
theorem dL_law_386 : decode cL_law 386 = .ok (.ireturn, 1) := by decide +kernel
theorem dL_law_387 : decode cL_law 387 = .ok (.aload_n 1, 1) := by decide +kernel
theorem dL_law_388 : decode cL_law 388 = .ok (.aload_n 0, 1) := by decide +kernel
theorem dL_law_389 : decode cL_law 389 = .ok (.iload_n 3, 1) := by decide +kernel
theorem dL_law_390 : decode cL_law 390 = .ok (.iconst 1, 1) := by decide +kernel
theorem dL_law_391 : decode cL_law 391 = .ok (.iadd, 1) := by decide +kernel
theorem dL_law_392 : decode cL_law 392 = .ok (.iaload, 1) := by decide +kernel
theorem dL_law_393 : decode cL_law 393 = .ok (.aload_n 0, 1) := by decide +kernel
theorem dL_law_394 : decode cL_law 394 = .ok (.iload_n 3, 1) := by decide +kernel
theorem dL_law_395 : decode cL_law 395 = .ok (.iconst 2, 1) := by decide +kernel
theorem dL_law_396 : decode cL_law 396 = .ok (.iadd, 1) := by decide +kernel
theorem dL_law_397 : decode cL_law 397 = .ok (.iaload, 1) := by decide +kernel
theorem dL_law_398 : decode cL_law 398 = .ok (.invokevirtual 53, 3) := by decide +kernel
theorem dL_law_401 : decode cL_law 401 = .ok (.aload_n 2, 1) := by decide +kernel
theorem dL_law_402 : decode cL_law 402 = .ok (.aload_n 0, 1) := by decide +kernel
theorem dL_law_403 : decode cL_law 403 = .ok (.iload_n 3, 1) := by decide +kernel
theorem dL_law_404 : decode cL_law 404 = .ok (.iconst 1, 1) := by decide +kernel
theorem dL_law_405 : decode cL_law 405 = .ok (.iadd, 1) := by decide +kernel
theorem dL_law_406 : decode cL_law 406 = .ok (.iaload, 1) := by decide +kernel
theorem dL_law_407 : decode cL_law 407 = .ok (.aload_n 0, 1) := by decide +kernel
theorem dL_law_408 : decode cL_law 408 = .ok (.iload_n 3, 1) := by decide +kernel
theorem dL_law_409 : decode cL_law 409 = .ok (.iconst 2, 1) := by decide +kernel
theorem dL_law_410 : decode cL_law 410 = .ok (.iadd, 1) := by decide +kernel
theorem dL_law_411 : decode cL_law 411 = .ok (.iaload, 1) := by decide +kernel
theorem dL_law_412 : decode cL_law 412 = .ok (.invokevirtual 56, 3) := by decide +kernel
theorem dL_law_415 : decode cL_law 415 = .ok (.if_icmp .eq 314, 3) := by decide +kernel
theorem dL_law_418 : decode cL_law 418 = .ok (.iconst 0, 1) := by decide +kernel
theorem dL_law_419 : decode cL_law 419 = .ok (.ireturn, 1) := by decide +kernel
theorem dL_law_420 : decode cL_law 420 = .ok (.aload_n 1, 1) := by decide +kernel
theorem dL_law_421 : decode cL_law 421 = .ok (.aload_n 0, 1) := by decide +kernel
theorem dL_law_422 : decode cL_law 422 = .ok (.iload_n 3, 1) := by decide +kernel
theorem dL_law_423 : decode cL_law 423 = .ok (.iconst 1, 1) := by decide +kernel
theorem dL_law_424 : decode cL_law 424 = .ok (.iadd, 1) := by decide +kernel
theorem dL_law_425 : decode cL_law 425 = .ok (.iaload, 1) := by decide +kernel
theorem dL_law_426 : decode cL_law 426 = .ok (.invokevirtual 57, 3) := by decide +kernel
theorem dL_law_429 : decode cL_law 429 = .ok (.aload_n 2, 1) := by decide +kernel
theorem dL_law_430 : decode cL_law 430 = .ok (.aload_n 0, 1) := by decide +kernel
theorem dL_law_431 : decode cL_law 431 = .ok (.iload_n 3, 1) := by decide +kernel
theorem dL_law_432 : decode cL_law 432 = .ok (.iconst 1, 1) := by decide +kernel
theorem dL_law_433 : decode cL_law 433 = .ok (.iadd, 1) := by decide +kernel
theorem dL_law_434 : decode cL_law 434 = .ok (.iaload, 1) := by decide +kernel
theorem dL_law_435 : decode cL_law 435 = .ok (.invokevirtual 60, 3) := by decide +kernel
theorem dL_law_438 : decode cL_law 438 = .ok (.if_icmp .eq 291, 3) := by decide +kernel
theorem dL_law_441 : decode cL_law 441 = .ok (.iconst 0, 1) := by decide +kernel
theorem dL_law_442 : decode cL_law 442 = .ok (.ireturn, 1) := by decide +kernel
theorem dL_law_443 : decode cL_law 443 = .ok (.aload_n 1, 1) := by decide +kernel
theorem dL_law_444 : decode cL_law 444 = .ok (.aload_n 0, 1) := by decide +kernel
theorem dL_law_445 : decode cL_law 445 = .ok (.iload_n 3, 1) := by decide +kernel
theorem dL_law_446 : decode cL_law 446 = .ok (.iconst 1, 1) := by decide +kernel
theorem dL_law_447 : decode cL_law 447 = .ok (.iadd, 1) := by decide +kernel
theorem dL_law_448 : decode cL_law 448 = .ok (.iaload, 1) := by decide +kernel
theorem dL_law_449 : decode cL_law 449 = .ok (.invokevirtual 61, 3) := by decide +kernel
theorem dL_law_452 : decode cL_law 452 = .ok (.aload_n 2, 1) := by decide +kernel
theorem dL_law_453 : decode cL_law 453 = .ok (.aload_n 0, 1) := by decide +kernel
theorem dL_law_454 : decode cL_law 454 = .ok (.iload_n 3, 1) := by decide +kernel
theorem dL_law_455 : decode cL_law 455 = .ok (.iconst 1, 1) := by decide +kernel
theorem dL_law_456 : decode cL_law 456 = .ok (.iadd, 1) := by decide +kernel
theorem dL_law_457 : decode cL_law 457 = .ok (.iaload, 1) := by decide +kernel
theorem dL_law_458 : decode cL_law 458 = .ok (.invokevirtual 64, 3) := by decide +kernel
theorem dL_law_461 : decode cL_law 461 = .ok (.if_icmp .eq 268, 3) := by decide +kernel
theorem dL_law_464 : decode cL_law 464 = .ok (.iconst 0, 1) := by decide +kernel
theorem dL_law_465 : decode cL_law 465 = .ok (.ireturn, 1) := by decide +kernel
theorem dL_law_466 : decode cL_law 466 = .ok (.aload_n 1, 1) := by decide +kernel
theorem dL_law_467 : decode cL_law 467 = .ok (.aload_n 0, 1) := by decide +kernel
theorem dL_law_468 : decode cL_law 468 = .ok (.iload_n 3, 1) := by decide +kernel
theorem dL_law_469 : decode cL_law 469 = .ok (.iconst 1, 1) := by decide +kernel
theorem dL_law_470 : decode cL_law 470 = .ok (.iadd, 1) := by decide +kernel
theorem dL_law_471 : decode cL_law 471 = .ok (.iaload, 1) := by decide +kernel
theorem dL_law_472 : decode cL_law 472 = .ok (.invokevirtual 65, 3) := by decide +kernel
theorem dL_law_475 : decode cL_law 475 = .ok (.aload_n 2, 1) := by decide +kernel
theorem dL_law_476 : decode cL_law 476 = .ok (.aload_n 0, 1) := by decide +kernel
theorem dL_law_477 : decode cL_law 477 = .ok (.iload_n 3, 1) := by decide +kernel
theorem dL_law_478 : decode cL_law 478 = .ok (.iconst 1, 1) := by decide +kernel
theorem dL_law_479 : decode cL_law 479 = .ok (.iadd, 1) := by decide +kernel
theorem dL_law_480 : decode cL_law 480 = .ok (.iaload, 1) := by decide +kernel
theorem dL_law_481 : decode cL_law 481 = .ok (.invokevirtual 68, 3) := by decide +kernel
theorem dL_law_484 : decode cL_law 484 = .ok (.if_icmp .eq 245, 3) := by decide +kernel
theorem dL_law_487 : decode cL_law 487 = .ok (.iconst 0, 1) := by decide +kernel
theorem dL_law_488 : decode cL_law 488 = .ok (.ireturn, 1) := by decide +kernel
theorem dL_law_489 : decode cL_law 489 = .ok (.aload_n 1, 1) := by decide +kernel
theorem dL_law_490 : decode cL_law 490 = .ok (.aload_n 0, 1) := by decide +kernel
theorem dL_law_491 : decode cL_law 491 = .ok (.iload_n 3, 1) := by decide +kernel
theorem dL_law_492 : decode cL_law 492 = .ok (.iconst 1, 1) := by decide +kernel
theorem dL_law_493 : decode cL_law 493 = .ok (.iadd, 1) := by decide +kernel
theorem dL_law_494 : decode cL_law 494 = .ok (.iaload, 1) := by decide +kernel
theorem dL_law_495 : decode cL_law 495 = .ok (.invokevirtual 69, 3) := by decide +kernel
theorem dL_law_498 : decode cL_law 498 = .ok (.aload_n 2, 1) := by decide +kernel
theorem dL_law_499 : decode cL_law 499 = .ok (.aload_n 0, 1) := by decide +kernel
theorem dL_law_500 : decode cL_law 500 = .ok (.iload_n 3, 1) := by decide +kernel
theorem dL_law_501 : decode cL_law 501 = .ok (.iconst 1, 1) := by decide +kernel
theorem dL_law_502 : decode cL_law 502 = .ok (.iadd, 1) := by decide +kernel
theorem dL_law_503 : decode cL_law 503 = .ok (.iaload, 1) := by decide +kernel
theorem dL_law_504 : decode cL_law 504 = .ok (.invokevirtual 72, 3) := by decide +kernel
theorem dL_law_507 : decode cL_law 507 = .ok (.if_icmp .eq 222, 3) := by decide +kernel
theorem dL_law_510 : decode cL_law 510 = .ok (.iconst 0, 1) := by decide +kernel
theorem dL_law_511 : decode cL_law 511 = .ok (.ireturn, 1) := by decide +kernel
theorem dL_law_512 : decode cL_law 512 = .ok (.aload_n 1, 1) := by decide +kernel
theorem dL_law_513 : decode cL_law 513 = .ok (.aload_n 0, 1) := by decide +kernel
theorem dL_law_514 : decode cL_law 514 = .ok (.iload_n 3, 1) := by decide +kernel
theorem dL_law_515 : decode cL_law 515 = .ok (.iconst 1, 1) := by decide +kernel
theorem dL_law_516 : decode cL_law 516 = .ok (.iadd, 1) := by decide +kernel
theorem dL_law_517 : decode cL_law 517 = .ok (.iaload, 1) := by decide +kernel
theorem dL_law_518 : decode cL_law 518 = .ok (.aload_n 0, 1) := by decide +kernel
theorem dL_law_519 : decode cL_law 519 = .ok (.iload_n 3, 1) := by decide +kernel
theorem dL_law_520 : decode cL_law 520 = .ok (.iconst 2, 1) := by decide +kernel
theorem dL_law_521 : decode cL_law 521 = .ok (.iadd, 1) := by decide +kernel
theorem dL_law_522 : decode cL_law 522 = .ok (.iaload, 1) := by decide +kernel
theorem dL_law_523 : decode cL_law 523 = .ok (.invokevirtual 73, 3) := by decide +kernel
theorem dL_law_526 : decode cL_law 526 = .ok (.aload_n 2, 1) := by decide +kernel
theorem dL_law_527 : decode cL_law 527 = .ok (.aload_n 0, 1) := by decide +kernel
theorem dL_law_528 : decode cL_law 528 = .ok (.iload_n 3, 1) := by decide +kernel
theorem dL_law_529 : decode cL_law 529 = .ok (.iconst 1, 1) := by decide +kernel
theorem dL_law_530 : decode cL_law 530 = .ok (.iadd, 1) := by decide +kernel
theorem dL_law_531 : decode cL_law 531 = .ok (.iaload, 1) := by decide +kernel
theorem dL_law_532 : decode cL_law 532 = .ok (.aload_n 0, 1) := by decide +kernel
theorem dL_law_533 : decode cL_law 533 = .ok (.iload_n 3, 1) := by decide +kernel
theorem dL_law_534 : decode cL_law 534 = .ok (.iconst 2, 1) := by decide +kernel
theorem dL_law_535 : decode cL_law 535 = .ok (.iadd, 1) := by decide +kernel
theorem dL_law_536 : decode cL_law 536 = .ok (.iaload, 1) := by decide +kernel
theorem dL_law_537 : decode cL_law 537 = .ok (.invokevirtual 76, 3) := by decide +kernel
theorem dL_law_540 : decode cL_law 540 = .ok (.if_icmp .eq 189, 3) := by decide +kernel
theorem dL_law_543 : decode cL_law 543 = .ok (.iconst 0, 1) := by decide +kernel
theorem dL_law_544 : decode cL_law 544 = .ok (.ireturn, 1) := by decide +kernel
theorem dL_law_545 : decode cL_law 545 = .ok (.aload_n 1, 1) := by decide +kernel
theorem dL_law_546 : decode cL_law 546 = .ok (.aload_n 0, 1) := by decide +kernel
theorem dL_law_547 : decode cL_law 547 = .ok (.iload_n 3, 1) := by decide +kernel
theorem dL_law_548 : decode cL_law 548 = .ok (.iconst 1, 1) := by decide +kernel
theorem dL_law_549 : decode cL_law 549 = .ok (.iadd, 1) := by decide +kernel
theorem dL_law_550 : decode cL_law 550 = .ok (.iaload, 1) := by decide +kernel
theorem dL_law_551 : decode cL_law 551 = .ok (.aload_n 0, 1) := by decide +kernel
theorem dL_law_552 : decode cL_law 552 = .ok (.iload_n 3, 1) := by decide +kernel
theorem dL_law_553 : decode cL_law 553 = .ok (.iconst 2, 1) := by decide +kernel
theorem dL_law_554 : decode cL_law 554 = .ok (.iadd, 1) := by decide +kernel
theorem dL_law_555 : decode cL_law 555 = .ok (.iaload, 1) := by decide +kernel
theorem dL_law_556 : decode cL_law 556 = .ok (.invokevirtual 77, 3) := by decide +kernel
theorem dL_law_559 : decode cL_law 559 = .ok (.aload_n 2, 1) := by decide +kernel
theorem dL_law_560 : decode cL_law 560 = .ok (.aload_n 0, 1) := by decide +kernel
theorem dL_law_561 : decode cL_law 561 = .ok (.iload_n 3, 1) := by decide +kernel
theorem dL_law_562 : decode cL_law 562 = .ok (.iconst 1, 1) := by decide +kernel
theorem dL_law_563 : decode cL_law 563 = .ok (.iadd, 1) := by decide +kernel
theorem dL_law_564 : decode cL_law 564 = .ok (.iaload, 1) := by decide +kernel
theorem dL_law_565 : decode cL_law 565 = .ok (.aload_n 0, 1) := by decide +kernel
theorem dL_law_566 : decode cL_law 566 = .ok (.iload_n 3, 1) := by decide +kernel
theorem dL_law_567 : decode cL_law 567 = .ok (.iconst 2, 1) := by decide +kernel
theorem dL_law_568 : decode cL_law 568 = .ok (.iadd, 1) := by decide +kernel
theorem dL_law_569 : decode cL_law 569 = .ok (.iaload, 1) := by decide +kernel
theorem dL_law_570 : decode cL_law 570 = .ok (.invokevirtual 80, 3) := by decide +kernel
theorem dL_law_573 : decode cL_law 573 = .ok (.if_icmp .eq 156, 3) := by decide +kernel
theorem dL_law_576 : decode cL_law 576 = .ok (.iconst 0, 1) := by decide +kernel
theorem dL_law_577 : decode cL_law 577 = .ok (.ireturn, 1) := by decide +kernel
theorem dL_law_578 : decode cL_law 578 = .ok (.aload_n 1, 1) := by decide +kernel
theorem dL_law_579 : decode cL_law 579 = .ok (.invokevirtual 81, 3) := by decide +kernel
theorem dL_law_582 : decode cL_law 582 = .ok (.aload_n 2, 1) := by decide +kernel
theorem dL_law_583 : decode cL_law 583 = .ok (.invokevirtual 84, 3) := by decide +kernel
theorem dL_law_586 : decode cL_law 586 = .ok (.if_icmp .eq 143, 3) := by decide +kernel
theorem dL_law_589 : decode cL_law 589 = .ok (.iconst 0, 1) := by decide +kernel
theorem dL_law_590 : decode cL_law 590 = .ok (.ireturn, 1) := by decide +kernel
theorem dL_law_591 : decode cL_law 591 = .ok (.aload_n 1, 1) := by decide +kernel
theorem dL_law_592 : decode cL_law 592 = .ok (.aload_n 0, 1) := by decide +kernel
theorem dL_law_593 : decode cL_law 593 = .ok (.iload_n 3, 1) := by decide +kernel
theorem dL_law_594 : decode cL_law 594 = .ok (.iconst 1, 1) := by decide +kernel
theorem dL_law_595 : decode cL_law 595 = .ok (.iadd, 1) := by decide +kernel
theorem dL_law_596 : decode cL_law 596 = .ok (.iaload, 1) := by decide +kernel
theorem dL_law_597 : decode cL_law 597 = .ok (.i2l, 1) := by decide +kernel
theorem dL_law_598 : decode cL_law 598 = .ok (.bipush 32, 2) := by decide +kernel
theorem dL_law_600 : decode cL_law 600 = .ok (.lshl, 1) := by decide +kernel
theorem dL_law_601 : decode cL_law 601 = .ok (.aload_n 0, 1) := by decide +kernel
theorem dL_law_602 : decode cL_law 602 = .ok (.iload_n 3, 1) := by decide +kernel
theorem dL_law_603 : decode cL_law 603 = .ok (.iconst 2, 1) := by decide +kernel
theorem dL_law_604 : decode cL_law 604 = .ok (.iadd, 1) := by decide +kernel
theorem dL_law_605 : decode cL_law 605 = .ok (.iaload, 1) := by decide +kernel
theorem dL_law_606 : decode cL_law 606 = .ok (.i2l, 1) := by decide +kernel
theorem dL_law_607 : decode cL_law 607 = .ok (.ldc2_w 85, 3) := by decide +kernel
theorem dL_law_610 : decode cL_law 610 = .ok (.land, 1) := by decide +kernel
theorem dL_law_611 : decode cL_law 611 = .ok (.lor, 1) := by decide +kernel
theorem dL_law_612 : decode cL_law 612 = .ok (.invokevirtual 87, 3) := by decide +kernel
theorem dL_law_615 : decode cL_law 615 = .ok (.aload_n 2, 1) := by decide +kernel
theorem dL_law_616 : decode cL_law 616 = .ok (.aload_n 0, 1) := by decide +kernel
theorem dL_law_617 : decode cL_law 617 = .ok (.iload_n 3, 1) := by decide +kernel
theorem dL_law_618 : decode cL_law 618 = .ok (.iconst 1, 1) := by decide +kernel
theorem dL_law_619 : decode cL_law 619 = .ok (.iadd, 1) := by decide +kernel
theorem dL_law_620 : decode cL_law 620 = .ok (.iaload, 1) := by decide +kernel
theorem dL_law_621 : decode cL_law 621 = .ok (.i2l, 1) := by decide +kernel
theorem dL_law_622 : decode cL_law 622 = .ok (.bipush 32, 2) := by decide +kernel
theorem dL_law_624 : decode cL_law 624 = .ok (.lshl, 1) := by decide +kernel
theorem dL_law_625 : decode cL_law 625 = .ok (.aload_n 0, 1) := by decide +kernel
theorem dL_law_626 : decode cL_law 626 = .ok (.iload_n 3, 1) := by decide +kernel
theorem dL_law_627 : decode cL_law 627 = .ok (.iconst 2, 1) := by decide +kernel
theorem dL_law_628 : decode cL_law 628 = .ok (.iadd, 1) := by decide +kernel
theorem dL_law_629 : decode cL_law 629 = .ok (.iaload, 1) := by decide +kernel
theorem dL_law_630 : decode cL_law 630 = .ok (.i2l, 1) := by decide +kernel
theorem dL_law_631 : decode cL_law 631 = .ok (.ldc2_w 85, 3) := by decide +kernel
theorem dL_law_634 : decode cL_law 634 = .ok (.land, 1) := by decide +kernel
theorem dL_law_635 : decode cL_law 635 = .ok (.lor, 1) := by decide +kernel
theorem dL_law_636 : decode cL_law 636 = .ok (.invokevirtual 91, 3) := by decide +kernel
theorem dL_law_639 : decode cL_law 639 = .ok (.if_icmp .eq 90, 3) := by decide +kernel
theorem dL_law_642 : decode cL_law 642 = .ok (.iconst 0, 1) := by decide +kernel
theorem dL_law_643 : decode cL_law 643 = .ok (.ireturn, 1) := by decide +kernel
theorem dL_law_644 : decode cL_law 644 = .ok (.aload_n 1, 1) := by decide +kernel
theorem dL_law_645 : decode cL_law 645 = .ok (.invokevirtual 92, 3) := by decide +kernel
theorem dL_law_648 : decode cL_law 648 = .ok (.aload_n 2, 1) := by decide +kernel
theorem dL_law_649 : decode cL_law 649 = .ok (.invokevirtual 95, 3) := by decide +kernel
theorem dL_law_652 : decode cL_law 652 = .ok (.if_icmp .eq 77, 3) := by decide +kernel
theorem dL_law_655 : decode cL_law 655 = .ok (.iconst 0, 1) := by decide +kernel
theorem dL_law_656 : decode cL_law 656 = .ok (.ireturn, 1) := by decide +kernel
theorem dL_law_657 : decode cL_law 657 = .ok (.aload_n 1, 1) := by decide +kernel
theorem dL_law_658 : decode cL_law 658 = .ok (.invokevirtual 96, 3) := by decide +kernel
theorem dL_law_661 : decode cL_law 661 = .ok (.aload_n 2, 1) := by decide +kernel
theorem dL_law_662 : decode cL_law 662 = .ok (.invokevirtual 99, 3) := by decide +kernel
theorem dL_law_665 : decode cL_law 665 = .ok (.if_icmp .eq 64, 3) := by decide +kernel
theorem dL_law_668 : decode cL_law 668 = .ok (.iconst 0, 1) := by decide +kernel
theorem dL_law_669 : decode cL_law 669 = .ok (.ireturn, 1) := by decide +kernel
theorem dL_law_670 : decode cL_law 670 = .ok (.aload_n 1, 1) := by decide +kernel
theorem dL_law_671 : decode cL_law 671 = .ok (.invokevirtual 100, 3) := by decide +kernel
theorem dL_law_674 : decode cL_law 674 = .ok (.aload_n 2, 1) := by decide +kernel
theorem dL_law_675 : decode cL_law 675 = .ok (.invokevirtual 103, 3) := by decide +kernel
theorem dL_law_678 : decode cL_law 678 = .ok (.if_icmp .eq 51, 3) := by decide +kernel
theorem dL_law_681 : decode cL_law 681 = .ok (.iconst 0, 1) := by decide +kernel
theorem dL_law_682 : decode cL_law 682 = .ok (.ireturn, 1) := by decide +kernel
theorem dL_law_683 : decode cL_law 683 = .ok (.aload_n 1, 1) := by decide +kernel
theorem dL_law_684 : decode cL_law 684 = .ok (.aload_n 0, 1) := by decide +kernel
theorem dL_law_685 : decode cL_law 685 = .ok (.iload_n 3, 1) := by decide +kernel
theorem dL_law_686 : decode cL_law 686 = .ok (.iconst 1, 1) := by decide +kernel
theorem dL_law_687 : decode cL_law 687 = .ok (.iadd, 1) := by decide +kernel
theorem dL_law_688 : decode cL_law 688 = .ok (.iaload, 1) := by decide +kernel
theorem dL_law_689 : decode cL_law 689 = .ok (.invokevirtual 104, 3) := by decide +kernel
theorem dL_law_692 : decode cL_law 692 = .ok (.aload_n 2, 1) := by decide +kernel
theorem dL_law_693 : decode cL_law 693 = .ok (.aload_n 0, 1) := by decide +kernel
theorem dL_law_694 : decode cL_law 694 = .ok (.iload_n 3, 1) := by decide +kernel
theorem dL_law_695 : decode cL_law 695 = .ok (.iconst 1, 1) := by decide +kernel
theorem dL_law_696 : decode cL_law 696 = .ok (.iadd, 1) := by decide +kernel
theorem dL_law_697 : decode cL_law 697 = .ok (.iaload, 1) := by decide +kernel
theorem dL_law_698 : decode cL_law 698 = .ok (.invokevirtual 107, 3) := by decide +kernel
theorem dL_law_701 : decode cL_law 701 = .ok (.if_icmp .eq 28, 3) := by decide +kernel
theorem dL_law_704 : decode cL_law 704 = .ok (.iconst 0, 1) := by decide +kernel
theorem dL_law_705 : decode cL_law 705 = .ok (.ireturn, 1) := by decide +kernel
theorem dL_law_706 : decode cL_law 706 = .ok (.aload_n 1, 1) := by decide +kernel
theorem dL_law_707 : decode cL_law 707 = .ok (.aload_n 0, 1) := by decide +kernel
theorem dL_law_708 : decode cL_law 708 = .ok (.iload_n 3, 1) := by decide +kernel
theorem dL_law_709 : decode cL_law 709 = .ok (.iconst 1, 1) := by decide +kernel
theorem dL_law_710 : decode cL_law 710 = .ok (.iadd, 1) := by decide +kernel
theorem dL_law_711 : decode cL_law 711 = .ok (.iaload, 1) := by decide +kernel
theorem dL_law_712 : decode cL_law 712 = .ok (.invokevirtual 108, 3) := by decide +kernel
theorem dL_law_715 : decode cL_law 715 = .ok (.aload_n 2, 1) := by decide +kernel
theorem dL_law_716 : decode cL_law 716 = .ok (.aload_n 0, 1) := by decide +kernel
theorem dL_law_717 : decode cL_law 717 = .ok (.iload_n 3, 1) := by decide +kernel
theorem dL_law_718 : decode cL_law 718 = .ok (.iconst 1, 1) := by decide +kernel
theorem dL_law_719 : decode cL_law 719 = .ok (.iadd, 1) := by decide +kernel
theorem dL_law_720 : decode cL_law 720 = .ok (.iaload, 1) := by decide +kernel
theorem dL_law_721 : decode cL_law 721 = .ok (.invokevirtual 111, 3) := by decide +kernel
theorem dL_law_724 : decode cL_law 724 = .ok (.if_icmp .eq 5, 3) := by decide +kernel
theorem dL_law_727 : decode cL_law 727 = .ok (.iconst 0, 1) := by decide +kernel
theorem dL_law_728 : decode cL_law 728 = .ok (.ireturn, 1) := by decide +kernel
theorem dL_law_729 : decode cL_law 729 = .ok (.iinc 3 4, 3) := by decide +kernel
theorem dL_law_732 : decode cL_law 732 = .ok (.goto (-714), 3) := by decide +kernel
theorem dL_law_735 : decode cL_law 735 = .ok (.iconst 1, 1) := by decide +kernel
theorem dL_law_736 : decode cL_law 736 = .ok (.ireturn, 1) := by decide +kernel
abbrev vwCl : List vw_C := [(RX0, TX0, 3), (RX1, TX1, 3), (RX2, TX2, 5), (RX3, TX3, 3), (RX4, TX4, 3), (RX5, TX5, 6), (RX6, TX6, 4), (RX7, TX7, 8), (RX8, TX8, 14)]
end
section
/-! THE CLAIM OUT OF ONE WALK OF THE LAW'S BODY. Your part is whole_start (and what it stands on); all else here is the same for every law, but numbers. -/
def R_law : String := "HatWindsLaw"
def lw_P (b : Addr) (xs : List Int32) (args : Array Value) (s : State) : Prop := args = #[.ref b] ∧ s.IntsAt b xs ∧ xs.length ≤ 2048 ∧ (Jvm.Cond.and given_1 narrow_1).before args s = true
def lw_Q (_ : Array Value) (s : State) (o : Outcome) (t : State) : Prop := o = .returned (some (.int 1)) ∧ Framed s o t [] 600000 7302250
def lw_Z (below : List Frame) (a : Array Value) (s : State) : State → Prop := fun t => ∃ o, t.status = .running ∧ Ended t below o ∧ lw_Q a s o t
/-- the law's own end, with 1 on the stack, nothing written that was there before, its room as the claim has it -/
theorem lw_ret {p : Program} {l : Launch} {e : Env} {s : State} {m : MethodId} {below : List Frame} {meth : Method} {c : Code} {b : Nat} (hx : p.tables.exec = Jvm.exec) (hb : c.code = code) (hr : meth.sig.returnType = ret) (hlocks : meth.locks = false) {pc : Nat} {H : Heap} {ls : Array Slot} (hdg : decode code pc = .ok (.ireturn, 1)) : W p l e room_1 s m #[Value.ref b] below meth c H [] 600000 7302250 (lw_Z below #[Value.ref b] s) (F0 m pc ls [.int 1]) := by
  intro T hT X
  obtain ⟨fs, hret, hrun, hended, hW, hframe⟩ := X.leave (v := some (.int 1)) (hlocks := hlocks) (fun h => by rw [hr] at h; cases h)
  have hmeth' : T.vm.method? m = some meth := X.method'
  refine ⟨T.setFrames fs, ?_, .returned (some (.int 1)), hrun, hended, rfl, ⟨_, rfl⟩, hW, hframe⟩
  jvm_step X.here [X.here.top, hx, hb, hdg, hmeth', hr, ret, narrow_b1]
  (try refine ⟨rfl, ?_⟩); (try refine ⟨rfl, ?_⟩)
  first | (intro acts; rw [hret _ acts rfl rfl rfl]) | rw [hret _ _ rfl rfl rfl]
  exact Steps.refl _
/-- what holds at the law's entry: the machine, the code, the tables' words (any of lw_tbl by 'hts w (by decide +kernel)'), the script of L ints xs at the cell b, what the Statement gives of the start (any of its parts by flat_of_before) -/
def lw_At (p : Program) (s : State) (m : MethodId) (meth : Method) (c : Code) (b L : Nat) (xs : Nat → Int32) : Prop :=
  p.tables.exec = Jvm.exec ∧ c.code = code ∧ meth.sig.returnType = ret ∧ c.maxLocals = 4 ∧ s.vm.findClass R_law = some m.cls ∧ (∀ w ∈ lw_tbl, w.before #[Value.ref b] s = true) ∧ va_X b L xs s s.heap ∧ b < s.heap.size ∧ meth.locks = false ∧ (Jvm.Cond.and given_1 narrow_1).before #[Value.ref b] s = true
-- ===== YOUR PART BEGINS =====
end
section
/-! The base: the worlds of this system, and the kit's rows in a shorter form. -/
abbrev xQ : Type := Nat → ClassId
/-- the array classes: of ints, chars, booleans, towns -/
abbrev xTy (q : xQ) : List (ClassId × FieldType) := [(q 0, .int), (q 1, .char), (q 2, .boolean), (q 3, .object "HatWinds$Town")]
/-- words of nest mates and the like, that are no words of a method's list -/
def xNs : List Cond := [.methodLinkNest RX7 18 yX0_init "HatWinds", .methodLinkNest RX7 40 yX3_init "HatWinds", .methodLinkNest RX7 50 yX4_init "HatWinds", .methodLinkNest RX0 56 yX7_quotient "HatWinds", .methodLinkNest RX2 28 yX7_copyRow "HatWinds", .methodLinkNest RX4 11 yX5_init "HatWinds", .methodLinkNest RX4 76 yX7_isWithin "HatWinds", .methodLinkNest RX5 31 yX7_copyRow "HatWinds", .methodLinkNest RX5 35 yX7_isIndexOf "HatWinds", .methodLinkNest RX6 25 yX5_init "HatWinds", .methodLinkNest RX6 32 yX2_init "HatWinds", .methodLinkNest RX6 45 yX7_copyRow "HatWinds", .fieldLinkNest RX6 9 RX7 "FIRST_SETTINGS" "[I" "HatWinds", .castable "[I" "java/lang/Cloneable"]
def xN (U : State) : Prop := ∀ w ∈ xNs, va_Nw w U
theorem xN_of {A : Array Value} {U : State} (h : ∀ w ∈ xNs, w.before A U = true) : xN U := fun w hw => va_Nw.of (by
  have h1 : xNs.all Cond.onTables = true := by decide +kernel
  exact List.all_eq_true.mp h1 w hw) (h w hw)
theorem xN.use {A : Array Value} {U : State} (h : xN U) {w : Cond} (hw : w ∈ xNs) : w.before A U = true := va_Nw.use (by
  have h1 : xNs.all Cond.onTables = true := by decide +kernel
  exact List.all_eq_true.mp h1 w hw) (h w hw)
theorem xN.warm {s U : State} (hW : s.WarmedH U.vm) (h : xN s) : xN U := by
  unfold xN xNs at h ⊢
  simp only [List.forall_mem_cons] at h ⊢
  obtain ⟨h1, h2, h3, h4, h5, h6, h7, h8, h9, h10, h11, h12, h13, h14, h15⟩ := h
  exact ⟨va_Nw.warmM hW h1, va_Nw.warmM hW h2, va_Nw.warmM hW h3, va_Nw.warmM hW h4, va_Nw.warmM hW h5, va_Nw.warmM hW h6, va_Nw.warmM hW h7, va_Nw.warmM hW h8, va_Nw.warmM hW h9, va_Nw.warmM hW h10, va_Nw.warmM hW h11, va_Nw.warmM hW h12, va_Nw.warmF hW h13, va_Nw.warmC hW h14, fun _ h => absurd h List.not_mem_nil⟩
theorem xN.same {u U : State} (hvm : u.vm = U.vm) (h : xN u) : xN U := fun w hw => va_Nw.same (by
  have h1 : xNs.all Cond.onTables = true := by decide +kernel
  exact List.all_eq_true.mp h1 w hw) hvm (h w hw)
/-- what a method finds: its world, the tables -/
def xC (D : va_G) (q : xQ) (gs : List va_W) (U : State) : Prop := va_P D vwCl gs.flatten U.heap ∧ va_K D vwCl (xTy q) U ∧ va_D (fun _ => True) gs.flatten ∧ xN U
abbrev xB (D : va_G) (A : Nat → Prop) : List va_W → State → Prop := fun g1 t => va_P D vwCl g1.flatten t.heap ∧ va_D A g1.flatten
abbrev xPc (D : va_G) (q : xQ) (As : List Value) (gs : List va_W) (sz : Nat) : Array Value → State → Prop := va_Pc As (fun U => U.heap.size = sz ∧ xC D q gs U)
/-- contracts: answers an int; answers nothing; answers a cell -/
def xMi (l : Launch) (y : MethodName) (tw : List Cond) (rm : Room) (D : va_G) (q : xQ) (As : List Value) (gs : List va_W) (post : Int32 → List va_W → Prop) : Prop :=
  ∀ sz, Met l y tw rm (xPc D q As gs sz) (va_Qi post (xB D (va_A gs.flatten sz)) (va_A gs.flatten sz)) rm.cells rm.slots (va_A gs.flatten sz)
def xMv (l : Launch) (y : MethodName) (tw : List Cond) (rm : Room) (D : va_G) (q : xQ) (As : List Value) (gs : List va_W) (post : List va_W → Prop) : Prop :=
  ∀ sz, Met l y tw rm (xPc D q As gs sz) (va_Qv post (xB D (va_A gs.flatten sz)) (va_A gs.flatten sz)) rm.cells rm.slots (va_A gs.flatten sz)
def xMr (l : Launch) (y : MethodName) (tw : List Cond) (rm : Room) (D : va_G) (q : xQ) (As : List Value) (gs : List va_W) (post : Nat → List va_W → Prop) : Prop :=
  ∀ sz, Met l y tw rm (xPc D q As gs sz) (va_Qr (fun _ : List va_W => True) (fun w1 a t => post a w1 ∧ xB D (va_A gs.flatten sz) w1 t) (va_A gs.flatten sz)) rm.cells rm.slots (va_A gs.flatten sz)
/-- what is fixed in a walk -/
abbrev xF (p : Program) (m : MethodId) (c : Code) (cc : ByteArray) (nL : Nat) (s : State) (args : Array Value) (Ts : List Cond) (own : String) (D : va_G) (q : xQ) : Prop :=
  CallFix p m c cc nL s args Ts own ∧ va_K D vwCl (xTy q) s ∧ xN s
/-- what moves in a walk -/
def xS (D : va_G) (A : Nat → Prop) (s : State) (gs : List va_W) (H : Heap) (locs : List Loc) : Prop := va_P D vwCl gs.flatten H ∧ va_D A gs.flatten ∧ va_S A s.heap H locs ∧ ∀ r, s.heap.size ≤ r → A r
theorem xb_blind {D : va_G} {q : xQ} {As : List Value} {gs : List va_W} {sz : Nat} : FrameBlind (xPc D q As gs sz) := fun a U g mk h => by
  obtain ⟨q0, q1, qP, qK, qD, qN⟩ := h
  exact ⟨q0, q1, qP, va_K.moved (u := U) (U := U.calling g mk a) (Vm.Alike.refl U.vm) qK, qD, xN.same (u := U) (U := U.calling g mk a) rfl qN⟩
/-! worlds by what is in them -/
theorem xp_P {D : va_G} {cl : List vw_C} {ws : va_W} {H : Heap} : va_P D cl ws H ↔ ∀ z ∈ ws, va_at D cl z H :=
  ⟨fun h z hz => by obtain ⟨k, hk⟩ := List.getElem?_of_mem hz; exact h k z hk, fun h k z hk => h z (List.mem_of_getElem? hk)⟩
theorem xp_D {A : Nat → Prop} {ws : va_W} : va_D A ws ↔ (ws.map Prod.fst).Nodup ∧ ∀ z ∈ ws, A z.1 := by
  constructor
  · intro h
    refine ⟨?_, fun z hz => by obtain ⟨k, hk⟩ := List.getElem?_of_mem hz; exact h.2 k z hk⟩
    unfold List.Nodup
    rw [List.pairwise_iff_getElem]
    intro i j hi hj hij e
    rw [List.length_map] at hi hj
    rw [List.getElem_map, List.getElem_map] at e
    exact absurd (h.1 i j ws[i] ws[j] (List.getElem?_eq_getElem hi) (List.getElem?_eq_getElem hj) e) (Nat.ne_of_lt hij)
  · intro h
    refine ⟨fun i j a b ha hb hab => ?_, fun k z hk => h.2 z (List.mem_of_getElem? hk)⟩
    obtain ⟨hi, -⟩ := List.getElem?_eq_some_iff.mp ha
    have e : (ws.map Prod.fst)[i]? = (ws.map Prod.fst)[j]? := by rw [List.getElem?_map, List.getElem?_map, ha, hb]; exact congrArg some hab
    exact (List.getElem?_inj (by rw [List.length_map]; exact hi) h.1).mp e
theorem xp_nodup_app {l1 l2 : List Nat} (h1 : l1.Nodup) (h2 : l2.Nodup) (hx : ∀ a ∈ l1, ∀ b ∈ l2, a ≠ b) : (l1 ++ l2).Nodup := List.nodup_append.mpr ⟨h1, h2, hx⟩
theorem xS.perm {D : va_G} {A : Nat → Prop} {s : State} {gs gs' : List va_W} {H : Heap} {locs : List Loc} (hp0 : gs.Perm gs') (X : xS D A s gs H locs) : xS D A s gs' H locs := by
  have hp := hp0.flatten
  refine ⟨xp_P.mpr fun z hz => xp_P.mp X.1 z (hp.mem_iff.mpr hz), xp_D.mpr ⟨((hp.map Prod.fst).nodup_iff).mp (xp_D.mp X.2.1).1, fun z hz => (xp_D.mp X.2.1).2 z (hp.mem_iff.mpr hz)⟩, X.2.2⟩
theorem xS.left {D : va_G} {A : Nat → Prop} {s : State} {gc gr : List va_W} {H : Heap} {locs : List Loc} (X : xS D A s (gc ++ gr) H locs) : xS D A s gc H locs := by
  unfold xS at X
  rw [List.flatten_append] at X
  refine ⟨xp_P.mpr fun z hz => xp_P.mp X.1 z (List.mem_append_left _ hz), xp_D.mpr ⟨?_, fun z hz => (xp_D.mp X.2.1).2 z (List.mem_append_left _ hz)⟩, X.2.2⟩
  have h := (xp_D.mp X.2.1).1
  rw [List.map_append] at h
  exact (List.nodup_append.mp h).1
theorem xS.same {D : va_G} {A : Nat → Prop} {s : State} {gs gs' : List va_W} {H : Heap} {locs : List Loc} (h : gs.flatten = gs'.flatten) (X : xS D A s gs H locs) : xS D A s gs' H locs := by
  unfold xS at X ⊢
  rw [← h]
  exact X
/-- behind a call: what came back, beside the rest -/
theorem xS.back {D : va_G} {A : Nat → Prop} {s : State} {gc gr g1 : List va_W} {H H1 : Heap} {locs locs1 : List Loc} (X : xS D A s (gc ++ gr) H locs) (hk : ∀ r : Nat, r < H.size → ¬ va_A gc.flatten H.size r → H1[r]? = H[r]?) (hP1 : va_P D vwCl g1.flatten H1) (hD1 : va_D (va_A gc.flatten H.size) g1.flatten) (hS1 : va_S A s.heap H1 locs1) : xS D A s (g1 ++ gr) H1 locs1 := by
  unfold xS at X ⊢
  rw [List.flatten_append] at X ⊢
  have hd := xp_D.mp X.2.1
  have hn := hd.1
  rw [List.map_append] at hn
  obtain ⟨-, hn2, hx⟩ := List.nodup_append.mp hn
  have hlt : ∀ z ∈ gr.flatten, z.1 < H.size := fun z hz => va_at.lt (xp_P.mp X.1 z (List.mem_append_right _ hz))
  have hoff : ∀ z ∈ gr.flatten, ¬ va_A gc.flatten H.size z.1 := by
    intro z hz hA
    rcases hA with ⟨k, e, hk⟩ | hA
    · exact hx z.1 (List.mem_map.mpr ⟨(z.1, e), List.mem_of_getElem? hk, rfl⟩) z.1 (List.mem_map.mpr ⟨z, hz, rfl⟩) rfl
    · exact absurd (hlt z hz) (Nat.not_lt.mpr hA)
  refine ⟨xp_P.mpr fun z hz => ?_, xp_D.mpr ⟨?_, fun z hz => ?_⟩, hS1, X.2.2.2⟩
  · rcases List.mem_append.mp hz with hz | hz
    · exact xp_P.mp hP1 z hz
    · exact (xp_P.mp X.1 z (List.mem_append_right _ hz)).kept (hk z.1 (hlt z hz) (hoff z hz))
  · rw [List.map_append]
    refine xp_nodup_app (xp_D.mp hD1).1 hn2 fun a ha b hb e => ?_
    obtain ⟨za, hza, rfl⟩ := List.mem_map.mp ha
    obtain ⟨zb, hzb, rfl⟩ := List.mem_map.mp hb
    exact hoff zb hzb (e ▸ (xp_D.mp hD1).2 za hza)
  · rcases List.mem_append.mp hz with hz | hz
    · rcases (xp_D.mp hD1).2 z hz with ⟨k, e, hk⟩ | h
      · exact hd.2 (z.1, e) (List.mem_append_left _ (List.mem_of_getElem? hk))
      · exact X.2.2.2 _ (Nat.le_trans X.2.2.1.1 h)
    · exact hd.2 z (List.mem_append_right _ hz)
theorem xS.free {D : va_G} {A : Nat → Prop} {s : State} {gc gr : List va_W} {H : Heap} {locs : List Loc} (X : xS D A s (gc ++ gr) H locs) : ∀ r, va_A gc.flatten H.size r → A r := by
  unfold xS at X
  rw [List.flatten_append] at X
  rintro r (⟨k, e, hk⟩ | h)
  · exact (xp_D.mp X.2.1).2 (r, e) (List.mem_append_left _ (List.mem_of_getElem? hk))
  · exact X.2.2.2 _ (Nat.le_trans X.2.2.1.1 h)
/-- a permutation by places -/
theorem xp_all {α : Type} : ∀ ws : List α, (List.range ws.length).filterMap (fun i => ws[i]?) = ws
  | [] => rfl
  | a :: l => by
    have ih := xp_all l
    rw [List.length_cons, List.range_succ_eq_map, List.filterMap_cons, List.filterMap_map]
    simp only [List.getElem?_cons_zero]
    congr 1
theorem xp_idx {α : Type} {ws ws' : List α} (is : List Nat) {n : Nat} (h1 : is.isPerm (List.range n) = true) (hn : ws.length = n) (h2 : is.filterMap (fun i => ws[i]?) = ws') : ws.Perm ws' := by
  subst hn
  have h := (List.isPerm_iff.mp h1).filterMap (fun i => ws[i]?)
  rw [h2, xp_all] at h
  exact h.symm
/-- a block in parts, and back -/
theorem xS.expl {D : va_G} {A : Nat → Prop} {s : State} {gs gs' bs : List va_W} {b : va_W} {H : Heap} {locs : List Loc} (k : Nat) (hb : gs[k]? = some b) (h : b = bs.flatten) (hg : gs.take k ++ (bs ++ gs.drop (k + 1)) = gs') (X : xS D A s gs H locs) : xS D A s gs' H locs := by
  refine X.same ?_
  subst hg
  obtain ⟨hk, rfl⟩ := List.getElem?_eq_some_iff.mp hb
  have e : gs = gs.take k ++ (gs[k] :: gs.drop (k + 1)) := by rw [List.getElem_cons_drop, List.take_append_drop]
  conv => lhs; rw [e]
  rw [List.flatten_append, List.flatten_append, List.flatten_append, List.flatten_cons, ← h]
theorem xS.impl {D : va_G} {A : Nat → Prop} {s : State} {gs gs' bs : List va_W} {b : va_W} {H : Heap} {locs : List Loc} (k m : Nat) (hb : (gs.drop k).take m = bs) (h : bs.flatten = b) (hg : gs.take k ++ (b :: gs.drop (k + m)) = gs') (X : xS D A s gs H locs) : xS D A s gs' H locs := by
  refine X.same ?_
  subst hg; subst hb; subst h
  have e : gs = gs.take k ++ ((gs.drop k).take m ++ gs.drop (k + m)) := by rw [← List.drop_drop, List.take_append_drop, List.take_append_drop]
  conv => lhs; rw [e]
  rw [List.flatten_append, List.flatten_append, List.flatten_append, List.flatten_cons]
end
section
/-! The rows in a shorter form. -/
section XR
variable {p : Program} {l : Launch} {e : Env} {R : Room} {s : State} {m : MethodId} {args : Array Value} {below : List Frame} {meth : Method} {c : Code} {H : Heap} {locs : List Loc} {cells slots : Nat} {Q : State → Prop}
variable {cc : ByteArray} {nL : Nat} {pc : Nat} {ls : Array Slot} {rest : List Value} {D : va_G} {q : xQ} {A : Nat → Prop} {gs gs' : List va_W} {Ts : List Cond} {own : String}
theorem x_i {x y : Int32} (h : x = y) (k : W p l e R s m args below meth c H locs cells slots Q (F0 m pc ls (.int y :: rest))) : W p l e R s m args below meth c H locs cells slots Q (F0 m pc ls (.int x :: rest)) := by subst h; exact k
theorem x_l {x y : Int64} (h : x = y) (k : W p l e R s m args below meth c H locs cells slots Q (F0 m pc ls (.long y :: rest))) : W p l e R s m args below meth c H locs cells slots Q (F0 m pc ls (.long x :: rest)) := by subst h; exact k
theorem x_r {x y : Option Nat} (h : x = y) (k : W p l e R s m args below meth c H locs cells slots Q (F0 m pc ls (va_rf y :: rest))) : W p l e R s m args below meth c H locs cells slots Q (F0 m pc ls (va_rf x :: rest)) := by subst h; exact k
theorem x_get (F : xF p m c cc nL s args Ts own D q) (X : xS D A s gs H locs) {C : String} {T : u_T} {N ci index a : Nat} (hin : ∀ w ∈ u_ws C T N, w ∈ Ts) (q0 : Nat) {fs : List Value} (he : gs.flatten[q0]? = some (a, .inr (ci, fs))) (hc : vwCl[ci]? = some (C, T, N)) (k : Nat) (hk : k < N) (hl : Cond.fieldLink own index (T k).1 (T k).2.1 (T k).2.2.1 ∈ Ts) {v : Value} (hv : fs[k]? = some v) (hdg : decode cc pc = .ok (.getfield index, 3)) (kk : W p l e R s m args below meth c H locs cells slots Q (F0 m (pc + 3) ls (v :: rest))) : W p l e R s m args below meth c H locs cells slots Q (F0 m pc ls (.ref a :: rest)) := by
  obtain ⟨⟨hx, hb, -, hown, hts⟩, hK, -⟩ := F
  exact va_get (D := D) hx hb hts hin hown hK X.1 q0 he hc k hk (hts _ hl) (fun _ h => h) hv hdg kk
theorem x_put (F : xF p m c cc nL s args Ts own D q) (X : xS D A s gs H locs) {C : String} {T : u_T} {N ci index a : Nat} (hin : ∀ w ∈ u_ws C T N, w ∈ Ts) (ty0 : Nat → FieldType) (hty : ∀ k, k < N → parseFieldDescriptor (T k).2.2.1 = some (ty0 k)) (hnm : ∀ a, a < N → ∀ b, b < N → a ≠ b → (T a).2.1 ≠ (T b).2.1) (q0 : Nat) {fs : List Value} (he : gs.flatten[q0]? = some (a, .inr (ci, fs))) (hc : vwCl[ci]? = some (C, T, N)) (k : Nat) (hk : k < N) (hl : Cond.fieldLink own index (T k).1 (T k).2.1 (T k).2.2.1 ∈ Ts) (hfin : (T k).2.2.2 = false) {v : Value} (hn : narrow (ty0 k) v = v) (hfit : fits (ty0 k) v = true) (hlen : k < fs.length) (hdg : decode cc pc = .ok (.putfield index, 3)) (hs : gs.flatten.set q0 (a, .inr (ci, fs.set k v)) = gs'.flatten) (kk : ∀ (H1 : Heap) (locs1 : List Loc), xS D A s gs' H1 locs1 → W p l e R s m args below meth c H1 locs1 cells slots Q (F0 m (pc + 3) ls rest)) : W p l e R s m args below meth c H locs cells slots Q (F0 m pc ls (v :: .ref a :: rest)) := by
  obtain ⟨⟨hx, hb, -, hown, hts⟩, hK, -⟩ := F
  exact va_put (D := D) hx hb hts hin ty0 hty hnm hown hK X.1 X.2.1 X.2.2.1 q0 he hc k hk (hts _ hl) (fun _ h => h) hfin (hty k hk) hn hfit hlen hdg (fun H1 locs1 h1 h2 h3 => kk H1 locs1 ⟨hs ▸ h1, hs ▸ h2, h3, X.2.2.2⟩)
theorem x_putF (F : xF p m c cc nL s args Ts own D q) (X : xS D A s gs H locs) (hini : meth.name = "<init>") {C : String} {T : u_T} {N ci index a : Nat} (hin : ∀ w ∈ u_ws C T N, w ∈ Ts) (ty0 : Nat → FieldType) (hty : ∀ k, k < N → parseFieldDescriptor (T k).2.2.1 = some (ty0 k)) (hnm : ∀ a, a < N → ∀ b, b < N → a ≠ b → (T a).2.1 ≠ (T b).2.1) (q0 : Nat) {fs : List Value} (he : gs.flatten[q0]? = some (a, .inr (ci, fs))) (hc : vwCl[ci]? = some (C, T, N)) (k : Nat) (hk : k < N) (hl : Cond.fieldLink own index (T k).1 (T k).2.1 (T k).2.2.1 ∈ Ts) (hfin : (T k).2.2.2 = true) (hdecl : (T k).1 = own) {v : Value} (hn : narrow (ty0 k) v = v) (hfit : fits (ty0 k) v = true) (hlen : k < fs.length) (hdg : decode cc pc = .ok (.putfield index, 3)) (hs : gs.flatten.set q0 (a, .inr (ci, fs.set k v)) = gs'.flatten) (kk : ∀ (H1 : Heap) (locs1 : List Loc), xS D A s gs' H1 locs1 → W p l e R s m args below meth c H1 locs1 cells slots Q (F0 m (pc + 3) ls rest)) : W p l e R s m args below meth c H locs cells slots Q (F0 m pc ls (v :: .ref a :: rest)) := by
  obtain ⟨⟨hx, hb, -, hown, hts⟩, hK, -⟩ := F
  exact va_putF (D := D) hx hb hts hin ty0 hty hnm hown hK X.1 X.2.1 X.2.2.1 q0 he hc k hk (hts _ hl) (fun _ h => h) hfin hini hdecl (hty k hk) hn hfit hlen hdg (fun H1 locs1 h1 h2 h3 => kk H1 locs1 ⟨hs ▸ h1, hs ▸ h2, h3, X.2.2.2⟩)
theorem x_iald (F : xF p m c cc nL s args Ts own D q) (X : xS D A s gs H locs) (q0 : Nat) {a n : Nat} {f : Nat → Int32} (ha : gs.flatten[q0]? = some (a, .inl (q 0, n, .inl f))) {i : Int32} {v : Int32} (hin : vp_in i n) (hv : f i.toNatClampNeg = v) (hdg : decode cc pc = .ok (.iaload, 1)) (kk : W p l e R s m args below meth c H locs cells slots Q (F0 m (pc + 1) ls (.int v :: rest))) : W p l e R s m args below meth c H locs cells slots Q (F0 m pc ls (.int i :: .ref a :: rest)) := by
  subst hv
  exact va_iald F.1.1 F.1.2.1 F.2.1 X.1 q0 0 ha rfl hin hdg kk
theorem x_cald (F : xF p m c cc nL s args Ts own D q) (X : xS D A s gs H locs) (q0 : Nat) {a n : Nat} {f : Nat → Int32} (ha : gs.flatten[q0]? = some (a, .inl (q 1, n, .inl f))) {i : Int32} {v : Int32} (hin : vp_in i n) (hv : f i.toNatClampNeg = v) (hdg : decode cc pc = .ok (.caload, 1)) (kk : W p l e R s m args below meth c H locs cells slots Q (F0 m (pc + 1) ls (.int v :: rest))) : W p l e R s m args below meth c H locs cells slots Q (F0 m pc ls (.int i :: .ref a :: rest)) := by
  subst hv
  exact va_cald F.1.1 F.1.2.1 F.2.1 X.1 q0 1 ha rfl hin hdg kk
theorem x_zald (F : xF p m c cc nL s args Ts own D q) (X : xS D A s gs H locs) (q0 : Nat) {a n : Nat} {f : Nat → Int32} (ha : gs.flatten[q0]? = some (a, .inl (q 2, n, .inl f))) {i : Int32} {v : Int32} (hin : vp_in i n) (hv : f i.toNatClampNeg = v) (hdg : decode cc pc = .ok (.baload, 1)) (kk : W p l e R s m args below meth c H locs cells slots Q (F0 m (pc + 1) ls (.int v :: rest))) : W p l e R s m args below meth c H locs cells slots Q (F0 m pc ls (.int i :: .ref a :: rest)) := by
  subst hv
  exact va_zald F.1.1 F.1.2.1 F.2.1 X.1 q0 2 ha rfl hin hdg kk
theorem x_aald (F : xF p m c cc nL s args Ts own D q) (X : xS D A s gs H locs) (q0 : Nat) {a n : Nat} {f : Nat → Option Nat} (ha : gs.flatten[q0]? = some (a, .inl (q 3, n, .inr (.inr (.inr (.inr f)))))) {i : Int32} {v : Nat} (hin : vp_in i n) (hv : f i.toNatClampNeg = some v) (hdg : decode cc pc = .ok (.aaload, 1)) (kk : W p l e R s m args below meth c H locs cells slots Q (F0 m (pc + 1) ls (.ref v :: rest))) : W p l e R s m args below meth c H locs cells slots Q (F0 m pc ls (.int i :: .ref a :: rest)) :=
  va_aldq F.1.1 F.1.2.1 F.2.1 X.1 q0 3 ha rfl hin hdg (by rw [hv]; exact kk)
theorem x_iast (F : xF p m c cc nL s args Ts own D q) (X : xS D A s gs H locs) (q0 : Nat) {a n : Nat} {f : Nat → Int32} (ha : gs.flatten[q0]? = some (a, .inl (q 0, n, .inl f))) {i x : Int32} {k : Nat} (hin : vp_in i n) (hi : i.toNatClampNeg = k) (hdg : decode cc pc = .ok (.iastore, 1)) (hs : gs.flatten.set q0 (a, .inl (q 0, n, .inl (upd f k x))) = gs'.flatten) (kk : ∀ (H1 : Heap) (locs1 : List Loc), xS D A s gs' H1 locs1 → W p l e R s m args below meth c H1 locs1 cells slots Q (F0 m (pc + 1) ls rest)) : W p l e R s m args below meth c H locs cells slots Q (F0 m pc ls (.int x :: .int i :: .ref a :: rest)) := by
  subst hi
  exact va_iast F.1.1 F.1.2.1 F.2.1 X.1 X.2.1 X.2.2.1 q0 0 ha rfl hin hdg (fun H1 locs1 h1 h2 h3 => kk H1 locs1 ⟨hs ▸ h1, hs ▸ h2, h3, X.2.2.2⟩)
theorem x_cast (F : xF p m c cc nL s args Ts own D q) (X : xS D A s gs H locs) (q0 : Nat) {a n : Nat} {f : Nat → Int32} (ha : gs.flatten[q0]? = some (a, .inl (q 1, n, .inl f))) {i x y : Int32} {k : Nat} (hin : vp_in i n) (hi : i.toNatClampNeg = k) (hy : vp_nar .char x = y) (hdg : decode cc pc = .ok (.castore, 1)) (hs : gs.flatten.set q0 (a, .inl (q 1, n, .inl (upd f k y))) = gs'.flatten) (kk : ∀ (H1 : Heap) (locs1 : List Loc), xS D A s gs' H1 locs1 → W p l e R s m args below meth c H1 locs1 cells slots Q (F0 m (pc + 1) ls rest)) : W p l e R s m args below meth c H locs cells slots Q (F0 m pc ls (.int x :: .int i :: .ref a :: rest)) := by
  subst hi; subst hy
  exact va_cast F.1.1 F.1.2.1 F.2.1 X.1 X.2.1 X.2.2.1 q0 1 ha rfl hin hdg (fun H1 locs1 h1 h2 h3 => kk H1 locs1 ⟨hs ▸ h1, hs ▸ h2, h3, X.2.2.2⟩)
theorem x_zast (F : xF p m c cc nL s args Ts own D q) (X : xS D A s gs H locs) (q0 : Nat) {a n : Nat} {f : Nat → Int32} (ha : gs.flatten[q0]? = some (a, .inl (q 2, n, .inl f))) {i x y : Int32} {k : Nat} (hin : vp_in i n) (hi : i.toNatClampNeg = k) (hy : vp_nar .boolean x = y) (hdg : decode cc pc = .ok (.bastore, 1)) (hs : gs.flatten.set q0 (a, .inl (q 2, n, .inl (upd f k y))) = gs'.flatten) (kk : ∀ (H1 : Heap) (locs1 : List Loc), xS D A s gs' H1 locs1 → W p l e R s m args below meth c H1 locs1 cells slots Q (F0 m (pc + 1) ls rest)) : W p l e R s m args below meth c H locs cells slots Q (F0 m pc ls (.int x :: .int i :: .ref a :: rest)) := by
  subst hi; subst hy
  exact va_zast F.1.1 F.1.2.1 F.2.1 X.1 X.2.1 X.2.2.1 q0 2 ha rfl hin hdg (fun H1 locs1 h1 h2 h3 => kk H1 locs1 ⟨hs ▸ h1, hs ▸ h2, h3, X.2.2.2⟩)
theorem x_alen (F : xF p m c cc nL s args Ts own D q) (X : xS D A s gs H locs) (q0 : Nat) {a n : Nat} {f : Nat → Int32} (ha : gs.flatten[q0]? = some (a, .inl (q 0, n, .inl f))) (hdg : decode cc pc = .ok (.arraylength, 1)) (kk : W p l e R s m args below meth c H locs cells slots Q (F0 m (pc + 1) ls (.int (nI n) :: rest))) : W p l e R s m args below meth c H locs cells slots Q (F0 m pc ls (.ref a :: rest)) :=
  va_alen F.1.1 F.1.2.1 F.2.1 X.1 q0 0 ha (ty := .int) rfl rfl hdg kk
/-- arraycopy of whole ints or chars from place 0 to place 0 -/
theorem x_copy (F : xF p m c cc nL s args Ts own D q) (X : xS D A s gs H locs) (hls : ls.size = nL) {index : Nat} (hlink : Cond.methodLink own index arraycopyName ∈ Ts) (hnat : Cond.native arraycopyName ∈ Ts) (hstat : Cond.static arraycopyName ∈ Ts) (hini : Cond.initialized "java/lang/System" ∈ Ts) (q0 q1 t : Nat) {a0 a n0 n1 k : Nat} {cA : ClassId} {f g : Nat → Int32} {ty : FieldType} (ha0 : gs.flatten[q0]? = some (a0, .inl (cA, n0, .inl f))) (ha1 : gs.flatten[q1]? = some (a, .inl (cA, n1, .inl g))) (ht : (xTy q)[t]? = some (cA, ty)) (hprim : refKind ty = false) {n : Int32} (hn : n = nI k) (hk : k < 2 ^ 31) (h4 : k ≤ n0) (h5 : k ≤ n1) (hfit : ∀ i, i < k → fits ty (.int (f i)) = true) (hR : 1 ≤ R.frames ∧ (rest.map fun v => v.category).sum + (nativeFrameWords "java/lang/System" "arraycopy" 5 + 11) ≤ R.locals) (hdg : decode cc pc = .ok (.invokestatic index, 3)) (hs : gs.flatten.set q1 (a, .inl (cA, n1, .inl (va_cpy f g 0 0 k))) = gs'.flatten) (kk : ∀ (H1 : Heap) (locs1 : List Loc), xS D A s gs' H1 locs1 → W p l e R s m args below meth c H1 locs1 cells slots Q (F0 m (pc + 3) ls rest)) : W p l e R s m args below meth c H locs cells slots Q (F0 m pc ls (.int n :: .int 0 :: .ref a :: .int 0 :: .ref a0 :: rest)) := by
  obtain ⟨⟨hx, hb, hml, hown, hts⟩, hK, -⟩ := F
  have e0 : (0 : Int32).toNatClampNeg = 0 := rfl
  have ek : n.toNatClampNeg = k := by rw [hn]; exact nI_clamp hk
  refine va_copyi hx hb (hml.trans hls.symm) hown (hts _ hlink) (hts _ hnat) (hts _ hstat) (hts _ hini) hK X.1 X.2.1 X.2.2.1 q0 q1 t t ha0 ha1 ht ht hprim (by decide) (by decide) (by rw [hn]; exact nI_pos hk) (by rw [ek, e0]; omega) (by rw [ek, e0]; omega) (fun i hi => by rw [ek] at hi; rw [e0, Nat.zero_add]; exact hfit i hi) hR.1 hR.2 hdg (fun H1 locs1 h1 h2 h3 => ?_)
  rw [ek, e0] at h1 h2
  exact kk H1 locs1 ⟨hs ▸ h1, hs ▸ h2, h3, X.2.2.2⟩
theorem x_min (F : xF p m c cc nL s args Ts own D q) (hls : ls.size = nL) {index : Nat} (hlink : Cond.methodLink own index Lib.Math.min.name ∈ Ts) (hstat : Cond.static Lib.Math.min.name ∈ Ts) (hini : Cond.initialized "java/lang/Math" ∈ Ts) (hcode : Cond.code Lib.Math.min.name Lib.Math.min.code 2 (some .int) ∈ Ts) (hR : 1 ≤ R.frames ∧ (rest.map fun v => v.category).sum + 13 ≤ R.locals) (hroom : cells ≤ R.cells ∧ slots ≤ R.slots) {x y : Int32} (hdg : decode cc pc = .ok (.invokestatic index, 3)) (kk : W p l e R s m args below meth c H locs cells slots Q (F0 m (pc + 3) ls (.int (if y < x then y else x) :: rest))) : W p l e R s m args below meth c H locs cells slots Q (F0 m pc ls (.int y :: .int x :: rest)) := by
  obtain ⟨⟨hx, hb, hml, hown, hts⟩, hK, -⟩ := F
  exact va_mmin hx hb (hml.trans hls.symm) hown (hts _ hlink) (hts _ hstat) (hts _ hini) (hts _ hcode) hR.1 hR.2 hroom.1 hroom.2 hdg kk
end XR
section XC
variable {p : Program} {l : Launch} {e : Env} {R : Room} {s : State} {m : MethodId} {args : Array Value} {below : List Frame} {meth : Method} {c : Code} {H : Heap} {locs : List Loc} {cells slots : Nat} {Q : State → Prop}
variable {cc : ByteArray} {nL : Nat} {pc : Nat} {ls : Array Slot} {rest st As : List Value} {D : va_G} {q : xQ} {A : Nat → Prop} {gs gc gr : List va_W} {Ts tw tw' : List Cond} {own C : String} {y : MethodName} {rm : Room} {index n b maxL : Nat} {bytes : ByteArray} {ret : Option FieldType}
/-- the callee's start, from the caller's world -/
theorem xc_pre (F : xF p m c cc nL s args Ts own D q) (X : xS D A s (gc ++ gr) H locs) : ∀ U : State, U.heap = H → s.WarmedH U.vm → xPc D q As gc H.size As.toArray U := fun U hU hW =>
  ⟨rfl, by rw [hU], by rw [hU]; exact X.left.1, va_K.moved hW.alike F.2.1, X.left.2.1.weaken (fun _ _ _ _ => trivial), F.2.2.warm hW⟩
theorem xc_preS (F : xF p m c cc nL s args Ts own D q) (X : xS D A s (gc ++ gr) H locs) : PreS s H (xPc D q As gc H.size) As := ⟨xb_blind, xc_pre F X⟩
theorem xc_preV (F : xF p m c cc nL s args Ts own D q) (X : xS D A s (gc ++ gr) H locs) {r0 ci : Nat} {fs : List Value} {T : u_T} {N : Nat} (hrc : vwCl[ci]? = some (C, T, N)) (hre : gc.flatten[r0]? = some (b, .inr (ci, fs))) : PreV s H C b (xPc D q (.ref b :: As) gc H.size) As :=
  ⟨xb_blind, va_recv F.2.1 X.left.1 (ci := ci) (q0 := r0) hrc hre, xc_pre F X⟩
theorem x_backi {mc ms : Nat} {free : Addr → Prop} {post : Int32 → List va_W → Prop} {a : Array Value} (X : xS D A s (gc ++ gr) H locs) (hfree : ∀ r, free r → va_A gc.flatten H.size r) (hr : va_Run p l e R s m args below meth c H locs cells slots mc ms (F0 m pc ls st) rest (va_Qi post (xB D (va_A gc.flatten H.size)) (va_A gc.flatten H.size) a) free) (kk : ∀ (r : Int32) (g1 : List va_W) (H1 : Heap) (locs1 : List Loc), post r g1 → xS D A s (g1 ++ gr) H1 locs1 → W p l e R s m args below meth c H1 locs1 (cells + mc) (slots + ms) Q (F0 m (pc + 3) ls (.int r :: rest))) : W p l e R s m args below meth c H locs cells slots Q (F0 m pc ls st) :=
  va_calli hr X.2.2.1 (fun r _ h => X.free r h) (fun r h => X.free r (hfree r h)) (fun r u t H1 locs1 ht _ hw hB _ hk hS => by
    subst ht
    exact kk r u _ locs1 hw (X.back hk hB.1 hB.2 hS))
theorem x_backv {mc ms : Nat} {free : Addr → Prop} {post : List va_W → Prop} {a : Array Value} (X : xS D A s (gc ++ gr) H locs) (hfree : ∀ r, free r → va_A gc.flatten H.size r) (hr : va_Run p l e R s m args below meth c H locs cells slots mc ms (F0 m pc ls st) rest (va_Qv post (xB D (va_A gc.flatten H.size)) (va_A gc.flatten H.size) a) free) (kk : ∀ (g1 : List va_W) (H1 : Heap) (locs1 : List Loc), post g1 → xS D A s (g1 ++ gr) H1 locs1 → W p l e R s m args below meth c H1 locs1 (cells + mc) (slots + ms) Q (F0 m (pc + 3) ls rest)) : W p l e R s m args below meth c H locs cells slots Q (F0 m pc ls st) :=
  va_callv hr X.2.2.1 (fun r _ h => X.free r h) (fun r h => X.free r (hfree r h)) (fun u t H1 locs1 ht _ hw hB _ hk hS => by
    subst ht
    exact kk u _ locs1 hw (X.back hk hB.1 hB.2 hS))
theorem x_backr {mc ms : Nat} {free : Addr → Prop} {post : Nat → List va_W → Prop} {a : Array Value} (X : xS D A s (gc ++ gr) H locs) (hfree : ∀ r, free r → va_A gc.flatten H.size r) (hr : va_Run p l e R s m args below meth c H locs cells slots mc ms (F0 m pc ls st) rest (va_Qr (fun _ : List va_W => True) (fun g1 a t => post a g1 ∧ xB D (va_A gc.flatten H.size) g1 t) (va_A gc.flatten H.size) a) free) (kk : ∀ (r : Nat) (g1 : List va_W) (H1 : Heap) (locs1 : List Loc), post r g1 → xS D A s (g1 ++ gr) H1 locs1 → W p l e R s m args below meth c H1 locs1 (cells + mc) (slots + ms) Q (F0 m (pc + 3) ls (.ref r :: rest))) : W p l e R s m args below meth c H locs cells slots Q (F0 m pc ls st) :=
  va_callr hr X.2.2.1 (fun r _ h => X.free r h) (fun r h => X.free r (hfree r h)) (fun u ra t H1 locs1 ht _ _ hB _ hk hS => by
    subst ht
    exact kk ra u _ locs1 hB.1 (X.back hk hB.2.1 hB.2.2 hS))
/-! calls: of a method of a class of ours (V), of a private static (S), of a nest mate's private static (N), of a constructor (I), of a nest mate's (J) -/
theorem x_cVi (F : xF p m c cc nL s args Ts own D q) (X0 : xS D A s gs H locs) (hsp : gs.Perm (gc ++ gr)) {post : Int32 → List va_W → Prop} (hM : xMi l y tw rm D q (.ref b :: As) gc post) (cw : CallW R s args own C index y bytes maxL ret tw rm rm.cells rm.slots n) (hn : As.length = n) (hst : st = As.reverse ++ .ref b :: rest) {r0 ci : Nat} {fs : List Value} {T : u_T} {N : Nat} (hrc : vwCl[ci]? = some (C, T, N)) (hre : gc.flatten[r0]? = some (b, .inr (ci, fs))) (hls : ls.size = nL) (hroom : cells + rm.cells ≤ R.cells ∧ slots + rm.slots ≤ R.slots) (hlr : (rest.map fun v => v.category).sum ≤ 8) (hdg : decode cc pc = .ok (.invokevirtual index, 3)) (kk : ∀ (r : Int32) (g1 : List va_W) (H1 : Heap) (locs1 : List Loc), post r g1 → xS D A s (g1 ++ gr) H1 locs1 → W p l e R s m args below meth c H1 locs1 (cells + rm.cells) (slots + rm.slots) Q (F0 m (pc + 3) ls (.int r :: rest))) : W p l e R s m args below meth c H locs cells slots Q (F0 m pc ls st) := by
  have X := X0.perm hsp
  exact x_backi X (fun _ h => h) (va_runV F.1 (hM H.size) cw (xc_preV F X hrc hre) rfl hn hls hst (lv_room hlr) hdg hroom) kk
theorem x_cVv (F : xF p m c cc nL s args Ts own D q) (X0 : xS D A s gs H locs) (hsp : gs.Perm (gc ++ gr)) {post : List va_W → Prop} (hM : xMv l y tw rm D q (.ref b :: As) gc post) (cw : CallW R s args own C index y bytes maxL ret tw rm rm.cells rm.slots n) (hn : As.length = n) (hst : st = As.reverse ++ .ref b :: rest) {r0 ci : Nat} {fs : List Value} {T : u_T} {N : Nat} (hrc : vwCl[ci]? = some (C, T, N)) (hre : gc.flatten[r0]? = some (b, .inr (ci, fs))) (hls : ls.size = nL) (hroom : cells + rm.cells ≤ R.cells ∧ slots + rm.slots ≤ R.slots) (hlr : (rest.map fun v => v.category).sum ≤ 8) (hdg : decode cc pc = .ok (.invokevirtual index, 3)) (kk : ∀ (g1 : List va_W) (H1 : Heap) (locs1 : List Loc), post g1 → xS D A s (g1 ++ gr) H1 locs1 → W p l e R s m args below meth c H1 locs1 (cells + rm.cells) (slots + rm.slots) Q (F0 m (pc + 3) ls rest)) : W p l e R s m args below meth c H locs cells slots Q (F0 m pc ls st) := by
  have X := X0.perm hsp
  exact x_backv X (fun _ h => h) (va_runV F.1 (hM H.size) cw (xc_preV F X hrc hre) rfl hn hls hst (lv_room hlr) hdg hroom) kk
theorem x_cVr (F : xF p m c cc nL s args Ts own D q) (X0 : xS D A s gs H locs) (hsp : gs.Perm (gc ++ gr)) {post : Nat → List va_W → Prop} (hM : xMr l y tw rm D q (.ref b :: As) gc post) (cw : CallW R s args own C index y bytes maxL ret tw rm rm.cells rm.slots n) (hn : As.length = n) (hst : st = As.reverse ++ .ref b :: rest) {r0 ci : Nat} {fs : List Value} {T : u_T} {N : Nat} (hrc : vwCl[ci]? = some (C, T, N)) (hre : gc.flatten[r0]? = some (b, .inr (ci, fs))) (hls : ls.size = nL) (hroom : cells + rm.cells ≤ R.cells ∧ slots + rm.slots ≤ R.slots) (hlr : (rest.map fun v => v.category).sum ≤ 8) (hdg : decode cc pc = .ok (.invokevirtual index, 3)) (kk : ∀ (r : Nat) (g1 : List va_W) (H1 : Heap) (locs1 : List Loc), post r g1 → xS D A s (g1 ++ gr) H1 locs1 → W p l e R s m args below meth c H1 locs1 (cells + rm.cells) (slots + rm.slots) Q (F0 m (pc + 3) ls (.ref r :: rest))) : W p l e R s m args below meth c H locs cells slots Q (F0 m pc ls st) := by
  have X := X0.perm hsp
  exact x_backr X (fun _ h => h) (va_runV F.1 (hM H.size) cw (xc_preV F X hrc hre) rfl hn hls hst (lv_room hlr) hdg hroom) kk
theorem x_cSi (F : xF p m c cc nL s args Ts own D q) (X0 : xS D A s gs H locs) (hsp : gs.Perm (gc ++ gr)) {post : Int32 → List va_W → Prop} (hM : xMi l y tw rm D q As gc post) (cw : CallB R s args own index y bytes maxL ret tw rm rm.cells rm.slots n ∧ (Cond.static y).before args s = true) (hn : As.length = n) (hst : st = As.reverse ++ rest) (hls : ls.size = nL) (hroom : cells + rm.cells ≤ R.cells ∧ slots + rm.slots ≤ R.slots) (hlr : (rest.map fun v => v.category).sum ≤ 8) (hdg : decode cc pc = .ok (.invokestatic index, 3)) (kk : ∀ (r : Int32) (g1 : List va_W) (H1 : Heap) (locs1 : List Loc), post r g1 → xS D A s (g1 ++ gr) H1 locs1 → W p l e R s m args below meth c H1 locs1 (cells + rm.cells) (slots + rm.slots) Q (F0 m (pc + 3) ls (.int r :: rest))) : W p l e R s m args below meth c H locs cells slots Q (F0 m pc ls st) := by
  have X := X0.perm hsp
  exact x_backi X (fun _ h => h) (va_runS F.1 (hM H.size) cw (xc_preS F X) rfl hn hls hst (lv_room hlr) hdg hroom) kk
theorem x_cSv (F : xF p m c cc nL s args Ts own D q) (X0 : xS D A s gs H locs) (hsp : gs.Perm (gc ++ gr)) {post : List va_W → Prop} (hM : xMv l y tw rm D q As gc post) (cw : CallB R s args own index y bytes maxL ret tw rm rm.cells rm.slots n ∧ (Cond.static y).before args s = true) (hn : As.length = n) (hst : st = As.reverse ++ rest) (hls : ls.size = nL) (hroom : cells + rm.cells ≤ R.cells ∧ slots + rm.slots ≤ R.slots) (hlr : (rest.map fun v => v.category).sum ≤ 8) (hdg : decode cc pc = .ok (.invokestatic index, 3)) (kk : ∀ (g1 : List va_W) (H1 : Heap) (locs1 : List Loc), post g1 → xS D A s (g1 ++ gr) H1 locs1 → W p l e R s m args below meth c H1 locs1 (cells + rm.cells) (slots + rm.slots) Q (F0 m (pc + 3) ls rest)) : W p l e R s m args below meth c H locs cells slots Q (F0 m pc ls st) := by
  have X := X0.perm hsp
  exact x_backv X (fun _ h => h) (va_runS F.1 (hM H.size) cw (xc_preS F X) rfl hn hls hst (lv_room hlr) hdg hroom) kk
theorem x_cNi (F : xF p m c cc nL s args Ts own D q) (X0 : xS D A s gs H locs) (hsp : gs.Perm (gc ++ gr)) {post : Int32 → List va_W → Prop} (hM : xMi l y tw rm D q As gc post) {host : String} (cw : va_CN R s args own index y host bytes maxL ret tw rm rm.cells rm.slots n ∧ (Cond.static y).before args s = true ∧ True) (hn : As.length = n) (hst : st = As.reverse ++ rest) (hls : ls.size = nL) (hroom : cells + rm.cells ≤ R.cells ∧ slots + rm.slots ≤ R.slots) (hlr : (rest.map fun v => v.category).sum ≤ 8) (hdg : decode cc pc = .ok (.invokestatic index, 3)) (kk : ∀ (r : Int32) (g1 : List va_W) (H1 : Heap) (locs1 : List Loc), post r g1 → xS D A s (g1 ++ gr) H1 locs1 → W p l e R s m args below meth c H1 locs1 (cells + rm.cells) (slots + rm.slots) Q (F0 m (pc + 3) ls (.int r :: rest))) : W p l e R s m args below meth c H locs cells slots Q (F0 m pc ls st) := by
  have X := X0.perm hsp
  exact x_backi X (fun _ h => h) (va_runSN F.1 (hM H.size) cw (xc_preS F X) rfl hn hls hst (lv_room hlr) hdg hroom) kk
theorem x_cNv (F : xF p m c cc nL s args Ts own D q) (X0 : xS D A s gs H locs) (hsp : gs.Perm (gc ++ gr)) {post : List va_W → Prop} (hM : xMv l y tw rm D q As gc post) {host : String} (cw : va_CN R s args own index y host bytes maxL ret tw rm rm.cells rm.slots n ∧ (Cond.static y).before args s = true ∧ True) (hn : As.length = n) (hst : st = As.reverse ++ rest) (hls : ls.size = nL) (hroom : cells + rm.cells ≤ R.cells ∧ slots + rm.slots ≤ R.slots) (hlr : (rest.map fun v => v.category).sum ≤ 8) (hdg : decode cc pc = .ok (.invokestatic index, 3)) (kk : ∀ (g1 : List va_W) (H1 : Heap) (locs1 : List Loc), post g1 → xS D A s (g1 ++ gr) H1 locs1 → W p l e R s m args below meth c H1 locs1 (cells + rm.cells) (slots + rm.slots) Q (F0 m (pc + 3) ls rest)) : W p l e R s m args below meth c H locs cells slots Q (F0 m pc ls st) := by
  have X := X0.perm hsp
  exact x_backv X (fun _ h => h) (va_runSN F.1 (hM H.size) cw (xc_preS F X) rfl hn hls hst (lv_room hlr) hdg hroom) kk
theorem x_cI (F : xF p m c cc nL s args Ts own D q) (X0 : xS D A s gs H locs) (hsp : gs.Perm (gc ++ gr)) {post : List va_W → Prop} (hM : xMv l y tw rm D q (.ref b :: As) gc post) (cw : CallB R s args own index y bytes maxL none tw rm rm.cells rm.slots n ∧ y.name = "<init>" ∧ (Cond.instanceMethod y).before args s = true) (hn : As.length = n) (hst : st = As.reverse ++ .ref b :: rest) (hls : ls.size = nL) (hroom : cells + rm.cells ≤ R.cells ∧ slots + rm.slots ≤ R.slots) (hlr : (rest.map fun v => v.category).sum ≤ 8) (hdg : decode cc pc = .ok (.invokespecial index, 3)) (kk : ∀ (g1 : List va_W) (H1 : Heap) (locs1 : List Loc), post g1 → xS D A s (g1 ++ gr) H1 locs1 → W p l e R s m args below meth c H1 locs1 (cells + rm.cells) (slots + rm.slots) Q (F0 m (pc + 3) ls rest)) : W p l e R s m args below meth c H locs cells slots Q (F0 m pc ls st) := by
  have X := X0.perm hsp
  exact x_backv X (fun _ h => h) (va_runI F.1 (hM H.size) cw (xc_preS F X) rfl hn hls hst (lv_room hlr) hdg hroom) kk
theorem x_cJ (F : xF p m c cc nL s args Ts own D q) (X0 : xS D A s gs H locs) (hsp : gs.Perm (gc ++ gr)) {post : List va_W → Prop} (hM : xMv l y tw rm D q (.ref b :: As) gc post) {host : String} (cw : va_CN R s args own index y host bytes maxL none tw rm rm.cells rm.slots n ∧ y.name = "<init>" ∧ (Cond.instanceMethod y).before args s = true) (hn : As.length = n) (hst : st = As.reverse ++ .ref b :: rest) (hls : ls.size = nL) (hroom : cells + rm.cells ≤ R.cells ∧ slots + rm.slots ≤ R.slots) (hlr : (rest.map fun v => v.category).sum ≤ 8) (hdg : decode cc pc = .ok (.invokespecial index, 3)) (kk : ∀ (g1 : List va_W) (H1 : Heap) (locs1 : List Loc), post g1 → xS D A s (g1 ++ gr) H1 locs1 → W p l e R s m args below meth c H1 locs1 (cells + rm.cells) (slots + rm.slots) Q (F0 m (pc + 3) ls rest)) : W p l e R s m args below meth c H locs cells slots Q (F0 m pc ls st) := by
  have X := X0.perm hsp
  exact x_backv X (fun _ h => h) (va_runIN F.1 (hM H.size) cw (xc_preS F X) rfl hn hls hst (lv_room hlr) hdg hroom) kk
end XC
section XE
variable {l : Launch} {y : MethodName} {tw tw' : List Cond} {rm : Room} {D : va_G} {q : xQ} {As : List Value} {gs : List va_W} {cc : ByteArray} {maxL : Nat} {rt : FieldType}
theorem xe_start {p : Program} {e : Env} {s : State} {m : MethodId} {args : Array Value} {below : List Frame} {meth : Method} {c : Code} {s₁ : State} {ret : Option FieldType} (B : BodyLoose p l y (headSpec tw rm) cc maxL ret e s m args below meth c s₁) (hml : c.maxLocals = maxL) (hK : va_K D vwCl (xTy q) s) (hN : xN s) : xF p m c cc maxL s args tw y.cls D q :=
  ⟨⟨B.exec, B.bytes, hml, findClass_of_methodNamed B.named, atoms_spec (ws := tw) B.pre⟩, hK, hN⟩
theorem xe_world {s : State} (hP : va_P D vwCl gs.flatten s.heap) (hD : va_D (fun _ => True) gs.flatten) : xS D (va_A gs.flatten s.heap.size) s gs s.heap [] := ⟨hP, hD.self, va_S.rf, fun _ h => Or.inr h⟩
theorem xMi_of {post : Int32 → List va_W → Prop} (hy : plainName y.cls = true) (hw : tw = Cond.code y cc maxL (some rt) :: tw') (hlen : (lg_sl As).length ≤ maxL) (hnar : ∀ v w, post v w → narrow rt (.int v) = .int v)
    (body : ∀ (p : Program) (e : Env) (s : State) (m : MethodId) (args : Array Value) (below : List Frame) (meth : Method) (c : Code) (A : Nat → Prop) (Z : State → Prop) (ls : Array Slot), xF p m c cc maxL s args tw y.cls D q → xS D A s gs s.heap [] → lv_has ls maxL (lv_args 0 As) → (∀ (v : Int32) (g1 : List va_W) (H : Heap) (locs : List Loc) (pc : Nat) (ls : Array Slot), post v g1 → xS D A s g1 H locs → decode cc pc = .ok (.ireturn, 1) → W p l e rm s m args below meth c H locs rm.cells rm.slots Z (F0 m pc ls [.int v])) → W p l e rm s m args below meth c s.heap [] 0 0 Z (F0 m 0 ls [])) : xMi l y tw rm D q As gs post := by
  intro sz
  refine Met.ofW (cc := cc) (maxL := maxL) (ret := some rt) hy hw ?_
  intro p e s m args below meth c s₁ B hml hv
  obtain ⟨rfl, hsz, hP, hK, hD, hN⟩ := hv
  subst hsz
  have hl := lv_entry As (n := maxL) hlen
  rw [lg_entry_eq]
  have hlocks := B.notSynchronized
  exact body p e s m _ below meth c _ _ _ (xe_start B hml hK hN) (xe_world hP hD) hl (fun v g1 H locs pc ls hpost X hdg => W.zret B.exec B.bytes B.returns (hnar v g1 hpost) (fun t ht hW => ⟨⟨v, g1, rfl, hpost, by rw [ht]; exact X.1, X.2.1⟩, X.2.2.1.F ht⟩) X.2.2.1.2.2 hdg)
theorem xMv_of {post : List va_W → Prop} (hy : plainName y.cls = true) (hw : tw = Cond.code y cc maxL none :: tw') (hlen : (lg_sl As).length ≤ maxL)
    (body : ∀ (p : Program) (e : Env) (s : State) (m : MethodId) (args : Array Value) (below : List Frame) (meth : Method) (c : Code) (A : Nat → Prop) (Z : State → Prop) (ls : Array Slot), xF p m c cc maxL s args tw y.cls D q → meth.name = y.name → xS D A s gs s.heap [] → lv_has ls maxL (lv_args 0 As) → (∀ (g1 : List va_W) (H : Heap) (locs : List Loc) (pc : Nat) (ls : Array Slot), post g1 → xS D A s g1 H locs → decode cc pc = .ok (.return_, 1) → W p l e rm s m args below meth c H locs rm.cells rm.slots Z (F0 m pc ls [])) → W p l e rm s m args below meth c s.heap [] 0 0 Z (F0 m 0 ls [])) : xMv l y tw rm D q As gs post := by
  intro sz
  refine Met.ofW (cc := cc) (maxL := maxL) (ret := none) hy hw ?_
  intro p e s m args below meth c s₁ B hml hv
  obtain ⟨rfl, hsz, hP, hK, hD, hN⟩ := hv
  subst hsz
  have hl := lv_entry As (n := maxL) hlen
  rw [lg_entry_eq]
  have hlocks := B.notSynchronized
  exact body p e s m _ below meth c _ _ _ (xe_start B hml hK hN) (name_of_methodNamed B.named B.method).1 (xe_world hP hD) hl (fun g1 H locs pc ls hpost X hdg => W.vret B.exec B.bytes B.returns (fun t ht hW => ⟨⟨g1, rfl, hpost, by rw [ht]; exact X.1, X.2.1⟩, X.2.2.1.F ht⟩) X.2.2.1.2.2 hdg)
theorem xMr_of {post : Nat → List va_W → Prop} (hy : plainName y.cls = true) (hw : tw = Cond.code y cc maxL (some (.array rt)) :: tw') (hlen : (lg_sl As).length ≤ maxL)
    (body : ∀ (p : Program) (e : Env) (s : State) (m : MethodId) (args : Array Value) (below : List Frame) (meth : Method) (c : Code) (A : Nat → Prop) (Z : State → Prop) (ls : Array Slot), xF p m c cc maxL s args tw y.cls D q → xS D A s gs s.heap [] → lv_has ls maxL (lv_args 0 As) → (∀ (v : Nat) (g1 : List va_W) (H : Heap) (locs : List Loc) (pc : Nat) (ls : Array Slot), post v g1 → xS D A s g1 H locs → decode cc pc = .ok (.areturn, 1) → W p l e rm s m args below meth c H locs rm.cells rm.slots Z (F0 m pc ls [.ref v])) → W p l e rm s m args below meth c s.heap [] 0 0 Z (F0 m 0 ls [])) : xMr l y tw rm D q As gs post := by
  intro sz
  refine Met.ofW (cc := cc) (maxL := maxL) (ret := some (.array rt)) hy hw ?_
  intro p e s m args below meth c s₁ B hml hv
  obtain ⟨rfl, hsz, hP, hK, hD, hN⟩ := hv
  subst hsz
  have hl := lv_entry As (n := maxL) hlen
  rw [lg_entry_eq]
  have hlocks := B.notSynchronized
  exact body p e s m _ below meth c _ _ _ (xe_start B hml hK hN) (xe_world hP hD) hl (fun v g1 H locs pc ls hpost X hdg => W.aret B.exec B.bytes B.returns (Or.inr ⟨_, rfl⟩) (Or.inr ⟨_, rfl⟩) (fun t ht hW => ⟨⟨g1, v, rfl, trivial, hpost, by rw [ht]; exact X.1, X.2.1⟩, X.2.2.1.F ht⟩) X.2.2.1.2.2 hdg)
end XE
section XO
variable {p : Program} {l : Launch} {e : Env} {R : Room} {s : State} {m : MethodId} {args : Array Value} {below : List Frame} {meth : Method} {c : Code} {H : Heap} {locs : List Loc} {cells slots : Nat} {Q : State → Prop}
variable {cc : ByteArray} {nL : Nat} {pc : Nat} {ls : Array Slot} {rest : List Value} {D : va_G} {q : xQ} {Ts : List Cond} {own : String}
theorem x_oinit (F : xF p m c cc nL s args Ts own D q) (hls : ls.size = nL) {index a : Nat} (h1 : Cond.methodLink own index objectInit ∈ Ts) (h2 : Cond.instanceMethod objectInit ∈ Ts) (h3 : Cond.code objectInit ⟨#[0xb1]⟩ 1 none ∈ Ts) (h4 : 1 ≤ R.frames) (h5 : (rest.map fun v => v.category).sum + 12 ≤ R.locals) (hdg : decode cc pc = .ok (.invokespecial index, 3)) (kk : W p l e R s m args below meth c H locs cells slots Q (F0 m (pc + 3) ls rest)) : W p l e R s m args below meth c H locs cells slots Q (F0 m pc ls (.ref a :: rest)) := by
  obtain ⟨⟨hx, hb, hml, hown, hts⟩, hK, -⟩ := F
  refine W.objInit hx hb hown (hts _ h1) (hts _ h2) (hts _ h3) rfl (hls.trans hml.symm) rfl hdg h4 ?_ ?_
  · have e : (F0 m pc ls (.ref a :: rest)).monitorRoom = 0 := rfl
    rw [e, Nat.mul_zero, Nat.zero_add]; exact h5
  · exact kk
end XO
/-! small facts of numbers -/
theorem x_cl {f : Nat → Int32} {i : Nat} (h : i < 2 ^ 31) : f (nI i).toNatClampNeg = f i := by rw [nI_clamp h]
theorem x_dec (k : Nat) (h : 1 ≤ k) : nI k + Int32.ofInt (-1) = nI (k - 1) := by
  obtain ⟨j, rfl⟩ : ∃ j, k = j + 1 := ⟨k - 1, by omega⟩
  rw [Nat.add_sub_cancel]
  exact pk_m1 j
theorem x_toInt_lt (a b : Int32) : a < b ↔ a.toInt < b.toInt := Int32.lt_iff_toInt_lt
theorem x_toInt_le (a b : Int32) : a ≤ b ↔ a.toInt ≤ b.toInt := Int32.le_iff_toInt_le
theorem x_sw (x : Int32) (lo hi : Int) (hlo : 0 ≤ lo) : (x.toInt < lo ∨ hi < x.toInt) ∨ ∃ j : Nat, lo ≤ (j : Int) ∧ (j : Int) ≤ hi ∧ x = nI j := by
  by_cases h : x.toInt < lo ∨ hi < x.toInt
  · exact Or.inl h
  · right
    have h0 : ¬ x < 0 := by
      rw [x_toInt_lt]
      have e : (0 : Int32).toInt = 0 := by decide
      omega
    obtain ⟨j, hj, rfl⟩ := nI_of h0
    have e := nI_toInt hj
    exact ⟨j, by omega, by omega, rfl⟩
def xIx (v : Int32) (n : Nat) : Prop := ∃ k, k < n ∧ v = nI k
theorem x_ix {v : Int32} {n : Nat} (hn : n < 2 ^ 31) : (¬ v < 0 ∧ v < nI n) ↔ xIx v n := by
  constructor
  · rintro ⟨h0, h1⟩
    obtain ⟨j, hj, rfl⟩ := nI_of h0
    exact ⟨j, (nI_ltI hj hn).mp h1, rfl⟩
  · rintro ⟨k, hk, rfl⟩
    exact ⟨nI_pos (by omega), nI_lt hk hn⟩
theorem x_rng {v : Int32} {a b : Nat} (hb : b < 2 ^ 31) (ha : a < 2 ^ 31) : (nI a ≤ v ∧ v ≤ nI b) ↔ ∃ k, a ≤ k ∧ k ≤ b ∧ v = nI k := by
  constructor
  · rintro ⟨h0, h1⟩
    have h2 : ¬ v < 0 := by
      rw [x_toInt_le, nI_toInt ha] at h0
      rw [x_toInt_lt]
      have e : (0 : Int32).toInt = 0 := by decide
      omega
    obtain ⟨j, hj, rfl⟩ := nI_of h2
    exact ⟨j, (nI_leI ha hj).mp h0, (nI_leI hj hb).mp h1, rfl⟩
  · rintro ⟨k, h1, h2, rfl⟩
    exact ⟨nI_le h1 (by omega), nI_le h2 hb⟩
end
section
/-! plain facts on numbers and arrays, to paste: each family by itself; over the kit's rows on nI and upd -/
/-! ===== order of ints, in all its forms, and through longs ===== -/
theorem fa_lt (a b : Int32) : a < b ↔ a.toInt < b.toInt := Int32.lt_iff_toInt_lt
theorem fa_le (a b : Int32) : a ≤ b ↔ a.toInt ≤ b.toInt := Int32.le_iff_toInt_le
theorem fa_eq (a b : Int32) : a = b ↔ a.toInt = b.toInt := Int32.toInt_inj.symm
theorem fa_lt64 (a b : Int64) : a < b ↔ a.toInt < b.toInt := Int64.lt_iff_toInt_lt
theorem fa_le64 (a b : Int64) : a ≤ b ↔ a.toInt ≤ b.toInt := Int64.le_iff_toInt_le
theorem fa_eq64 (a b : Int64) : a = b ↔ a.toInt = b.toInt := Int64.toInt_inj.symm
/-- a comparison of two ints taken as longs -/
theorem fa_wide_lt (a b : Int32) : a.toInt64 < b.toInt64 ↔ a < b := by rw [fa_lt64, fa_lt, Int32.toInt_toInt64, Int32.toInt_toInt64]
theorem fa_wide_le (a b : Int32) : a.toInt64 ≤ b.toInt64 ↔ a ≤ b := by rw [fa_le64, fa_le, Int32.toInt_toInt64, Int32.toInt_toInt64]
theorem fa_wide_eq (a b : Int32) : a.toInt64 = b.toInt64 ↔ a = b := by rw [fa_eq64, fa_eq, Int32.toInt_toInt64, Int32.toInt_toInt64]
/-- one strict comparison gives all the others -/
theorem fa_of_lt {a b : Int32} (h : a < b) : a ≤ b ∧ ¬ b ≤ a ∧ ¬ b < a ∧ a ≠ b ∧ b ≠ a := by
  rw [fa_lt] at h
  refine ⟨?_, ?_, ?_, ?_, ?_⟩
  · rw [fa_le]; omega
  · rw [fa_le]; omega
  · rw [fa_lt]; omega
  · intro e; rw [fa_eq] at e; omega
  · intro e; rw [fa_eq] at e; omega
theorem fa_of_nlt {a b : Int32} (h : ¬ a < b) : b ≤ a := by
  rw [fa_lt] at h
  rw [fa_le]
  omega
theorem fa_of_nle {a b : Int32} (h : ¬ a ≤ b) : b < a := by
  rw [fa_le] at h
  rw [fa_lt]
  omega
theorem fa_le_ne {a b : Int32} (h : a ≤ b) (h2 : a ≠ b) : a < b := by
  rw [fa_le] at h
  rw [fa_lt]
  have h3 : a.toInt ≠ b.toInt := fun e => h2 ((fa_eq a b).mpr e)
  omega
theorem fa_three (a b : Int32) : a < b ∨ a = b ∨ b < a := by
  rw [fa_lt, fa_lt, fa_eq]
  omega
theorem fa_trans {a b c : Int32} (h : a < b) (h2 : b ≤ c) : a < c := by
  rw [fa_lt] at *
  rw [fa_le] at h2
  omega
/-! ===== small literals as numbers ===== -/
theorem fa_lit (n : Nat) : (OfNat.ofNat n : Int32) = nI n := rfl
theorem fa_litL (n : Nat) : (OfNat.ofNat n : Int64) = lN n := rfl
/-! ===== bits of a number: 'or', masks, one bit ===== -/
theorem fa_and (a b : Nat) : nI a &&& nI b = nI (a &&& b) := by
  apply Int32.toBitVec_inj.1
  show BitVec.ofNat 32 a &&& BitVec.ofNat 32 b = BitVec.ofNat 32 (a &&& b)
  apply BitVec.eq_of_getLsbD_eq
  intro i hi
  simp [hi]
theorem fa_or (a b : Nat) : nI a ||| nI b = nI (a ||| b) := by
  apply Int32.toBitVec_inj.1
  show BitVec.ofNat 32 a ||| BitVec.ofNat 32 b = BitVec.ofNat 32 (a ||| b)
  apply BitVec.eq_of_getLsbD_eq
  intro i hi
  simp [hi]
/-- a remainder by a power of two, as a mask -/
theorem fa_mask (n k : Nat) : nI n &&& nI (2 ^ k - 1) = nI (n % 2 ^ k) := by rw [fa_and, Nat.and_two_pow_sub_one_eq_mod]
/-- 'or' of a high part and a low one that don't meet is their sum -/
theorem fa_or_sum {a k : Nat} (b : Nat) (h : a < 2 ^ k) : nI (2 ^ k * b) ||| nI a = nI (2 ^ k * b + a) := by rw [fa_or, Nat.two_pow_add_eq_or_of_lt h]
/-- one bit, by 'and' with a power of two -/
theorem fa_bit {n j : Nat} (hj : j < 31) : nI n &&& nI (2 ^ j) = 0 ↔ n.testBit j = false := by
  have h2 : (2 : Nat) ^ j < 2 ^ 31 := Nat.pow_lt_pow_right (by decide) hj
  have hle : n &&& 2 ^ j ≤ 2 ^ j := Nat.and_le_right
  have e : n &&& 2 ^ j = 0 ↔ n.testBit j = false := by
    constructor
    · intro h
      have h1 : (n &&& 2 ^ j).testBit j = false := by rw [h]; simp
      rw [Nat.testBit_and] at h1
      first | simpa using h1 | simpa [Nat.testBit_two_pow_self] using h1 | simpa [Nat.testBit_two_pow] using h1
    · intro h
      apply Nat.eq_of_testBit_eq
      intro i
      rw [Nat.testBit_and]
      by_cases hi : j = i
      · subst hi; simp [h]
      · first | (simp [Nat.testBit_two_pow, hi]; done) | (simp [Nat.testBit_two_pow_of_ne hi]; done)
  rw [fa_and]
  constructor
  · intro h
    apply e.mp
    rcases Nat.eq_zero_or_pos (n &&& 2 ^ j) with z | z
    · exact z
    · exact absurd h (nI_ne0 z (Nat.lt_of_le_of_lt hle h2))
  · intro h
    rw [e.mpr h]; exact nI_0
/-- a remainder by a power of two of a number that isn't negative, as Java divides -/
theorem fa_rem {a k : Nat} (ha : a < 2 ^ 31) (hk : k < 31) : nI a - nI a / nI (2 ^ k) * nI (2 ^ k) = nI (a % 2 ^ k) := pk_rem ha (Nat.two_pow_pos k) (Nat.pow_lt_pow_right (by decide) hk)
/-! ===== cuts to a byte, a short ===== -/
theorem fa_byte_xor (x y : Int32) : (x ^^^ y).toInt8 = x.toInt8 ^^^ y.toInt8 := by
  apply Int8.toBitVec_inj.1
  apply BitVec.eq_of_getLsbD_eq
  intro i hi
  first | (simp [hi]; done) | (simp [hi, BitVec.getLsbD_setWidth, BitVec.getLsbD_signExtend]; done)
theorem fa_short_xor (x y : Int32) : (x ^^^ y).toInt16 = x.toInt16 ^^^ y.toInt16 := by
  apply Int16.toBitVec_inj.1
  apply BitVec.eq_of_getLsbD_eq
  intro i hi
  first | (simp [hi]; done) | (simp [hi, BitVec.getLsbD_setWidth, BitVec.getLsbD_signExtend]; done)
/-- the cut to a byte sees the low byte alone -/
theorem fa_byte_low (x : Int32) : (x &&& 255).toInt8 = x.toInt8 := by
  apply Int8.toBitVec_inj.1
  apply BitVec.eq_of_getLsbD_eq
  intro i hi
  have h2 : (255 : Int32).toBitVec.getLsbD i = true := by
    have : ∀ j : Fin 8, (255 : Int32).toBitVec.getLsbD j.val = true := by decide +kernel
    exact this ⟨i, hi⟩
  have h4 : (x &&& 255).toBitVec.getLsbD i = x.toBitVec.getLsbD i := by
    show (x.toBitVec &&& (255 : Int32).toBitVec).getLsbD i = _
    rw [BitVec.getLsbD_and, h2, Bool.and_true]
  have h3 : i < 32 := by omega
  first
    | (show (((x &&& 255).toBitVec).signExtend 8).getLsbD i = (x.toBitVec.signExtend 8).getLsbD i; rw [BitVec.getLsbD_signExtend, BitVec.getLsbD_signExtend, if_pos h3, if_pos h3, h4])
    | (show (((x &&& 255).toBitVec).setWidth 8).getLsbD i = (x.toBitVec.setWidth 8).getLsbD i; rw [BitVec.getLsbD_setWidth, BitVec.getLsbD_setWidth, h4])
    | (simp [hi, h3, h4]; done)
theorem fa_short_low (x : Int32) : (x &&& 65535).toInt16 = x.toInt16 := by
  apply Int16.toBitVec_inj.1
  apply BitVec.eq_of_getLsbD_eq
  intro i hi
  have h2 : (65535 : Int32).toBitVec.getLsbD i = true := by
    have : ∀ j : Fin 16, (65535 : Int32).toBitVec.getLsbD j.val = true := by decide +kernel
    exact this ⟨i, hi⟩
  have h4 : (x &&& 65535).toBitVec.getLsbD i = x.toBitVec.getLsbD i := by
    show (x.toBitVec &&& (65535 : Int32).toBitVec).getLsbD i = _
    rw [BitVec.getLsbD_and, h2, Bool.and_true]
  have h3 : i < 32 := by omega
  first
    | (show (((x &&& 65535).toBitVec).signExtend 16).getLsbD i = (x.toBitVec.signExtend 16).getLsbD i; rw [BitVec.getLsbD_signExtend, BitVec.getLsbD_signExtend, if_pos h3, if_pos h3, h4])
    | (show (((x &&& 65535).toBitVec).setWidth 16).getLsbD i = (x.toBitVec.setWidth 16).getLsbD i; rw [BitVec.getLsbD_setWidth, BitVec.getLsbD_setWidth, h4])
    | (simp [hi, h3, h4]; done)
/-- a small number is its own byte, its own short -/
theorem fa_byte_small {n : Nat} (h : n < 128) : (nI n).toInt8.toInt32 = nI n := by
  have : ∀ j : Fin 128, (nI j.val).toInt8.toInt32 = nI j.val := by decide +kernel
  exact this ⟨n, h⟩
/-! ===== absolute difference ===== -/
theorem fa_absdiff {a b : Nat} (ha : a < 2 ^ 31) (hb : b < 2 ^ 31) : (if nI a < nI b then nI b - nI a else nI a - nI b) = nI (if a < b then b - a else a - b) := by
  by_cases h : a < b
  · rw [if_pos (nI_lt h hb), if_pos h]
    exact pk_sub (Nat.le_of_lt h)
  · rw [if_neg (nI_nlt (Nat.le_of_not_lt h) ha), if_neg h]
    exact pk_sub (Nat.le_of_not_lt h)
/-! ===== an array behind i stores, a conditional store, a row copied ===== -/
/-- f where k < i, what stood there else -/
def fa_fill {α : Type} (f g : Nat → α) (i : Nat) : Nat → α := fun k => if k < i then f k else g k
theorem fa_fill_0 {α : Type} (f g : Nat → α) : fa_fill f g 0 = g := funext fun k => if_neg (Nat.not_lt_zero k)
theorem fa_fill_in {α : Type} {f g : Nat → α} {i k : Nat} (h : k < i) : fa_fill f g i k = f k := if_pos h
theorem fa_fill_out {α : Type} {f g : Nat → α} {i k : Nat} (h : i ≤ k) : fa_fill f g i k = g k := if_neg (Nat.not_lt.mpr h)
theorem fa_fill_succ (f g : Nat → Int32) (i : Nat) : upd (fa_fill f g i) i (f i) = fa_fill f g (i + 1) := by
  funext k
  by_cases e : k = i
  · subst e
    rw [pk_us]
    exact (if_pos (Nat.lt_succ_self k)).symm
  · rw [pk_un e]
    by_cases h : k < i
    · rw [fa_fill_in h, fa_fill_in (Nat.lt_succ_of_lt h)]
    · rw [fa_fill_out (Nat.le_of_not_lt h), fa_fill_out (by omega)]
/-- a store that changes nothing -/
theorem fa_upd_same {f : Nat → Int32} {i : Nat} {x : Int32} (h : f i = x) : upd f i x = f := by
  funext k
  by_cases e : k = i
  · subst e
    rw [pk_us, h]
  · rw [pk_un e]
/-- a store under a condition, told as one -/
theorem fa_upd_if (c : Prop) [Decidable c] (f : Nat → Int32) (i : Nat) (x : Int32) : (if c then upd f i x else f) = upd f i (if c then x else f i) := by
  by_cases h : c
  · rw [if_pos h, if_pos h]
  · rw [if_neg h, if_neg h, fa_upd_same rfl]
/-- two stores at one place, at two -/
theorem fa_upd_twice (f : Nat → Int32) (i : Nat) (x y : Int32) : upd (upd f i x) i y = upd f i y := by
  funext k
  by_cases e : k = i
  · subst e
    rw [pk_us, pk_us]
  · rw [pk_un e, pk_un e, pk_un e]
theorem fa_upd_swap (f : Nat → Int32) {i j : Nat} (h : i ≠ j) (x y : Int32) : upd (upd f i x) j y = upd (upd f j y) i x := by
  funext k
  by_cases e : k = i
  · subst e
    rw [pk_un h, pk_us, pk_us]
  · by_cases e2 : k = j
    · subst e2
      rw [pk_us, pk_un e, pk_us]
    · rw [pk_un e2, pk_un e, pk_un e, pk_un e2]
/-! ===== the first index with a property; a count ===== -/
/-- the first k < n with p k, n if there is none -/
def fa_first (p : Nat → Bool) : Nat → Nat
  | 0 => 0
  | n + 1 => if fa_first p n < n then fa_first p n else if p n then n else n + 1
theorem fa_first_le (p : Nat → Bool) : ∀ n, fa_first p n ≤ n
  | 0 => Nat.le_refl 0
  | n + 1 => by
    have ih := fa_first_le p n
    unfold fa_first
    split
    · omega
    · split
      · omega
      · omega
theorem fa_first_no (p : Nat → Bool) : ∀ n k, k < fa_first p n → p k = false
  | 0, k, h => absurd h (Nat.not_lt_zero k)
  | n + 1, k, h => by
    have ih := fa_first_no p n
    have hl := fa_first_le p n
    unfold fa_first at h
    split at h
    · exact ih k h
    · rename_i h1
      split at h
      · exact ih k (by omega)
      · rename_i h2
        by_cases e : k = n
        · subst e
          exact Bool.eq_false_iff.mpr h2
        · exact ih k (by omega)
theorem fa_first_yes (p : Nat → Bool) : ∀ n, fa_first p n < n → p (fa_first p n) = true
  | 0, h => absurd h (Nat.not_lt_zero _)
  | n + 1, h => by
    have ih := fa_first_yes p n
    have hl := fa_first_le p n
    unfold fa_first at h ⊢
    split at h
    · rename_i h1
      rw [if_pos h1]
      exact ih h1
    · rename_i h1
      rw [if_neg h1]
      split at h
      · rename_i h2
        rw [if_pos h2]
        exact h2
      · omega
/-- how many k < n have p k -/
def fa_cnt (p : Nat → Bool) : Nat → Nat
  | 0 => 0
  | n + 1 => fa_cnt p n + if p n then 1 else 0
theorem fa_cnt_le (p : Nat → Bool) : ∀ n, fa_cnt p n ≤ n
  | 0 => Nat.le_refl 0
  | n + 1 => by
    have ih := fa_cnt_le p n
    unfold fa_cnt
    split
    · omega
    · omega
theorem fa_cnt_yes {p : Nat → Bool} {n : Nat} (h : p n = true) : fa_cnt p (n + 1) = fa_cnt p n + 1 := by rw [fa_cnt, if_pos h]
theorem fa_cnt_no {p : Nat → Bool} {n : Nat} (h : p n = false) : fa_cnt p (n + 1) = fa_cnt p n := by rw [fa_cnt, if_neg (by rw [h]; decide)]; rfl
theorem fa_cnt_cong {p q : Nat → Bool} : ∀ {n : Nat}, (∀ k, k < n → p k = q k) → fa_cnt p n = fa_cnt q n
  | 0, _ => rfl
  | n + 1, h => by rw [fa_cnt, fa_cnt, fa_cnt_cong (fun k hk => h k (Nat.lt_succ_of_lt hk)), h n (Nat.lt_succ_self n)]
/-! ===== an answer carried into a post; a branch on a boolean answer ===== -/
theorem fa_post {α : Type} {P : α → Prop} {x y : α} (h : x = y) (hp : P y) : P x := h ▸ hp
theorem fa_post2 {α β : Type} {P : α → β → Prop} {x y : α} {u v : β} (h : x = y) (h2 : u = v) (hp : P y v) : P x u := h ▸ h2 ▸ hp
theorem fa_bool {r : Int32} {b : Bool} (h : r = if b then 1 else 0) : (r = 0 ↔ b = false) ∧ (¬ r = 0 ↔ b = true) := by
  subst h
  cases b
  · exact ⟨⟨fun _ => rfl, fun _ => rfl⟩, ⟨fun h => absurd rfl h, fun h => absurd h (by decide)⟩⟩
  · exact ⟨⟨fun h => absurd h (by decide), fun h => absurd h (by decide)⟩, ⟨fun _ => rfl, fun _ => by decide⟩⟩
/-- a boolean's narrowing changes nothing -/
theorem fa_bool_and {r : Int32} (h : r = 0 ∨ r = 1) : r &&& 1 = r := by
  rcases h with rfl | rfl
  · decide
  · decide
theorem fa_bool_prop {c : Prop} [Decidable c] {r : Int32} (h : r = if c then 1 else 0) : (r = 0 ↔ ¬ c) ∧ (¬ r = 0 ↔ c) := by
  subst h
  by_cases hc : c
  · rw [if_pos hc]
    exact ⟨⟨fun h => absurd h (by decide), fun h => absurd hc h⟩, ⟨fun _ => hc, fun _ => by decide⟩⟩
  · rw [if_neg hc]
    exact ⟨⟨fun _ => hc, fun _ => rfl⟩, ⟨fun h => absurd rfl h, fun h => absurd h hc⟩⟩
end
section
/-! The blocks of cells: streets, hours, a town, the air, a pad, the reader, the history, the whole object, its slots; the reference. -/
abbrev rW (q : xQ) (h n : Nat) (f : Nat → Int32) : va_W := [(h, .inl (q 0, n, .inl f))]
abbrev sW (_q : xQ) (h0 h1 h2 h3 h4 h5 : Nat) (f1 f2 f3 f4 f5 : Nat → Int32) (nb : Int32) : va_W := [(h0, .inr (5, [.ref h1, .ref h2, .ref h3, .ref h4, .ref h5, .int nb])), (h1, .inl (_q 0, 20, .inl f1)), (h2, .inl (_q 0, 20, .inl f2)), (h3, .inl (_q 0, 20, .inl f3)), (h4, .inl (_q 0, 20, .inl f4)), (h5, .inl (_q 0, 20, .inl f5))]
abbrev hW (q : xQ) (h0 h1 h2 h3 : Nat) (g1 g2 g3 : Nat → Int32) (ps lo : Int32) : va_W := [(h0, .inr (2, [.ref h1, .ref h2, .ref h3, .int ps, .int lo])), (h1, .inl (q 0, 8, .inl g1)), (h2, .inl (q 0, 8, .inl g2)), (h3, .inl (q 0, 8, .inl g3))]
abbrev twW (q : xQ) (h0 h1 hs hh : Nat) (r0 : Nat → Int32) (fc : Int32) : va_W := [(h0, .inr (6, [.ref h1, .ref hs, .ref hh, .int fc])), (h1, .inl (q 0, 4, .inl r0))]
abbrev aW (q : xQ) (h0 h1 h2 h3 : Nat) (t1 t2 t3 : Nat → Int32) : va_W := [(h0, .inr (0, [.ref h1, .ref h2, .ref h3])), (h1, .inl (q 0, 20, .inl t1)), (h2, .inl (q 0, 20, .inl t2)), (h3, .inl (q 0, 20, .inl t3))]
abbrev pW (q : xQ) (h0 h1 : Nat) (cs : Nat → Int32) (ln ov : Int32) : va_W := [(h0, .inr (3, [.ref h1, .int ln, .int ov])), (h1, .inl (q 1, 80, .inl cs))]
abbrev rdW (_q : xQ) (h0 hs : Nat) (la pa : Int32) : va_W := [(h0, .inr (4, [.ref hs, .int la, .int pa]))]
abbrev hiW (q : xQ) (h0 h1 : Nat) (ad : Nat → Option Nat) (ol ln : Int32) : va_W := [(h0, .inr (1, [.ref h1, .int ol, .int ln])), (h1, .inl (q 3, 6, .inr (.inr (.inr (.inr ad)))))]
abbrev xoW (_q : xQ) (h0 ht ha hh hs hf hp hd hr : Nat) : va_W := [(h0, .inr (7, [.ref ht, .ref ha, .ref hh, .ref hs, .ref hf, .ref hp, .ref hd, .ref hr]))]
abbrev slW (q : xQ) (h0 : Nat) (ad : Nat → Option Nat) : va_W := [(h0, .inl (q 3, 2, .inr (.inr (.inr (.inr ad)))))]
abbrev fiW (q : xQ) (h0 : Nat) (f : Nat → Int32) : va_W := [(h0, .inl (q 2, 2, .inl f))]
abbrev mW (q : xQ) (b0 b1 b2 b3 b4 b5 b6 b7 b8 : Nat) (s p sl sv pd fo to ou : Nat → Int32) (kn ln mn la op wr : Int32) : va_W := [(b0, .inr (8, [.ref b1, .ref b2, .int kn, .ref b3, .ref b4, .ref b5, .int ln, .ref b6, .ref b7, .int mn, .int la, .int op, .ref b8, .int wr])), (b1, .inl (q 0, 133, .inl s)), (b2, .inl (q 0, 798, .inl p)), (b3, .inl (q 0, 266, .inl sl)), (b4, .inl (q 2, 2, .inl sv)), (b5, .inl (q 0, 80, .inl pd)), (b6, .inl (q 0, 20, .inl fo)), (b7, .inl (q 0, 100, .inl to)), (b8, .inl (q 0, 300, .inl ou))]
/-- a town as one block: its rows are R 0 .. R 8, its numbers R 9 0 .. R 9 3 -/
def tG (q : xQ) (a : Nat → Nat) (R : Nat → Nat → Int32) : va_W := twW q (a 0) (a 1) (a 2) (a 8) (R 0) (R 9 3) ++ (sW q (a 2) (a 3) (a 4) (a 5) (a 6) (a 7) (R 1) (R 2) (R 3) (R 4) (R 5) (R 9 0) ++ hW q (a 8) (a 9) (a 10) (a 11) (R 6) (R 7) (R 8) (R 9 1) (R 9 2))
end
section
/-! Pure words: sums, sets, forces. -/
def x_orf (g : Nat → Int32) : Nat → Int32 | 0 => 0 | n + 1 => x_orf g n ||| g n
def x_sm (g : Nat → Int32) : Nat → Int32 | 0 => 0 | n + 1 => x_sm g n + g n
def x_bo (f : Nat → Int32) (st : Int32) (o : Nat) : Int32 := if f o = st then 1 <<< (nI o &&& 31) else 0
theorem x_or0 (x : Int32) : x ||| 0 = x := by
  apply Int32.toBitVec_inj.mp
  show x.toBitVec ||| 0#32 = x.toBitVec
  exact BitVec.or_zero
theorem x_add0 (x : Int32) : x + 0 = x := by
  apply Int32.toBitVec_inj.mp
  show x.toBitVec + 0#32 = x.toBitVec
  exact BitVec.add_zero _
theorem x_orf_z {g : Nat → Int32} {n : Nat} (h : g n = 0) : x_orf g (n + 1) = x_orf g n := by rw [x_orf, h, x_or0]
theorem x_sm_z {g : Nat → Int32} {n : Nat} (h : g n = 0) : x_sm g (n + 1) = x_sm g n := by rw [x_sm, h, x_add0]
theorem x_orf_cong {g h : Nat → Int32} : ∀ {n : Nat}, (∀ k, k < n → g k = h k) → x_orf g n = x_orf h n
  | 0, _ => rfl
  | n + 1, e => by rw [x_orf, x_orf, x_orf_cong (fun k hk => e k (by omega)), e n (by omega)]
theorem x_sm_cong {g h : Nat → Int32} : ∀ {n : Nat}, (∀ k, k < n → g k = h k) → x_sm g n = x_sm h n
  | 0, _ => rfl
  | n + 1, e => by rw [x_sm, x_sm, x_sm_cong (fun k hk => e k (by omega)), e n (by omega)]
/-- the streets behind a street, as bits: i of the streets k + 1, k + 2 .. are looked at -/
def x_bh (pr : Nat → Nat) (k : Nat) : Nat → Nat
  | 0 => 2 ^ k
  | i + 1 => if (x_bh pr k i).testBit (pr (k + 1 + i)) then x_bh pr k i ||| 2 ^ (k + 1 + i) else x_bh pr k i
theorem x_bh_no {pr : Nat → Nat} {k j b : Nat} (hb : b = x_bh pr k (j - (k + 1))) (h : k + 1 ≤ j) (ht : b.testBit (pr j) = false) : b = x_bh pr k (j + 1 - (k + 1)) := by
  obtain ⟨i, rfl⟩ : ∃ i, j = k + 1 + i := ⟨j - (k + 1), by omega⟩
  rw [show k + 1 + i - (k + 1) = i by omega] at hb
  rw [show k + 1 + i + 1 - (k + 1) = i + 1 by omega, x_bh, ← hb, ht]
  rfl
theorem x_bh_yes {pr : Nat → Nat} {k j b : Nat} (hb : b = x_bh pr k (j - (k + 1))) (h : k + 1 ≤ j) (ht : ¬ b.testBit (pr j) = false) : b ||| 2 ^ j = x_bh pr k (j + 1 - (k + 1)) := by
  obtain ⟨i, rfl⟩ : ∃ i, j = k + 1 + i := ⟨j - (k + 1), by omega⟩
  rw [show k + 1 + i - (k + 1) = i by omega] at hb
  rw [show k + 1 + i + 1 - (k + 1) = i + 1 by omega, x_bh, ← hb, if_pos (by simpa using ht)]
theorem x_shl1 {p : Nat} (h : p < 31) : (1 : Int32) <<< (nI p &&& 31) = nI (2 ^ p) := by
  have e : ∀ p, p < 32 → ((nI p &&& 31).toBitVec.smod 32).toNat = p := by decide
  have h2 : (2 : Nat) ^ p < 2 ^ 31 := Nat.pow_lt_pow_right (by decide) h
  have := pk_shlN (n := 1) (nI p &&& 31) p (e p (by omega)) (by omega)
  rw [Nat.one_mul] at this
  exact this
/-- how many streets off the top -/
def x_dep (pr : Nat → Nat) : Nat → Nat → Nat
  | 0, _ => 0
  | f + 1, c => if c = 0 then 0 else x_dep pr f (pr c) + 1
theorem x_dep_any (pr : Nat → Nat) (n : Nat) (hp : ∀ o, 1 ≤ o → o < n → pr o < o) : ∀ (f g c : Nat), c < n → c ≤ f → c ≤ g → x_dep pr f c = x_dep pr g c
  | 0, g, c, hc, hf, hg => by
    obtain rfl : c = 0 := by omega
    cases g <;> rfl
  | f + 1, 0, c, hc, hf, hg => by
    obtain rfl : c = 0 := by omega
    rfl
  | f + 1, g + 1, c, hc, hf, hg => by
    rw [x_dep, x_dep]
    by_cases h0 : c = 0
    · rw [if_pos h0, if_pos h0]
    · have h1 := hp c (by omega) hc
      rw [if_neg h0, if_neg h0, x_dep_any pr n hp f g (pr c) (by omega) (by omega) (by omega)]
theorem x_dep_step (pr : Nat → Nat) (n : Nat) (hp : ∀ o, 1 ≤ o → o < n → pr o < o) {c : Nat} (h0 : 1 ≤ c) (hc : c < n) : x_dep pr c c = x_dep pr (pr c) (pr c) + 1 := by
  obtain ⟨d, rfl⟩ : ∃ d, c = d + 1 := ⟨c - 1, by omega⟩
  have h1 := hp (d + 1) h0 hc
  rw [x_dep, if_neg (by omega), x_dep_any pr n hp d (pr (d + 1)) (pr (d + 1)) (by omega) (by omega) (by omega)]
theorem x_dep_le (pr : Nat → Nat) : ∀ f c, x_dep pr f c ≤ f
  | 0, _ => Nat.le_refl 0
  | f + 1, c => by
    rw [x_dep]
    split
    · omega
    · have := x_dep_le pr f (pr c); omega
/-- the JDK's bitCount -/
def x_us (x : Int32) (k : Int32) : Int32 := (x.toUInt32 >>> (Int32.toUInt32 k &&& Int32.toUInt32 31)).toInt32
def x_b1 (x : Int32) : Int32 := x - (x_us x 1 &&& 1431655765)
def x_b2 (x : Int32) : Int32 := (x &&& 858993459) + (x_us x 2 &&& 858993459)
def x_b3 (x : Int32) : Int32 := (x + x_us x 4) &&& 252645135
def x_b4 (x : Int32) : Int32 := x + x_us x 8
def x_b5 (x : Int32) : Int32 := x + x_us x 16
def x_bc (x : Int32) : Int32 := x_b5 (x_b4 (x_b3 (x_b2 (x_b1 x)))) &&& 63
def x_quo (a b : Int32) : Int32 := if 0 < b then a / b else 0
def x_mn (x y : Int32) : Int32 := if y < x then y else x
/-- together, narrower: over the streets that branch off the same one -/
def x_tg (f w : Nat → Int32) (m : Int32) (k o : Nat) : Int32 := if nI o ≠ m ∧ f o = f k then w o else 0
def x_nr (f w : Nat → Int32) (m : Int32) (k o : Nat) : Int32 := if (nI o ≠ m ∧ f o = f k) ∧ w o < w k then 1 else 0
/-- forces: street 0 has the top's, each other one what g makes of the force of the one off which it branches -/
def x_fs (pr : Nat → Nat) (g : Nat → Int32 → Int32) (top : Int32) : Nat → Nat → Int32
  | 0 => fun _ => 0
  | k + 1 => upd (x_fs pr g top k) k (if k = 0 then top else g k (x_fs pr g top k (pr k)))
def x_fc (pr : Nat → Nat) (g : Nat → Int32 → Int32) (top : Int32) (k : Nat) : Int32 := x_fs pr g top (k + 1) k
theorem x_fs_lt (pr : Nat → Nat) (g : Nat → Int32 → Int32) (top : Int32) {j : Nat} : ∀ {k : Nat}, j < k → x_fs pr g top k j = x_fc pr g top j
  | 0, h => absurd h (Nat.not_lt_zero j)
  | k + 1, h => by
    by_cases e : j = k
    · subst e; rfl
    · rw [x_fs, pk_un e, x_fs_lt pr g top (by omega)]
theorem x_fc_0 (pr : Nat → Nat) (g : Nat → Int32 → Int32) (top : Int32) : x_fc pr g top 0 = top := by
  unfold x_fc
  rw [x_fs, pk_us, if_pos rfl]
theorem x_fc_s (pr : Nat → Nat) (g : Nat → Int32 → Int32) (top : Int32) {k : Nat} (h1 : 1 ≤ k) (hp : pr k < k) : x_fc pr g top k = g k (x_fc pr g top (pr k)) := by
  show x_fs pr g top (k + 1) k = _
  rw [x_fs, pk_us, if_neg (by omega), x_fs_lt pr g top hp]
def x_sh (t1 t2 w : Nat → Int32) (k : Nat) (x : Int32) : Int32 := x_mn x (x_quo (x * w k) (t1 k) + 5 * t2 k)
/-- a pad that holds the signs of S, as far as they go in -/
def xPad (S : List Nat) (cs : Nat → Int32) (k : Nat) (ov : Int32) : Prop :=
  k = min S.length 80 ∧ (∀ j, j < k → cs j = nI (S.getD j 0)) ∧ ov = (if 80 < S.length then 1 else 0) ∧ ∀ j, j < 80 → fits .char (.int (cs j)) = true
/-- a town's rows and numbers in one -/
def x_tR (r0 f1 f2 f3 f4 f5 g1 g2 g3 : Nat → Int32) (nb ps lo fc : Int32) : Nat → Nat → Int32
  | 0 => r0 | 1 => f1 | 2 => f2 | 3 => f3 | 4 => f4 | 5 => f5 | 6 => g1 | 7 => g2 | 8 => g3
  | _ => fun j => match j with
    | 0 => nb | 1 => ps | 2 => lo | _ => fc
theorem x_gd1 {S T : List Nat} {j : Nat} (h : j < S.length) : (S ++ T).getD j 0 = S.getD j 0 := by
  rw [List.getD_eq_getElem?_getD, List.getD_eq_getElem?_getD, List.getElem?_append_left h]
theorem x_gd2 {S T : List Nat} {j : Nat} : (S ++ T).getD (S.length + j) 0 = T.getD j 0 := by
  rw [List.getD_eq_getElem?_getD, List.getD_eq_getElem?_getD, List.getElem?_append_right (Nat.le_add_right _ _), Nat.add_sub_cancel_left]
theorem xPad.put {S : List Nat} {cs : Nat → Int32} {k : Nat} {ov : Int32} (h : xPad S cs k ov) {x : Nat} (hx : x < 65536) (hk : k < 80) : xPad (S ++ [x]) (upd cs k (nI x)) (k + 1) ov := by
  obtain ⟨h1, h2, h3, h4⟩ := h
  have hl : k = S.length := by omega
  refine ⟨by rw [List.length_append, List.length_singleton]; omega, fun j hj => ?_, ?_, fun j hj => ?_⟩
  · by_cases e : j = k
    · subst e
      have e2 := x_gd2 (S := S) (T := [x]) (j := 0)
      rw [pk_us, hl, show S.length = S.length + 0 from rfl, e2]
      rfl
    · rw [pk_un e, h2 j (by omega), x_gd1 (by omega)]
  · rw [h3, List.length_append, List.length_singleton, if_neg (by omega), if_neg (by omega)]
  · by_cases e : j = k
    · subst e; rw [pk_us]; exact (pk_charN hx).2
    · rw [pk_un e]; exact h4 j hj
theorem xPad.full {S : List Nat} {cs : Nat → Int32} {k : Nat} {ov : Int32} (h : xPad S cs k ov) {x : Nat} (hk : 80 ≤ k) : xPad (S ++ [x]) cs k 1 := by
  obtain ⟨h1, h2, h3, h4⟩ := h
  refine ⟨by rw [List.length_append, List.length_singleton]; omega, fun j hj => ?_, ?_, h4⟩
  · rw [h2 j hj, x_gd1 (by omega)]
  · rw [List.length_append, List.length_singleton, if_pos (by omega)]
theorem x_chr {x : Nat} (h : x < 65536) : ((nI x).toUInt32 % 65536).toInt32 = nI x := by
  rw [pk_char, pk_tn (by omega), Nat.mod_eq_of_lt h]
theorem x_nar {x : Nat} (h : x < 65536) : vp_nar .char (nI x) = nI x := by
  have := (pk_charN h).1
  unfold vp_nar
  rw [this]
theorem x_m6 (z : Nat) (h : z < 2 ^ 31) : ¬ (-6 : Int32) = nI z := by
  intro e
  have e2 : (-6 : Int32).toInt = (nI z).toInt := by rw [e]
  rw [nI_toInt h] at e2
  have e3 : (-6 : Int32).toInt = -6 := by decide
  omega
theorem x_nz {v : Int32} (h : v = 0 ∨ v = 1) : narrow .boolean (.int v) = .int v := by rcases h with rfl | rfl <;> rfl
theorem x_fz {v : Int32} (h : v = 0 ∨ v = 1) : fits .boolean (.int v) = true := by rcases h with rfl | rfl <;> rfl
theorem xPad.ov {S : List Nat} {cs : Nat → Int32} {k : Nat} {ov : Int32} (h : xPad S cs k ov) : ov = 0 ∨ ov = 1 := by
  rw [h.2.2.1]
  split
  · exact Or.inr rfl
  · exact Or.inl rfl
theorem x_sm_p {g : Nat → Int32} {n : Nat} {v : Int32} (h : g n = v) : x_sm g (n + 1) = x_sm g n + v := by rw [x_sm, h]
theorem x_fc_cong {pr : Nat → Nat} {g g' : Nat → Int32 → Int32} {top : Int32} (n : Nat) (hg : ∀ k, 1 ≤ k → k < n → ∀ x, g k x = g' k x) (hp : ∀ o, 1 ≤ o → o < n → pr o < o) (k : Nat) (hk : k < n) : x_fc pr g top k = x_fc pr g' top k := by
  induction k using Nat.strongRecOn with
  | _ k ih =>
    rcases Nat.eq_zero_or_pos k with rfl | h
    · rw [x_fc_0, x_fc_0]
    · have h2 := hp k h hk
      rw [x_fc_s _ _ _ h h2, x_fc_s _ _ _ h h2, hg k h hk, ih (pr k) h2 (by omega)]
/-- the forces in the streets, with the widths f2 and the branches f1, one street left out (m) -/
def x_F (f1 f2 : Nat → Int32) (pr : Nat → Nat) (n : Nat) (m top : Int32) (k : Nat) : Int32 := x_fc pr (x_sh (fun k => x_sm (x_tg f1 f2 m k) n) (fun k => x_sm (x_nr f1 f2 m k) n) f2) top k
def x_gu (r0 : Nat → Int32) (F : Int32) : Int32 := F + F * r0 2 / 100
def x_ha (r0 : Nat → Int32) (F p : Int32) : Int32 := if 0 < x_gu r0 F - r0 1 then x_mn p ((x_gu r0 F - r0 1) / 4 + 1) else 0
def x_hk (r0 t3 f5 : Nat → Int32) (k : Nat) : Int32 := x_ha r0 (t3 k) (f5 k)
def x_wo (h : Nat → Int32) : Nat → Int32 × Int32
  | 0 => (-6, 0)
  | k + 1 => if (x_wo h k).2 < h k then (nI k, h k) else x_wo h k
end
section
/-! The JDK's bitCount of a set of at most 20 streets is how many there are. -/
def x_pc : Nat → Nat → Nat
  | 0, _ => 0
  | f + 1, m => m % 2 + x_pc f (m / 2)
theorem x_pc_0 : ∀ f, x_pc f 0 = 0
  | 0 => rfl
  | f + 1 => by rw [x_pc, Nat.zero_mod, Nat.zero_div, x_pc_0 f]
theorem x_pc_app : ∀ (a b m : Nat), x_pc (a + b) m = x_pc a (m % 2 ^ a) + x_pc b (m / 2 ^ a)
  | 0, b, m => by rw [Nat.zero_add, x_pc, Nat.pow_zero, Nat.div_one, Nat.zero_add]
  | a + 1, b, m => by
    have ih := x_pc_app a b (m / 2)
    have e1 : m % 2 ^ (a + 1) % 2 = m % 2 := Nat.mod_mod_of_dvd m ⟨2 ^ a, by rw [Nat.pow_succ, Nat.mul_comm]⟩
    have e2 : m % 2 ^ (a + 1) / 2 = m / 2 % 2 ^ a := by rw [Nat.pow_succ, Nat.mul_comm, Nat.mod_mul_right_div_self]
    have e3 : m / 2 ^ (a + 1) = m / 2 / 2 ^ a := by rw [Nat.pow_succ, Nat.mul_comm, Nat.div_div_eq_div_mul]
    rw [show a + 1 + b = (a + b) + 1 by omega, x_pc, ih, x_pc, e1, e2, e3]
    omega
theorem x_pc_add : ∀ (j f m : Nat), m < 2 ^ j → j < f → x_pc f (m + 2 ^ j) = x_pc f m + 1
  | _, 0, _, _, h => absurd h (Nat.not_lt_zero _)
  | 0, f + 1, m, hm, _ => by
    obtain rfl : m = 0 := by rw [Nat.pow_zero] at hm; omega
    rw [x_pc, x_pc, Nat.pow_zero, x_pc_0]
  | j + 1, f + 1, m, hm, hj => by
    have e : (2 : Nat) ^ (j + 1) = 2 ^ j * 2 := Nat.pow_succ 2 j
    have e1 : (m + 2 ^ (j + 1)) % 2 = m % 2 := by omega
    have e2 : (m + 2 ^ (j + 1)) / 2 = m / 2 + 2 ^ j := by omega
    rw [x_pc, x_pc, e1, e2, x_pc_add j f (m / 2) (by omega) (by omega)]
    omega
theorem x_and_split {a b c d : Nat} (ha : a < 256) (hc : c < 256) : (a + 256 * b) &&& (c + 256 * d) = (a &&& c) + 256 * (b &&& d) := by
  have hac : a &&& c < 2 ^ 8 := Nat.and_lt_two_pow a hc
  apply Nat.eq_of_testBit_eq
  intro i
  rw [Nat.testBit_and, show a + 256 * b = 2 ^ 8 * b + a by omega, show c + 256 * d = 2 ^ 8 * d + c by omega, show (a &&& c) + 256 * (b &&& d) = 2 ^ 8 * (b &&& d) + (a &&& c) by omega, Nat.testBit_two_pow_mul_add b ha, Nat.testBit_two_pow_mul_add d hc, Nat.testBit_two_pow_mul_add _ hac]
  split
  · rw [Nat.testBit_and]
  · rw [Nat.testBit_and]
def x_n1 (v : Nat) : Nat := v - (v / 2 &&& 85)
def x_n2 (v : Nat) : Nat := (v &&& 51) + (v / 4 &&& 51)
def x_n3 (v : Nat) : Nat := (v + v / 16) &&& 15
set_option maxRecDepth 100000 in
theorem x_byte1 : ∀ v, v < 256 → ∀ t, t < 2 → (v / 2 + 128 * t) &&& 85 = v / 2 &&& 85 := by decide +kernel
set_option maxRecDepth 100000 in
theorem x_byte2 : ∀ v, v < 256 → ∀ t, t < 4 → (v / 4 + 64 * t) &&& 51 = v / 4 &&& 51 := by decide +kernel
set_option maxRecDepth 100000 in
theorem x_byte3 : ∀ v, v < 69 → ∀ t, t < 16 → (v + (v / 16 + 16 * t)) &&& 15 = (v + v / 16) &&& 15 := by decide +kernel
set_option maxRecDepth 100000 in
theorem x_byteb : ∀ v, v < 256 → x_n1 v < 256 ∧ (v / 2 &&& 85) ≤ v ∧ x_n2 (x_n1 v) < 69 ∧ x_n2 (x_n1 v) % 16 < 5 ∧ x_n3 (x_n2 (x_n1 v)) = x_pc 8 v ∧ x_pc 8 v ≤ 8 := by decide +kernel
def x_N1 (m : Nat) : Nat := m - (m / 2 &&& 1431655765)
def x_N2 (m : Nat) : Nat := (m &&& 858993459) + (m / 4 &&& 858993459)
def x_N3 (m : Nat) : Nat := (m + m / 16) &&& 252645135
theorem x_and3 {a b d : Nat} (k : Nat) (hk : k < 256) (ha : a < 256) (hb : b < 256) (hd : d < 256) : (a + 256 * (b + 256 * d)) &&& (k + 256 * (k + 256 * (k + 256 * k))) = (a &&& k) + 256 * ((b &&& k) + 256 * (d &&& k)) := by
  rw [x_and_split ha hk, x_and_split hb hk]
  have e : d &&& (k + 256 * k) = d &&& k := by
    have := x_and_split (a := d) (b := 0) (c := k) (d := k) hd hk
    rw [Nat.zero_and, Nat.mul_zero, Nat.add_zero, Nat.add_zero] at this
    exact this
  rw [e]
theorem x_N1_b {a b d : Nat} (ha : a < 256) (hb : b < 256) (hd : d < 256) : x_N1 (a + 256 * (b + 256 * d)) = x_n1 a + 256 * (x_n1 b + 256 * x_n1 d) ∧ ((a + 256 * (b + 256 * d)) / 2 &&& 1431655765) ≤ a + 256 * (b + 256 * d) := by
  have e : (a + 256 * (b + 256 * d)) / 2 = (a / 2 + 128 * (b % 2)) + 256 * ((b / 2 + 128 * (d % 2)) + 256 * (d / 2 + 128 * 0)) := by omega
  have h := x_and3 85 (a := a / 2 + 128 * (b % 2)) (b := b / 2 + 128 * (d % 2)) (d := d / 2 + 128 * 0) (by omega) (by omega) (by omega) (by omega)
  rw [x_byte1 a ha (b % 2) (by omega), x_byte1 b hb (d % 2) (by omega), x_byte1 d hd 0 (by omega)] at h
  have e2 : (85 : Nat) + 256 * (85 + 256 * (85 + 256 * 85)) = 1431655765 := rfl
  rw [e2, ← e] at h
  have h1 := (x_byteb a ha).2.1
  have h2 := (x_byteb b hb).2.1
  have h3 := (x_byteb d hd).2.1
  unfold x_N1 x_n1
  rw [h]
  constructor <;> omega
theorem x_N2_b {a b d : Nat} (ha : a < 256) (hb : b < 256) (hd : d < 256) : x_N2 (a + 256 * (b + 256 * d)) = x_n2 a + 256 * (x_n2 b + 256 * x_n2 d) := by
  have e : (a + 256 * (b + 256 * d)) / 4 = (a / 4 + 64 * (b % 4)) + 256 * ((b / 4 + 64 * (d % 4)) + 256 * (d / 4 + 64 * 0)) := by omega
  have h := x_and3 51 (a := a / 4 + 64 * (b % 4)) (b := b / 4 + 64 * (d % 4)) (d := d / 4 + 64 * 0) (by omega) (by omega) (by omega) (by omega)
  rw [x_byte2 a ha (b % 4) (by omega), x_byte2 b hb (d % 4) (by omega), x_byte2 d hd 0 (by omega)] at h
  have e2 : (51 : Nat) + 256 * (51 + 256 * (51 + 256 * 51)) = 858993459 := rfl
  have h0 := x_and3 51 (a := a) (b := b) (d := d) (by omega) ha hb hd
  rw [e2] at h h0
  rw [← e] at h
  unfold x_N2 x_n2
  rw [h, h0]
  omega
theorem x_N3_b {a b d : Nat} (ha : a < 69) (hb : b < 69) (hd : d < 69) (hb5 : b % 16 < 5) (hd5 : d % 16 < 5) : x_N3 (a + 256 * (b + 256 * d)) = x_n3 a + 256 * (x_n3 b + 256 * x_n3 d) := by
  have e : a + 256 * (b + 256 * d) + (a + 256 * (b + 256 * d)) / 16 = (a + (a / 16 + 16 * (b % 16))) + 256 * ((b + (b / 16 + 16 * (d % 16))) + 256 * (d + (d / 16 + 16 * 0))) := by omega
  have h := x_and3 15 (a := a + (a / 16 + 16 * (b % 16))) (b := b + (b / 16 + 16 * (d % 16))) (d := d + (d / 16 + 16 * 0)) (by omega) (by omega) (by omega) (by omega)
  rw [x_byte3 a ha (b % 16) (by omega), x_byte3 b hb (d % 16) (by omega), x_byte3 d hd 0 (by omega)] at h
  have e2 : (15 : Nat) + 256 * (15 + 256 * (15 + 256 * 15)) = 252645135 := rfl
  rw [e2, ← e] at h
  unfold x_N3 x_n3
  exact h
theorem x_us_n {m k : Nat} (hm : m < 2 ^ 31) (hk : k < 32) : x_us (nI m) (nI k) = nI (m / 2 ^ k) := by
  have e : ∀ k, k < 32 → (((nI k).toUInt32 &&& Int32.toUInt32 31).toBitVec % 32).toNat = k := by decide +kernel
  exact pk_ushrN (by omega) (nI k) k (e k hk)
theorem x_bc_n {m : Nat} (hm : m < 2 ^ 20) : x_bc (nI m) = nI (x_pc 20 m) := by
  obtain ⟨a, b, d, ha, hb, hd, rfl⟩ : ∃ a b d, a < 256 ∧ b < 256 ∧ d < 16 ∧ m = a + 256 * (b + 256 * d) := ⟨m % 256, m / 256 % 256, m / 65536, by omega, by omega, by omega, by omega⟩
  have hd2 : d < 256 := by omega
  obtain ⟨E1, L1⟩ := x_N1_b ha hb hd2
  obtain ⟨a1, -, a2, a3, a4, a5⟩ := x_byteb a ha
  obtain ⟨b1, -, b2, b3, b4, b5⟩ := x_byteb b hb
  obtain ⟨d1, -, d2, d3, d4, d5⟩ := x_byteb d hd2
  have E2 := x_N2_b a1 b1 d1
  have E3 := x_N3_b a2 b2 d2 b3 d3
  rw [a4, b4, d4] at E3
  have hpc : x_pc 20 (a + 256 * (b + 256 * d)) = x_pc 8 a + (x_pc 8 b + x_pc 8 d) := by
    have h1 := x_pc_app 8 12 (a + 256 * (b + 256 * d))
    have h2 := x_pc_app 8 4 (b + 256 * d)
    have h3 := x_pc_app 4 4 d
    rw [show (a + 256 * (b + 256 * d)) % 2 ^ 8 = a by omega, show (a + 256 * (b + 256 * d)) / 2 ^ 8 = b + 256 * d by omega] at h1
    rw [show (b + 256 * d) % 2 ^ 8 = b by omega, show (b + 256 * d) / 2 ^ 8 = d by omega] at h2
    rw [show d % 2 ^ 4 = d by omega, show d / 2 ^ 4 = 0 by omega, x_pc_0, Nat.add_zero] at h3
    have h4 : x_pc 8 d = x_pc 4 d := h3
    show x_pc (8 + 12) (a + 256 * (b + 256 * d)) = _
    rw [h1, h4, ← h2]
  generalize hM : a + 256 * (b + 256 * d) = M at *
  have hM31 : M < 2 ^ 31 := by omega
  have s1 : x_b1 (nI M) = nI (x_n1 a + 256 * (x_n1 b + 256 * x_n1 d)) := by
    unfold x_b1
    rw [show (1 : Int32) = nI 1 from rfl, x_us_n hM31 (by omega), show (1431655765 : Int32) = nI 1431655765 from rfl, fa_and, Nat.pow_one, pk_sub L1]
    exact congrArg nI E1
  have s2 : x_b2 (nI (x_n1 a + 256 * (x_n1 b + 256 * x_n1 d))) = nI (x_n2 (x_n1 a) + 256 * (x_n2 (x_n1 b) + 256 * x_n2 (x_n1 d))) := by
    unfold x_b2
    rw [show (2 : Int32) = nI 2 from rfl, x_us_n (by omega) (by omega), show (858993459 : Int32) = nI 858993459 from rfl, fa_and, fa_and, nI_add, show (2 : Nat) ^ 2 = 4 from rfl]
    exact congrArg nI E2
  have s3 : x_b3 (nI (x_n2 (x_n1 a) + 256 * (x_n2 (x_n1 b) + 256 * x_n2 (x_n1 d)))) = nI (x_pc 8 a + 256 * (x_pc 8 b + 256 * x_pc 8 d)) := by
    unfold x_b3
    rw [show (4 : Int32) = nI 4 from rfl, x_us_n (by omega) (by omega), show (252645135 : Int32) = nI 252645135 from rfl, nI_add, fa_and, show (2 : Nat) ^ 4 = 16 from rfl]
    exact congrArg nI E3
  have s4 : x_b4 (nI (x_pc 8 a + 256 * (x_pc 8 b + 256 * x_pc 8 d))) = nI (x_pc 8 a + x_pc 8 b + 256 * (x_pc 8 b + x_pc 8 d + 256 * x_pc 8 d)) := by
    unfold x_b4
    rw [show (8 : Int32) = nI 8 from rfl, x_us_n (by omega) (by omega), nI_add, show (2 : Nat) ^ 8 = 256 from rfl]
    exact congrArg nI (by omega)
  have s5 : x_b5 (nI (x_pc 8 a + x_pc 8 b + 256 * (x_pc 8 b + x_pc 8 d + 256 * x_pc 8 d))) = nI (x_pc 8 a + (x_pc 8 b + x_pc 8 d) + 256 * (x_pc 8 b + x_pc 8 d + 256 * x_pc 8 d)) := by
    unfold x_b5
    rw [show (16 : Int32) = nI 16 from rfl, x_us_n (by omega) (by omega), nI_add, show (2 : Nat) ^ 16 = 65536 from rfl]
    exact congrArg nI (by omega)
  unfold x_bc
  rw [s1, s2, s3, s4, s5, hpc]
  have e := pk_andN (n := x_pc 8 a + (x_pc 8 b + x_pc 8 d) + 256 * (x_pc 8 b + x_pc 8 d + 256 * x_pc 8 d)) (by omega) (m := 63) 6 (by decide)
  rw [e]
  exact congrArg nI (by omega)
/-- how many of the first n hold a value -/
def x_ct (f : Nat → Int32) (st : Int32) : Nat → Nat
  | 0 => 0
  | n + 1 => x_ct f st n + if f n = st then 1 else 0
theorem x_orf_bits (f : Nat → Int32) (st : Int32) : ∀ n, n ≤ 20 → ∃ m, m < 2 ^ n ∧ x_orf (x_bo f st) n = nI m ∧ x_pc 20 m = x_ct f st n
  | 0, _ => ⟨0, by decide, rfl, x_pc_0 20⟩
  | n + 1, h => by
    obtain ⟨m, h1, h2, h3⟩ := x_orf_bits f st n (by omega)
    have e : (2 : Nat) ^ (n + 1) = 2 ^ n * 2 := Nat.pow_succ 2 n
    by_cases c : f n = st
    · refine ⟨m + 2 ^ n, by omega, ?_, ?_⟩
      · rw [x_orf, h2, x_bo, if_pos c, x_shl1 (by omega)]
        have h4 := fa_or_sum (a := m) (k := n) 1 h1
        rw [Nat.mul_one] at h4
        rw [fa_or, Nat.or_comm, ← fa_or, h4, Nat.add_comm]
      · rw [x_pc_add n 20 m h1 (by omega), h3, x_ct, if_pos c]
    · refine ⟨m, by omega, ?_, ?_⟩
      · rw [x_orf_z (by rw [x_bo, if_neg c]), h2]
      · rw [h3, x_ct, if_neg c, Nat.add_zero]
theorem x_bc_orf (f : Nat → Int32) (st : Int32) {n : Nat} (h : n ≤ 20) : x_bc (x_orf (x_bo f st) n) = nI (x_ct f st n) := by
  obtain ⟨m, h1, h2, h3⟩ := x_orf_bits f st n h
  have : (2 : Nat) ^ n ≤ 2 ^ 20 := Nat.pow_le_pow_right (by decide) h
  rw [h2, x_bc_n (by omega), h3]
theorem x_ct_le (f : Nat → Int32) (st : Int32) : ∀ n, x_ct f st n ≤ n
  | 0 => Nat.le_refl 0
  | n + 1 => by
    have := x_ct_le f st n
    rw [x_ct]
    split <;> omega
/-- how many streets are behind a street -/
def x_bn (pr : Nat → Nat) (k : Nat) : Nat → Nat
  | 0 => 0
  | i + 1 => x_bn pr k i + if (x_bh pr k i).testBit (pr (k + 1 + i)) then 1 else 0
theorem x_bh_lt (pr : Nat → Nat) (k : Nat) : ∀ i, x_bh pr k i < 2 ^ (k + 1 + i)
  | 0 => Nat.pow_lt_pow_right (by decide) (by omega)
  | i + 1 => by
    have h := x_bh_lt pr k i
    have e : (2 : Nat) ^ (k + 1 + (i + 1)) = 2 ^ (k + 1 + i) * 2 := Nat.pow_succ 2 (k + 1 + i)
    rw [x_bh]
    split
    · exact Nat.or_lt_two_pow (by omega) (by omega)
    · omega
theorem x_bh_pc (pr : Nat → Nat) (k : Nat) : ∀ i, k + 1 + i ≤ 20 → x_pc 20 (x_bh pr k i) = x_bn pr k i + 1
  | 0, h => by
    have := x_pc_add k 20 0 (Nat.pow_pos (by decide)) (by omega)
    rw [Nat.zero_add, x_pc_0] at this
    rw [x_bh, x_bn, this]
  | i + 1, h => by
    have ih := x_bh_pc pr k i (by omega)
    have hl := x_bh_lt pr k i
    rw [x_bh, x_bn]
    by_cases c : (x_bh pr k i).testBit (pr (k + 1 + i)) = true
    · rw [if_pos c, if_pos c]
      have e : x_bh pr k i ||| 2 ^ (k + 1 + i) = x_bh pr k i + 2 ^ (k + 1 + i) := by
        have := Nat.two_pow_add_eq_or_of_lt hl 1
        rw [Nat.mul_one] at this
        rw [Nat.or_comm, ← this, Nat.add_comm]
      rw [e, x_pc_add _ 20 _ hl (by omega), ih]
    · rw [if_neg c, if_neg c, ih]
theorem x_bc_bh (pr : Nat → Nat) (k i : Nat) (h : k + 1 + i ≤ 20) : x_bc (nI (x_bh pr k i)) - 1 = nI (x_bn pr k i) := by
  have h1 := x_bh_lt pr k i
  have : (2 : Nat) ^ (k + 1 + i) ≤ 2 ^ 20 := Nat.pow_le_pow_right (by decide) h
  rw [x_bc_n (by omega), x_bh_pc pr k i h]
  exact pk_sub (a := x_bn pr k i + 1) (b := 1) (by omega)
end
section
/-! Reading a text, sign by sign: how many streets (mn), what was read last (la), the street in whose brackets we are (op), the rows (to). -/
def x_cn (to : Nat → Int32) (op : Int32) : Nat → Nat
  | 0 => 0
  | j + 1 => x_cn to op j + if to (5 * j) = op then 1 else 0
def x_new (to : Nat → Int32) (mn : Nat) (op wi : Int32) : Nat → Int32 := upd (upd (upd (upd (upd to (5 * mn + 0) op) (5 * mn + 1) wi) (5 * mn + 2) 0) (5 * mn + 3) 0) (5 * mn + 4) 0
abbrev xPS : Type := Nat × Nat × Int32 × (Nat → Int32)
def x_step (c mn la : Nat) (op : Int32) (to : Nat → Int32) : Option xPS :=
  if la = 0 then
    if (49 ≤ c ∧ c ≤ 57) ∧ mn < 20 ∧ (op < 0 ∨ x_cn to op mn ≠ 4) then some (mn + 1, 1, op, x_new to mn op (nI (c - 48))) else none
  else if (97 ≤ c ∧ c ≤ 101) ∧ la = 1 then some (mn, 2, op, upd to (5 * mn - 5 + 2) (nI (c - 97 + 1)))
  else if c = 33 ∧ (la = 1 ∨ la = 2) then some (mn, 3, op, upd to (5 * mn - 5 + 3) 1)
  else if c = 42 ∧ 1 ≤ la ∧ la ≤ 3 then some (mn, 4, op, to)
  else if c = 40 then if la = 4 ∨ la = 7 then none else some (mn, 0, nI (mn - 1), to)
  else if c = 44 then if la = 4 ∨ op < 0 then none else some (mn, 0, op, to)
  else if c = 41 then if la = 4 ∨ op < 0 then none else some (mn, 7, to (5 * op.toNatClampNeg + 0), to)
  else if (48 ≤ c ∧ c ≤ 57) ∧ (la = 4 ∨ la = 5) then some (mn, if la = 5 ∨ c = 48 then 6 else 5, op, upd to (5 * mn - 5 + 4) (10 * to (5 * mn - 5 + 4) + nI (c - 48)))
  else none
/-- a street's row is one -/
def x_ps (to : Nat → Int32) (k : Nat) : Prop :=
  (k = 0 → to 0 = -1) ∧ (1 ≤ k → ∃ p, p < k ∧ to (5 * k) = nI p) ∧ (∃ w, 1 ≤ w ∧ w ≤ 9 ∧ to (5 * k + 1) = nI w) ∧ (∃ v, v ≤ 5 ∧ to (5 * k + 2) = nI v) ∧ (∃ v, v ≤ 1 ∧ to (5 * k + 3) = nI v) ∧ ∃ v, v ≤ 99 ∧ to (5 * k + 4) = nI v
def x_pk (mn la : Nat) (op : Int32) (to : Nat → Int32) : Prop :=
  mn ≤ 20 ∧ la ≤ 7 ∧ ((mn = 0 ∧ la = 0 ∧ op = -1) ∨ (1 ≤ mn ∧ ((op = -1 ∧ la ≠ 0) ∨ ∃ o, o < mn ∧ op = nI o))) ∧ (∀ k, k < mn → x_ps to k) ∧ (∀ k, k < mn → x_cn to (nI k) mn ≤ 4) ∧ (1 ≤ la → la ≤ 4 → to (5 * mn - 5 + 4) = 0) ∧ (la = 5 → ∃ d, d ≤ 9 ∧ to (5 * mn - 5 + 4) = nI d)
theorem x_m1 (z : Nat) (h : z < 2 ^ 31) : ¬ (-1 : Int32) = nI z := by
  intro e
  have e2 : (-1 : Int32).toInt = (nI z).toInt := by rw [e]
  rw [nI_toInt h] at e2
  have e3 : (-1 : Int32).toInt = -1 := by decide
  omega
theorem x_cn_cong {to to' : Nat → Int32} {op : Int32} : ∀ {j : Nat}, (∀ k, k < j → to (5 * k) = to' (5 * k)) → x_cn to op j = x_cn to' op j
  | 0, _ => rfl
  | j + 1, h => by rw [x_cn, x_cn, x_cn_cong (fun k hk => h k (by omega)), h j (by omega)]
theorem x_ps_cong {to to' : Nat → Int32} {k : Nat} (h : ∀ i, 5 * k ≤ i → i < 5 * k + 5 → to' i = to i) (hp : x_ps to k) : x_ps to' k := by
  obtain ⟨h1, h2, h3, h4, h5, h6⟩ := hp
  refine ⟨fun e => ?_, fun e => ?_, ?_, ?_, ?_, ?_⟩
  · rw [← h1 e]; exact h 0 (by omega) (by omega)
  · rw [h _ (by omega) (by omega)]; exact h2 e
  · rw [h _ (by omega) (by omega)]; exact h3
  · rw [h _ (by omega) (by omega)]; exact h4
  · rw [h _ (by omega) (by omega)]; exact h5
  · rw [h _ (by omega) (by omega)]; exact h6
theorem x_cn_none {to : Nat → Int32} {mn : Nat} (hD : ∀ k, k < mn → x_ps to k) (hm : mn ≤ 20) {z : Nat} (hz : mn ≤ z) (hz2 : z < 2 ^ 31) : ∀ j, j ≤ mn → x_cn to (nI z) j = 0
  | 0, _ => rfl
  | j + 1, h => by
    rw [x_cn, x_cn_none hD hm hz hz2 j (by omega), if_neg]
    intro e
    rcases Nat.eq_zero_or_pos j with rfl | hj
    · rw [show 5 * 0 = 0 from rfl, (hD 0 (by omega)).1 rfl] at e
      exact x_m1 z hz2 e
    · obtain ⟨p, hp, e2⟩ := (hD j (by omega)).2.1 hj
      rw [e2] at e
      have := (nI_eq (by omega) hz2).mp e
      omega
/-- a change of one place of the latest street's row -/
theorem x_pk_upd {mn la la' : Nat} {op : Int32} {to : Nat → Int32} {i : Nat} {v : Int32} (h : x_pk mn la op to) (h0 : la ≠ 0) (hl : la' ≤ 7) (hl0 : la' ≠ 0) (hi : 1 ≤ i) (hi2 : i ≤ 4)
    (hv : (i = 1 → ∃ w, 1 ≤ w ∧ w ≤ 9 ∧ v = nI w) ∧ (i = 2 → ∃ w, w ≤ 5 ∧ v = nI w) ∧ (i = 3 → ∃ w, w ≤ 1 ∧ v = nI w) ∧ (i = 4 → ∃ w, w ≤ 99 ∧ v = nI w))
    (hG : 1 ≤ la' → la' ≤ 4 → (upd to (5 * mn - 5 + i) v) (5 * mn - 5 + 4) = 0) (hG5 : la' = 5 → ∃ d, d ≤ 9 ∧ (upd to (5 * mn - 5 + i) v) (5 * mn - 5 + 4) = nI d) : x_pk mn la' op (upd to (5 * mn - 5 + i) v) := by
  obtain ⟨h1, h2, h3, h4, h5, h6, h7⟩ := h
  have hmn : 1 ≤ mn := by
    rcases h3 with ⟨-, e, -⟩ | ⟨e, -⟩
    · exact absurd e h0
    · exact e
  refine ⟨h1, hl, Or.inr ⟨hmn, ?_⟩, fun k hk => ?_, fun k hk => ?_, hG, hG5⟩
  · rcases h3 with ⟨e, -, -⟩ | ⟨-, ⟨e, -⟩ | e⟩
    · omega
    · exact Or.inl ⟨e, hl0⟩
    · exact Or.inr e
  · by_cases e : k = mn - 1
    · obtain ⟨a1, a2, a3, a4, a5, a6⟩ := h4 k hk
      refine ⟨fun e2 => ?_, fun e2 => ?_, ?_, ?_, ?_, ?_⟩
      · rw [pk_un (by omega)]; exact a1 e2
      · rw [pk_un (by omega)]; exact a2 e2
      · by_cases q : i = 1
        · rw [show 5 * k + 1 = 5 * mn - 5 + i by omega, pk_us]; exact hv.1 q
        · rw [pk_un (by omega)]; exact a3
      · by_cases q : i = 2
        · rw [show 5 * k + 2 = 5 * mn - 5 + i by omega, pk_us]; exact hv.2.1 q
        · rw [pk_un (by omega)]; exact a4
      · by_cases q : i = 3
        · rw [show 5 * k + 3 = 5 * mn - 5 + i by omega, pk_us]; exact hv.2.2.1 q
        · rw [pk_un (by omega)]; exact a5
      · by_cases q : i = 4
        · rw [show 5 * k + 4 = 5 * mn - 5 + i by omega, pk_us]; exact hv.2.2.2 q
        · rw [pk_un (by omega)]; exact a6
    · exact x_ps_cong (fun j hj1 hj2 => pk_un (by omega)) (h4 k hk)
  · rw [x_cn_cong (to' := to) (fun j hj => pk_un (by omega))]
    exact h5 k hk
theorem x_pk_step {c mn la mn' la' : Nat} {op op' : Int32} {to to' : Nat → Int32} (h : x_pk mn la op to) (hs : x_step c mn la op to = some (mn', la', op', to')) : x_pk mn' la' op' to' := by
  have h0 := h
  obtain ⟨h1, h2, h3, h4, h5, h6, h7⟩ := h
  unfold x_step at hs
  by_cases c0 : la = 0
  · rw [if_pos c0] at hs
    by_cases c1 : (49 ≤ c ∧ c ≤ 57) ∧ mn < 20 ∧ (op < 0 ∨ x_cn to op mn ≠ 4)
    · rw [if_pos c1] at hs
      obtain ⟨rfl, rfl, rfl, rfl⟩ : mn + 1 = mn' ∧ 1 = la' ∧ op = op' ∧ x_new to mn op (nI (c - 48)) = to' := by
        have := Option.some.inj hs
        simp only [Prod.mk.injEq] at this
        exact this
      have hop : (mn = 0 ∧ op = -1) ∨ ∃ o, o < mn ∧ op = nI o := by
        rcases h3 with ⟨e, -, e2⟩ | ⟨-, ⟨-, e⟩ | e⟩
        · exact Or.inl ⟨e, e2⟩
        · exact absurd c0 e
        · exact Or.inr e
      have hcong : ∀ i, i < 5 * mn → x_new to mn op (nI (c - 48)) i = to i := fun i hi => by
        unfold x_new
        rw [pk_un (by omega), pk_un (by omega), pk_un (by omega), pk_un (by omega), pk_un (by omega)]
      have e0 : x_new to mn op (nI (c - 48)) (5 * mn) = op := by
        unfold x_new
        rw [pk_un (by omega), pk_un (by omega), pk_un (by omega), pk_un (by omega)]
        exact pk_us
      have e4 : x_new to mn op (nI (c - 48)) (5 * mn + 4) = 0 := by unfold x_new; rw [pk_us]
      refine ⟨by omega, by omega, Or.inr ⟨by omega, ?_⟩, fun k hk => ?_, fun k hk => ?_, fun _ _ => ?_, fun e => by omega⟩
      · rcases hop with ⟨-, e⟩ | ⟨o, ho, e⟩
        · exact Or.inl ⟨e, by omega⟩
        · exact Or.inr ⟨o, by omega, e⟩
      · by_cases e : k = mn
        · subst e
          refine ⟨fun e => ?_, fun e => ?_, ⟨c - 48, by omega, by omega, ?_⟩, ⟨0, by omega, ?_⟩, ⟨0, by omega, ?_⟩, ⟨0, by omega, ?_⟩⟩
          · subst e
            rw [show (0 : Nat) = 5 * 0 from rfl, e0]
            rcases hop with ⟨-, q⟩ | ⟨o, ho, -⟩
            · exact q
            · omega
          · rw [e0]
            rcases hop with ⟨q, -⟩ | ⟨o, ho, q⟩
            · omega
            · exact ⟨o, ho, q⟩
          · unfold x_new
            rw [pk_un (by omega), pk_un (by omega), pk_un (by omega), pk_us]
          · unfold x_new
            rw [pk_un (by omega), pk_un (by omega), pk_us]; rfl
          · unfold x_new
            rw [pk_un (by omega), pk_us]; rfl
          · rw [e4]; rfl
        · exact x_ps_cong (fun i hi1 hi2 => hcong i (by omega)) (h4 k (by omega))
      · rw [x_cn, e0, x_cn_cong (to' := to) (fun j hj => hcong _ (by omega))]
        by_cases e : k = mn
        · subst e
          rw [x_cn_none h4 h1 (Nat.le_refl _) (by omega) k (Nat.le_refl _), if_neg]
          · omega
          · intro q
            rcases hop with ⟨-, q2⟩ | ⟨o, ho, q2⟩
            · rw [q2] at q; exact x_m1 _ (by omega) q
            · rw [q2] at q
              have := (nI_eq (by omega) (by omega)).mp q
              omega
        · have h9 := h5 k (by omega)
          by_cases q : op = nI k
          · rw [if_pos q]
            have : ¬ op < 0 := by rw [q]; exact nI_pos (by omega)
            have h10 : x_cn to op mn ≠ 4 := c1.2.2.resolve_left this
            rw [q] at h10
            omega
          · rw [if_neg q]; omega
      · rw [show 5 * (mn + 1) - 5 + 4 = 5 * mn + 4 by omega]
        exact e4
    · rw [if_neg c1] at hs; cases hs
  · rw [if_neg c0] at hs
    have hmn : 1 ≤ mn := by rcases h3 with ⟨-, e, -⟩ | ⟨e, -⟩ <;> omega
    have h3' : (op = -1 ∧ la ≠ 0) ∨ ∃ o, o < mn ∧ op = nI o := by
      rcases h3 with ⟨e, -, -⟩ | ⟨-, e⟩
      · omega
      · exact e
    have hopn : ¬ op < 0 → ∃ o, o < mn ∧ op = nI o := fun q => by
      rcases h3' with ⟨e, -⟩ | e
      · exact absurd (show op < 0 by rw [e]; decide) q
      · exact e
    split at hs
    next c1 =>
      obtain ⟨rfl, rfl, rfl, rfl⟩ : mn = mn' ∧ 2 = la' ∧ op = op' ∧ upd to (5 * mn - 5 + 2) (nI (c - 97 + 1)) = to' := by
        have := Option.some.inj hs
        simp only [Prod.mk.injEq] at this
        exact this
      refine x_pk_upd h0 c0 (by omega) (by omega) (by omega) (by omega) ⟨fun e => by omega, fun _ => ⟨c - 97 + 1, by omega, rfl⟩, fun e => by omega, fun e => by omega⟩ (fun _ _ => ?_) (fun e => by omega)
      rw [pk_un (by omega)]
      exact h6 (by omega) (by omega)
    next c1 =>
    split at hs
    next c2 =>
      obtain ⟨rfl, rfl, rfl, rfl⟩ : mn = mn' ∧ 3 = la' ∧ op = op' ∧ upd to (5 * mn - 5 + 3) 1 = to' := by
        have := Option.some.inj hs
        simp only [Prod.mk.injEq] at this
        exact this
      refine x_pk_upd h0 c0 (by omega) (by omega) (by omega) (by omega) ⟨fun e => by omega, fun e => by omega, fun _ => ⟨1, by omega, rfl⟩, fun e => by omega⟩ (fun _ _ => ?_) (fun e => by omega)
      rw [pk_un (by omega)]
      exact h6 (by omega) (by omega)
    next c2 =>
    split at hs
    next c3 =>
      obtain ⟨rfl, rfl, rfl, rfl⟩ : mn = mn' ∧ 4 = la' ∧ op = op' ∧ to = to' := by
        have := Option.some.inj hs
        simp only [Prod.mk.injEq] at this
        exact this
      refine ⟨h1, by omega, Or.inr ⟨hmn, ?_⟩, h4, h5, fun _ _ => h6 (by omega) (by omega), fun e => by omega⟩
      rcases h3' with ⟨e, -⟩ | e
      · exact Or.inl ⟨e, by omega⟩
      · exact Or.inr e
    next c3 =>
    split at hs
    next c4 =>
      split at hs
      · cases hs
      · obtain ⟨rfl, rfl, rfl, rfl⟩ : mn = mn' ∧ 0 = la' ∧ nI (mn - 1) = op' ∧ to = to' := by
          have := Option.some.inj hs
          simp only [Prod.mk.injEq] at this
          exact this
        exact ⟨h1, by omega, Or.inr ⟨hmn, Or.inr ⟨mn - 1, by omega, rfl⟩⟩, h4, h5, fun e => by omega, fun e => by omega⟩
    next c4 =>
    split at hs
    next c5 =>
      split at hs
      · cases hs
      next c6 =>
        obtain ⟨rfl, rfl, rfl, rfl⟩ : mn = mn' ∧ 0 = la' ∧ op = op' ∧ to = to' := by
          have := Option.some.inj hs
          simp only [Prod.mk.injEq] at this
          exact this
        exact ⟨h1, by omega, Or.inr ⟨hmn, Or.inr (hopn (fun e => c6 (Or.inr e)))⟩, h4, h5, fun e => by omega, fun e => by omega⟩
    next c5 =>
    split at hs
    next c7 =>
      split at hs
      · cases hs
      next c6 =>
        obtain ⟨o, ho, rfl⟩ := hopn (fun e => c6 (Or.inr e))
        obtain ⟨rfl, rfl, rfl, rfl⟩ : mn = mn' ∧ 7 = la' ∧ to (5 * (nI o).toNatClampNeg + 0) = op' ∧ to = to' := by
          have := Option.some.inj hs
          simp only [Prod.mk.injEq] at this
          exact this
        refine ⟨h1, by omega, Or.inr ⟨hmn, ?_⟩, h4, h5, fun e => by omega, fun e => by omega⟩
        rw [nI_clamp (by omega), Nat.add_zero]
        rcases Nat.eq_zero_or_pos o with rfl | e
        · exact Or.inl ⟨(h4 0 ho).1 rfl, by omega⟩
        · obtain ⟨p, hp, e2⟩ := (h4 o ho).2.1 e
          exact Or.inr ⟨p, by omega, e2⟩
    next c7 =>
    split at hs
    next c8 =>
      obtain ⟨rfl, rfl, rfl, rfl⟩ : mn = mn' ∧ (if la = 5 ∨ c = 48 then 6 else 5) = la' ∧ op = op' ∧ upd to (5 * mn - 5 + 4) (10 * to (5 * mn - 5 + 4) + nI (c - 48)) = to' := by
        have := Option.some.inj hs
        simp only [Prod.mk.injEq] at this
        exact this
      have hd : ∃ d, d ≤ 9 ∧ (la = 4 → d = 0) ∧ to (5 * mn - 5 + 4) = nI d := by
        rcases c8.2 with e | e
        · exact ⟨0, by omega, fun _ => rfl, h6 (by omega) (by omega)⟩
        · obtain ⟨d, hd, e2⟩ := h7 e
          exact ⟨d, hd, fun q => by omega, e2⟩
      obtain ⟨d, hd, hd4, ed⟩ := hd
      have ev : 10 * to (5 * mn - 5 + 4) + nI (c - 48) = nI (10 * d + (c - 48)) := by
        rw [ed, show (10 : Int32) = nI 10 from rfl, pk_mul, nI_add]
      refine x_pk_upd h0 c0 (by split <;> omega) (by split <;> omega) (by omega) (by omega) ⟨fun e => by omega, fun e => by omega, fun e => by omega, fun _ => ⟨10 * d + (c - 48), by omega, ev⟩⟩ (fun _ e => by split at e <;> omega) (fun e => ?_)
      rw [pk_us, ev]
      have hla : ¬ (la = 5 ∨ c = 48) := fun q => by rw [if_pos q] at e; omega
      exact ⟨10 * d + (c - 48), by have := hd4 (by omega); omega, rfl⟩
    · cases hs
/-- the run over the pad -/
def x_run (pd : Nat → Nat) (t0 : Nat → Int32) : Nat → Option xPS
  | 0 => some (0, 0, -1, t0)
  | i + 1 => match x_run pd t0 i with
    | none => none
    | some z => x_step (pd i) z.1 z.2.1 z.2.2.1 z.2.2.2
theorem x_run_pk {pd : Nat → Nat} {t0 : Nat → Int32} : ∀ {i mn la : Nat} {op : Int32} {to : Nat → Int32}, x_run pd t0 i = some (mn, la, op, to) → x_pk mn la op to
  | 0, mn, la, op, to, h => by
    have := Option.some.inj h
    simp only [Prod.mk.injEq] at this
    obtain ⟨rfl, rfl, rfl, rfl⟩ := this
    exact ⟨by omega, by omega, Or.inl ⟨rfl, rfl, rfl⟩, fun k hk => absurd hk (Nat.not_lt_zero k), fun k hk => absurd hk (Nat.not_lt_zero k), fun e => by omega, fun e => by omega⟩
  | i + 1, mn, la, op, to, h => by
    rw [x_run] at h
    cases e : x_run pd t0 i with
    | none => rw [e] at h; cases h
    | some z =>
      obtain ⟨a, b, d, f⟩ := z
      rw [e] at h
      exact x_pk_step (x_run_pk e) h
theorem x_run_s {pd : Nat → Nat} {t0 : Nat → Int32} {i mn la : Nat} {op : Int32} {to : Nat → Int32} (h : x_run pd t0 i = some (mn, la, op, to)) : x_run pd t0 (i + 1) = x_step (pd i) mn la op to := by rw [x_run, h]
theorem x_run_none {pd : Nat → Nat} {t0 : Nat → Int32} {i : Nat} (h : x_run pd t0 i = none) : ∀ j, i ≤ j → x_run pd t0 j = none
  | 0, hj => by
    obtain rfl : i = 0 := by omega
    exact h
  | j + 1, hj => by
    by_cases e : i = j + 1
    · subst e; exact h
    · rw [x_run, x_run_none h j (by omega)]
/-- what the fault is -/
def x_fr (pd : Nat → Nat) (t0 : Nat → Int32) (ln : Nat) (r : Int32) : Prop :=
  (∃ i, i < ln ∧ (∃ z, x_run pd t0 i = some z) ∧ x_run pd t0 (i + 1) = none ∧ r = nI i) ∨ ∃ mn la op to, x_run pd t0 ln = some (mn, la, op, to) ∧ r = if op < 0 ∧ la ≠ 0 ∧ la ≠ 4 then -6 else nI ln
theorem x_fr_one {pd : Nat → Nat} {t0 : Nat → Int32} {ln : Nat} {r r' : Int32} (h : x_fr pd t0 ln r) (h' : x_fr pd t0 ln r') : r = r' := by
  rcases h with ⟨i, hi, ⟨z, hz⟩, hn, rfl⟩ | ⟨mn, la, op, to, hz, rfl⟩ <;> rcases h' with ⟨j, hj, ⟨y, hy⟩, hm, rfl⟩ | ⟨mn', la', op', to', hy, rfl⟩
  · rcases Nat.lt_trichotomy i j with q | q | q
    · rw [x_run_none hn j q] at hy; cases hy
    · rw [q]
    · rw [x_run_none hm i q] at hz; cases hz
  · rw [x_run_none hn ln hi] at hy; cases hy
  · rw [x_run_none hm ln hj] at hz; cases hz
  · rw [hz] at hy
    have := Option.some.inj hy
    simp only [Prod.mk.injEq] at this
    obtain ⟨rfl, rfl, rfl, rfl⟩ := this
    rfl
end
