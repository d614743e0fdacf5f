/-! The JDK's bitCount of a set of at most 20 streets is how many there are. -/
def x_pc : Nat → Nat → Nat
  | 0, _ => 0
  | f + 1, m => m % 2 + x_pc f (m / 2)
theorem x_pc_0 : ∀ f, x_pc f 0 = 0
  | 0 => rfl
  | f + 1 => by rw [x_pc, Nat.zero_mod, Nat.zero_div, x_pc_0 f]
theorem x_pc_app : ∀ (a b m : Nat), x_pc (a + b) m = x_pc a (m % 2 ^ a) + x_pc b (m / 2 ^ a)
  | 0, b, m => by rw [Nat.zero_add, x_pc, Nat.pow_zero, Nat.div_one, Nat.zero_add]
  | a + 1, b, m => by
    have ih := x_pc_app a b (m / 2)
    have e1 : m % 2 ^ (a + 1) % 2 = m % 2 := Nat.mod_mod_of_dvd m ⟨2 ^ a, by rw [Nat.pow_succ, Nat.mul_comm]⟩
    have e2 : m % 2 ^ (a + 1) / 2 = m / 2 % 2 ^ a := by rw [Nat.pow_succ, Nat.mul_comm, Nat.mod_mul_right_div_self]
    have e3 : m / 2 ^ (a + 1) = m / 2 / 2 ^ a := by rw [Nat.pow_succ, Nat.mul_comm, Nat.div_div_eq_div_mul]
    rw [show a + 1 + b = (a + b) + 1 by omega, x_pc, ih, x_pc, e1, e2, e3]
    omega
theorem x_pc_add : ∀ (j f m : Nat), m < 2 ^ j → j < f → x_pc f (m + 2 ^ j) = x_pc f m + 1
  | _, 0, _, _, h => absurd h (Nat.not_lt_zero _)
  | 0, f + 1, m, hm, _ => by
    obtain rfl : m = 0 := by rw [Nat.pow_zero] at hm; omega
    rw [x_pc, x_pc, Nat.pow_zero, x_pc_0]
  | j + 1, f + 1, m, hm, hj => by
    have e : (2 : Nat) ^ (j + 1) = 2 ^ j * 2 := Nat.pow_succ 2 j
    have e1 : (m + 2 ^ (j + 1)) % 2 = m % 2 := by omega
    have e2 : (m + 2 ^ (j + 1)) / 2 = m / 2 + 2 ^ j := by omega
    rw [x_pc, x_pc, e1, e2, x_pc_add j f (m / 2) (by omega) (by omega)]
    omega
theorem x_and_split {a b c d : Nat} (ha : a < 256) (hc : c < 256) : (a + 256 * b) &&& (c + 256 * d) = (a &&& c) + 256 * (b &&& d) := by
  have hac : a &&& c < 2 ^ 8 := Nat.and_lt_two_pow a hc
  apply Nat.eq_of_testBit_eq
  intro i
  rw [Nat.testBit_and, show a + 256 * b = 2 ^ 8 * b + a by omega, show c + 256 * d = 2 ^ 8 * d + c by omega, show (a &&& c) + 256 * (b &&& d) = 2 ^ 8 * (b &&& d) + (a &&& c) by omega, Nat.testBit_two_pow_mul_add b ha, Nat.testBit_two_pow_mul_add d hc, Nat.testBit_two_pow_mul_add _ hac]
  split
  · rw [Nat.testBit_and]
  · rw [Nat.testBit_and]
def x_n1 (v : Nat) : Nat := v - (v / 2 &&& 85)
def x_n2 (v : Nat) : Nat := (v &&& 51) + (v / 4 &&& 51)
def x_n3 (v : Nat) : Nat := (v + v / 16) &&& 15
set_option maxRecDepth 100000 in
theorem x_byte1 : ∀ v, v < 256 → ∀ t, t < 2 → (v / 2 + 128 * t) &&& 85 = v / 2 &&& 85 := by decide +kernel
set_option maxRecDepth 100000 in
theorem x_byte2 : ∀ v, v < 256 → ∀ t, t < 4 → (v / 4 + 64 * t) &&& 51 = v / 4 &&& 51 := by decide +kernel
set_option maxRecDepth 100000 in
theorem x_byte3 : ∀ v, v < 69 → ∀ t, t < 16 → (v + (v / 16 + 16 * t)) &&& 15 = (v + v / 16) &&& 15 := by decide +kernel
set_option maxRecDepth 100000 in
theorem x_byteb : ∀ v, v < 256 → x_n1 v < 256 ∧ (v / 2 &&& 85) ≤ v ∧ x_n2 (x_n1 v) < 69 ∧ x_n2 (x_n1 v) % 16 < 5 ∧ x_n3 (x_n2 (x_n1 v)) = x_pc 8 v ∧ x_pc 8 v ≤ 8 := by decide +kernel
def x_N1 (m : Nat) : Nat := m - (m / 2 &&& 1431655765)
def x_N2 (m : Nat) : Nat := (m &&& 858993459) + (m / 4 &&& 858993459)
def x_N3 (m : Nat) : Nat := (m + m / 16) &&& 252645135
theorem x_and3 {a b d : Nat} (k : Nat) (hk : k < 256) (ha : a < 256) (hb : b < 256) (hd : d < 256) : (a + 256 * (b + 256 * d)) &&& (k + 256 * (k + 256 * (k + 256 * k))) = (a &&& k) + 256 * ((b &&& k) + 256 * (d &&& k)) := by
  rw [x_and_split ha hk, x_and_split hb hk]
  have e : d &&& (k + 256 * k) = d &&& k := by
    have := x_and_split (a := d) (b := 0) (c := k) (d := k) hd hk
    rw [Nat.zero_and, Nat.mul_zero, Nat.add_zero, Nat.add_zero] at this
    exact this
  rw [e]
theorem x_N1_b {a b d : Nat} (ha : a < 256) (hb : b < 256) (hd : d < 256) : x_N1 (a + 256 * (b + 256 * d)) = x_n1 a + 256 * (x_n1 b + 256 * x_n1 d) ∧ ((a + 256 * (b + 256 * d)) / 2 &&& 1431655765) ≤ a + 256 * (b + 256 * d) := by
  have e : (a + 256 * (b + 256 * d)) / 2 = (a / 2 + 128 * (b % 2)) + 256 * ((b / 2 + 128 * (d % 2)) + 256 * (d / 2 + 128 * 0)) := by omega
  have h := x_and3 85 (a := a / 2 + 128 * (b % 2)) (b := b / 2 + 128 * (d % 2)) (d := d / 2 + 128 * 0) (by omega) (by omega) (by omega) (by omega)
  rw [x_byte1 a ha (b % 2) (by omega), x_byte1 b hb (d % 2) (by omega), x_byte1 d hd 0 (by omega)] at h
  have e2 : (85 : Nat) + 256 * (85 + 256 * (85 + 256 * 85)) = 1431655765 := rfl
  rw [e2, ← e] at h
  have h1 := (x_byteb a ha).2.1
  have h2 := (x_byteb b hb).2.1
  have h3 := (x_byteb d hd).2.1
  unfold x_N1 x_n1
  rw [h]
  constructor <;> omega
theorem x_N2_b {a b d : Nat} (ha : a < 256) (hb : b < 256) (hd : d < 256) : x_N2 (a + 256 * (b + 256 * d)) = x_n2 a + 256 * (x_n2 b + 256 * x_n2 d) := by
  have e : (a + 256 * (b + 256 * d)) / 4 = (a / 4 + 64 * (b % 4)) + 256 * ((b / 4 + 64 * (d % 4)) + 256 * (d / 4 + 64 * 0)) := by omega
  have h := x_and3 51 (a := a / 4 + 64 * (b % 4)) (b := b / 4 + 64 * (d % 4)) (d := d / 4 + 64 * 0) (by omega) (by omega) (by omega) (by omega)
  rw [x_byte2 a ha (b % 4) (by omega), x_byte2 b hb (d % 4) (by omega), x_byte2 d hd 0 (by omega)] at h
  have e2 : (51 : Nat) + 256 * (51 + 256 * (51 + 256 * 51)) = 858993459 := rfl
  have h0 := x_and3 51 (a := a) (b := b) (d := d) (by omega) ha hb hd
  rw [e2] at h h0
  rw [← e] at h
  unfold x_N2 x_n2
  rw [h, h0]
  omega
theorem x_N3_b {a b d : Nat} (ha : a < 69) (hb : b < 69) (hd : d < 69) (hb5 : b % 16 < 5) (hd5 : d % 16 < 5) : x_N3 (a + 256 * (b + 256 * d)) = x_n3 a + 256 * (x_n3 b + 256 * x_n3 d) := by
  have e : a + 256 * (b + 256 * d) + (a + 256 * (b + 256 * d)) / 16 = (a + (a / 16 + 16 * (b % 16))) + 256 * ((b + (b / 16 + 16 * (d % 16))) + 256 * (d + (d / 16 + 16 * 0))) := by omega
  have h := x_and3 15 (a := a + (a / 16 + 16 * (b % 16))) (b := b + (b / 16 + 16 * (d % 16))) (d := d + (d / 16 + 16 * 0)) (by omega) (by omega) (by omega) (by omega)
  rw [x_byte3 a ha (b % 16) (by omega), x_byte3 b hb (d % 16) (by omega), x_byte3 d hd 0 (by omega)] at h
  have e2 : (15 : Nat) + 256 * (15 + 256 * (15 + 256 * 15)) = 252645135 := rfl
  rw [e2, ← e] at h
  unfold x_N3 x_n3
  exact h
theorem x_us_n {m k : Nat} (hm : m < 2 ^ 31) (hk : k < 32) : x_us (nI m) (nI k) = nI (m / 2 ^ k) := by
  have e : ∀ k, k < 32 → (((nI k).toUInt32 &&& Int32.toUInt32 31).toBitVec % 32).toNat = k := by decide +kernel
  exact pk_ushrN (by omega) (nI k) k (e k hk)
theorem x_bc_n {m : Nat} (hm : m < 2 ^ 20) : x_bc (nI m) = nI (x_pc 20 m) := by
  obtain ⟨a, b, d, ha, hb, hd, rfl⟩ : ∃ a b d, a < 256 ∧ b < 256 ∧ d < 16 ∧ m = a + 256 * (b + 256 * d) := ⟨m % 256, m / 256 % 256, m / 65536, by omega, by omega, by omega, by omega⟩
  have hd2 : d < 256 := by omega
  obtain ⟨E1, L1⟩ := x_N1_b ha hb hd2
  obtain ⟨a1, -, a2, a3, a4, a5⟩ := x_byteb a ha
  obtain ⟨b1, -, b2, b3, b4, b5⟩ := x_byteb b hb
  obtain ⟨d1, -, d2, d3, d4, d5⟩ := x_byteb d hd2
  have E2 := x_N2_b a1 b1 d1
  have E3 := x_N3_b a2 b2 d2 b3 d3
  rw [a4, b4, d4] at E3
  have hpc : x_pc 20 (a + 256 * (b + 256 * d)) = x_pc 8 a + (x_pc 8 b + x_pc 8 d) := by
    have h1 := x_pc_app 8 12 (a + 256 * (b + 256 * d))
    have h2 := x_pc_app 8 4 (b + 256 * d)
    have h3 := x_pc_app 4 4 d
    rw [show (a + 256 * (b + 256 * d)) % 2 ^ 8 = a by omega, show (a + 256 * (b + 256 * d)) / 2 ^ 8 = b + 256 * d by omega] at h1
    rw [show (b + 256 * d) % 2 ^ 8 = b by omega, show (b + 256 * d) / 2 ^ 8 = d by omega] at h2
    rw [show d % 2 ^ 4 = d by omega, show d / 2 ^ 4 = 0 by omega, x_pc_0, Nat.add_zero] at h3
    have h4 : x_pc 8 d = x_pc 4 d := h3
    show x_pc (8 + 12) (a + 256 * (b + 256 * d)) = _
    rw [h1, h4, ← h2]
  generalize hM : a + 256 * (b + 256 * d) = M at *
  have hM31 : M < 2 ^ 31 := by omega
  have s1 : x_b1 (nI M) = nI (x_n1 a + 256 * (x_n1 b + 256 * x_n1 d)) := by
    unfold x_b1
    rw [show (1 : Int32) = nI 1 from rfl, x_us_n hM31 (by omega), show (1431655765 : Int32) = nI 1431655765 from rfl, fa_and, Nat.pow_one, pk_sub L1]
    exact congrArg nI E1
  have s2 : x_b2 (nI (x_n1 a + 256 * (x_n1 b + 256 * x_n1 d))) = nI (x_n2 (x_n1 a) + 256 * (x_n2 (x_n1 b) + 256 * x_n2 (x_n1 d))) := by
    unfold x_b2
    rw [show (2 : Int32) = nI 2 from rfl, x_us_n (by omega) (by omega), show (858993459 : Int32) = nI 858993459 from rfl, fa_and, fa_and, nI_add, show (2 : Nat) ^ 2 = 4 from rfl]
    exact congrArg nI E2
  have s3 : x_b3 (nI (x_n2 (x_n1 a) + 256 * (x_n2 (x_n1 b) + 256 * x_n2 (x_n1 d)))) = nI (x_pc 8 a + 256 * (x_pc 8 b + 256 * x_pc 8 d)) := by
    unfold x_b3
    rw [show (4 : Int32) = nI 4 from rfl, x_us_n (by omega) (by omega), show (252645135 : Int32) = nI 252645135 from rfl, nI_add, fa_and, show (2 : Nat) ^ 4 = 16 from rfl]
    exact congrArg nI E3
  have s4 : x_b4 (nI (x_pc 8 a + 256 * (x_pc 8 b + 256 * x_pc 8 d))) = nI (x_pc 8 a + x_pc 8 b + 256 * (x_pc 8 b + x_pc 8 d + 256 * x_pc 8 d)) := by
    unfold x_b4
    rw [show (8 : Int32) = nI 8 from rfl, x_us_n (by omega) (by omega), nI_add, show (2 : Nat) ^ 8 = 256 from rfl]
    exact congrArg nI (by omega)
  have s5 : x_b5 (nI (x_pc 8 a + x_pc 8 b + 256 * (x_pc 8 b + x_pc 8 d + 256 * x_pc 8 d))) = nI (x_pc 8 a + (x_pc 8 b + x_pc 8 d) + 256 * (x_pc 8 b + x_pc 8 d + 256 * x_pc 8 d)) := by
    unfold x_b5
    rw [show (16 : Int32) = nI 16 from rfl, x_us_n (by omega) (by omega), nI_add, show (2 : Nat) ^ 16 = 65536 from rfl]
    exact congrArg nI (by omega)
  unfold x_bc
  rw [s1, s2, s3, s4, s5, hpc]
  have e := pk_andN (n := x_pc 8 a + (x_pc 8 b + x_pc 8 d) + 256 * (x_pc 8 b + x_pc 8 d + 256 * x_pc 8 d)) (by omega) (m := 63) 6 (by decide)
  rw [e]
  exact congrArg nI (by omega)
/-- how many of the first n hold a value -/
def x_ct (f : Nat → Int32) (st : Int32) : Nat → Nat
  | 0 => 0
  | n + 1 => x_ct f st n + if f n = st then 1 else 0
theorem x_orf_bits (f : Nat → Int32) (st : Int32) : ∀ n, n ≤ 20 → ∃ m, m < 2 ^ n ∧ x_orf (x_bo f st) n = nI m ∧ x_pc 20 m = x_ct f st n
  | 0, _ => ⟨0, by decide, rfl, x_pc_0 20⟩
  | n + 1, h => by
    obtain ⟨m, h1, h2, h3⟩ := x_orf_bits f st n (by omega)
    have e : (2 : Nat) ^ (n + 1) = 2 ^ n * 2 := Nat.pow_succ 2 n
    by_cases c : f n = st
    · refine ⟨m + 2 ^ n, by omega, ?_, ?_⟩
      · rw [x_orf, h2, x_bo, if_pos c, x_shl1 (by omega)]
        have h4 := fa_or_sum (a := m) (k := n) 1 h1
        rw [Nat.mul_one] at h4
        rw [fa_or, Nat.or_comm, ← fa_or, h4, Nat.add_comm]
      · rw [x_pc_add n 20 m h1 (by omega), h3, x_ct, if_pos c]
    · refine ⟨m, by omega, ?_, ?_⟩
      · rw [x_orf_z (by rw [x_bo, if_neg c]), h2]
      · rw [h3, x_ct, if_neg c, Nat.add_zero]
theorem x_bc_orf (f : Nat → Int32) (st : Int32) {n : Nat} (h : n ≤ 20) : x_bc (x_orf (x_bo f st) n) = nI (x_ct f st n) := by
  obtain ⟨m, h1, h2, h3⟩ := x_orf_bits f st n h
  have : (2 : Nat) ^ n ≤ 2 ^ 20 := Nat.pow_le_pow_right (by decide) h
  rw [h2, x_bc_n (by omega), h3]
theorem x_ct_le (f : Nat → Int32) (st : Int32) : ∀ n, x_ct f st n ≤ n
  | 0 => Nat.le_refl 0
  | n + 1 => by
    have := x_ct_le f st n
    rw [x_ct]
    split <;> omega
/-- how many streets are behind a street -/
def x_bn (pr : Nat → Nat) (k : Nat) : Nat → Nat
  | 0 => 0
  | i + 1 => x_bn pr k i + if (x_bh pr k i).testBit (pr (k + 1 + i)) then 1 else 0
theorem x_bh_lt (pr : Nat → Nat) (k : Nat) : ∀ i, x_bh pr k i < 2 ^ (k + 1 + i)
  | 0 => Nat.pow_lt_pow_right (by decide) (by omega)
  | i + 1 => by
    have h := x_bh_lt pr k i
    have e : (2 : Nat) ^ (k + 1 + (i + 1)) = 2 ^ (k + 1 + i) * 2 := Nat.pow_succ 2 (k + 1 + i)
    rw [x_bh]
    split
    · exact Nat.or_lt_two_pow (by omega) (by omega)
    · omega
theorem x_bh_pc (pr : Nat → Nat) (k : Nat) : ∀ i, k + 1 + i ≤ 20 → x_pc 20 (x_bh pr k i) = x_bn pr k i + 1
  | 0, h => by
    have := x_pc_add k 20 0 (Nat.pow_pos (by decide)) (by omega)
    rw [Nat.zero_add, x_pc_0] at this
    rw [x_bh, x_bn, this]
  | i + 1, h => by
    have ih := x_bh_pc pr k i (by omega)
    have hl := x_bh_lt pr k i
    rw [x_bh, x_bn]
    by_cases c : (x_bh pr k i).testBit (pr (k + 1 + i)) = true
    · rw [if_pos c, if_pos c]
      have e : x_bh pr k i ||| 2 ^ (k + 1 + i) = x_bh pr k i + 2 ^ (k + 1 + i) := by
        have := Nat.two_pow_add_eq_or_of_lt hl 1
        rw [Nat.mul_one] at this
        rw [Nat.or_comm, ← this, Nat.add_comm]
      rw [e, x_pc_add _ 20 _ hl (by omega), ih]
    · rw [if_neg c, if_neg c, ih]
theorem x_bc_bh (pr : Nat → Nat) (k i : Nat) (h : k + 1 + i ≤ 20) : x_bc (nI (x_bh pr k i)) - 1 = nI (x_bn pr k i) := by
  have h1 := x_bh_lt pr k i
  have : (2 : Nat) ^ (k + 1 + i) ≤ 2 ^ 20 := Nat.pow_le_pow_right (by decide) h
  rw [x_bc_n (by omega), x_bh_pc pr k i h]
  exact pk_sub (a := x_bn pr k i + 1) (b := 1) (by omega)
