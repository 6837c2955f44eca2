/-! ===== the class: bits ===== -/
theorem fm_ushr {a i : Nat} (ha : a < 2147483648) (hi : i < 32) : fi_ushr (a : Int) (i : Int) = ((a / 2 ^ i : Nat) : Int) := by
  unfold fi_ushr
  have hs : ∀ i : Nat, i < 32 → ((Int32.ofInt (i : Int)).toUInt32 &&& Int32.toUInt32 31).toNat % 32 = i := by decide +kernel
  have h1 : (Int32.ofInt (a : Int)).toUInt32.toNat = a := by
    rw [fm_ofNat]
    show (BitVec.ofNat 32 a).toNat = a
    rw [BitVec.toNat_ofNat]
    omega
  have h2 : ((Int32.ofInt (a : Int)).toUInt32 >>> ((Int32.ofInt (i : Int)).toUInt32 &&& Int32.toUInt32 31)).toNat = a / 2 ^ i := by
    rw [UInt32.toNat_shiftRight, h1, hs i hi, Nat.shiftRight_eq_div_pow]
  show BitVec.toInt (UInt32.toBitVec _) = _
  rw [BitVec.toInt_eq_toNat_of_lt]
  · exact congrArg Int.ofNat h2
  · have : a / 2 ^ i ≤ a := Nat.div_le_self _ _
    change 2 * ((Int32.ofInt (a : Int)).toUInt32 >>> ((Int32.ofInt (i : Int)).toUInt32 &&& Int32.toUInt32 31)).toNat < 2 ^ 32
    rw [h2]
    omega
def bc1 (m : Nat) : Nat := m - (m / 2 &&& 1431655765)
def bc2 (m : Nat) : Nat := (m &&& 858993459) + (m / 4 &&& 858993459)
def bc3 (m : Nat) : Nat := (m + m / 16) &&& 252645135
def bc4 (m : Nat) : Nat := m + m / 256
def bc5 (m : Nat) : Nat := m + m / 65536
def bcN (m : Nat) : Nat := bc5 (bc4 (bc3 (bc2 (bc1 m)))) &&& 63
def ppN (m : Nat) : Nat := m % 2 + m / 2 % 2 + m / 4 % 2 + m / 8 % 2 + m / 16 % 2 + m / 32 % 2 + m / 64 % 2 + m / 128 % 2 + m / 256 % 2 + m / 512 % 2 + m / 1024 % 2 + m / 2048 % 2 + m / 4096 % 2 + m / 8192 % 2 + m / 16384 % 2 + m / 32768 % 2
theorem ppb (m i : Nat) : (if m.testBit i then (1 : Int) else 0) = ((m / 2 ^ i % 2 : Nat) : Int) := by
  rw [Nat.testBit_eq_decide_div_mod_eq]
  by_cases h : m / 2 ^ i % 2 = 1
  · simp [h]
  · have : m / 2 ^ i % 2 = 0 := by omega
    simp [this]
theorem pop_N (m : Nat) : pop m = ((ppN m : Nat) : Int) := by
  have h : ∀ n : Nat, sm (fun i => if m.testBit i.toNat then (1 : Int) else 0) (n + 1) = sm (fun i => if m.testBit i.toNat then (1 : Int) else 0) n + ((m / 2 ^ n % 2 : Nat) : Int) := fun n => by
    rw [← ppb m n]
    rfl
  show sm (fun i => if m.testBit i.toNat then (1 : Int) else 0) 16 = _
  rw [h 15, h 14, h 13, h 12, h 11, h 10, h 9, h 8, h 7, h 6, h 5, h 4, h 3, h 2, h 1, h 0]
  show (0 : Int) + _ + _ + _ + _ + _ + _ + _ + _ + _ + _ + _ + _ + _ + _ + _ + _ = _
  unfold ppN
  simp only [Nat.reducePow, Nat.div_one]
  omega
theorem and_split (j : Nat) {x u y v : Nat} (hy : y < 2 ^ j) (hv : v < 2 ^ j) : (2 ^ j * x + y) &&& (2 ^ j * u + v) = 2 ^ j * (x &&& u) + (y &&& v) := by
  apply Nat.eq_of_testBit_eq
  intro i
  rw [Nat.testBit_and, Nat.testBit_two_pow_mul_add _ hy, Nat.testBit_two_pow_mul_add _ hv, Nat.testBit_two_pow_mul_add _ (Nat.lt_of_le_of_lt Nat.and_le_left hy)]
  by_cases h : i < j
  · simp only [h, if_true, Nat.testBit_and]
  · simp only [h, if_false, Nat.testBit_and]
theorem and_split8 {x u y v : Nat} (hy : y < 256) (hv : v < 256) : (256 * x + y) &&& (256 * u + v) = 256 * (x &&& u) + (y &&& v) := and_split 8 hy hv
def bA (x : Nat) : Nat := x - (x / 2 &&& 85)
def bB (x : Nat) : Nat := (x &&& 51) + (x / 4 &&& 51)
def bC (x : Nat) : Nat := (x + x / 16) &&& 15
def ppB (m : Nat) : Nat := m % 2 + m / 2 % 2 + m / 4 % 2 + m / 8 % 2 + m / 16 % 2 + m / 32 % 2 + m / 64 % 2 + m / 128 % 2
theorem by1 : ∀ a : Nat, a < 256 → (a / 2 &&& 5592405) = (a / 2 &&& 85) ∧ (a / 2 &&& 85) ≤ a := by decide +kernel
theorem by2 : ∀ e : Nat, e < 2 → ∀ b : Nat, b < 256 → (128 * e + b / 2) &&& 85 = b / 2 &&& 85 := by decide +kernel
theorem by3 : ∀ a : Nat, a < 256 → (a &&& 3355443) = (a &&& 51) ∧ (a / 4 &&& 3355443) = (a / 4 &&& 51) ∧ bB a < 256 ∧ bA a < 256 := by decide +kernel
theorem by4 : ∀ e : Nat, e < 4 → ∀ b : Nat, b < 256 → (64 * e + b / 4) &&& 51 = b / 4 &&& 51 := by decide +kernel
theorem by5 : ∀ a : Nat, a < 256 → bB (bA a) ≤ 68 ∧ bB (bA a) % 16 ≤ 4 ∧ bC (bB (bA a)) = ppB a ∧ bC (bB (bA a)) ≤ 8 := by decide +kernel
theorem by6 : ∀ a : Nat, a < 69 → ((a + a / 16) &&& 986895) = bC a := by decide +kernel
theorem by7 : ∀ e : Nat, e < 5 → ∀ b : Nat, b < 69 → ((16 * e + (b + b / 16)) &&& 15) = bC b := by decide +kernel
theorem bc1_s {a b : Nat} (ha : a < 256) (hb : b < 256) : ((256 * a + b) / 2 &&& 1431655765) ≤ 256 * a + b ∧ bc1 (256 * a + b) = 256 * bA a + bA b := by
  have e : (256 * a + b) / 2 = 256 * (a / 2) + (128 * (a % 2) + b / 2) := by omega
  have h : ((256 * a + b) / 2 &&& 1431655765) = 256 * (a / 2 &&& 85) + (b / 2 &&& 85) := by
    rw [e, show 1431655765 = 256 * 5592405 + 85 by decide, and_split8 (by omega) (by decide), (by1 a ha).1, by2 _ (by omega) b hb]
  have q1 := (by1 a ha).2
  have q2 := (by1 b hb).2
  unfold bc1 bA
  rw [h]
  generalize (a / 2 &&& 85) = x at *
  generalize (b / 2 &&& 85) = y at *
  omega
theorem bc2_s {a b : Nat} (ha : a < 256) (hb : b < 256) : bc2 (256 * a + b) = 256 * bB a + bB b := by
  have e : (256 * a + b) / 4 = 256 * (a / 4) + (64 * (a % 4) + b / 4) := by omega
  unfold bc2 bB
  rw [e, show 858993459 = 256 * 3355443 + 51 by decide, and_split8 hb (by decide), and_split8 (by omega) (by decide), (by3 a ha).1, (by3 a ha).2.1, by4 _ (by omega) b hb]
  omega
theorem bc3_s {a b : Nat} (ha : a ≤ 68) (ha2 : a % 16 ≤ 4) (hb : b ≤ 68) : bc3 (256 * a + b) = 256 * bC a + bC b := by
  have e : 256 * a + b + (256 * a + b) / 16 = 256 * (a + a / 16) + (16 * (a % 16) + (b + b / 16)) := by omega
  unfold bc3
  rw [e, show 252645135 = 256 * 986895 + 15 by decide, and_split8 (by omega) (by decide), by6 a (by omega), by7 _ (by omega) b (by omega)]
theorem bcN_s {a b : Nat} (ha : a < 256) (hb : b < 256) : bcN (256 * a + b) = ppB a + ppB b := by
  have qa := by5 a ha
  have qb := by5 b hb
  unfold bcN
  rw [(bc1_s ha hb).2, bc2_s (by3 a ha).2.2.2 (by3 b hb).2.2.2, bc3_s qa.1 qa.2.1 qb.1, show (63 : Nat) = 2 ^ 6 - 1 by decide, Nat.and_two_pow_sub_one_eq_mod, ← qa.2.2.1, ← qb.2.2.1]
  have r1 := qa.2.2.2
  have r2 := qb.2.2.2
  generalize bC (bB (bA a)) = x at r1
  generalize bC (bB (bA b)) = y at r2
  unfold bc5 bc4
  rw [show (256 * x + y) / 256 = x by omega, show (256 * x + y + x) / 65536 = 0 by omega]
  omega
theorem ppN_s {a b : Nat} (hb : b < 256) : ppN (256 * a + b) = ppB a + ppB b := by
  unfold ppN ppB
  rw [show (256 * a + b) % 2 = b % 2 by omega, show (256 * a + b) / 2 % 2 = b / 2 % 2 by omega, show (256 * a + b) / 4 % 2 = b / 4 % 2 by omega, show (256 * a + b) / 8 % 2 = b / 8 % 2 by omega, show (256 * a + b) / 16 % 2 = b / 16 % 2 by omega, show (256 * a + b) / 32 % 2 = b / 32 % 2 by omega, show (256 * a + b) / 64 % 2 = b / 64 % 2 by omega, show (256 * a + b) / 128 % 2 = b / 128 % 2 by omega, show (256 * a + b) / 256 = a by omega, show (256 * a + b) / 512 = a / 2 by omega, show (256 * a + b) / 1024 = a / 4 by omega, show (256 * a + b) / 2048 = a / 8 by omega, show (256 * a + b) / 4096 = a / 16 by omega, show (256 * a + b) / 8192 = a / 32 by omega, show (256 * a + b) / 16384 = a / 64 by omega, show (256 * a + b) / 32768 = a / 128 by omega]
  omega
theorem bcN_pop {m : Nat} (h : m < 65536) : (m / 2 &&& 1431655765) ≤ m ∧ ((bcN m : Nat) : Int) = pop m := by
  have e : 256 * (m / 256) + m % 256 = m := by omega
  have h1 := bc1_s (a := m / 256) (b := m % 256) (by omega) (by omega)
  have h2 := bcN_s (a := m / 256) (b := m % 256) (by omega) (by omega)
  have h3 := ppN_s (a := m / 256) (b := m % 256) (by omega)
  rw [e] at h1 h2 h3
  exact ⟨h1.1, by rw [pop_N, h2, h3]⟩
theorem and_co (k n : Nat) (h : k < 2 ^ n) : k &&& (2 ^ n - (k + 1)) = 0 := by
  apply Nat.eq_of_testBit_eq
  intro i
  rw [Nat.testBit_and, Nat.testBit_two_pow_sub_succ h, Nat.zero_testBit]
  cases k.testBit i <;> simp
theorem low_form {m : Nat} (h : m < 65536) (h0 : m ≠ 0) : ∃ j k : Nat, lowg m 16 0 = j ∧ j < 16 ∧ m = 2 ^ j * (2 * k + 1) := by
  obtain ⟨j, e, hj, h2, h3⟩ := lowb_spec h h0
  have e2 : lowg m 16 0 = j := by unfold lowb at e; omega
  have z : m % 2 ^ j = 0 := by
    apply Nat.eq_of_testBit_eq
    intro i
    rw [Nat.testBit_mod_two_pow, Nat.zero_testBit]
    by_cases hi : i < j
    · simp [h3 i hi]
    · simp [hi]
  rw [Nat.testBit_eq_decide_div_mod_eq, decide_eq_true_eq] at h2
  refine ⟨j, m / 2 ^ j / 2, e2, hj, ?_⟩
  rw [show 2 * (m / 2 ^ j / 2) + 1 = m / 2 ^ j by omega]
  have := Nat.div_add_mod m (2 ^ j)
  omega
theorem low_and {m : Nat} (h : m < 65536) (h0 : m ≠ 0) : m &&& (4294967296 - m) = 2 ^ lowg m 16 0 ∧ m &&& (m - 1) = rs m := by
  obtain ⟨j, k, e, hj, hm⟩ := low_form h h0
  have hp : 0 < 2 ^ j := Nat.two_pow_pos j
  have hk : 2 ^ j * (2 * k + 1) < 2 ^ j * 2 ^ (16 - j) := by
    rw [← hm, ← Nat.pow_add, show j + (16 - j) = 16 by omega]; exact h
  have hk2 : 2 * k + 1 < 2 ^ (16 - j) := Nat.lt_of_mul_lt_mul_left hk
  have hk3 : 2 ^ (16 - j) ≤ 2 ^ (31 - j) := Nat.pow_le_pow_right (by decide) (by omega)
  have hpp : 4294967296 = 2 ^ j * (2 * 2 ^ (31 - j)) := by
    rw [← Nat.pow_succ', ← Nat.pow_add, show j + (31 - j).succ = 32 by omega]
  constructor
  · have a1 : 4294967296 - m = 2 ^ j * (2 * (2 ^ (31 - j) - (k + 1)) + 1) := by
      rw [hpp, hm, ← Nat.mul_sub]
      congr 1
      omega
    have a2 := and_split j (x := 2 * k + 1) (u := 2 * (2 ^ (31 - j) - (k + 1)) + 1) hp hp
    have a3 := and_split 1 (x := k) (u := 2 ^ (31 - j) - (k + 1)) (y := 1) (v := 1) (by decide) (by decide)
    rw [and_co k (31 - j) (by omega)] at a3
    simp only [Nat.add_zero, Nat.and_zero] at a2
    rw [a1, e]
    conv => lhs; lhs; rw [hm]
    rw [a2]
    change (2 * k + 1) &&& (2 * (2 ^ (31 - j) - (k + 1)) + 1) = 1 at a3
    rw [a3, Nat.mul_one]
  · have a1 : m - 1 = 2 ^ j * (2 * k) + (2 ^ j - 1) := by
      rw [hm, Nat.mul_add]
      omega
    have a2 := and_split j (x := 2 * k + 1) (u := 2 * k) (y := 0) (v := 2 ^ j - 1) hp (by omega)
    have a3 := and_split 1 (x := k) (u := k) (y := 1) (v := 0) (by decide) (by decide)
    change (2 * k + 1) &&& (2 * k) = 2 * (k &&& k) + 0 at a3
    rw [Nat.and_self, Nat.add_zero] at a3
    rw [Nat.add_zero, Nat.zero_and, Nat.add_zero, a3] at a2
    have a4 : m &&& (m - 1) = 2 ^ j * (2 * k) := by
      rw [a1]
      conv => lhs; lhs; rw [hm]
      exact a2
    rw [a4]
    unfold rs
    rw [e]
    apply Nat.eq_of_testBit_eq
    intro i
    rw [Nat.testBit_xor, hm, Nat.testBit_two_pow]
    have b1 := Nat.testBit_two_pow_mul_add (2 * k + 1) hp i
    have b2 := Nat.testBit_two_pow_mul_add (2 * k) hp i
    rw [Nat.add_zero] at b1 b2
    rw [b1, b2]
    by_cases hi : i < j
    · simp only [hi, if_true, Nat.zero_testBit]
      rw [decide_eq_false (by omega)]
      rfl
    · simp only [hi, if_false]
      rcases Nat.eq_zero_or_pos (i - j) with z | z
      · rw [z, decide_eq_true (by omega), Nat.testBit_zero, Nat.testBit_zero, show (2 * k) % 2 = 0 by omega, show (2 * k + 1) % 2 = 1 by omega]
        rfl
      · rw [decide_eq_false (by omega), show i - j = (i - j - 1) + 1 by omega, Nat.testBit_succ, Nat.testBit_succ, show 2 * k / 2 = k by omega, show (2 * k + 1) / 2 = k by omega, Bool.xor_false]
theorem fm_neg {m : Nat} (h : m < 65536) (h0 : m ≠ 0) : fi_and (m : Int) (-(m : Int)) = ((2 ^ lowg m 16 0 : Nat) : Int) := by
  rw [← (low_and h h0).1]
  unfold fi_and
  have e : Int32.ofInt (-(m : Int)) = Int32.ofNat (4294967296 - m) := by
    rw [← fm_ofNat]
    apply Int32.toBitVec.inj
    show BitVec.ofInt 32 _ = BitVec.ofInt 32 _
    apply BitVec.eq_of_toInt_eq
    rw [BitVec.toInt_ofInt, BitVec.toInt_ofInt, show ((4294967296 - m : Nat) : Int) = -(m : Int) + 4294967296 by omega]
    show Int.bmod _ 4294967296 = Int.bmod _ 4294967296
    simp only [Int.bmod_def]
    (repeat' split) <;> omega
  rw [e, fm_ofNat, show Int32.ofNat m &&& Int32.ofNat (4294967296 - m) = Int32.ofNat (m &&& (4294967296 - m)) from Int32.toBitVec.inj (by simp [BitVec.ofNat_and]), fm_toInt (Nat.lt_of_le_of_lt Nat.and_le_left (by omega))]
