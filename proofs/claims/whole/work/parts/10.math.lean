/-- a call that answers v and changes nothing -/
theorem fs_C.ci {M M2 : fs_Me} {d q : Nat} {av st : List fs_V} {σ : fs_S} {v : Int} {Γ : fs_G} {L : List (Option fs_V)} (h : fs_C M d av σ (fun r τ => r = some v ∧ τ = σ)) (k : fs_W Γ M2 q L (.inl v :: st) σ) : fs_C M d av σ (fun r τ => ∃ x, r = some x ∧ fs_W Γ M2 q L (.inl x :: st) τ) :=
  h.mono (fun r τ e => ⟨v, e.1, by rw [e.2]; exact k⟩)
/-! ===== numbers: bits of small numbers, sums, masks ===== -/
theorem fm_ofNat (a : Nat) : Int32.ofInt (a : Int) = Int32.ofNat a := Int32.ofInt_eq_ofNat
theorem fm_toInt {a : Nat} (h : a < 2147483648) : (Int32.ofNat a).toInt = (a : Int) := by
  rw [← fm_ofNat, fs_toInt (by omega)]
theorem fm_and {a b : Nat} (ha : a < 2147483648) (hb : b < 2147483648) : fi_and (a : Int) (b : Int) = ((a &&& b : Nat) : Int) := by
  unfold fi_and
  rw [fm_ofNat, fm_ofNat, show Int32.ofNat a &&& Int32.ofNat b = Int32.ofNat (a &&& b) from Int32.toBitVec.inj (by simp [BitVec.ofNat_and]), fm_toInt (Nat.lt_of_le_of_lt Nat.and_le_left ha)]
theorem fm_or {a b : Nat} (ha : a < 2147483648) (hb : b < 2147483648) : fi_or (a : Int) (b : Int) = ((a ||| b : Nat) : Int) := by
  unfold fi_or
  rw [fm_ofNat, fm_ofNat, show Int32.ofNat a ||| Int32.ofNat b = Int32.ofNat (a ||| b) from Int32.toBitVec.inj (by simp [BitVec.ofNat_or]), fm_toInt (Nat.or_lt_two_pow (n := 31) ha hb)]
theorem fm_xor {a b : Nat} (ha : a < 2147483648) (hb : b < 2147483648) : fi_xor (a : Int) (b : Int) = ((a ^^^ b : Nat) : Int) := by
  unfold fi_xor
  rw [fm_ofNat, fm_ofNat, show Int32.ofNat a ^^^ Int32.ofNat b = Int32.ofNat (a ^^^ b) from Int32.toBitVec.inj (by simp [BitVec.ofNat_xor]), fm_toInt (Nat.xor_lt_two_pow (n := 31) ha hb)]
theorem fm_shl1 (k : Nat) (h : k < 31) : fi_shl 1 (k : Int) = ((2 ^ k : Nat) : Int) := by
  have : ∀ k : Nat, k < 31 → fi_shl 1 (k : Int) = ((2 ^ k : Nat) : Int) := by decide +kernel
  exact this k h
theorem fm_shr {a i : Nat} (ha : a < 2147483648) (hi : i < 32) : fi_shr (a : Int) (i : Int) = ((a / 2 ^ i : Nat) : Int) := by
  unfold fi_shr
  have hs : ∀ i : Nat, i < 32 → ((Int32.ofInt (i : Int) &&& 31).toBitVec.smod 32).toNat = i := by decide +kernel
  have h := pk_shrN (n := a) ha (Int32.ofInt (i : Int) &&& 31) i (hs i hi)
  unfold nI at h
  rw [fm_ofNat, h, fm_toInt (Nat.lt_of_le_of_lt (Nat.div_le_self _ _) ha)]
/-- bit i -/
theorem fm_bit {a i : Nat} (ha : a < 2147483648) (hi : i < 32) : fi_and (fi_shr (a : Int) (i : Int)) 1 = if a.testBit i then 1 else 0 := by
  rw [fm_shr ha hi, show (1 : Int) = ((1 : Nat) : Int) from rfl, fm_and (Nat.lt_of_le_of_lt (Nat.div_le_self _ _) ha) (by decide), Nat.and_one_is_mod, Nat.testBit_eq_decide_div_mod_eq]
  by_cases h : a / 2 ^ i % 2 = 1
  · simp [h]
  · have : a / 2 ^ i % 2 = 0 := by omega
    simp [this]
/-! sums -/
def sm (g : Int → Int) : Nat → Int
  | 0 => 0
  | n + 1 => sm g n + g (n : Int)
def smI (g : Int → Int) (k : Int) : Int := sm g k.toNat
theorem smI_0 (g : Int → Int) : smI g 0 = 0 := rfl
theorem smI_s (g : Int → Int) {k : Int} (h : 0 ≤ k) : smI g (k + 1) = smI g k + g k := by
  unfold smI
  rw [show (k + 1).toNat = k.toNat + 1 by omega]
  show sm g k.toNat + g ((k.toNat : Nat) : Int) = _
  rw [show ((k.toNat : Nat) : Int) = k by omega]
theorem sm_congr {g h : Int → Int} {n : Nat} (e : ∀ i : Int, 0 ≤ i → i < n → g i = h i) : sm g n = sm h n := by
  induction n with
  | zero => rfl
  | succ n ih =>
    show sm g n + g n = sm h n + h n
    rw [ih (fun i h0 h1 => e i h0 (by omega)), e n (by omega) (by omega)]
theorem smI_congr {g h : Int → Int} {k : Int} (e : ∀ i : Int, 0 ≤ i → i < k → g i = h i) : smI g k = smI h k := sm_congr (fun i h0 h1 => e i h0 (by omega))
theorem sm_add (g h : Int → Int) (n : Nat) : sm (fun i => g i + h i) n = sm g n + sm h n := by
  induction n with
  | zero => rfl
  | succ n ih => show sm _ n + (g n + h n) = (sm g n + g n) + (sm h n + h n); rw [ih]; omega
theorem sm_mul (c : Int) (g : Int → Int) (n : Nat) : sm (fun i => c * g i) n = c * sm g n := by
  induction n with
  | zero => show (0 : Int) = c * 0; rw [Int.mul_zero]
  | succ n ih => show sm _ n + c * g n = c * (sm g n + g n); rw [ih, Int.mul_add]
theorem sm_zero (n : Nat) : sm (fun _ => 0) n = 0 := by
  induction n with
  | zero => rfl
  | succ n ih => show sm _ n + 0 = 0; rw [ih]; rfl
theorem sm_const (c : Int) (n : Nat) : sm (fun _ => c) n = (n : Int) * c := by
  induction n with
  | zero => show (0 : Int) = ((0 : Nat) : Int) * c; simp
  | succ n ih => show sm _ n + c = ((n + 1 : Nat) : Int) * c; rw [ih, Int.natCast_add, Int.add_mul]; simp
theorem sm_swap (g : Int → Int → Int) (m n : Nat) : sm (fun i => sm (fun j => g i j) n) m = sm (fun j => sm (fun i => g i j) m) n := by
  induction m with
  | zero => exact (sm_zero n).symm
  | succ m ih =>
    show sm _ m + sm (fun j => g m j) n = _
    rw [ih, ← sm_add]
    rfl
theorem sm_nonneg {g : Int → Int} {n : Nat} (h : ∀ i : Int, 0 ≤ i → i < n → 0 ≤ g i) : 0 ≤ sm g n := by
  induction n with
  | zero => exact Int.le_refl _
  | succ n ih =>
    have h1 := ih (fun i h0 h1 => h i h0 (by omega))
    have h2 := h n (by omega) (by omega)
    show 0 ≤ sm g n + g n
    omega
theorem sm_le {g h : Int → Int} {n : Nat} (e : ∀ i : Int, 0 ≤ i → i < n → g i ≤ h i) : sm g n ≤ sm h n := by
  induction n with
  | zero => exact Int.le_refl _
  | succ n ih =>
    have h1 := ih (fun i h0 h1 => e i h0 (by omega))
    have h2 := e n (by omega) (by omega)
    show sm g n + g n ≤ sm h n + h n
    omega
theorem sm_term {g : Int → Int} {n : Nat} (h : ∀ i : Int, 0 ≤ i → i < n → 0 ≤ g i) {j : Int} (h0 : 0 ≤ j) (h1 : j < n) : g j ≤ sm g n := by
  induction n with
  | zero => omega
  | succ n ih =>
    show g j ≤ sm g n + g n
    have h2 := sm_nonneg (g := g) (n := n) (fun i a b => h i a (by omega))
    have h3 := h n (by omega) (by omega)
    by_cases e : j = n
    · subst e; omega
    · have := ih (fun i a b => h i a (by omega)) (by omega); omega
/-- a sum of one unit -/
theorem sm_one {n : Nat} {j : Int} (h0 : 0 ≤ j) (h1 : j < n) (c : Int) : sm (fun i => if i = j then c else 0) n = c := by
  induction n with
  | zero => omega
  | succ n ih =>
    show sm _ n + (if (n : Int) = j then c else 0) = c
    by_cases e : (n : Int) = j
    · rw [if_pos e, sm_congr (h := fun _ => 0) (fun i a b => by rw [if_neg (by omega)]), sm_zero]; omega
    · rw [if_neg e, ih (by omega)]; omega
/-! masks: bit p of bm P n is P p, below n -/
def bm (P : Int → Bool) : Nat → Nat
  | 0 => 0
  | n + 1 => bm P n + (if P (n : Int) then 2 ^ n else 0)
theorem bm_lt (P : Int → Bool) (n : Nat) : bm P n < 2 ^ n := by
  induction n with
  | zero => exact Nat.one_pos
  | succ n ih =>
    show bm P n + (if P (n : Int) then 2 ^ n else 0) < 2 ^ (n + 1)
    have : 2 ^ (n + 1) = 2 ^ n + 2 ^ n := by rw [Nat.pow_succ]; omega
    split <;> omega
theorem bm_bit (P : Int → Bool) (n i : Nat) : (bm P n).testBit i = (decide (i < n) && P (i : Int)) := by
  induction n with
  | zero => simp [bm]
  | succ n ih =>
    show (bm P n + (if P (n : Int) then 2 ^ n else 0)).testBit i = _
    have hl := bm_lt P n
    by_cases hP : P (n : Int) = true
    · rw [if_pos hP, Nat.add_comm]
      rcases Nat.lt_trichotomy i n with h | h | h
      · rw [Nat.testBit_two_pow_add_gt h, ih]
        simp [h, Nat.lt_succ_of_lt h]
      · subst h
        rw [Nat.testBit_two_pow_add_eq, ih]
        simp [hP]
      · rw [Nat.testBit_lt_two_pow]
        · simp; omega
        · have h1 : 2 ^ (n + 1) ≤ 2 ^ i := Nat.pow_le_pow_right (by decide) h
          have : 2 ^ (n + 1) = 2 ^ n + 2 ^ n := by rw [Nat.pow_succ]; omega
          omega
    · rw [if_neg hP, Nat.add_zero, ih]
      by_cases h : i < n
      · simp [h, Nat.lt_succ_of_lt h]
      · by_cases h2 : i = n
        · subst h2; simp at hP; simp [hP]
        · simp [h, show ¬ i < n + 1 by omega]
theorem bm_congr {P Q : Int → Bool} {n : Nat} (h : ∀ i : Int, 0 ≤ i → i < n → P i = Q i) : bm P n = bm Q n := by
  apply Nat.eq_of_testBit_eq
  intro i
  rw [bm_bit, bm_bit]
  by_cases hi : i < n
  · rw [h i (by omega) (by omega)]
  · simp [hi]
theorem bm_and (P Q : Int → Bool) (n : Nat) : bm P n &&& bm Q n = bm (fun i => P i && Q i) n := by
  apply Nat.eq_of_testBit_eq
  intro i
  rw [Nat.testBit_and, bm_bit, bm_bit, bm_bit]
  cases decide (i < n) <;> simp
theorem bm_or (P Q : Int → Bool) (n : Nat) : bm P n ||| bm Q n = bm (fun i => P i || Q i) n := by
  apply Nat.eq_of_testBit_eq
  intro i
  rw [Nat.testBit_or, bm_bit, bm_bit, bm_bit]
  cases decide (i < n) <;> simp
theorem bm_xor (P Q : Int → Bool) (n : Nat) : bm P n ^^^ bm Q n = bm (fun i => P i ^^ Q i) n := by
  apply Nat.eq_of_testBit_eq
  intro i
  rw [Nat.testBit_xor, bm_bit, bm_bit, bm_bit]
  cases decide (i < n) <;> simp
theorem bm_true (n : Nat) : bm (fun _ => true) n + 1 = 2 ^ n := by
  induction n with
  | zero => rfl
  | succ n ih =>
    show bm _ n + 2 ^ n + 1 = 2 ^ (n + 1)
    rw [Nat.pow_succ]; omega
theorem bm_s (P : Int → Bool) (n : Nat) : bm P (n + 1) = bm P n ||| (if P (n : Int) then 2 ^ n else 0) := by
  show bm P n + (if P (n : Int) then 2 ^ n else 0) = _
  split
  · have h := bm_lt P n
    have e := Nat.two_pow_add_eq_or_of_lt h 1
    rw [Nat.or_comm, Nat.add_comm]
    simpa using e
  · simp
theorem bm_pow (P : Int → Bool) {n : Nat} (h : n ≤ 16) : bm P n < 65536 := Nat.lt_of_lt_of_le (bm_lt P n) (by
  have : 2 ^ n ≤ 2 ^ 16 := Nat.pow_le_pow_right (by decide) h
  exact this)
/-- the mask grows by a bit -/
theorem bmI_t {P : Int → Bool} {k : Int} (h0 : 0 ≤ k) (h1 : k < 31) (hP : P k = true) : fi_or ((bm P k.toNat : Nat) : Int) (fi_shl 1 k) = ((bm P (k + 1).toNat : Nat) : Int) := by
  obtain ⟨n, rfl⟩ := Int.eq_ofNat_of_zero_le h0
  have hn : n < 31 := by omega
  rw [fm_shl1 n hn, show ((n : Int) + 1).toNat = n + 1 by omega, show (n : Int).toNat = n by omega, bm_s, if_pos hP, fm_or]
  · exact Nat.lt_of_lt_of_le (bm_lt P n) (by have : 2 ^ n ≤ 2 ^ 31 := Nat.pow_le_pow_right (by decide) (by omega); exact this)
  · have : 2 ^ n ≤ 2 ^ 30 := Nat.pow_le_pow_right (by decide) (by omega)
    omega
theorem bmI_f {P : Int → Bool} {k : Int} (h0 : 0 ≤ k) (h1 : k < 31) (hP : P k = false) : fi_or ((bm P k.toNat : Nat) : Int) 0 = ((bm P (k + 1).toNat : Nat) : Int) := by
  obtain ⟨n, rfl⟩ := Int.eq_ofNat_of_zero_le h0
  have hn : n < 31 := by omega
  rw [show (0 : Int) = ((0 : Nat) : Int) from rfl, show ((n : Int) + 1).toNat = n + 1 by omega, show (n : Int).toNat = n by omega, bm_s, if_neg (by rw [hP]; decide), fm_or]
  · exact Nat.lt_of_lt_of_le (bm_lt P n) (by have : 2 ^ n ≤ 2 ^ 31 := Nat.pow_le_pow_right (by decide) (by omega); exact this)
  · decide
