/-! ===== sums over packets, by stretches ===== -/
theorem sm_split (g : Int → Int) (m n : Nat) : sm g (m + n) = sm g m + sm (fun i => g ((m : Int) + i)) n := by
  induction n with
  | zero => show sm g m = sm g m + 0; omega
  | succ n ih =>
    show sm g (m + n) + g ((m + n : Nat) : Int) = sm g m + (sm (fun i => g ((m : Int) + i)) n + g ((m : Int) + (n : Int)))
    rw [ih, show ((m + n : Nat) : Int) = (m : Int) + (n : Int) by omega]
    omega
theorem sm_rect (F : Int → Int → Int) (n : Nat) (hn : 0 < n) : ∀ m : Nat, sm (fun i => F (i / (n : Int)) (i % (n : Int))) (m * n) = sm (fun a => sm (fun b => F a b) n) m
  | 0 => by rw [Nat.zero_mul]; rfl
  | m + 1 => by
    rw [Nat.succ_mul, sm_split, sm_rect F n hn m]
    show _ = sm (fun a => sm (fun b => F a b) n) m + sm (fun b => F (m : Int) b) n
    congr 1
    refine sm_congr (fun i h0 h1 => ?_)
    have e1 : (((m * n : Nat) : Int) + i) / (n : Int) = (m : Int) := by
      rw [Int.natCast_mul, Int.mul_comm, Int.add_comm, Int.add_mul_ediv_left _ _ (by omega), Int.ediv_eq_zero_of_lt h0 h1]; omega
    have e2 : (((m * n : Nat) : Int) + i) % (n : Int) = i := by
      rw [Int.natCast_mul, Int.mul_comm, Int.add_comm, Int.add_mul_emod_self_left, Int.emod_eq_of_lt h0 h1]
    rw [e1, e2]
theorem smI_rect (F : Int → Int → Int) {m n : Int} (hm : 0 ≤ m) (hn : 0 < n) : smI (fun i => F (i / n) (i % n)) (m * n) = smI (fun a => smI (fun b => F a b) n) m := by
  obtain ⟨m', rfl⟩ := Int.eq_ofNat_of_zero_le hm
  obtain ⟨n', rfl⟩ := Int.eq_ofNat_of_zero_le (by omega : 0 ≤ n)
  have := sm_rect F n' (by omega) m'
  unfold smI
  rw [show ((m' : Int) * (n' : Int)).toNat = m' * n' by rw [← Int.natCast_mul]; omega, show (n' : Int).toNat = n' by omega, show (m' : Int).toNat = m' by omega]
  exact this
theorem smI_mul (c : Int) (g : Int → Int) (k : Int) : smI (fun i => c * g i) k = c * smI g k := sm_mul c g _
theorem smI_nonneg {g : Int → Int} {k : Int} (h : ∀ i : Int, 0 ≤ i → i < k → 0 ≤ g i) : 0 ≤ smI g k := sm_nonneg (fun i a b => h i a (by omega))
/-- the sum of a number of the rules' mask over all packets -/
def S4 (t : rt) (g : Nat → Int) : Int := smI (fun a => smI (fun b => smI (fun c => smI (fun d => g (tfit t a b c d)) 4) 64) 64) 64
/-- a mask without its lowest bit -/
def rs (m : Nat) : Nat := m ^^^ 2 ^ (lowg m 16 0)
def gW (t : rt) (r : Int) (m : Nat) : Int := if m ≠ 0 ∧ tod t (lowb m) = r then 1 else 0
def gN (t : rt) (r : Int) (m : Nat) : Int := if m ≠ 0 ∧ tod t (lowb m) = r ∧ (rs m = 0 ∨ tac t (tod t (lowb (rs m))) ≠ tac t r) then 1 else 0
def gD (t : rt) (x : Int) (m : Nat) : Int := if (m = 0 ∧ x = 10) ∨ (m ≠ 0 ∧ tac t (tod t (lowb m)) = x) then 1 else 0
/-- the stretches of a field, the first v numbers of it: where they begin (cell cb), how many numbers they have (cz) -/
def SL (t : rt) (f v s : Int) (B Z : Int → Int) : Prop := (0 ≤ s ∧ s ≤ v) ∧ (0 < v → 1 ≤ s ∧ tkm t f (B (s - 1)) (B (s - 1)) = tkm t f (v - 1) (v - 1)) ∧ (∀ j, 0 ≤ j → j < s → (0 ≤ B j ∧ B j < v) ∧ 1 ≤ Z j) ∧ (∀ h : Nat → Int, smI (fun x => h (tkm t f x x)) v = smI (fun j => Z j * h (tkm t f (B j) (B j))) s)
theorem SL.congr {t : rt} {f v s : Int} {B Z B' Z' : Int → Int} (h : SL t f v s B Z) (hb : ∀ j, 0 ≤ j → j < s → B' j = B j) (hz : ∀ j, 0 ≤ j → j < s → Z' j = Z j) : SL t f v s B' Z' := by
  obtain ⟨h1, h2, h3, h4⟩ := h
  refine ⟨h1, fun hv => ?_, fun j a b => ?_, fun g => ?_⟩
  · have := h2 hv
    rw [hb _ (by omega) (by omega)]
    exact this
  · rw [hb j a b, hz j a b]; exact h3 j a b
  · rw [h4 g]
    exact smI_congr (fun j a b => by rw [hb j a b, hz j a b])
theorem SL.zero (t : rt) (f : Int) (B Z : Int → Int) : SL t f 0 0 B Z := ⟨by omega, fun h => by omega, fun j a b => by omega, fun h => rfl⟩
/-- a new stretch -/
theorem SL.new {t : rt} {f v s : Int} {B Z B' Z' : Int → Int} (h : SL t f v s B Z) (hv : 0 ≤ v) (hb : ∀ j, 0 ≤ j → j < s → B' j = B j) (hz : ∀ j, 0 ≤ j → j < s → Z' j = Z j) (b1 : B' s = v) (z1 : Z' s = 1) : SL t f (v + 1) (s + 1) B' Z' := by
  obtain ⟨h1, h2, h3, h4⟩ := h.congr hb hz
  refine ⟨by omega, fun _ => ⟨by omega, ?_⟩, fun j a b => ?_, fun g => ?_⟩
  · rw [show s + 1 - 1 = s by omega, show v + 1 - 1 = v by omega, b1]
  · by_cases e : j = s
    · subst e; omega
    · have := h3 j a (by omega); omega
  · rw [smI_s _ hv, smI_s _ h1.1, h4 g, b1, z1]; omega
/-- the last one goes on -/
theorem SL.more {t : rt} {f v s : Int} {B Z B' Z' : Int → Int} (h : SL t f v s B Z) (hv : 0 < v) (hb : ∀ j, 0 ≤ j → j < s → B' j = B j) (hz : ∀ j, 0 ≤ j → j < s - 1 → Z' j = Z j) (z1 : Z' (s - 1) = Z (s - 1) + 1) (he : tkm t f v v = tkm t f (v - 1) (v - 1)) : SL t f (v + 1) s B' Z' := by
  obtain ⟨h1, h2, h3, h4⟩ := h
  have h2 := h2 hv
  refine ⟨by omega, fun _ => ⟨h2.1, ?_⟩, fun j a b => ?_, fun g => ?_⟩
  · rw [show v + 1 - 1 = v by omega, hb _ (by omega) (by omega), h2.2, he]
  · have := h3 j a b
    by_cases e : j = s - 1
    · subst e; rw [hb _ (by omega) (by omega), z1]; omega
    · rw [hb _ (by omega) (by omega), hz j a (by omega)]; omega
  · have e1 := h4 g
    obtain ⟨s', rfl⟩ : ∃ s', s = s' + 1 := ⟨s - 1, by omega⟩
    rw [show s' + 1 - 1 = s' by omega] at *
    rw [smI_s _ (by omega : 0 ≤ s')] at e1 ⊢
    rw [smI_s _ (by omega : 0 ≤ v), e1, z1, hb s' (by omega) (by omega), he, ← h2.2, Int.add_mul, Int.one_mul, smI_congr (g := fun j => Z' j * g (tkm t f (B' j) (B' j))) (h := fun j => Z j * g (tkm t f (B j) (B j))) (fun j a b => by rw [hb j a (by omega), hz j a (by omega)])]
    omega
/-- all four fields' stretches give the sum over all packets -/
theorem SL.sum {t : rt} {s : Int → Int} {B Z : Int → Int → Int} (h : ∀ f, 0 ≤ f → f < 4 → SL t f (gr f + 1) (s f) (B f) (Z f)) (g : Nat → Int) :
    smI (fun a => smI (fun b => smI (fun c => smI (fun d => Z 0 a * Z 1 b * Z 2 c * Z 3 d * g (tkm t 0 (B 0 a) (B 0 a) &&& tkm t 1 (B 1 b) (B 1 b) &&& tkm t 2 (B 2 c) (B 2 c) &&& tkm t 3 (B 3 d) (B 3 d))) (s 3)) (s 2)) (s 1)) (s 0) = S4 t g := by
  have g0 : gr 0 + 1 = 64 := rfl
  have g1 : gr 1 + 1 = 64 := rfl
  have g2 : gr 2 + 1 = 64 := rfl
  have g3 : gr 3 + 1 = 4 := rfl
  have q0 := (h 0 (by omega) (by omega)).2.2.2
  have q1 := (h 1 (by omega) (by omega)).2.2.2
  have q2 := (h 2 (by omega) (by omega)).2.2.2
  have q3 := (h 3 (by omega) (by omega)).2.2.2
  rw [g0] at q0
  rw [g1] at q1
  rw [g2] at q2
  rw [g3] at q3
  unfold S4 tfit
  have e0 := q0 (fun y => smI (fun b => smI (fun c => smI (fun d => g (y &&& tkm t 1 b b &&& tkm t 2 c c &&& tkm t 3 d d)) 4) 64) 64)
  rw [e0]
  refine smI_congr (fun a _ _ => ?_)
  rw [q1 (fun y => smI (fun c => smI (fun d => g (tkm t 0 (B 0 a) (B 0 a) &&& y &&& tkm t 2 c c &&& tkm t 3 d d)) 4) 64), ← smI_mul]
  refine smI_congr (fun b _ _ => ?_)
  rw [q2 (fun y => smI (fun d => g (tkm t 0 (B 0 a) (B 0 a) &&& tkm t 1 (B 1 b) (B 1 b) &&& y &&& tkm t 3 d d)) 4), ← smI_mul, ← smI_mul]
  refine smI_congr (fun c _ _ => ?_)
  rw [q3 (fun y => g (tkm t 0 (B 0 a) (B 0 a) &&& tkm t 1 (B 1 b) (B 1 b) &&& tkm t 2 (B 2 c) (B 2 c) &&& y)), ← smI_mul, ← smI_mul, ← smI_mul]
  refine smI_congr (fun d _ _ => ?_)
  simp only [Int.mul_assoc]
theorem rs_bit {m : Nat} (hm : m < 65536) (h0 : m ≠ 0) (i : Nat) : (rs m).testBit i = (m.testBit i && decide ((i : Int) ≠ lowb m)) := by
  obtain ⟨j, e, -, h2, -⟩ := lowb_spec hm h0
  have e2 : lowg m 16 0 = j := by unfold lowb at e; omega
  unfold rs
  rw [e2, e, Nat.testBit_xor, Nat.testBit_two_pow]
  by_cases hj : j = i
  · subst hj; simp [h2]
  · have : ¬ ((i : Int) = (j : Int)) := by omega
    simp [hj, this]
theorem rs_lt {m : Nat} (hm : m < 65536) (h0 : m ≠ 0) : rs m < 65536 := by
  obtain ⟨j, e, hj, h2, -⟩ := lowb_spec hm h0
  have e2 : lowg m 16 0 = j := by unfold lowb at e; omega
  unfold rs
  rw [e2]
  exact Nat.xor_lt_two_pow (n := 16) hm (Nat.pow_lt_pow_right (by decide) hj)
/-- m & ~(1 << own) -/
theorem fm_clear {m : Nat} (hm : m < 65536) (h0 : m ≠ 0) : fi_and (m : Int) (fi_xor (fi_shl 1 (lowb m)) (-1)) = ((rs m : Nat) : Int) := by
  have hr := rs_lt hm h0
  obtain ⟨j, e, hj, h2, -⟩ := lowb_spec hm h0
  have e2 : lowg m 16 0 = j := by unfold lowb at e; omega
  rw [e, fm_shl1 j (by omega)]
  unfold fi_and fi_xor
  rw [Int32.ofInt_toInt, fm_ofNat, fm_ofNat, ← fm_toInt (a := rs m) (by omega)]
  congr 1
  apply Int32.toBitVec.inj
  apply BitVec.eq_of_getLsbD_eq
  intro i hi
  have hneg : (Int32.ofInt (-1)).toBitVec = BitVec.allOnes 32 := by decide
  rw [Int32.toBitVec_and, Int32.toBitVec_xor, hneg]
  simp only [Int32.toBitVec_ofNat', BitVec.getLsbD_and, BitVec.getLsbD_xor, BitVec.getLsbD_ofNat, BitVec.getLsbD_allOnes, hi, decide_true, Bool.true_and]
  unfold rs
  rw [e2, Nat.testBit_xor, Nat.testBit_two_pow]
  by_cases hji : j = i
  · subst hji; simp [h2]
  · simp [hji]
