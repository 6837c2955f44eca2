/-! ===== what is spoken of: a table of rules, their order, masks ===== -/
abbrev rt : Type := Int × (Int → Int → Int) × (Int → Int → Int) × (Int → Int) × (Int → Int)
def tn (t : rt) : Int := t.1
def tlo (t : rt) (r f : Int) : Int := t.2.1 r f
def thi (t : rt) (r f : Int) : Int := t.2.2.1 r f
def trk (t : rt) (r : Int) : Int := t.2.2.2.1 r
def tac (t : rt) (r : Int) : Int := t.2.2.2.2 r
def gr (f : Int) : Int := if f = 3 then 3 else 63
def wd (f : Int) : Int := if f = 3 then 2 else 6
theorem gr_r (f : Int) : 3 ≤ gr f ∧ gr f ≤ 63 := by unfold gr; split <;> omega
theorem wd_r (f : Int) : 2 ≤ wd f ∧ wd f ≤ 6 := by unfold wd; split <;> omega
def twf (t : rt) : Prop := (0 ≤ tn t ∧ tn t ≤ 16) ∧ (∀ r f, 0 ≤ r → r < tn t → 0 ≤ f → f < 4 → 0 ≤ tlo t r f ∧ tlo t r f ≤ thi t r f ∧ thi t r f ≤ gr f) ∧ (∀ r, 0 ≤ r → r < tn t → (0 ≤ trk t r ∧ trk t r ≤ 999) ∧ 0 ≤ tac t r ∧ tac t r ≤ 9)
def tah (t : rt) (q r : Int) : Bool := decide (trk t q < trk t r ∨ trk t q = trk t r ∧ q < r)
/-- how many are ahead of r; the rule at a place -/
def tpl (t : rt) (r : Int) : Int := smI (fun q => if tah t q r then 1 else 0) (tn t)
def tod (t : rt) (p : Int) : Int := smI (fun r => if tpl t r = p then r else 0) (tn t)
theorem tah_tr {t : rt} {a b c : Int} (h1 : tah t a b = true) (h2 : tah t b c = true) : tah t a c = true := by
  simp only [tah, decide_eq_true_eq] at *
  omega
theorem tah_ir (t : rt) (a : Int) : tah t a a = false := by
  simp only [tah, decide_eq_false_iff_not]
  omega
theorem tah_to {t : rt} {a b : Int} (h : a ≠ b) : tah t a b = true ∨ tah t b a = true := by
  simp only [tah, decide_eq_true_eq]
  omega
theorem tpl_lt {t : rt} {q r : Int} (h0 : 0 ≤ q) (h1 : q < tn t) (h : tah t q r = true) : tpl t q < tpl t r := by
  unfold tpl smI
  have h2 : sm (fun x => (if tah t x q then 1 else 0) + (if x = q then 1 else 0)) (tn t).toNat ≤ sm (fun x => if tah t x r then 1 else 0) (tn t).toNat := by
    refine sm_le (fun x a b => ?_)
    by_cases e : x = q
    · subst e
      rw [if_pos rfl, tah_ir, h]
      decide
    · rw [if_neg e]
      by_cases e2 : tah t x q = true
      · rw [e2, tah_tr e2 h]; decide
      · have e3 : tah t x q = false := by cases hx : tah t x q with | true => exact absurd hx e2 | false => rfl
        rw [e3, if_neg (by decide : ¬ (false = true))]
        split <;> decide
  rw [sm_add, sm_one h0 (by omega)] at h2
  omega
theorem tpl_r {t : rt} {r : Int} (h0 : 0 ≤ r) (h1 : r < tn t) : 0 ≤ tpl t r ∧ tpl t r < tn t := by
  unfold tpl smI
  refine ⟨sm_nonneg (fun x _ _ => by split <;> decide), ?_⟩
  have h2 : sm (fun x => (if tah t x r then 1 else 0) + (if x = r then 1 else 0)) (tn t).toNat ≤ sm (fun _ => 1) (tn t).toNat := by
    refine sm_le (fun x a b => ?_)
    by_cases e : x = r
    · subst e
      rw [if_pos rfl, tah_ir]
      decide
    · rw [if_neg e]
      split <;> decide
  rw [sm_add, sm_one h0 (by omega), sm_const] at h2
  omega
theorem tpl_inj {t : rt} {q r : Int} (h0 : 0 ≤ q) (h1 : q < tn t) (g0 : 0 ≤ r) (g1 : r < tn t) (h : tpl t q = tpl t r) : q = r := by
  by_cases e : q = r
  · exact e
  · rcases tah_to (t := t) e with a | a
    · have := tpl_lt h0 h1 a; omega
    · have := tpl_lt g0 g1 a; omega
/-- every place is some rule's -/
theorem tpl_sur {t : rt} {p : Int} (h0 : 0 ≤ p) (h1 : p < tn t) : ∃ r, 0 ≤ r ∧ r < tn t ∧ tpl t r = p := by
  have ex : ∀ q : Int, sm (fun r => if tpl t r = q then 1 else 0) (tn t).toNat ≤ 1 := by
    intro q
    by_cases hq : ∃ r, 0 ≤ r ∧ r < tn t ∧ tpl t r = q
    · obtain ⟨r, a, b, c⟩ := hq
      have h2 : sm (fun x => if tpl t x = q then 1 else 0) (tn t).toNat ≤ sm (fun x => if x = r then 1 else 0) (tn t).toNat := by
        refine sm_le (fun x a2 b2 => ?_)
        by_cases e : x = r
        · rw [if_pos e]; split <;> decide
        · rw [if_neg (fun z => e (tpl_inj a2 (by omega) a b (z.trans c.symm))), if_neg e]
          decide
      rw [sm_one a (by omega)] at h2
      exact h2
    · rw [sm_congr (h := fun _ => 0) (fun x a b => if_neg (fun z => hq ⟨x, a, by omega, z⟩)), sm_zero]
      decide
  have tot : sm (fun q => sm (fun r => if tpl t r = q then 1 else 0) (tn t).toNat) (tn t).toNat = tn t := by
    rw [sm_swap, sm_congr (h := fun _ => 1) (fun r a b => ?_), sm_const]
    · omega
    · rw [sm_congr (h := fun q => if q = tpl t r then 1 else 0) (fun q _ _ => by
        by_cases e : tpl t r = q
        · rw [if_pos e, if_pos e.symm]
        · rw [if_neg e, if_neg (fun z => e z.symm)])]
      have := tpl_r a (by omega : r < tn t)
      exact sm_one this.1 (by omega) 1
  by_cases hp : ∃ r, 0 ≤ r ∧ r < tn t ∧ tpl t r = p
  · exact hp
  · exfalso
    have z : sm (fun r => if tpl t r = p then 1 else 0) (tn t).toNat = 0 := by
      rw [sm_congr (h := fun _ => 0) (fun x a b => if_neg (fun z => hp ⟨x, a, by omega, z⟩)), sm_zero]
    have h2 : sm (fun q => sm (fun r => if tpl t r = q then 1 else 0) (tn t).toNat + (if q = p then 1 else 0)) (tn t).toNat ≤ sm (fun _ => 1) (tn t).toNat := by
      refine sm_le (fun q a b => ?_)
      by_cases e : q = p
      · subst e; rw [if_pos rfl, z]; decide
      · rw [if_neg e]; have := ex q; omega
    rw [sm_add, tot, sm_one h0 (by omega), sm_const] at h2
    omega
theorem tod_pl {t : rt} {r : Int} (h0 : 0 ≤ r) (h1 : r < tn t) : tod t (tpl t r) = r := by
  unfold tod smI
  rw [sm_congr (h := fun x => if x = r then r else 0) (fun x a b => ?_), sm_one h0 (by omega)]
  by_cases e : x = r
  · subst e; rw [if_pos rfl, if_pos rfl]
  · rw [if_neg (fun z => e (tpl_inj a (by omega) h0 h1 z)), if_neg e]
theorem tod_r {t : rt} {p : Int} (h0 : 0 ≤ p) (h1 : p < tn t) : 0 ≤ tod t p ∧ tod t p < tn t ∧ tpl t (tod t p) = p := by
  obtain ⟨r, a, b, c⟩ := tpl_sur h0 h1
  subst c
  rw [tod_pl a b]
  exact ⟨a, b, rfl⟩
/-- the rules that take some number of a range in a field, as a mask by places -/
def tkP (t : rt) (f a b : Int) (p : Int) : Bool := decide (tlo t (tod t p) f ≤ b ∧ a ≤ thi t (tod t p) f)
def tkm (t : rt) (f a b : Int) : Nat := bm (tkP t f a b) (tn t).toNat
def tfit (t : rt) (a b c d : Int) : Nat := tkm t 0 a a &&& tkm t 1 b b &&& tkm t 2 c c &&& tkm t 3 d d
def lowg (m : Nat) : Nat → Nat → Nat
  | 0, i => i
  | n + 1, i => if m.testBit i then i else lowg m n (i + 1)
/-- the lowest bit (16: none), how many bits -/
def lowb (m : Nat) : Int := ((lowg m 16 0 : Nat) : Int)
def pop (m : Nat) : Int := smI (fun i => if m.testBit i.toNat then 1 else 0) 16
theorem twf_n {t : rt} (h : twf t) : 0 ≤ tn t ∧ tn t ≤ 16 := h.1
theorem tkm_lt {t : rt} (h : twf t) (f a b : Int) : tkm t f a b < 65536 := bm_pow _ (by have := h.1; omega)
theorem tfit_lt {t : rt} (h : twf t) (a b c d : Int) : tfit t a b c d < 65536 := Nat.lt_of_le_of_lt (Nat.le_trans Nat.and_le_left (Nat.le_trans Nat.and_le_left Nat.and_le_left)) (tkm_lt h 0 a a)
/-! the model's cells: 0 its object, 1 low, 2 high, 3 ranks, 4 actions -/
def RM (σ : fs_S) (t : rt) : Prop := σ 0 0 = tn t ∧ (∀ r f, 0 ≤ r → r < tn t → 0 ≤ f → f < 4 → σ 1 (4 * r + f) = tlo t r f ∧ σ 2 (4 * r + f) = thi t r f) ∧ (∀ r, 0 ≤ r → r < tn t → σ 3 r = trk t r ∧ σ 4 r = tac t r)
abbrev rg (x : Int) : Prop := -2147483648 ≤ x ∧ x < 2147483648
theorem RM.eq {σ τ : fs_S} {t : rt} (h : RM σ t) (hw : twf t) (h0 : τ 0 0 = σ 0 0) (hk : ∀ k i, 1 ≤ k → k ≤ 4 → 0 ≤ i → i < 64 → τ k i = σ k i) : RM τ t := by
  have hn := hw.1
  refine ⟨h0.trans h.1, fun r f a b c d => ?_, fun r a b => ?_⟩
  · rw [hk _ _ (by omega) (by omega) (by omega) (by omega), hk _ _ (by omega) (by omega) (by omega) (by omega)]
    exact h.2.1 r f a b c d
  · rw [hk _ _ (by omega) (by omega) (by omega) (by omega), hk _ _ (by omega) (by omega) (by omega) (by omega)]
    exact h.2.2 r a b
/-- the model's order and masks are worked out -/
def OV (σ : fs_S) (t : rt) : Prop := (∀ p, 0 ≤ p → p < tn t → σ 5 p = tod t p) ∧ (∀ f v, 0 ≤ f → f < 4 → 0 ≤ v → v ≤ gr f → σ 6 (64 * f + v) = ((tkm t f v v : Nat) : Int))
theorem lowg_spec (m : Nat) : ∀ (n i : Nat), i ≤ lowg m n i ∧ lowg m n i ≤ i + n ∧ (∀ j, i ≤ j → j < lowg m n i → m.testBit j = false) ∧ (lowg m n i < i + n → m.testBit (lowg m n i) = true)
  | 0, i => ⟨Nat.le_refl _, Nat.le_refl _, fun j a b => absurd b (by simp [lowg]; omega), fun h => absurd h (by simp [lowg])⟩
  | n + 1, i => by
    rw [lowg]
    by_cases h : m.testBit i = true
    · rw [if_pos h]
      exact ⟨Nat.le_refl _, by omega, fun j a b => by omega, fun _ => h⟩
    · rw [if_neg h]
      obtain ⟨h1, h2, h3, h4⟩ := lowg_spec m n (i + 1)
      refine ⟨by omega, by omega, fun j a b => ?_, fun hl => h4 (by omega)⟩
      by_cases e : j = i
      · subst e; simpa using h
      · exact h3 j (by omega) b
/-- the lowest bit of a mask that isn't 0 -/
theorem lowb_spec {m : Nat} (hm : m < 65536) (h0 : m ≠ 0) : ∃ j : Nat, lowb m = (j : Int) ∧ j < 16 ∧ m.testBit j = true ∧ ∀ i, i < j → m.testBit i = false := by
  obtain ⟨h1, h2, h3, h4⟩ := lowg_spec m 16 0
  have hlt : lowg m 16 0 < 16 := by
    apply Nat.lt_of_not_le
    intro hge
    apply h0
    apply Nat.eq_of_testBit_eq
    intro i
    rw [Nat.zero_testBit]
    by_cases hi : i < 16
    · exact h3 i (by omega) (by omega)
    · exact Nat.testBit_lt_two_pow (Nat.lt_of_lt_of_le hm (by
        have : 2 ^ 16 ≤ 2 ^ i := Nat.pow_le_pow_right (by decide) (by omega)
        exact this))
  exact ⟨lowg m 16 0, rfl, hlt, h4 (by omega), fun i hi => h3 i (by omega) hi⟩
theorem tkm_bit (t : rt) (f a b : Int) (i : Nat) (h : (tkm t f a b).testBit i = true) : (i : Int) < tn t ∧ tkP t f a b (i : Int) = true := by
  unfold tkm at h
  rw [bm_bit] at h
  simp only [Bool.and_eq_true, decide_eq_true_eq] at h
  exact ⟨by omega, h.2⟩
theorem tfit_bit {t : rt} {a b c d : Int} {i : Nat} (h : (tfit t a b c d).testBit i = true) : (i : Int) < tn t := by
  unfold tfit at h
  rw [Nat.testBit_and, Nat.testBit_and, Nat.testBit_and] at h
  simp only [Bool.and_eq_true] at h
  exact (tkm_bit t 0 a a i h.1.1.1).1
theorem tfit_low {t : rt} (hw : twf t) {a b c d : Int} (h : tfit t a b c d ≠ 0) : 0 ≤ lowb (tfit t a b c d) ∧ lowb (tfit t a b c d) < tn t := by
  obtain ⟨j, e, -, h2, -⟩ := lowb_spec (tfit_lt hw a b c d) h
  rw [e]
  exact ⟨by omega, tfit_bit h2⟩
