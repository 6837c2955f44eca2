/-! ===== the state that both hold: rules, draft, bin, deep, images; what a call does to it ===== -/
abbrev ab : Type := rt × ((Int → Int) × (Int → Int)) × (Int × Int) × (Int → Int × rt × Int × Int)
def awf (A : ab) : Prop := twf A.1 ∧ (∀ f, 0 ≤ f → f < 4 → 0 ≤ A.2.1.1 f ∧ A.2.1.1 f ≤ A.2.1.2 f ∧ A.2.1.2 f ≤ gr f) ∧ ((1 ≤ A.2.2.1.1 ∧ A.2.2.1.1 ≤ 4) ∧ 1 ≤ A.2.2.1.2 ∧ A.2.2.1.2 ≤ 8) ∧ (∀ k, 0 ≤ k → k < 2 → ((A.2.2.2 k).1 = 0 ∨ (A.2.2.2 k).1 = 1) ∧ ((A.2.2.2 k).1 = 1 → twf (A.2.2.2 k).2.1 ∧ (1 ≤ (A.2.2.2 k).2.2.1 ∧ (A.2.2.2 k).2.2.1 ≤ 4) ∧ 1 ≤ (A.2.2.2 k).2.2.2 ∧ (A.2.2.2 k).2.2.2 ≤ 8))
/-- the model's image k -/
def RI (σ : fs_S) (k : Int) (I : rt × Int × Int) : Prop := σ 24 (163 * k + 160) = tn I.1 ∧ (∀ r f, 0 ≤ r → r < tn I.1 → 0 ≤ f → f < 4 → σ 24 (163 * k + (4 * r + f)) = tlo I.1 r f ∧ σ 24 (163 * k + 64 + (4 * r + f)) = thi I.1 r f) ∧ (∀ r, 0 ≤ r → r < tn I.1 → σ 24 (163 * k + 128 + r) = trk I.1 r ∧ σ 24 (163 * k + 144 + r) = tac I.1 r) ∧ σ 24 (163 * k + 161) = I.2.1 ∧ σ 24 (163 * k + 162) = I.2.2
def IMc (σ : fs_S) (A : ab) : Prop := RM σ A.1 ∧ (∀ f, 0 ≤ f → f < 4 → σ 1 (64 + f) = A.2.1.1 f ∧ σ 2 (64 + f) = A.2.1.2 f) ∧ (σ 0 5 = A.2.2.1.1 ∧ σ 0 6 = A.2.2.1.2) ∧ (∀ k, 0 ≤ k → k < 2 → σ 25 k = (A.2.2.2 k).1 ∧ ((A.2.2.2 k).1 = 1 → RI σ k (A.2.2.2 k).2))
theorem IMc.eq {σ τ : fs_S} {A : ab} (h : IMc σ A) (hw : awf A) (h0 : ∀ i, i = 0 ∨ i = 5 ∨ i = 6 → τ 0 i = σ 0 i) (hk : ∀ k i, (1 ≤ k ∧ k ≤ 4) ∨ k = 24 ∨ k = 25 → τ k i = σ k i) : IMc τ A := by
  obtain ⟨a1, a2, a3, a4⟩ := h
  refine ⟨a1.eq hw.1 (h0 _ (by omega)) (fun k i a b _ _ => hk k i (by omega)), fun f a b => ?_, ?_, fun k a b => ?_⟩
  · rw [hk _ _ (by omega), hk _ _ (by omega)]; exact a2 f a b
  · rw [h0 _ (by omega), h0 _ (by omega)]; exact a3
  · rw [hk _ _ (by omega)]
    refine ⟨(a4 k a b).1, fun z => ?_⟩
    obtain ⟨b1, b2, b3, b4, b5⟩ := (a4 k a b).2 z
    refine ⟨by rw [hk _ _ (by omega)]; exact b1, fun r f c d e g => ?_, fun r c d => ?_, by rw [hk _ _ (by omega)]; exact b4, by rw [hk _ _ (by omega)]; exact b5⟩
    · rw [hk _ _ (by omega), hk _ _ (by omega)]; exact b2 r f c d e g
    · rw [hk _ _ (by omega), hk _ _ (by omega)]; exact b3 r c d
/-! draft -/
def aDraft (f lo hi : Int) : Int := if 0 ≤ f ∧ f < 4 then (if (0 ≤ lo ∧ lo ≤ gr f) ∧ (0 ≤ hi ∧ hi ≤ gr f) ∧ lo ≤ hi then hi - lo + 1 else -2) else -1
def sDraft (A : ab) (f lo hi : Int) : ab := if (0 ≤ f ∧ f < 4) ∧ (0 ≤ lo ∧ lo ≤ gr f) ∧ (0 ≤ hi ∧ hi ≤ gr f) ∧ lo ≤ hi then (A.1, (fun x => if x = f then lo else A.2.1.1 x, fun x => if x = f then hi else A.2.1.2 x), A.2.2) else A
/-! rule -/
def nRule (A : ab) (rk ac : Int) : ab := ((tn A.1 + 1, fun r f => if r = tn A.1 then A.2.1.1 f else tlo A.1 r f, fun r f => if r = tn A.1 then A.2.1.2 f else thi A.1 r f, fun r => if r = tn A.1 then rk else trk A.1 r, fun r => if r = tn A.1 then ac else tac A.1 r), (fun _ => 0, gr), A.2.2)
def aRule (A : ab) (rk ac : Int) : Int := if (0 ≤ rk ∧ rk ≤ 999) ∧ 0 ≤ ac ∧ ac ≤ 9 then (if tn A.1 = 16 then -4 else tn A.1) else -2
def sRule (A : ab) (rk ac : Int) : ab := if ((0 ≤ rk ∧ rk ≤ 999) ∧ 0 ≤ ac ∧ ac ≤ 9) ∧ tn A.1 ≠ 16 then nRule A rk ac else A
/-! drop -/
def dx (r x : Int) : Int := if r ≤ x then x + 1 else x
def tDrop (t : rt) (r : Int) : rt := (tn t - 1, fun x f => tlo t (dx r x) f, fun x f => thi t (dx r x) f, fun x => trk t (dx r x), fun x => tac t (dx r x))
def aDrop (A : ab) (r : Int) : Int := if 0 ≤ r ∧ r < tn A.1 then tn A.1 - 1 else -1
def sDrop (A : ab) (r : Int) : ab := if 0 ≤ r ∧ r < tn A.1 then (tDrop A.1 r, A.2) else A
/-! rank -/
def tRank (t : rt) (r k : Int) : rt := (tn t, t.2.1, t.2.2.1, fun x => if x = r then k else trk t x, t.2.2.2.2)
def aRank (A : ab) (r k : Int) : Int := if 0 ≤ r ∧ r < tn A.1 then (if 0 ≤ k ∧ k ≤ 999 then tpl (tRank A.1 r k) r else -2) else -1
def sRank (A : ab) (r k : Int) : ab := if (0 ≤ r ∧ r < tn A.1) ∧ 0 ≤ k ∧ k ≤ 999 then (tRank A.1 r k, A.2) else A
/-! told -/
def aTold (t : rt) (r w : Int) : Int := if 0 ≤ r ∧ r < tn t then (if 10 ≤ w ∧ w ≤ 17 then (if w % 2 = 0 then tlo t r ((w - 10) / 2) else thi t r ((w - 10) / 2)) else if w = 0 then trk t r else if w = 1 then tac t r else if w = 2 then tpl t r else -2) else -1
/-! overlap: how many numbers two rules share in a field -/
def tsh (t : rt) (a b f : Int) : Int := max 0 (min (thi t a f) (thi t b f) - max (tlo t a f) (tlo t b f) + 1)
def prI (g : Int → Int) (k : Int) : Int := (List.range k.toNat).foldl (fun x (i : Nat) => x * g (i : Int)) 1
theorem prI_0 (g : Int → Int) : prI g 0 = 1 := rfl
theorem prI_s (g : Int → Int) {k : Int} (h : 0 ≤ k) : prI g (k + 1) = prI g k * g k := by
  unfold prI
  rw [show (k + 1).toNat = k.toNat + 1 by omega, List.range_succ, List.foldl_append]
  show _ * g ((k.toNat : Nat) : Int) = _
  rw [show ((k.toNat : Nat) : Int) = k by omega]
def aOverlap (t : rt) (a b : Int) : Int := if (0 ≤ a ∧ a < tn t) ∧ 0 ≤ b ∧ b < tn t then prI (tsh t a b) 4 else -1
/-! covered -/
def tin (t : rt) (o r f : Int) : Bool := decide (tlo t o f ≤ tlo t r f ∧ thi t r f ≤ thi t o f)
def tfl (t : rt) (o r k : Int) : Int := smI (fun f => if tin t o r f then 0 else 1) k
def twi (t : rt) (o r : Int) : Bool := decide (tfl t o r 4 = 0)
/-- the least number below n with P; n if there is none -/
def leg (P : Int → Bool) : Nat → Int → Int
  | 0, i => i
  | n + 1, i => if P i then i else leg P n (i + 1)
def lea (P : Int → Bool) (n : Int) : Int := leg P n.toNat 0
theorem leg_spec (P : Int → Bool) : ∀ (n : Nat) (i : Int), i ≤ leg P n i ∧ leg P n i ≤ i + n ∧ (∀ j, i ≤ j → j < leg P n i → P j = false) ∧ (leg P n i < i + n → P (leg P n i) = true)
  | 0, i => ⟨Int.le_refl _, by simp [leg], fun j a b => absurd b (by simp [leg]; omega), fun h => absurd h (by simp [leg])⟩
  | n + 1, i => by
    rw [leg]
    by_cases h : P i = true
    · rw [if_pos h]
      exact ⟨Int.le_refl _, by omega, fun j a b => by omega, fun _ => h⟩
    · rw [if_neg h]
      obtain ⟨h1, h2, h3, h4⟩ := leg_spec P n (i + 1)
      refine ⟨by omega, by omega, fun j a b => ?_, fun hl => h4 (by omega)⟩
      by_cases e : j = i
      · subst e; simpa using h
      · exact h3 j (by omega) b
theorem lea_spec (P : Int → Bool) {n : Int} (h : 0 ≤ n) : 0 ≤ lea P n ∧ lea P n ≤ n ∧ (∀ j, 0 ≤ j → j < lea P n → P j = false) ∧ (lea P n < n → P (lea P n) = true) := by
  obtain ⟨h1, h2, h3, h4⟩ := leg_spec P n.toNat 0
  exact ⟨h1, by unfold lea; omega, h3, fun z => h4 (by unfold lea at z; omega)⟩
theorem lea_at {P : Int → Bool} {n p : Int} (h0 : 0 ≤ p) (h1 : p < n) (hp : P p = true) (hm : ∀ j, 0 ≤ j → j < p → P j = false) : lea P n = p := by
  obtain ⟨a, b, c, d⟩ := lea_spec P (n := n) (by omega)
  rcases Int.lt_trichotomy (lea P n) p with e | e | e
  · have := d (by omega)
    rw [hm _ a e] at this
    cases this
  · exact e
  · have := c p h0 e
    rw [hp] at this
    cases this
theorem lea_no {P : Int → Bool} {n : Int} (h : 0 ≤ n) (hm : ∀ j, 0 ≤ j → j < n → P j = false) : lea P n = n := by
  obtain ⟨a, b, c, d⟩ := lea_spec P h
  by_cases e : lea P n < n
  · have := d e
    rw [hm _ a e] at this
    cases this
  · omega
def tcv (t : rt) (r : Int) : Int := if lea (fun p => twi t (tod t p) r) (tpl t r) < tpl t r then tod t (lea (fun p => twi t (tod t p) r) (tpl t r)) else -6
def aCovered (t : rt) (r : Int) : Int := if 0 ≤ r ∧ r < tn t then tcv t r else -1
