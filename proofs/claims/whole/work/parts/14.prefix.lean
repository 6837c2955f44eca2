/-! ===== prefixes of a range ===== -/
/-- how long the prefix is that begins at fr and goes no farther than to: from length l, size s on -/
def laN (fr to : Nat) : Nat → Nat → Nat
  | 0, _ => 0
  | l + 1, s => if fr % (2 * s) = 0 ∧ fr + 2 * s ≤ to + 1 then laN fr to l (2 * s) else l + 1
def wN (f : Int) : Nat := if f = 3 then 2 else 6
theorem wN_wd (f : Int) : wd f = ((wN f : Nat) : Int) := by unfold wd wN; split <;> rfl
theorem wN_r (f : Int) : wN f = 2 ∨ wN f = 6 := by unfold wN; split <;> omega
theorem gr_wN (f : Int) : gr f + 1 = ((2 ^ wN f : Nat) : Int) := by unfold gr wN; split <;> rfl
theorem laN_le (fr to : Nat) : ∀ (l s : Nat), laN fr to l s ≤ l
  | 0, _ => Nat.le_refl _
  | l + 1, s => by
    rw [laN]
    split
    · have := laN_le fr to l (2 * s); omega
    · exact Nat.le_refl _
/-- where the next prefix begins -/
def nxN (w fr to : Nat) : Nat := fr + 2 ^ (w - laN fr to w 1)
theorem nx_gt (w fr to : Nat) : fr < nxN w fr to := by
  unfold nxN
  have := Nat.two_pow_pos (w - laN fr to w 1)
  omega
theorem la_fit (w fr to : Nat) : ∀ (l : Nat), l ≤ w → fr + 2 ^ (w - l) ≤ to + 1 → fr + 2 ^ (w - laN fr to l (2 ^ (w - l))) ≤ to + 1
  | 0, _, h => h
  | l + 1, hl, h => by
    rw [laN]
    split
    · next hc =>
      have e : 2 * 2 ^ (w - (l + 1)) = 2 ^ (w - l) := by rw [show w - l = (w - (l + 1)) + 1 by omega, Nat.pow_succ]; omega
      rw [e] at hc ⊢
      exact la_fit w fr to l (by omega) hc.2
    · exact h
theorem nx_le {w fr to : Nat} (h : fr ≤ to) : nxN w fr to ≤ to + 1 := by
  have := la_fit w fr to w (Nat.le_refl _) (by rw [Nat.sub_self]; omega)
  rw [Nat.sub_self] at this
  exact this
/-- the i-th prefix's value, how many there are, how many of a length, the length of the one that has x -/
def pvF (w hi : Nat) : Nat → Int → Nat → Int
  | 0, _, _ => -6
  | n + 1, i, v => if v ≤ hi then (if i ≤ 0 then (v : Int) else pvF w hi n (i - 1) (nxN w v hi)) else -6
def spF (w hi : Nat) : Nat → Nat → Int
  | 0, _ => 0
  | n + 1, v => if v ≤ hi then 1 + spF w hi n (nxN w v hi) else 0
def olF (w hi : Nat) (len : Int) : Nat → Nat → Int
  | 0, _ => 0
  | n + 1, v => if v ≤ hi then (if ((laN v hi w 1 : Nat) : Int) = len then 1 else 0) + olF w hi len n (nxN w v hi) else 0
def loF (w hi x : Nat) : Nat → Nat → Nat
  | 0, _ => 0
  | n + 1, v => if nxN w v hi ≤ x then loF w hi x n (nxN w v hi) else laN v hi w 1
theorem spF_r (w hi : Nat) : ∀ (n v : Nat), 0 ≤ spF w hi n v ∧ spF w hi n v ≤ n
  | 0, _ => ⟨Int.le_refl _, Int.le_refl _⟩
  | n + 1, v => by
    rw [spF]
    have := spF_r w hi n (nxN w v hi)
    split <;> omega
theorem pv_sp (w hi : Nat) : ∀ (n : Nat) (i : Int) (v : Nat), 0 ≤ i → (0 ≤ pvF w hi n i v ↔ i < spF w hi n v)
  | 0, i, v, h => by rw [pvF, spF]; omega
  | n + 1, i, v, h => by
    rw [pvF, spF]
    have q := spF_r w hi n (nxN w v hi)
    split
    · split
      · omega
      · have := pv_sp w hi n (i - 1) (nxN w v hi) (by omega)
        omega
    · omega
theorem pv_le (w hi : Nat) : ∀ (n : Nat) (i : Int) (v : Nat), pvF w hi n i v = -6 ∨ (0 ≤ pvF w hi n i v ∧ pvF w hi n i v ≤ hi)
  | 0, i, v => Or.inl rfl
  | n + 1, i, v => by
    rw [pvF]
    split
    · split
      · omega
      · exact pv_le w hi n (i - 1) _
    · exact Or.inl rfl
def tL (t : rt) (r f : Int) : Nat := (tlo t r f).toNat
def tH (t : rt) (r f : Int) : Nat := (thi t r f).toNat
theorem tLH {t : rt} (hw : twf t) {r f : Int} (h0 : 0 ≤ r) (h1 : r < tn t) (h2 : 0 ≤ f) (h3 : f < 4) : tlo t r f = ((tL t r f : Nat) : Int) ∧ thi t r f = ((tH t r f : Nat) : Int) ∧ tL t r f ≤ tH t r f ∧ tH t r f ≤ 63 := by
  have := hw.2.1 r f h0 h1 h2 h3
  have hg := gr_r f
  unfold tL tH
  omega
def aSplit (t : rt) (r f : Int) : Int := if (0 ≤ r ∧ r < tn t) ∧ 0 ≤ f ∧ f < 4 then spF (wN f) (tH t r f) 65 (tL t r f) else -1
def aPrefix (t : rt) (r f i w : Int) : Int := if (0 ≤ r ∧ r < tn t) ∧ 0 ≤ f ∧ f < 4 then (if 0 ≤ w ∧ w ≤ 1 then (if i < 0 then -6 else if pvF (wN f) (tH t r f) 65 i (tL t r f) < 0 ∨ w = 0 then pvF (wN f) (tH t r f) 65 i (tL t r f) else ((laN (pvF (wN f) (tH t r f) 65 i (tL t r f)).toNat (tH t r f) (wN f) 1 : Nat) : Int)) else -2) else -1
theorem fm_shlw (f : Int) {l : Nat} (h : l ≤ wN f) : fi_shl 1 (wd f - (l : Int)) = ((2 ^ (wN f - l) : Nat) : Int) := by
  rw [wN_wd, show ((wN f : Nat) : Int) - (l : Int) = ((wN f - l : Nat) : Int) by omega]
  have := wN_r f
  exact fm_shl1 _ (by omega)
