/-! ===== the tree ===== -/
def ploN (W p : Nat) : Nat := p * 2 ^ (W - Nat.log2 p) - 2 ^ W
def phiN (W p : Nat) : Nat := (p + 1) * 2 ^ (W - Nat.log2 p) - 2 ^ W - 1
theorem part_cut : ∀ W : Nat, W = 2 ∨ W = 6 → ∀ p : Nat, 1 ≤ p → p < 2 ^ W → (ploN W (2 * p) = ploN W p ∧ phiN W (2 * p) = (ploN W p + phiN W p) / 2) ∧ (ploN W (2 * p + 1) = (ploN W p + phiN W p) / 2 + 1 ∧ phiN W (2 * p + 1) = phiN W p) ∧ ploN W p < phiN W p := by
  have h6 : ∀ p : Nat, p < 64 → 1 ≤ p → (ploN 6 (2 * p) = ploN 6 p ∧ phiN 6 (2 * p) = (ploN 6 p + phiN 6 p) / 2) ∧ (ploN 6 (2 * p + 1) = (ploN 6 p + phiN 6 p) / 2 + 1 ∧ phiN 6 (2 * p + 1) = phiN 6 p) ∧ ploN 6 p < phiN 6 p := by decide +kernel
  have h2 : ∀ p : Nat, p < 4 → 1 ≤ p → (ploN 2 (2 * p) = ploN 2 p ∧ phiN 2 (2 * p) = (ploN 2 p + phiN 2 p) / 2) ∧ (ploN 2 (2 * p + 1) = (ploN 2 p + phiN 2 p) / 2 + 1 ∧ phiN 2 (2 * p + 1) = phiN 2 p) ∧ ploN 2 p < phiN 2 p := by decide +kernel
  intro W hW p h1 h3
  rcases hW with rfl | rfl
  · exact h2 p h3 h1
  · exact h6 p h3 h1
theorem part_all : ∀ W : Nat, W = 2 ∨ W = 6 → ∀ p : Nat, 1 ≤ p → p < 2 ^ (W + 1) → ploN W p ≤ phiN W p ∧ phiN W p < 2 ^ W ∧ (2 ^ W ≤ p → ploN W p = phiN W p) := by
  have h6 : ∀ p : Nat, p < 128 → 1 ≤ p → ploN 6 p ≤ phiN 6 p ∧ phiN 6 p < 2 ^ 6 ∧ (2 ^ 6 ≤ p → ploN 6 p = phiN 6 p) := by decide +kernel
  have h2 : ∀ p : Nat, p < 8 → 1 ≤ p → ploN 2 p ≤ phiN 2 p ∧ phiN 2 p < 2 ^ 2 ∧ (2 ^ 2 ≤ p → ploN 2 p = phiN 2 p) := by decide +kernel
  intro W hW p h1 h3
  rcases hW with rfl | rfl
  · exact h2 p h3 h1
  · exact h6 p h3 h1
theorem part_one (f : Int) : ploN (wN f) 1 = 0 ∧ ((phiN (wN f) 1 : Nat) : Int) = gr f := by unfold wN gr; split <;> exact ⟨rfl, rfl⟩
/-- a node: its rules as a mask, its part of each field, its depth -/
abbrev nd : Type := Nat × (Int → Nat) × Int
def hlf (t : rt) (N : nd) (f : Int) (h : Nat) : Nat := N.1 &&& tkm t f ((ploN (wN f) (2 * N.2.1 f + h) : Nat) : Int) ((phiN (wN f) (2 * N.2.1 f + h) : Nat) : Int)
def kid (t : rt) (N : nd) (f : Int) (h : Nat) : nd := (hlf t N f h, fun g => if g = f then 2 * N.2.1 f + h else N.2.1 g, N.2.2 + 1)
/-- best field so far, its more, its both -/
def ck (t : rt) (N : nd) : Nat → Int × Int × Int
  | 0 => (-6, pop N.1, 0)
  | k + 1 => if N.2.1 (k : Int) < 2 ^ wN (k : Int) ∧ (max (pop (hlf t N k 0)) (pop (hlf t N k 1)) < (ck t N k).2.1 ∨ 0 ≤ (ck t N k).1 ∧ max (pop (hlf t N k 0)) (pop (hlf t N k 1)) = (ck t N k).2.1 ∧ pop (hlf t N k 0) + pop (hlf t N k 1) < (ck t N k).2.2) then ((k : Int), max (pop (hlf t N k 0)) (pop (hlf t N k 1)), pop (hlf t N k 0) + pop (hlf t N k 1)) else ck t N k
def pick (t : rt) (b e : Int) (N : nd) : Int := if pop N.1 ≤ b ∨ e ≤ N.2.2 then -6 else (ck t N 4).1
def root (t : rt) : nd := (bm (fun _ => true) (tn t).toNat, fun _ => 1, 0)
def gdN (N : nd) : Prop := N.1 < 65536 ∧ (∀ f, 0 ≤ f → f < 4 → 1 ≤ N.2.1 f ∧ N.2.1 f < 2 ^ (wN f + 1)) ∧ 0 ≤ N.2.2 ∧ N.2.2 ≤ 8
theorem pop_r (m : Nat) : 0 ≤ pop m ∧ pop m ≤ 16 := by
  unfold pop smI
  refine ⟨sm_nonneg (fun i _ _ => by split <;> decide), ?_⟩
  have : sm (fun i => if m.testBit i.toNat then 1 else 0) (16 : Int).toNat ≤ sm (fun _ => 1) (16 : Int).toNat := sm_le (fun i _ _ => by split <;> decide)
  rw [sm_const] at this
  exact this
theorem ck_r (t : rt) (N : nd) : ∀ k : Nat, ((ck t N k).1 = -6 ∨ (0 ≤ (ck t N k).1 ∧ (ck t N k).1 < k ∧ N.2.1 (ck t N k).1 < 2 ^ wN (ck t N k).1)) ∧ (0 ≤ (ck t N k).2.1 ∧ (ck t N k).2.1 ≤ 16) ∧ 0 ≤ (ck t N k).2.2 ∧ (ck t N k).2.2 ≤ 32
  | 0 => ⟨Or.inl rfl, pop_r _, Int.le_refl _, by show (0 : Int) ≤ 32; decide⟩
  | k + 1 => by
    have ih := ck_r t N k
    have p0 := pop_r (hlf t N k 0)
    have p1 := pop_r (hlf t N k 1)
    rw [ck]
    split
    · next h =>
      refine ⟨Or.inr ⟨?_, ?_, h.1⟩, ⟨?_, ?_⟩, ?_, ?_⟩
      · show (0 : Int) ≤ (k : Int); omega
      · show (k : Int) < ((k + 1 : Nat) : Int); omega
      · show 0 ≤ max (pop (hlf t N k 0)) (pop (hlf t N k 1)); omega
      · show max (pop (hlf t N k 0)) (pop (hlf t N k 1)) ≤ 16; omega
      · show 0 ≤ pop (hlf t N k 0) + pop (hlf t N k 1); omega
      · show pop (hlf t N k 0) + pop (hlf t N k 1) ≤ 32; omega
    · refine ⟨?_, ih.2⟩
      rcases ih.1 with h | h
      · exact Or.inl h
      · exact Or.inr ⟨h.1, by omega, h.2.2⟩
theorem pick_r (t : rt) (b e : Int) (N : nd) : pick t b e N = -6 ∨ ((0 ≤ pick t b e N ∧ pick t b e N < 4 ∧ N.2.1 (pick t b e N) < 2 ^ wN (pick t b e N)) ∧ N.2.2 < e) := by
  unfold pick
  split
  · exact Or.inl rfl
  · rcases (ck_r t N 4).1 with h | h
    · exact Or.inl h
    · exact Or.inr ⟨h, by omega⟩
theorem hlf_lt {t : rt} {N : nd} {f : Int} {h : Nat} (hN : N.1 < 65536) : hlf t N f h < 65536 := Nat.lt_of_le_of_lt Nat.and_le_left hN
theorem kid_g {t : rt} {N : nd} {f : Int} {h : Nat} (hN : gdN N) (hh : h ≤ 1) (hf : 0 ≤ f ∧ f < 4) (hp : N.2.1 f < 2 ^ wN f) (he : N.2.2 < 8) : gdN (kid t N f h) := by
  obtain ⟨h1, h2, h3⟩ := hN
  refine ⟨hlf_lt h1, fun g a b => ?_, ?_, ?_⟩
  · show 1 ≤ (if g = f then 2 * N.2.1 f + h else N.2.1 g) ∧ (if g = f then 2 * N.2.1 f + h else N.2.1 g) < 2 ^ (wN g + 1)
    by_cases e : g = f
    · subst e
      rw [if_pos rfl, Nat.pow_succ]
      have := h2 g a b
      omega
    · rw [if_neg e]; exact h2 g a b
  · show 0 ≤ N.2.2 + 1; omega
  · show N.2.2 + 1 ≤ 8; omega
theorem root_g {t : rt} (hw : twf t) : gdN (root t) := ⟨bm_pow _ (by have := hw.1; omega), fun f _ _ => ⟨Nat.le_refl 1, by show 1 < 2 ^ (wN f + 1); have := wN_r f; rcases this with h | h <;> rw [h] <;> decide⟩, by show (0 : Int) ≤ 0; decide, by show (0 : Int) ≤ 8; decide⟩
/-- sums and greatest over a tree -/
def trS (t : rt) (b e : Int) (φ : nd → Int) : Nat → nd → Int
  | 0, N => φ N
  | n + 1, N => φ N + (if pick t b e N < 0 then 0 else trS t b e φ n (kid t N (pick t b e N) 0) + trS t b e φ n (kid t N (pick t b e N) 1))
def trM (t : rt) (b e : Int) (φ : nd → Int) : Nat → nd → Int
  | 0, N => max 0 (φ N)
  | n + 1, N => max (max 0 (φ N)) (if pick t b e N < 0 then 0 else max (trM t b e φ n (kid t N (pick t b e N) 0)) (trM t b e φ n (kid t N (pick t b e N) 1)))
theorem trM_0 (t : rt) (b e : Int) (φ : nd → Int) : ∀ (n : Nat) (N : nd), 0 ≤ trM t b e φ n N
  | 0, N => by rw [trM]; omega
  | n + 1, N => by rw [trM]; omega
def lS (φ : nd → Int) : List nd → Int
  | [] => 0
  | N :: l => φ N + lS φ l
def lX (φ : nd → Int) : List nd → Int
  | [] => 0
  | N :: l => max (max 0 (φ N)) (lX φ l)
theorem lS_app (φ : nd → Int) : ∀ (a b : List nd), lS φ (a ++ b) = lS φ a + lS φ b
  | [], b => by show lS φ b = 0 + lS φ b; omega
  | N :: a, b => by show φ N + lS φ (a ++ b) = φ N + lS φ a + lS φ b; rw [lS_app φ a b]; omega
theorem lX_app (φ : nd → Int) : ∀ (a b : List nd), lX φ (a ++ b) = max (lX φ a) (lX φ b)
  | [], b => by
    have : ∀ l, 0 ≤ lX φ l := fun l => by cases l <;> (rw [lX]; first | omega | decide)
    show lX φ b = max 0 (lX φ b)
    have := this b
    omega
  | N :: a, b => by show max (max 0 (φ N)) (lX φ (a ++ b)) = max (max (max 0 (φ N)) (lX φ a)) (lX φ b); rw [lX_app φ a b]; omega
/-- the model's node i -/
def NM (σ : fs_S) (i : Int) (N : nd) : Prop := σ 20 i = ((N.1 : Nat) : Int) ∧ σ 21 i = N.2.2 ∧ ∀ f, 0 ≤ f → f < 4 → σ 18 (4 * i + f) = ((ploN (wN f) (N.2.1 f) : Nat) : Int) ∧ σ 19 (4 * i + f) = ((phiN (wN f) (N.2.1 f) : Nat) : Int)
theorem NM.eq {σ τ : fs_S} {i : Int} {N : nd} (h : NM σ i N) (e : ∀ k j, (k = 20 ∨ k = 21) ∧ j = i ∨ (k = 18 ∨ k = 19) ∧ 4 * i ≤ j ∧ j < 4 * i + 4 → τ k j = σ k j) : NM τ i N :=
  ⟨by rw [e _ _ (by omega)]; exact h.1, by rw [e _ _ (by omega)]; exact h.2.1, fun f a b => by rw [e _ _ (by omega), e _ _ (by omega)]; exact h.2.2 f a b⟩
/-- nodes 0 .. of the list L, the first k of them done -/
def NV (σ : fs_S) (t : rt) (b e : Int) (L : List nd) (k : Nat) : Prop := (∀ (i : Nat) (N : nd), L[i]? = some N → NM σ (i : Int) N ∧ gdN N) ∧ (∀ (i : Nat) (N : nd), i < k → L[i]? = some N → σ 22 (i : Int) = pick t b e N ∧ (0 ≤ pick t b e N → ∃ j : Nat, i < j ∧ σ 23 (i : Int) = (j : Int) ∧ L[j]? = some (kid t N (pick t b e N) 0) ∧ L[j + 1]? = some (kid t N (pick t b e N) 1)))
def TV (σ : fs_S) (t : rt) (b e : Int) : Prop := ∃ L : List nd, σ 0 25 = (L.length : Int) ∧ (1 ≤ L.length ∧ L.length ≤ 511) ∧ L[0]? = some (root t) ∧ NV σ t b e L L.length ∧ (∀ φ, lS φ L = trS t b e φ 8 (root t)) ∧ (∀ φ, lX φ L = trM t b e φ 8 (root t))
theorem TV.eq {σ τ : fs_S} {t : rt} {b e : Int} (h : TV σ t b e) (h0 : τ 0 25 = σ 0 25) (hk : ∀ k i, 18 ≤ k → k ≤ 23 → τ k i = σ k i) : TV τ t b e := by
  obtain ⟨L, a1, a2, a3, a4, a5, a6⟩ := h
  refine ⟨L, h0.trans a1, a2, a3, ⟨fun i N hN => ⟨(a4.1 i N hN).1.eq (fun k j h => hk k j (by omega) (by omega)), (a4.1 i N hN).2⟩, fun i N hi hN => ?_⟩, a5, a6⟩
  rw [hk _ _ (by omega) (by omega), hk _ _ (by omega) (by omega)]
  exact a4.2 i N hi hN
/-! growing the list of nodes -/
def fS (t : rt) (b e : Int) (φ : nd → Int) (N : nd) : Int := trS t b e φ (8 - N.2.2).toNat N
def fX (t : rt) (b e : Int) (φ : nd → Int) (N : nd) : Int := trM t b e φ (8 - N.2.2).toNat N
def pwN (N : nd) : Int := ((2 ^ (9 - N.2.2.toNat) : Nat) : Int) - 1
def GV (t : rt) (b e : Int) (L : List nd) (k : Nat) : Prop := k ≤ L.length ∧ L[0]? = some (root t) ∧ (k : Int) + lS pwN (L.drop k) ≤ 511 ∧ (∀ φ, lS φ (L.take k) + lS (fS t b e φ) (L.drop k) = trS t b e φ 8 (root t)) ∧ (∀ φ, max (lX φ (L.take k)) (lX (fX t b e φ) (L.drop k)) = trM t b e φ 8 (root t))
theorem fS_leaf {t : rt} {b e : Int} {N : nd} (φ : nd → Int) (h : pick t b e N < 0) : fS t b e φ N = φ N := by
  unfold fS
  cases (8 - N.2.2).toNat with
  | zero => rfl
  | succ n => rw [trS, if_pos h]; omega
theorem fX_leaf {t : rt} {b e : Int} {N : nd} (φ : nd → Int) (h : pick t b e N < 0) : fX t b e φ N = max 0 (φ N) := by
  unfold fX
  cases (8 - N.2.2).toNat with
  | zero => rfl
  | succ n => rw [trM, if_pos h]; omega
theorem fS_cut {t : rt} {b e : Int} {N : nd} (φ : nd → Int) (h : 0 ≤ pick t b e N) (hd : 0 ≤ N.2.2 ∧ N.2.2 < 8) : fS t b e φ N = φ N + (fS t b e φ (kid t N (pick t b e N) 0) + fS t b e φ (kid t N (pick t b e N) 1)) := by
  unfold fS
  rw [show (8 - N.2.2).toNat = (8 - (N.2.2 + 1)).toNat + 1 by omega, trS, if_neg (by omega)]
  rfl
theorem fX_cut {t : rt} {b e : Int} {N : nd} (φ : nd → Int) (h : 0 ≤ pick t b e N) (hd : 0 ≤ N.2.2 ∧ N.2.2 < 8) : fX t b e φ N = max (max 0 (φ N)) (max (fX t b e φ (kid t N (pick t b e N) 0)) (fX t b e φ (kid t N (pick t b e N) 1))) := by
  unfold fX
  rw [show (8 - N.2.2).toNat = (8 - (N.2.2 + 1)).toNat + 1 by omega, trM, if_neg (by omega)]
  rfl
theorem pwN_cut {t : rt} {N : nd} {f : Int} {h : Nat} (hd : 0 ≤ N.2.2 ∧ N.2.2 < 8) : pwN N = 1 + 2 * pwN (kid t N f h) := by
  unfold pwN kid
  show ((2 ^ (9 - N.2.2.toNat) : Nat) : Int) - 1 = 1 + 2 * (((2 ^ (9 - (N.2.2 + 1).toNat) : Nat) : Int) - 1)
  rw [show 9 - N.2.2.toNat = (9 - (N.2.2 + 1).toNat) + 1 by omega, Nat.pow_succ]
  omega
theorem pwN_1 {N : nd} (hd : 0 ≤ N.2.2 ∧ N.2.2 ≤ 8) : 1 ≤ pwN N := by
  unfold pwN
  have : 2 ^ 1 ≤ 2 ^ (9 - N.2.2.toNat) := Nat.pow_le_pow_right (by decide) (by omega)
  omega
theorem lS_len {ψ : nd → Int} : ∀ (l : List nd), (∀ N ∈ l, 1 ≤ ψ N) → (l.length : Int) ≤ lS ψ l
  | [], _ => Int.le_refl _
  | N :: l, h => by
    have h1 := h N List.mem_cons_self
    have h2 := lS_len l (fun M hM => h M (List.mem_cons_of_mem _ hM))
    show ((l.length + 1 : Nat) : Int) ≤ ψ N + lS ψ l
    omega
theorem GV.init (t : rt) (b e : Int) : GV t b e [root t] 0 := by
  refine ⟨by simp, rfl, ?_, fun φ => ?_, fun φ => ?_⟩
  · show ((0 : Nat) : Int) + (pwN (root t) + 0) ≤ 511
    have : pwN (root t) = 511 := rfl
    omega
  · show (0 : Int) + (fS t b e φ (root t) + 0) = _
    have : fS t b e φ (root t) = trS t b e φ 8 (root t) := rfl
    omega
  · show max (0 : Int) (max (max 0 (fX t b e φ (root t))) 0) = _
    have : fX t b e φ (root t) = trM t b e φ 8 (root t) := rfl
    have h2 := trM_0 t b e φ 8 (root t)
    omega
theorem GV.len {t : rt} {b e : Int} {L : List nd} {k : Nat} (h : GV t b e L k) (hg : ∀ N ∈ L, gdN N) : L.length ≤ 511 := by
  have h1 := lS_len (ψ := pwN) (L.drop k) (fun N hN => pwN_1 (hg N (List.mem_of_mem_drop hN)).2.2)
  rw [List.length_drop] at h1
  have := h.2.2.1
  have := h.1
  omega
theorem GV.split {L : List nd} {k : Nat} {N : nd} (hk : L[k]? = some N) : L.drop k = N :: L.drop (k + 1) ∧ L.take (k + 1) = L.take k ++ [N] := by
  have hl := (List.getElem?_eq_some_iff.mp hk).1
  refine ⟨?_, ?_⟩
  · rw [List.drop_eq_getElem_cons hl, (List.getElem?_eq_some_iff.mp hk).2]
  · rw [List.take_succ, hk]; rfl
theorem GV.leaf {t : rt} {b e : Int} {L : List nd} {k : Nat} {N : nd} (h : GV t b e L k) (hk : L[k]? = some N) (hp : pick t b e N < 0) (hg : gdN N) : GV t b e L (k + 1) := by
  obtain ⟨h1, h2, h3, h4, h5⟩ := h
  have hl := (List.getElem?_eq_some_iff.mp hk).1
  obtain ⟨s1, s2⟩ := GV.split hk
  refine ⟨hl, h2, ?_, fun φ => ?_, fun φ => ?_⟩
  · rw [s1] at h3
    have := pwN_1 hg.2.2
    change (k : Int) + (pwN N + lS pwN (L.drop (k + 1))) ≤ 511 at h3
    omega
  · have := h4 φ
    rw [s1] at this
    change lS φ (L.take k) + (fS t b e φ N + lS (fS t b e φ) (L.drop (k + 1))) = _ at this
    rw [s2, lS_app]
    rw [fS_leaf φ hp] at this
    change _ + (φ N + 0) + _ = _
    omega
  · have := h5 φ
    rw [s1] at this
    change max (lX φ (L.take k)) (max (max 0 (fX t b e φ N)) (lX (fX t b e φ) (L.drop (k + 1)))) = _ at this
    rw [s2, lX_app]
    rw [fX_leaf φ hp] at this
    change max (max _ (max (max 0 (φ N)) 0)) _ = _
    omega
theorem GV.cut {t : rt} {b e : Int} {L : List nd} {k : Nat} {N : nd} (h : GV t b e L k) (hk : L[k]? = some N) (hp : 0 ≤ pick t b e N) (hg : gdN N) (hd : N.2.2 < 8) : GV t b e (L ++ [kid t N (pick t b e N) 0, kid t N (pick t b e N) 1]) (k + 1) := by
  obtain ⟨h1, h2, h3, h4, h5⟩ := h
  have hl := (List.getElem?_eq_some_iff.mp hk).1
  obtain ⟨s1, s2⟩ := GV.split hk
  have t1 : (L ++ [kid t N (pick t b e N) 0, kid t N (pick t b e N) 1]).take (k + 1) = L.take k ++ [N] := by rw [List.take_append_of_le_length hl, s2]
  have t2 : (L ++ [kid t N (pick t b e N) 0, kid t N (pick t b e N) 1]).drop (k + 1) = L.drop (k + 1) ++ [kid t N (pick t b e N) 0, kid t N (pick t b e N) 1] := List.drop_append_of_le_length hl
  refine ⟨by rw [List.length_append]; omega, by rw [List.getElem?_append_left (by omega)]; exact h2, ?_, fun φ => ?_, fun φ => ?_⟩
  · rw [s1] at h3
    change (k : Int) + (pwN N + lS pwN (L.drop (k + 1))) ≤ 511 at h3
    rw [t2, lS_app]
    have e0 := pwN_cut (t := t) (f := pick t b e N) (h := 0) ⟨hg.2.2.1, hd⟩
    have e1 := pwN_cut (t := t) (f := pick t b e N) (h := 1) ⟨hg.2.2.1, hd⟩
    change ((k + 1 : Nat) : Int) + (lS pwN (L.drop (k + 1)) + (pwN (kid t N (pick t b e N) 0) + (pwN (kid t N (pick t b e N) 1) + 0))) ≤ 511
    omega
  · have := h4 φ
    rw [s1] at this
    change lS φ (L.take k) + (fS t b e φ N + lS (fS t b e φ) (L.drop (k + 1))) = _ at this
    rw [t1, t2, lS_app, lS_app]
    rw [fS_cut φ hp ⟨hg.2.2.1, hd⟩] at this
    change _ + (φ N + 0) + (_ + (fS t b e φ (kid t N (pick t b e N) 0) + (fS t b e φ (kid t N (pick t b e N) 1) + 0))) = _
    omega
  · have := h5 φ
    rw [s1] at this
    change max (lX φ (L.take k)) (max (max 0 (fX t b e φ N)) (lX (fX t b e φ) (L.drop (k + 1)))) = _ at this
    rw [t1, t2, lX_app, lX_app]
    rw [fX_cut φ hp ⟨hg.2.2.1, hd⟩] at this
    change max (max _ (max (max 0 (φ N)) 0)) (max _ (max (max 0 (fX t b e φ (kid t N (pick t b e N) 0))) (max (max 0 (fX t b e φ (kid t N (pick t b e N) 1))) 0))) = _
    omega
