/-! ===== tuples ===== -/
def ol (t : rt) (r f len : Int) : Int := olF (wN f) (tH t r f) len 65 (tL t r f)
theorem olF_r (w hi : Nat) (len : Int) : ∀ (n v : Nat), 0 ≤ olF w hi len n v ∧ olF w hi len n v ≤ n
  | 0, _ => ⟨Int.le_refl _, Int.le_refl _⟩
  | n + 1, v => by
    rw [olF]
    have := olF_r w hi len n (nxN w v hi)
    split
    · split <;> omega
    · omega
theorem ol_r (t : rt) (r f len : Int) : 0 ≤ ol t r f len ∧ ol t r f len ≤ 65 := olF_r _ _ _ _ _
/-- the length of a code in a field -/
def cl (c f : Int) : Int := if f = 3 then 2 - c % 3 else 6 - (if f = 2 then c / 3 % 7 else if f = 1 then c / 21 % 7 else c / 147)
theorem cl_r {c f : Int} (h0 : 0 ≤ c) (h1 : c < 1029) : 0 ≤ cl c f ∧ cl c f ≤ 6 := by
  unfold cl
  split
  · omega
  · split
    · omega
    · split <;> omega
theorem prI_r {g : Int → Int} (h : ∀ f, 0 ≤ f → f < 4 → 0 ≤ g f ∧ g f ≤ 65) : 0 ≤ prI g 4 ∧ prI g 4 ≤ 17850625 := by
  have h0 := h 0 (by omega) (by omega)
  have h1 := h 1 (by omega) (by omega)
  have h2 := h 2 (by omega) (by omega)
  have h3 := h 3 (by omega) (by omega)
  have e : prI g 4 = g 0 * g 1 * g 2 * g 3 := by
    rw [show (4 : Int) = 0 + 1 + 1 + 1 + 1 from rfl, prI_s _ (by omega), prI_s _ (by omega), prI_s _ (by omega), prI_s _ (by omega), prI_0, Int.one_mul]
    rfl
  have a1 : 0 ≤ g 0 * g 1 ∧ g 0 * g 1 ≤ 65 * 65 := ⟨Int.mul_nonneg h0.1 h1.1, Int.mul_le_mul h0.2 h1.2 h1.1 (by omega)⟩
  have a2 : 0 ≤ g 0 * g 1 * g 2 ∧ g 0 * g 1 * g 2 ≤ 65 * 65 * 65 := ⟨Int.mul_nonneg a1.1 h2.1, Int.mul_le_mul a1.2 h2.2 h2.1 (by omega)⟩
  have a3 : 0 ≤ g 0 * g 1 * g 2 * g 3 ∧ g 0 * g 1 * g 2 * g 3 ≤ 65 * 65 * 65 * 65 := ⟨Int.mul_nonneg a2.1 h3.1, Int.mul_le_mul a2.2 h3.2 h3.1 (by omega)⟩
  rw [e]
  omega
/-- a rule's entries in a tuple; the rules of a tuple; is it first of rule (place) k -/
def eo (t : rt) (r c : Int) : Int := prI (fun f => ol t r f (cl c f)) 4
theorem eo_r (t : rt) (r c : Int) : 0 ≤ eo t r c ∧ eo t r c ≤ 17850625 := prI_r (fun f _ _ => ol_r t r f _)
def mbP (t : rt) (c p : Int) : Bool := decide (0 < eo t (tod t p) c)
def mb (t : rt) (c : Int) : Nat := bm (mbP t c) (tn t).toNat
theorem mb_lt {t : rt} (hw : twf t) (c : Int) : mb t c < 65536 := bm_pow _ (by have := hw.1; omega)
def qt (t : rt) (k c : Int) : Bool := decide (mb t c ≠ 0 ∧ lowb (mb t c) = k)
def lsC (t : rt) (k : Int) : Nat → List (Int × Int)
  | 0 => []
  | c + 1 => lsC t k c ++ (if qt t k (c : Int) then [((c : Int), k)] else [])
def lsK (t : rt) : Nat → List (Int × Int)
  | 0 => []
  | k + 1 => lsK t k ++ lsC t (k : Int) 1029
/-- all tuples, by number: code and place of the best -/
def TL (t : rt) : List (Int × Int) := lsK t (tn t).toNat
theorem lsC_len (t : rt) (k : Int) : ∀ c : Nat, ((lsC t k c).length : Int) = sm (fun c => if qt t k c then 1 else 0) c
  | 0 => rfl
  | c + 1 => by
    rw [lsC, List.length_append]
    have := lsC_len t k c
    show _ = sm _ c + (if qt t k (c : Int) then 1 else 0)
    split <;> simp <;> omega
theorem lsK_len (t : rt) : ∀ k : Nat, ((lsK t k).length : Int) = sm (fun k => sm (fun c => if qt t k c then 1 else 0) 1029) k
  | 0 => rfl
  | k + 1 => by
    rw [lsK, List.length_append]
    have := lsK_len t k
    have h2 := lsC_len t (k : Int) 1029
    show _ = sm _ k + sm (fun c => if qt t (k : Int) c then 1 else 0) 1029
    omega
theorem qt_one (t : rt) (c : Int) (k : Nat) : sm (fun k' => if qt t k' c then 1 else 0) k ≤ 1 := by
  by_cases h : 0 ≤ lowb (mb t c) ∧ lowb (mb t c) < k
  · have h2 : sm (fun k' => if qt t k' c then 1 else 0) k ≤ sm (fun k' => if k' = lowb (mb t c) then 1 else 0) k := by
      refine sm_le (fun i a b => ?_)
      by_cases e : i = lowb (mb t c)
      · rw [if_pos e]; split <;> decide
      · rw [if_neg (by unfold qt; simp only [decide_eq_true_eq]; exact fun z => e z.2.symm), if_neg e]; decide
    rw [sm_one h.1 h.2] at h2
    exact h2
  · rw [sm_congr (h := fun _ => 0) (fun i a b => if_neg (by unfold qt; simp only [decide_eq_true_eq]; intro z; omega)), sm_zero]
    decide
theorem ls_lt {t : rt} {k c : Nat} (hc : c < 1029) (hq : qt t (k : Int) (c : Int) = true) : (lsK t k ++ lsC t (k : Int) c).length < 1029 := by
  have e1 := lsK_len t k
  have e2 := lsC_len t (k : Int) c
  have h : sm (fun c' => sm (fun k' => if qt t k' c' then 1 else 0) k + (if c' < c then (if qt t (k : Int) c' then 1 else 0) else 0) + (if c' = (c : Int) then 1 else 0)) 1029 ≤ sm (fun _ => 1) 1029 := by
    refine sm_le (fun i a b => ?_)
    have h1 := qt_one t i (k + 1)
    change sm (fun k' => if qt t k' i then 1 else 0) k + (if qt t (k : Int) i then 1 else 0) ≤ 1 at h1
    by_cases e : i = (c : Int)
    · subst e
      rw [if_pos rfl, if_neg (by omega)]
      rw [if_pos hq] at h1
      omega
    · rw [if_neg e]
      have h0 : 0 ≤ sm (fun k' => if qt t k' i then 1 else 0) k := sm_nonneg (fun x _ _ => by split <;> decide)
      by_cases hq2 : qt t (k : Int) i = true
      · rw [if_pos hq2] at h1 ⊢
        split <;> omega
      · rw [if_neg hq2] at h1 ⊢
        split <;> omega
  rw [sm_add, sm_add, sm_one (by omega) (by omega), sm_const, ← sm_swap] at h
  have e3 : sm (fun c' => if c' < (c : Int) then (if qt t (k : Int) c' then 1 else 0) else 0) 1029 = sm (fun c' => if qt t (k : Int) c' then 1 else 0) c := by
    rw [show 1029 = c + (1029 - c) by omega, sm_split, sm_congr (g := fun i => if (c : Int) + i < (c : Int) then (if qt t (k : Int) ((c : Int) + i) then (1 : Int) else 0) else 0) (h := fun _ => 0) (fun i a b => if_neg (by omega)), sm_zero, sm_congr (g := fun c' => if c' < (c : Int) then (if qt t (k : Int) c' then (1 : Int) else 0) else 0) (h := fun c' => if qt t (k : Int) c' then 1 else 0) (fun i a b => if_pos b)]
    omega
  rw [e3] at h
  rw [List.length_append]
  omega
theorem lsC_mem {t : rt} {k : Int} : ∀ {c : Nat} {x : Int × Int}, x ∈ lsC t k c → (0 ≤ x.1 ∧ x.1 < c) ∧ x.2 = k ∧ qt t k x.1 = true
  | 0, x, h => by simp [lsC] at h
  | c + 1, x, h => by
    rw [lsC] at h
    rcases List.mem_append.mp h with h | h
    · have := lsC_mem h; exact ⟨by omega, this.2⟩
    · split at h
      · next hq =>
        rw [List.mem_singleton] at h
        subst h
        exact ⟨⟨by show (0 : Int) ≤ (c : Int); omega, by show (c : Int) < ((c + 1 : Nat) : Int); omega⟩, rfl, hq⟩
      · simp at h
theorem lsK_mem {t : rt} : ∀ {k : Nat} {x : Int × Int}, x ∈ lsK t k → (0 ≤ x.1 ∧ x.1 < 1029) ∧ (0 ≤ x.2 ∧ x.2 < k) ∧ qt t x.2 x.1 = true
  | 0, x, h => by simp [lsK] at h
  | k + 1, x, h => by
    rw [lsK] at h
    rcases List.mem_append.mp h with h | h
    · have := lsK_mem h; exact ⟨this.1, by omega, this.2.2⟩
    · have := lsC_mem h
      exact ⟨by omega, by omega, by rw [this.2.1]; exact this.2.2⟩
theorem lsK_len_le (t : rt) (k : Nat) : (lsK t k).length ≤ 1029 := by
  have e1 := lsK_len t k
  rw [sm_swap] at e1
  have : sm (fun j => sm (fun i => if qt t i j then 1 else 0) k) 1029 ≤ sm (fun _ => 1) 1029 := sm_le (fun i _ _ => qt_one t i k)
  rw [sm_const] at this
  omega
/-- the model's list of tuples -/
def LM (τ : fs_S) (l : List (Int × Int)) : Prop := τ 0 23 = (l.length : Int) ∧ ∀ (i : Nat) (x : Int × Int), l[i]? = some x → τ 14 (i : Int) = x.1 ∧ τ 15 (i : Int) = x.2
def LC (τ : fs_S) (t : rt) : Prop := ∀ r f len, 0 ≤ r → r < tn t → 0 ≤ f → f < 4 → 0 ≤ len → len < 7 → τ 13 (28 * r + 7 * f + len) = ol t r f len
def LB (τ : fs_S) (t : rt) : Prop := ∀ c, 0 ≤ c → c < 1029 → τ 16 c = ((mb t c : Nat) : Int)
def LV (τ : fs_S) (t : rt) : Prop := LC τ t ∧ LB τ t ∧ LM τ (TL t)
theorem LV.eq {σ τ : fs_S} {t : rt} (h : LV σ t) (h0 : τ 0 23 = σ 0 23) (e : ∀ k i, 13 ≤ k → k ≤ 16 → τ k i = σ k i) : LV τ t :=
  ⟨fun r f len a b c d g1 g2 => by rw [e _ _ (by omega) (by omega)]; exact h.1 r f len a b c d g1 g2, fun c a b => by rw [e _ _ (by omega) (by omega)]; exact h.2.1 c a b, h0.trans h.2.2.1, fun i x hx => by rw [e _ _ (by omega) (by omega), e _ _ (by omega) (by omega)]; exact h.2.2.2 i x hx⟩
theorem LM.push {σ τ : fs_S} {l : List (Int × Int)} {x : Int × Int} (h : LM σ l) (h0 : τ 0 23 = (l.length : Int) + 1) (h1 : τ 14 (l.length : Int) = x.1 ∧ τ 15 (l.length : Int) = x.2) (h2 : ∀ k i, k = 14 ∨ k = 15 → i ≠ (l.length : Int) → τ k i = σ k i) : LM τ (l ++ [x]) := by
  refine ⟨by rw [h0, List.length_append]; rfl, fun i y hy => ?_⟩
  by_cases e : i < l.length
  · rw [List.getElem?_append_left e] at hy
    rw [h2 _ _ (by omega) (by omega), h2 _ _ (by omega) (by omega)]
    exact h.2 i y hy
  · rw [List.getElem?_append_right (by omega)] at hy
    have : i - l.length = 0 := by
      have := (List.getElem?_eq_some_iff.mp hy).1
      simp at this; omega
    rw [this] at hy
    cases hy
    rw [show (i : Int) = (l.length : Int) by omega]
    exact h1
theorem mb_bit {t : rt} {c : Int} {i : Nat} (h : (mb t c).testBit i = true) : (i : Int) < tn t := by
  unfold mb at h
  rw [bm_bit] at h
  simp only [Bool.and_eq_true, decide_eq_true_eq] at h
  omega
/-- the code of the tuple in which a rule fits a packet -/
def cdO (t : rt) (r a b c d : Int) : Int := 147 * (6 - ((loF (wN 0) (tH t r 0) a.toNat 65 (tL t r 0) : Nat) : Int)) + 21 * (6 - ((loF (wN 1) (tH t r 1) b.toNat 65 (tL t r 1) : Nat) : Int)) + 3 * (6 - ((loF (wN 2) (tH t r 2) c.toNat 65 (tL t r 2) : Nat) : Int)) + 2 - ((loF (wN 3) (tH t r 3) d.toNat 65 (tL t r 3) : Nat) : Int)
def pcd (t : rt) (a b c d k : Int) : Int := if (tfit t a b c d).testBit k.toNat then cdO t (tod t k) a b c d else -6
def prb (P : Int → Int) (n : Int) : List (Int × Int) → Int → Int → Int × Int
  | [], fd, pb => (fd, pb)
  | x :: l, fd, pb => if x.2 < fd then prb P n l (min fd (lea (fun p => decide (P p = x.1)) n)) (pb + 1) else (fd, pb)
def aProbe (t : rt) (a b c d w : Int) : Int := if ((0 ≤ a ∧ a ≤ 63) ∧ (0 ≤ b ∧ b ≤ 63) ∧ (0 ≤ c ∧ c ≤ 63) ∧ 0 ≤ d ∧ d ≤ 3) ∧ 0 ≤ w ∧ w ≤ 2 then (if w = 1 then (prb (pcd t a b c d) (tn t) (TL t) (tn t) 0).2 else if w = 2 then (if (prb (pcd t a b c d) (tn t) (TL t) (tn t) 0).2 = 0 then -6 else (prb (pcd t a b c d) (tn t) (TL t) (tn t) 0).2 - 1) else if (prb (pcd t a b c d) (tn t) (TL t) (tn t) 0).1 = tn t then -6 else tod t (prb (pcd t a b c d) (tn t) (TL t) (tn t) 0).1) else -2
theorem loF_le (w hi x : Nat) : ∀ (n v : Nat), loF w hi x n v ≤ w
  | 0, _ => Nat.zero_le _
  | n + 1, v => by
    rw [loF]
    split
    · exact loF_le w hi x n _
    · exact laN_le _ _ _ _
/-- a rule at a place of a packet's mask fits it -/
theorem tfit_fit {t : rt} {a b c d : Int} {i : Nat} (h : (tfit t a b c d).testBit i = true) : (i : Int) < tn t ∧ (tlo t (tod t i) 0 ≤ a ∧ a ≤ thi t (tod t i) 0) ∧ (tlo t (tod t i) 1 ≤ b ∧ b ≤ thi t (tod t i) 1) ∧ (tlo t (tod t i) 2 ≤ c ∧ c ≤ thi t (tod t i) 2) ∧ tlo t (tod t i) 3 ≤ d ∧ d ≤ thi t (tod t i) 3 := by
  unfold tfit at h
  rw [Nat.testBit_and, Nat.testBit_and, Nat.testBit_and] at h
  simp only [Bool.and_eq_true] at h
  have q0 := tkm_bit t 0 a a i h.1.1.1
  have q1 := tkm_bit t 1 b b i h.1.1.2
  have q2 := tkm_bit t 2 c c i h.1.2
  have q3 := tkm_bit t 3 d d i h.2
  simp only [tkP, decide_eq_true_eq] at q0 q1 q2 q3
  exact ⟨q0.1, q0.2, q1.2, q2.2, q3.2⟩
def aTuple (t : rt) (i w : Int) : Int := if 0 ≤ w ∧ w ≤ 6 then (if 0 ≤ i ∧ i < ((TL t).length : Int) then (if w < 4 then cl ((TL t).getD i.toNat (0, 0)).1 w else if w = 4 then smI (fun r => eo t r ((TL t).getD i.toNat (0, 0)).1) (tn t) else if w = 5 then tod t ((TL t).getD i.toNat (0, 0)).2 else pop (mb t ((TL t).getD i.toNat (0, 0)).1)) else -6) else -2
theorem TL_at {t : rt} (h0 : 0 ≤ tn t) {i : Int} (a : 0 ≤ i) (b : i < ((TL t).length : Int)) : (TL t)[i.toNat]? = some ((TL t).getD i.toNat (0, 0)) ∧ (0 ≤ ((TL t).getD i.toNat (0, 0)).1 ∧ ((TL t).getD i.toNat (0, 0)).1 < 1029) ∧ (0 ≤ ((TL t).getD i.toNat (0, 0)).2 ∧ ((TL t).getD i.toNat (0, 0)).2 < tn t) := by
  have hl : i.toNat < (TL t).length := by omega
  have e : (TL t)[i.toNat]? = some ((TL t).getD i.toNat (0, 0)) := by
    rw [List.getD_eq_getElem?_getD, List.getElem?_eq_getElem hl]
    rfl
  have := lsK_mem (t := t) (k := (tn t).toNat) (List.mem_of_getElem? e)
  exact ⟨e, this.1, by omega⟩
