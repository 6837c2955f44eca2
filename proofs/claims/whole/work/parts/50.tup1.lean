/-! ===== the class: Tuples, what is kept ===== -/
def ky (c : Int) : Int := 256 * cl c 0 + 32 * cl c 1 + 4 * cl c 2 + cl c 3
theorem cl_code {c : Int} (h0 : 0 ≤ c) (h1 : c < 1029) : c = 147 * (6 - cl c 0) + 21 * (6 - cl c 1) + 3 * (6 - cl c 2) + (2 - cl c 3) ∧ (0 ≤ cl c 0 ∧ cl c 0 ≤ 6) ∧ (0 ≤ cl c 1 ∧ cl c 1 ≤ 6) ∧ (0 ≤ cl c 2 ∧ cl c 2 ≤ 6) ∧ 0 ≤ cl c 3 ∧ cl c 3 ≤ 2 := by
  have e0 : cl c 0 = 6 - c / 147 := rfl
  have e1 : cl c 1 = 6 - c / 21 % 7 := rfl
  have e2 : cl c 2 = 6 - c / 3 % 7 := rfl
  have e3 : cl c 3 = 2 - c % 3 := rfl
  omega
theorem ky_r {c : Int} (h0 : 0 ≤ c) (h1 : c < 1029) : 0 ≤ ky c ∧ ky c < 2048 := by
  have := cl_code h0 h1
  unfold ky
  omega
theorem ky_inj {c d : Int} (h0 : 0 ≤ c) (h1 : c < 1029) (g0 : 0 ≤ d) (g1 : d < 1029) (h : ky c = ky d) : c = d := by
  have a := cl_code h0 h1
  have b := cl_code g0 g1
  unfold ky at h
  omega
def EN (t : rt) (P c : Nat) (x : Int) : Int := sm (fun p => eo t (tod t p) x) P + (if x < (c : Int) then eo t (tod t (P : Int)) x else 0)
def MN (t : rt) (P c : Nat) (x : Int) : Int := sm (fun p => if mbP t x p then 1 else 0) P + (if x < (c : Int) ∧ mbP t x (P : Int) = true then 1 else 0)
def TLp (t : rt) (P c : Nat) : List (Int × Int) := lsK t P ++ lsC t (P : Int) c
def TS (σ : fs_S) (t : rt) (P c : Nat) : Prop := σ 62 1 = ((TLp t P c).length : Int) ∧ (∀ (i : Nat) (x : Int × Int), (TLp t P c)[i]? = some x → σ 66 (i : Int) = ky x.1 ∧ σ 64 (i : Int) = x.2 ∧ σ 63 (i : Int) = EN t P c x.1 ∧ σ 65 (i : Int) = MN t P c x.1 ∧ σ 67 (ky x.1) = (i : Int)) ∧ (∀ x, 0 ≤ x → x < 1029 → MN t P c x = 0 → σ 67 (ky x) = -1)
theorem EN_s (t : rt) (P c : Nat) (x : Int) : EN t P (c + 1) x = EN t P c x + (if x = (c : Int) then eo t (tod t (P : Int)) (c : Int) else 0) := by
  unfold EN
  by_cases e : x = (c : Int)
  · rw [if_pos e, if_pos (by omega), if_neg (by omega), e]; omega
  · rw [if_neg e]
    by_cases z : x < (c : Int)
    · rw [if_pos (by omega), if_pos z]; omega
    · rw [if_neg (by omega), if_neg z]; omega
theorem MN_s (t : rt) (P c : Nat) (x : Int) : MN t P (c + 1) x = MN t P c x + (if x = (c : Int) ∧ mbP t (c : Int) (P : Int) = true then 1 else 0) := by
  unfold MN
  by_cases e : x = (c : Int)
  · subst e
    by_cases z : mbP t (c : Int) (P : Int) = true
    · rw [if_pos ⟨by omega, z⟩, if_neg (by omega), if_pos ⟨rfl, z⟩]; omega
    · rw [if_neg (fun q => z q.2), if_neg (by omega), if_neg (fun q => z q.2)]; omega
  · rw [if_neg (show ¬ (x = (c : Int) ∧ mbP t (c : Int) (P : Int) = true) from fun q => e q.1)]
    by_cases z : x < (c : Int) ∧ mbP t x (P : Int) = true
    · rw [if_pos ⟨by omega, z.2⟩, if_pos z]; omega
    · rw [if_neg (fun q => z ⟨by omega, q.2⟩), if_neg z]; omega
theorem MN_pos (t : rt) (P c : Nat) (x : Int) : 0 ≤ MN t P c x := by
  unfold MN
  have : 0 ≤ sm (fun p => if mbP t x p then 1 else 0) P := sm_nonneg (fun i _ _ => by split <;> decide)
  split <;> omega
theorem sm_ind {g : Int → Bool} : ∀ {n : Nat}, sm (fun p => if g p then 1 else 0) n = 0 → ∀ j : Nat, j < n → g (j : Int) = false
  | 0, _, j, hj => by omega
  | n + 1, h, j, hj => by
    change sm (fun p => if g p then 1 else 0) n + (if g (n : Int) then 1 else 0) = 0 at h
    have p0 : 0 ≤ sm (fun p => if g p then 1 else 0) n := sm_nonneg (fun i _ _ => by split <;> decide)
    cases hg : g (n : Int) with
    | true => rw [hg, if_pos rfl] at h; omega
    | false =>
      rw [hg] at h
      by_cases e : j = n
      · rw [e]; exact hg
      · exact sm_ind (g := g) (n := n) (by simpa using h) j (by omega)
theorem sm_ind1 {g : Int → Bool} {n j : Nat} (hj : j < n) (hg : g (j : Int) = true) : 1 ≤ sm (fun p => if g p then 1 else 0) n := by
  have := sm_term (g := fun p => if g p then 1 else 0) (n := n) (fun i _ _ => by split <;> decide) (j := (j : Int)) (by omega) (by omega)
  rw [if_pos hg] at this
  exact this
theorem qt_iff {t : rt} (hw : twf t) {k : Nat} (hk : (k : Int) < tn t) (c : Int) : qt t (k : Int) c = true ↔ (mbP t c (k : Int) = true ∧ ∀ j : Nat, j < k → mbP t c (j : Int) = false) := by
  have hm := mb_lt hw c
  have bit : ∀ i : Nat, (i : Int) < tn t → (mb t c).testBit i = mbP t c (i : Int) := fun i hi => by
    unfold mb
    rw [bm_bit, decide_eq_true (by omega), Bool.true_and]
  unfold qt
  rw [decide_eq_true_eq]
  constructor
  · rintro ⟨h1, h2⟩
    obtain ⟨j, e, hj, b1, b2⟩ := lowb_spec hm h1
    have : j = k := by omega
    subst this
    exact ⟨by rw [← bit _ hk]; exact b1, fun i hi => by rw [← bit _ (by omega)]; exact b2 i hi⟩
  · rintro ⟨h1, h2⟩
    have h0 : mb t c ≠ 0 := fun z => by
      have q := bit k hk
      rw [z, Nat.zero_testBit, h1] at q
      cases q
    obtain ⟨j, e, hj, b1, b2⟩ := lowb_spec hm h0
    have jt := mb_bit b1
    rw [bit j jt] at b1
    refine ⟨h0, ?_⟩
    rw [e]
    rcases Nat.lt_trichotomy j k with z | z | z
    · rw [h2 j z] at b1; cases b1
    · omega
    · have := b2 k z
      rw [bit k hk, h1] at this
      cases this
theorem lsC_in {t : rt} {k : Int} {c : Nat} (hq : qt t k (c : Int) = true) : ∀ {n : Nat}, c < n → ((c : Int), k) ∈ lsC t k n
  | 0, h => by omega
  | n + 1, h => by
    rw [lsC, List.mem_append]
    by_cases e : c = n
    · right; subst e; rw [if_pos hq]; exact List.mem_singleton.mpr rfl
    · left; exact lsC_in hq (by omega)
theorem lsK_in {t : rt} {p c : Nat} (hq : qt t (p : Int) (c : Int) = true) (hc : c < 1029) : ∀ {k : Nat}, p < k → ((c : Int), (p : Int)) ∈ lsK t k
  | 0, h => by omega
  | k + 1, h => by
    rw [lsK, List.mem_append]
    by_cases e : p = k
    · right; subst e; exact lsC_in hq hc
    · left; exact lsK_in hq hc (by omega)
theorem least_b (g : Int → Bool) : ∀ n : Nat, (∀ j : Nat, j < n → g (j : Int) = false) ∨ ∃ p : Nat, p < n ∧ g (p : Int) = true ∧ ∀ j : Nat, j < p → g (j : Int) = false
  | 0 => Or.inl (fun j h => by omega)
  | n + 1 => by
    rcases least_b g n with h | ⟨p, h1, h2⟩
    · cases hg : g (n : Int) with
      | true => exact Or.inr ⟨n, by omega, hg, h⟩
      | false => exact Or.inl (fun j hj => by by_cases e : j = n; rw [e]; exact hg; exact h j (by omega))
    · exact Or.inr ⟨p, by omega, h2⟩
theorem TLp_in {t : rt} (hw : twf t) {P c : Nat} (hP : (P : Int) < tn t) {x : Int} (h0 : 0 ≤ x) (h1 : x < 1029) (hm : MN t P c x ≠ 0) : ∃ (i : Nat) (y : Int × Int), (TLp t P c)[i]? = some y ∧ y.1 = x := by
  have mem : ∃ y ∈ TLp t P c, y.1 = x := by
    rcases least_b (mbP t x) P with h | ⟨p, a1, a2, a3⟩
    · have e : sm (fun p => if mbP t x p then 1 else 0) P = 0 := by
        rw [sm_congr (h := fun _ => 0) (fun i a b => by have := h i.toNat (by omega); rw [Int.toNat_of_nonneg a] at this; rw [this]; rfl), sm_zero]
      unfold MN at hm
      rw [e] at hm
      by_cases z : x < (c : Int) ∧ mbP t x (P : Int) = true
      · refine ⟨(x, (P : Int)), ?_, rfl⟩
        unfold TLp
        rw [List.mem_append]
        right
        have q := lsC_in (t := t) (k := (P : Int)) (c := x.toNat) (n := c) (by rw [Int.toNat_of_nonneg h0]; exact (qt_iff hw hP x).mpr ⟨z.2, h⟩) (by omega)
        rw [Int.toNat_of_nonneg h0] at q
        exact q
      · rw [if_neg z] at hm; exact absurd rfl hm
    · refine ⟨(x, (p : Int)), ?_, rfl⟩
      unfold TLp
      rw [List.mem_append]
      left
      have q := lsK_in (t := t) (p := p) (c := x.toNat) (k := P) (by rw [Int.toNat_of_nonneg h0]; exact (qt_iff hw (by omega) x).mpr ⟨a2, a3⟩) (by omega) a1
      rw [Int.toNat_of_nonneg h0] at q
      exact q
  obtain ⟨y, hy, e⟩ := mem
  obtain ⟨i, hi⟩ := List.getElem?_of_mem hy
  exact ⟨i, y, hi, e⟩
theorem TLp_mem {t : rt} (hw : twf t) {P c : Nat} (hP : (P : Int) < tn t) (hc : c ≤ 1029) {i : Nat} {y : Int × Int} (h : (TLp t P c)[i]? = some y) : (0 ≤ y.1 ∧ y.1 < 1029) ∧ 1 ≤ MN t P c y.1 := by
  have hy := List.mem_of_getElem? h
  unfold TLp at hy
  rcases List.mem_append.mp hy with z | z
  · obtain ⟨a, b, q⟩ := lsK_mem z
    refine ⟨a, ?_⟩
    rw [← Int.toNat_of_nonneg b.1] at q
    have q2 := ((qt_iff hw (by omega) y.1).mp q).1
    have s := sm_ind1 (g := mbP t y.1) (n := P) (j := y.2.toNat) (by omega) q2
    unfold MN
    split <;> omega
  · obtain ⟨a, b, q⟩ := lsC_mem z
    refine ⟨by omega, ?_⟩
    have q2 := ((qt_iff hw hP y.1).mp q).1
    unfold MN
    rw [if_pos ⟨a.2, q2⟩]
    have : 0 ≤ sm (fun p => if mbP t y.1 p then 1 else 0) P := sm_nonneg (fun i _ _ => by split <;> decide)
    omega
theorem EN_0 {t : rt} {P c : Nat} (h : MN t P c (c : Int) = 0) : EN t P c (c : Int) = 0 := by
  unfold MN at h
  rw [if_neg (by omega)] at h
  have q := sm_ind (g := mbP t (c : Int)) (n := P) (by omega)
  unfold EN
  rw [if_neg (by omega), sm_congr (h := fun _ => 0) (fun i a b => ?_), sm_zero]
  · rfl
  · have z := q i.toNat (by omega)
    rw [Int.toNat_of_nonneg a] at z
    unfold mbP at z
    have e := (eo_r t (tod t i) (c : Int)).1
    have z2 := of_decide_eq_false z
    omega
theorem TLp_s {t : rt} (hw : twf t) {P c : Nat} (hP : (P : Int) < tn t) : TLp t P (c + 1) = TLp t P c ++ (if mbP t (c : Int) (P : Int) = true ∧ MN t P c (c : Int) = 0 then [((c : Int), (P : Int))] else []) := by
  unfold TLp
  rw [lsC, List.append_assoc]
  have e : (qt t (P : Int) (c : Int) = true) ↔ (mbP t (c : Int) (P : Int) = true ∧ MN t P c (c : Int) = 0) := by
    rw [qt_iff hw hP]
    unfold MN
    rw [if_neg (show ¬ ((c : Int) < (c : Int) ∧ mbP t (c : Int) (P : Int) = true) by omega), Int.add_zero]
    constructor
    · rintro ⟨a, b⟩
      exact ⟨a, by rw [sm_congr (h := fun _ => 0) (fun i p q => by have := b i.toNat (by omega); rw [Int.toNat_of_nonneg p] at this; rw [this]; rfl), sm_zero]⟩
    · rintro ⟨a, b⟩
      exact ⟨a, sm_ind b⟩
  by_cases z : qt t (P : Int) (c : Int) = true
  · rw [if_pos z, if_pos (e.mp z)]
  · rw [if_neg z, if_neg (fun y => z (e.mpr y))]
theorem TS.skip {σ : fs_S} {t : rt} {P c : Nat} (hw : twf t) (hP : (P : Int) < tn t) (h : TS σ t P c) (h0 : eo t (tod t (P : Int)) (c : Int) = 0) : TS σ t P (c + 1) := by
  have hb : ¬ mbP t (c : Int) (P : Int) = true := by unfold mbP; rw [h0]; decide
  have e1 : TLp t P (c + 1) = TLp t P c := by rw [TLp_s hw hP, if_neg (fun z => hb z.1), List.append_nil]
  have e2 : ∀ x, EN t P (c + 1) x = EN t P c x := fun x => by rw [EN_s, h0]; split <;> omega
  have e3 : ∀ x, MN t P (c + 1) x = MN t P c x := fun x => by rw [MN_s, if_neg (fun z => hb z.2)]; omega
  unfold TS
  rw [e1]
  refine ⟨h.1, fun i x hx => ?_, fun x a b => ?_⟩
  · rw [e2, e3]; exact h.2.1 i x hx
  · rw [e3]; exact h.2.2 x a b
theorem TS.skips {σ : fs_S} {t : rt} {P : Nat} (hw : twf t) (hP : (P : Int) < tn t) : ∀ (n c : Nat), TS σ t P c → (∀ x : Nat, c ≤ x → x < c + n → eo t (tod t (P : Int)) (x : Int) = 0) → TS σ t P (c + n)
  | 0, c, h, _ => h
  | n + 1, c, h, h0 => TS.skip hw hP (TS.skips hw hP n c h (fun x a b => h0 x a (by omega))) (h0 (c + n) (by omega) (by omega))
theorem TS.eq {σ τ : fs_S} {t : rt} {P c : Nat} (h : TS σ t P c) (e0 : τ 62 1 = σ 62 1) (e : ∀ k i, 63 ≤ k → k ≤ 67 → τ k i = σ k i) : TS τ t P c := by
  refine ⟨e0.trans h.1, fun i x hx => ?_, fun x a b c => ?_⟩
  · rw [e _ _ (by omega) (by omega), e _ _ (by omega) (by omega), e _ _ (by omega) (by omega), e _ _ (by omega) (by omega), e _ _ (by omega) (by omega)]
    exact h.2.1 i x hx
  · rw [e _ _ (by omega) (by omega)]; exact h.2.2 x a b c
theorem TS.next {σ : fs_S} {t : rt} {P : Nat} (h : TS σ t P 1029) (hw : twf t) (hP : (P : Int) < tn t) : TS σ t (P + 1) 0 := by
  have e1 : TLp t (P + 1) 0 = TLp t P 1029 := by
    unfold TLp; rw [lsK]; exact List.append_nil _
  have e2 : ∀ x, 0 ≤ x → x < 1029 → EN t (P + 1) 0 x = EN t P 1029 x := fun x h0 hx => by
    unfold EN
    rw [if_neg (show ¬ x < ((0 : Nat) : Int) by omega), if_pos (show x < ((1029 : Nat) : Int) by omega)]
    show sm _ P + eo t (tod t (P : Int)) x + _ = _
    omega
  have e3 : ∀ x, 0 ≤ x → x < 1029 → MN t (P + 1) 0 x = MN t P 1029 x := fun x h0 hx => by
    unfold MN
    rw [if_neg (show ¬ (x < ((0 : Nat) : Int) ∧ mbP t x ((P + 1 : Nat) : Int) = true) by omega)]
    show sm _ P + (if mbP t x (P : Int) then 1 else 0) + 0 = _
    by_cases z : mbP t x (P : Int) = true
    · rw [if_pos z, if_pos ⟨by omega, z⟩]; omega
    · rw [if_neg z, if_neg (fun q => z q.2)]; omega
  unfold TS
  rw [e1]
  refine ⟨h.1, fun i x hx => ?_, fun x a b => ?_⟩
  · have m := (TLp_mem hw hP (Nat.le_refl _) hx).1
    rw [e2 _ m.1 m.2, e3 _ m.1 m.2]; exact h.2.1 i x hx
  · rw [e3 _ a b]; exact h.2.2 x a b
def frU (σ τ : fs_S) : Prop := ∀ k i, ¬ (k = 62 ∧ i = 1) → ¬ (63 ≤ k ∧ k ≤ 67) → τ k i = σ k i
theorem frU.trans {σ τ ρ : fs_S} (h : frU σ τ) (g : frU τ ρ) : frU σ ρ := fun k i a b => (g k i a b).trans (h k i a b)
theorem lsC_le {t : rt} {k : Int} {c : Nat} : ∀ (d : Nat), (lsC t k c).length ≤ (lsC t k (c + d)).length
  | 0 => Nat.le_refl _
  | d + 1 => by
    have := lsC_le (t := t) (k := k) (c := c) d
    rw [← Nat.add_assoc, lsC, List.length_append]
    omega
theorem TLp_len {t : rt} {P c : Nat} (hc : c ≤ 1029) : (TLp t P c).length ≤ 1029 := by
  have h1 := lsK_len_le t (P + 1)
  have h2 := lsC_le (t := t) (k := (P : Int)) (c := c) (1029 - c)
  rw [show c + (1029 - c) = 1029 by omega] at h2
  rw [lsK, List.length_append] at h1
  unfold TLp
  rw [List.length_append]
  omega
theorem TS.same {σ τ : fs_S} {t : rt} {P c i0 : Nat} {y : Int × Int} (hw : twf t) (hP : (P : Int) < tn t) (hc : c < 1029) (h : TS σ t P c) (hb : mbP t (c : Int) (P : Int) = true) (hM : MN t P c (c : Int) ≠ 0) (hi : (TLp t P c)[i0]? = some y) (hy : y.1 = (c : Int)) (h1 : τ 63 (i0 : Int) = σ 63 (i0 : Int) + eo t (tod t (P : Int)) (c : Int)) (h2 : τ 65 (i0 : Int) = σ 65 (i0 : Int) + 1) (hF : ∀ k i, ¬ ((k = 63 ∨ k = 65) ∧ i = (i0 : Int)) → τ k i = σ k i) : TS τ t P (c + 1) := by
  have e1 : TLp t P (c + 1) = TLp t P c := by rw [TLp_s hw hP, if_neg (fun z => hM z.2), List.append_nil]
  unfold TS
  rw [e1]
  refine ⟨(hF _ _ (by omega)).trans h.1, fun i x hx => ?_, fun x a b m => ?_⟩
  · obtain ⟨q1, q2, q3, q4, q5⟩ := h.2.1 i x hx
    rw [EN_s, MN_s, hF _ _ (by omega), hF 64 _ (by omega), hF 67 _ (by omega)]
    by_cases e : i = i0
    · subst e
      rw [hi] at hx
      cases hx
      rw [h1, h2, if_pos hy, if_pos ⟨hy, hb⟩, q3, q4]
      exact ⟨q1, q2, rfl, rfl, q5⟩
    · have ne : ¬ x.1 = (c : Int) := fun z => by
        have q6 := (h.2.1 i0 y hi).2.2.2.2
        rw [hy, ← z, q5] at q6
        omega
      rw [hF _ _ (by omega), hF _ _ (by omega), if_neg ne, if_neg (fun z => ne z.1), q3, q4]
      exact ⟨q1, q2, by omega, by omega, q5⟩
  · rw [MN_s] at m
    rw [hF _ _ (by omega)]
    refine h.2.2 x a b ?_
    have := MN_pos t P c x
    split at m <;> omega
theorem TS.new {σ τ : fs_S} {t : rt} {P c : Nat} (hw : twf t) (hP : (P : Int) < tn t) (hc : c < 1029) (h : TS σ t P c) (hb : mbP t (c : Int) (P : Int) = true) (hM : MN t P c (c : Int) = 0) (h0 : τ 62 1 = ((TLp t P c).length : Int) + 1) (h1 : τ 63 ((TLp t P c).length : Int) = eo t (tod t (P : Int)) (c : Int)) (h2 : τ 65 ((TLp t P c).length : Int) = 1) (h3 : τ 66 ((TLp t P c).length : Int) = ky (c : Int)) (h4 : τ 64 ((TLp t P c).length : Int) = (P : Int)) (h5 : τ 67 (ky (c : Int)) = ((TLp t P c).length : Int)) (hF : ∀ k i, ¬ (k = 62 ∧ i = 1) → ¬ (63 ≤ k ∧ k ≤ 66 ∧ i = ((TLp t P c).length : Int)) → ¬ (k = 67 ∧ i = ky (c : Int)) → τ k i = σ k i) : TS τ t P (c + 1) := by
  have e1 : TLp t P (c + 1) = TLp t P c ++ [((c : Int), (P : Int))] := by rw [TLp_s hw hP, if_pos ⟨hb, hM⟩]
  have e0 := EN_0 hM
  unfold TS
  rw [e1]
  refine ⟨by rw [h0, List.length_append]; rfl, fun i x hx => ?_, fun x a b m => ?_⟩
  · by_cases e : i < (TLp t P c).length
    · rw [List.getElem?_append_left e] at hx
      obtain ⟨q1, q2, q3, q4, q5⟩ := h.2.1 i x hx
      have mm := TLp_mem hw hP (by omega) hx
      have ne : ¬ x.1 = (c : Int) := fun z => by rw [z] at mm; omega
      have nk : ¬ ky x.1 = ky (c : Int) := fun z => ne (ky_inj mm.1.1 mm.1.2 (by omega) (by omega) z)
      rw [EN_s, MN_s, if_neg ne, if_neg (fun z => ne z.1), hF 66 _ (by omega) (by omega) (by omega), hF 64 _ (by omega) (by omega) (by omega), hF 63 _ (by omega) (by omega) (by omega), hF 65 _ (by omega) (by omega) (by omega), hF 67 _ (by omega) (by omega) (by omega)]
      exact ⟨q1, q2, by omega, by omega, q5⟩
    · rw [List.getElem?_append_right (by omega)] at hx
      have : i - (TLp t P c).length = 0 := by
        have := (List.getElem?_eq_some_iff.mp hx).1
        simp at this; omega
      rw [this] at hx
      cases hx
      rw [show (i : Int) = ((TLp t P c).length : Int) by omega, EN_s, MN_s, if_pos rfl, if_pos ⟨rfl, hb⟩, e0, hM]
      exact ⟨h3, h4, by omega, by omega, h5⟩
  · rw [MN_s] at m
    have := MN_pos t P c x
    have ne : ¬ x = (c : Int) := fun z => by rw [if_pos ⟨z, hb⟩] at m; omega
    have nk : ¬ ky x = ky (c : Int) := fun z => ne (ky_inj a b (by omega) (by omega) z)
    rw [hF 67 _ (by omega) (by omega) (by omega)]
    refine h.2.2 x a b ?_
    split at m <;> omega
set_option maxRecDepth 100000 in
set_option maxHeartbeats 3000000 in
theorem cK_put {σ : fs_S} {t : rt} {P c : Nat} (hw : twf t) (hP : (P : Int) < tn t) (hc : c < 1029) (hT : TS σ t P c) (hb : mbP t (c : Int) (P : Int) = true) : fs_C mX5_put 0 [.inr 62, .inl (ky (c : Int)), .inl (eo t (tod t (P : Int)) (c : Int)), .inl (P : Int)] σ (fun x τ => x = none ∧ TS τ t P (c + 1) ∧ frU σ τ) := by
  refine fs_C.intro [some (.inr 62), some (.inl (ky (c : Int))), some (.inl (eo t (tod t (P : Int)) (c : Int))), some (.inl (P : Int)), none] fs_oX5_put (Nat.le_of_ble_eq_true rfl) rfl ?_
  have kr := ky_r (c := (c : Int)) (by omega) (by omega)
  have fin : ∀ (S : fs_S) (i0 : Nat), i0 < 1029 → (∀ τ, τ 63 (i0 : Int) = S 63 (i0 : Int) + eo t (tod t (P : Int)) (c : Int) → τ 65 (i0 : Int) = S 65 (i0 : Int) + 1 → (∀ k i, ¬ ((k = 63 ∨ k = 65) ∧ i = (i0 : Int)) → τ k i = S k i) → TS τ t P (c + 1) ∧ frU σ τ) → fs_W (fs_Γ 0 (fun x τ => x = none ∧ TS τ t P (c + 1) ∧ frU σ τ)) mX5_put 80 [some (.inr 62), some (.inl (ky (c : Int))), some (.inl (eo t (tod t (P : Int)) (c : Int))), some (.inl (P : Int)), some (.inl (i0 : Int))] [] S := by
    intro S i0 hi ho
    refine fr_aload_n 81 dX5_put_80 rfl rfl ?_
    refine fr_getr 84 63 dX5_put_81 rfl fs_kX5_19 fs_l62 rfl ?_
    refine fr_iload 86 dX5_put_84 rfl rfl ?_
    refine fr_dup2 87 dX5_put_86 rfl ?_
    refine fr_iald 88 dX5_put_87 rfl fs_l63 (by omega) ?_
    refine fr_iload_n 89 dX5_put_88 rfl rfl ?_
    refine fr_iadd 90 dX5_put_89 rfl ?_
    refine fr_iast 91 dX5_put_90 rfl fs_l63 (by omega) ?_
    refine fr_aload_n 92 dX5_put_91 rfl rfl ?_
    refine fr_getr 95 65 dX5_put_92 rfl fs_kX5_26 fs_l62 rfl ?_
    refine fr_iload 97 dX5_put_95 rfl rfl ?_
    refine fr_dup2 98 dX5_put_97 rfl ?_
    refine fr_iald 99 dX5_put_98 rfl fs_l65 (by omega) ?_
    refine fr_iconst 100 dX5_put_99 rfl ?_
    refine fr_iadd 101 dX5_put_100 rfl ?_
    refine fr_iast 102 dX5_put_101 rfl fs_l65 (by omega) ?_
    refine fr_vret dX5_put_102 rfl ?_
    exact ⟨rfl, ho _ (by rw [fs_u_k _ _ (by decide), fs_u_eq]) (by rw [fs_u_eq, fs_u_k _ _ (by decide)]) (fun k i z => by rw [fs_u_ne _ (by omega), fs_u_ne _ (by omega)])⟩
  by_cases hM : MN t P c (c : Int) = 0
  · have e67 := hT.2.2 (c : Int) (by omega) (by omega) hM
    have qq : qt t (P : Int) (c : Int) = true := by
      rw [qt_iff hw hP]
      unfold MN at hM
      rw [if_neg (by omega)] at hM
      exact ⟨hb, sm_ind (by omega)⟩
    have hl := ls_lt hc qq
    change (TLp t P c).length < 1029 at hl
    have e1 := hT.1
    have tn := fun τ => TS.new (τ := τ) hw hP hc hT hb hM
    refine fr_aload_n 1 dX5_put_0 rfl rfl ?_
    refine fr_getr 4 67 dX5_put_1 rfl fs_kX5_32 fs_l62 rfl ?_
    refine fr_iload_n 5 dX5_put_4 rfl rfl ?_
    refine fr_iald 6 dX5_put_5 rfl fs_l67 (by omega) ?_
    refine fr_top e67 ?_
    refine fr_istore 8 [_, _, _, _, _] dX5_put_6 rfl (Nat.le_of_ble_eq_true rfl) rfl ?_
    refine fr_iload 10 dX5_put_8 rfl rfl ?_
    refine fr_if_ge 80 13 dX5_put_10 rfl rfl (by omega) (fun h10 => ?_) (fun h10 => ?_)
    · exact absurd h10 (by decide)
    · refine fr_aload_n 14 dX5_put_13 rfl rfl ?_
      refine fr_geti 17 1 dX5_put_14 rfl fs_kX5_15 rfl fs_l62 rfl ?_
      refine fr_top e1 ?_
      refine fr_sipush 20 dX5_put_17 rfl (by decide) ?_
      refine fr_icmp_lt 24 23 dX5_put_20 rfl rfl (by omega) (by omega) (fun h20 => ?_) (fun h20 => ?_)
      · refine fr_aload_n 25 dX5_put_24 rfl rfl ?_
        refine fr_geti 28 1 dX5_put_25 rfl fs_kX5_15 rfl fs_l62 rfl ?_
        refine fr_top e1 ?_
        refine fr_istore 30 [_, _, _, _, _] dX5_put_28 rfl (Nat.le_of_ble_eq_true rfl) rfl ?_
        refine fr_aload_n 31 dX5_put_30 rfl rfl ?_
        refine fr_dup 32 dX5_put_31 rfl ?_
        refine fr_geti 35 1 dX5_put_32 rfl fs_kX5_15 rfl fs_l62 rfl ?_
        refine fr_top e1 ?_
        refine fr_iconst 36 dX5_put_35 rfl ?_
        refine fr_iadd 37 dX5_put_36 rfl ?_
        refine fr_puti 40 1 dX5_put_37 rfl fs_kX5_15 fs_pX5_1 rfl fs_l62 rfl ?_
        refine fr_aload_n 41 dX5_put_40 rfl rfl ?_
        refine fr_getr 44 67 dX5_put_41 rfl fs_kX5_32 fs_l62 rfl ?_
        refine fr_iload_n 45 dX5_put_44 rfl rfl ?_
        refine fr_iload 47 dX5_put_45 rfl rfl ?_
        refine fr_iast 48 dX5_put_47 rfl fs_l67 (by omega) ?_
        refine fr_aload_n 49 dX5_put_48 rfl rfl ?_
        refine fr_getr 52 66 dX5_put_49 rfl fs_kX5_29 fs_l62 rfl ?_
        refine fr_iload 54 dX5_put_52 rfl rfl ?_
        refine fr_iload_n 55 dX5_put_54 rfl rfl ?_
        refine fr_iast 56 dX5_put_55 rfl fs_l66 (by omega) ?_
        refine fr_aload_n 57 dX5_put_56 rfl rfl ?_
        refine fr_getr 60 64 dX5_put_57 rfl fs_kX5_23 fs_l62 rfl ?_
        refine fr_iload 62 dX5_put_60 rfl rfl ?_
        refine fr_iload_n 63 dX5_put_62 rfl rfl ?_
        refine fr_iast 64 dX5_put_63 rfl fs_l64 (by omega) ?_
        refine fr_aload_n 65 dX5_put_64 rfl rfl ?_
        refine fr_getr 68 63 dX5_put_65 rfl fs_kX5_19 fs_l62 rfl ?_
        refine fr_iload 70 dX5_put_68 rfl rfl ?_
        refine fr_iconst 71 dX5_put_70 rfl ?_
        refine fr_iast 72 dX5_put_71 rfl fs_l63 (by omega) ?_
        refine fr_aload_n 73 dX5_put_72 rfl rfl ?_
        refine fr_getr 76 65 dX5_put_73 rfl fs_kX5_26 fs_l62 rfl ?_
        refine fr_iload 78 dX5_put_76 rfl rfl ?_
        refine fr_iconst 79 dX5_put_78 rfl ?_
        refine fr_iast 80 dX5_put_79 rfl fs_l65 (by omega) ?_
        refine fin _ _ hl (fun τ t1 t2 tF => ⟨tn τ ?_ ?_ ?_ ?_ ?_ ?_ (fun k i z1 z2 z3 => ?_), fun k i z1 z2 => ?_⟩)
        · rw [tF _ _ (by omega)]; unfold fs_u; simp
        · rw [t1]; unfold fs_u; simp
        · rw [t2]; unfold fs_u; simp
        · rw [tF _ _ (by omega)]; unfold fs_u; simp
        · rw [tF _ _ (by omega)]; unfold fs_u; simp
        · rw [tF _ _ (by omega)]; unfold fs_u; simp
        · rw [tF _ _ (by omega), fs_u_ne _ (by omega), fs_u_ne _ (by omega), fs_u_ne _ (by omega), fs_u_ne _ (by omega), fs_u_ne _ (by omega), fs_u_ne _ (by omega)]
        · rw [tF _ _ (by omega), fs_u_ne _ (by omega), fs_u_ne _ (by omega), fs_u_ne _ (by omega), fs_u_ne _ (by omega), fs_u_ne _ (by omega), fs_u_ne _ (by omega)]
      · refine fr_vret dX5_put_23 rfl ?_
        omega
  · obtain ⟨i0, y, hi, hy⟩ := TLp_in hw hP (by omega) (by omega) hM
    have hl := (List.getElem?_eq_some_iff.mp hi).1
    have h29 := TLp_len (t := t) (P := P) (c := c) (by omega)
    have e67 : σ 67 (ky (c : Int)) = (i0 : Int) := by rw [← hy]; exact (hT.2.1 i0 y hi).2.2.2.2
    refine fr_aload_n 1 dX5_put_0 rfl rfl ?_
    refine fr_getr 4 67 dX5_put_1 rfl fs_kX5_32 fs_l62 rfl ?_
    refine fr_iload_n 5 dX5_put_4 rfl rfl ?_
    refine fr_iald 6 dX5_put_5 rfl fs_l67 (by omega) ?_
    refine fr_top e67 ?_
    refine fr_istore 8 [_, _, _, _, _] dX5_put_6 rfl (Nat.le_of_ble_eq_true rfl) rfl ?_
    refine fr_iload 10 dX5_put_8 rfl rfl ?_
    refine fr_if_ge 80 13 dX5_put_10 rfl rfl (by omega) (fun h10 => ?_) (fun h10 => ?_)
    · exact fin _ _ (by omega) (fun τ t1 t2 tF => ⟨TS.same hw hP hc hT hb hM hi hy t1 t2 tF, fun k i z1 z2 => tF k i (by omega)⟩)
    · omega
