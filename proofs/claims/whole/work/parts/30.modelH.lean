/-! ===== the model: every public method, from a model that stands for A to one that stands for the next ===== -/
theorem IM.keep {σ τ : fs_S} {A A' : ab} (h : IM σ A) (hc : IMc τ A') (e1 : A'.1 = A.1) (e2 : A'.2.2.1 = A.2.2.1) (hF : ∀ k i, ¬ (k = 0 ∧ (i < 7 ∨ 27 < i)) → k ≠ 1 → k ≠ 2 → k ≠ 3 → k ≠ 4 → k ≠ 24 → k ≠ 25 → τ k i = σ k i) : IM τ A' := by
  obtain ⟨a0, a1, a2, a3, a4⟩ := h
  have g : ∀ i, 7 ≤ i → i ≤ 27 → τ 0 i = σ 0 i := fun i x y => hF 0 i (by omega) (by decide) (by decide) (by decide) (by decide) (by decide) (by decide)
  have e7 := g 7 (by decide) (by decide)
  have e8 := g 8 (by decide) (by decide)
  have e9 := g 9 (by decide) (by decide)
  have e10 := g 10 (by decide) (by decide)
  refine ⟨hc, ⟨by rw [e7]; exact a1.1, fun z => ?_⟩, ⟨by rw [e8]; exact a2.1, fun z => ?_⟩, ⟨by rw [e9]; exact a3.1, fun z => ?_⟩, ⟨by rw [e10]; exact a4.1, fun z => ?_⟩⟩
  · rw [e1]; exact (a1.2 (by omega)).eq (fun k i z => hF k i (by omega) (by omega) (by omega) (by omega) (by omega) (by omega) (by omega))
  · rw [e1]; exact (a2.2 (by omega)).eq (fun k i z => hF k i (by omega) (by omega) (by omega) (by omega) (by omega) (by omega) (by omega))
  · rw [e1]; exact (a3.2 (by omega)).eq (g _ (by decide) (by decide)) (fun k i z1 z2 => hF k i (by omega) (by omega) (by omega) (by omega) (by omega) (by omega) (by omega))
  · rw [e1, e2]; exact (a4.2 (by omega)).eq (g _ (by decide) (by decide)) (fun k i z1 z2 => hF k i (by omega) (by omega) (by omega) (by omega) (by omega) (by omega) (by omega))
theorem sDraft_wf {A : ab} (hw : awf A) (f lo hi : Int) : awf (sDraft A f lo hi) := by
  unfold sDraft
  split
  · next h =>
    refine ⟨hw.1, fun x a b => ?_, hw.2.2.1, hw.2.2.2⟩
    have := hw.2.1 x a b
    dsimp only
    by_cases e : x = f
    · rw [if_pos e, if_pos e, e]; omega
    · rw [if_neg e, if_neg e]; exact this
  · exact hw
theorem sRule_wf {A : ab} (hw : awf A) (rk ac : Int) : awf (sRule A rk ac) := by
  unfold sRule
  split
  · next h => exact nRule_wf hw h.1.1 h.1.2 h.2
  · exact hw
theorem sDrop_wf {A : ab} (hw : awf A) (r : Int) : awf (sDrop A r) := by
  unfold sDrop
  split
  · next h => exact ⟨tDrop_wf hw.1 h, hw.2⟩
  · exact hw
theorem sRank_wf {A : ab} (hw : awf A) (r k : Int) : awf (sRank A r k) := by
  unfold sRank
  split
  · next h => exact ⟨tRank_wf hw.1 h.2, hw.2⟩
  · exact hw
theorem sGrow_wf {A : ab} (hw : awf A) (w n : Int) : awf (sGrow A w n) := by
  unfold sGrow
  by_cases h : (0 ≤ w ∧ w ≤ 1) ∧ 1 ≤ n ∧ n ≤ (if w = 0 then 4 else 8)
  · rw [if_pos h]
    refine ⟨hw.1, hw.2.1, ?_, hw.2.2.2⟩
    have := hw.2.2.1
    dsimp only
    by_cases e : w = 0
    · rw [if_pos e] at h; rw [if_pos e, if_neg (by omega)]; omega
    · rw [if_neg e] at h; rw [if_neg e, if_pos (by omega)]; omega
  · rw [if_neg h]; exact hw
theorem sGrow_1 (A : ab) (w n : Int) : (sGrow A w n).1 = A.1 := by
  unfold sGrow
  by_cases h : (0 ≤ w ∧ w ≤ 1) ∧ 1 ≤ n ∧ n ≤ (if w = 0 then 4 else 8)
  · rw [if_pos h]
  · rw [if_neg h]
theorem sImage_wf {A : ab} (hw : awf A) (k : Int) : awf (sImage A k) := by
  unfold sImage
  split
  · next h =>
    refine ⟨hw.1, hw.2.1, hw.2.2.1, fun j a b => ?_⟩
    dsimp only
    by_cases e : j = k
    · rw [if_pos e]; exact ⟨Or.inr rfl, fun _ => ⟨hw.1, hw.2.2.1⟩⟩
    · rw [if_neg e]; exact hw.2.2.2 j a b
  · exact hw
theorem sRestore_wf {A : ab} (hw : awf A) (k : Int) : awf (sRestore A k) := by
  unfold sRestore
  split
  · next h =>
    have q := hw.2.2.2 k (by omega) (by omega)
    have q1 : (A.2.2.2 k).1 = 1 := by
      rcases q.1 with e | e
      · exact absurd e h.2
      · exact e
    have := q.2 q1
    exact ⟨this.1, hw.2.1, this.2, hw.2.2.2⟩
  · exact hw
theorem wM_draft {σ : fs_S} {A : ab} {f lo hi : Int} (hI : IM σ A) (hw : awf A) (h1 : rg f) (h2 : rg lo) (h3 : rg hi) : fs_C mX7_draft 2 [.inr 0, .inl f, .inl lo, .inl hi] σ (Q_M σ (aDraft f lo hi) (sDraft A f lo hi)) := by
  refine (cM_draft hI.1 hw h1 h2 h3).mono ?_
  rintro x τ ⟨hx, hc, hF⟩
  refine ⟨hx, hI.keep hc ?_ ?_ (fun k i a b c d e g h => hF k i (by omega)), fun k i z => hF k i (by omega)⟩
  · unfold sDraft; split <;> rfl
  · unfold sDraft; split <;> rfl
theorem wM_rule {σ : fs_S} {A : ab} {rk ac : Int} (hI : IM σ A) (hw : awf A) (h1 : rg rk) (h2 : rg ac) : fs_C mX7_rule 3 [.inr 0, .inl rk, .inl ac] σ (Q_M σ (aRule A rk ac) (sRule A rk ac)) := by
  refine (cM_rule hI.1 hw h1 h2).mono ?_
  rintro x τ ⟨hx, hc, hs, hF⟩
  rcases hs with ⟨rfl, e⟩ | hs
  · rw [e]; exact ⟨hx, hI, hF⟩
  · exact ⟨hx, IM.down hc hs, hF⟩
theorem wM_drop {σ : fs_S} {A : ab} {r : Int} (hI : IM σ A) (hw : awf A) (h1 : rg r) : fs_C mX7_drop 2 [.inr 0, .inl r] σ (Q_M σ (aDrop A r) (sDrop A r)) := by
  refine (cM_drop hI.1 hw h1).mono ?_
  rintro x τ ⟨hx, hc, hs, hF⟩
  rcases hs with ⟨rfl, e⟩ | hs
  · rw [e]; exact ⟨hx, hI, hF⟩
  · exact ⟨hx, IM.down hc hs, hF⟩
theorem wM_rank {σ : fs_S} {A : ab} {r k : Int} (hI : IM σ A) (hw : awf A) (h1 : rg r) (h2 : rg k) : fs_C mX7_rank 2 [.inr 0, .inl r, .inl k] σ (Q_M σ (aRank A r k) (sRank A r k)) := by
  refine (cM_rank hI.1 hw h1 h2).mono ?_
  rintro x τ ⟨hx, hc, hs, hF⟩
  rcases hs with ⟨rfl, e⟩ | hs
  · rw [e]; exact ⟨hx, hI, hF⟩
  · exact ⟨hx, IM.down hc hs, hF⟩
theorem wM_restore {σ : fs_S} {A : ab} {k : Int} (hI : IM σ A) (hw : awf A) (h1 : rg k) : fs_C mX7_restore 1 [.inr 0, .inl k] σ (Q_M σ (aRestore A k) (sRestore A k)) := by
  refine (cM_restore hI.1 hw h1).mono ?_
  rintro x τ ⟨hx, hc, hs, hF⟩
  rcases hs with ⟨rfl, e⟩ | hs
  · rw [e]; exact ⟨hx, hI, hF⟩
  · exact ⟨hx, IM.down hc hs, hF⟩
theorem wM_image {σ : fs_S} {A : ab} {k : Int} (hI : IM σ A) (hw : awf A) (h1 : rg k) : fs_C mX7_image 1 [.inr 0, .inl k] σ (Q_M σ (aImage k) (sImage A k)) := by
  refine (cM_image hI.1 hw h1).mono ?_
  rintro x τ ⟨hx, hc, hF⟩
  refine ⟨hx, hI.keep hc ?_ ?_ (fun k i a b c d e g h => hF k i (by omega) (by omega)), fun k i z => hF k i (by omega) (by omega)⟩
  · unfold sImage; split <;> rfl
  · unfold sImage; split <;> rfl
theorem wM_grow {σ : fs_S} {A : ab} {w n : Int} (hI : IM σ A) (hw : awf A) (h1 : rg w) (h2 : rg n) : fs_C mX7_grow 1 [.inr 0, .inl w, .inl n] σ (Q_M σ (aGrow A w n) (sGrow A w n)) := by
  refine (cM_grow hI.1 hw h1 h2).mono ?_
  rintro x τ ⟨hx, hc, hs, hF⟩
  rcases hs with ⟨rfl, e⟩ | hs
  · rw [e]; exact ⟨hx, hI, fun _ _ _ => rfl⟩
  · refine ⟨hx, ?_, fun k i z => hF k i (by omega)⟩
    have e1 : (sGrow A w n).1 = A.1 := sGrow_1 A w n
    obtain ⟨a0, a1, a2, a3, a4⟩ := hI
    have e7 : τ 0 7 = σ 0 7 := hF _ _ (by decide)
    have e8 : τ 0 8 = σ 0 8 := hF _ _ (by decide)
    have e9 : τ 0 9 = σ 0 9 := hF _ _ (by decide)
    refine ⟨hc, ⟨by rw [e7]; exact a1.1, fun z => ?_⟩, ⟨by rw [e8]; exact a2.1, fun z => ?_⟩, ⟨by rw [e9]; exact a3.1, fun z => ?_⟩, ⟨Or.inl hs, fun z => by rw [hs] at z; omega⟩⟩
    · rw [e1]; exact (a1.2 (by omega)).eq (fun k i z => hF k i (by omega))
    · rw [e1]; exact (a2.2 (by omega)).eq (fun k i z => hF k i (by omega))
    · rw [e1]; exact (a3.2 (by omega)).eq (hF _ _ (by decide)) (fun k i z1 z2 => hF k i (by omega))
theorem wM_first {σ : fs_S} {A : ab} {a b c d : Int} (hI : IM σ A) (hw : awf A) (h1 : rg a) (h2 : rg b) (h3 : rg c) (h4 : rg d) : fs_C mX7_first 4 [.inr 0, .inl a, .inl b, .inl c, .inl d] σ (Q_M σ (aFirst A.1 a b c d) A) := by
  refine (cM_first hw.1 hI.1.1 hI.2.1.1 hI.2.1.2 h1 h2 h3 h4).mono ?_
  rintro x τ ⟨hx, hs⟩
  rcases hs with rfl | ⟨hO, h7, hF⟩
  · exact ⟨hx, hI, fun _ _ _ => rfl⟩
  · exact ⟨hx, hI.o hw hO h7 hF, fun k i z => hF k i (by omega) (by omega) (by omega)⟩
theorem wM_sw {σ : fs_S} {A : ab} {v : Int} (hI : IM σ A) (hw : awf A) (x : Option Int) (τ : fs_S) (h : Q_swA A.1 σ v x τ) : Q_M σ v A x τ := by
  obtain ⟨hx, hs⟩ := h
  rcases hs with rfl | ⟨hA, hO, h7, h8, hF⟩
  · exact ⟨hx, hI, fun _ _ _ => rfl⟩
  · exact ⟨hx, hI.s hw hA hO h7 h8 hF, fun k i z => hF k i (by omega) (by omega)⟩
theorem wM_wins {σ : fs_S} {A : ab} {r : Int} (hI : IM σ A) (hw : awf A) (h1 : rg r) : fs_C mX7_wins 4 [.inr 0, .inl r] σ (Q_M σ (aWins A.1 r) A) :=
  (cM_wins hw.1 hI.1.1 hI.2.1.1 hI.2.1.2 hI.2.2.1.1 hI.2.2.1.2 h1).mono (wM_sw hI hw)
theorem wM_idle {σ : fs_S} {A : ab} {r : Int} (hI : IM σ A) (hw : awf A) (h1 : rg r) : fs_C mX7_idle 4 [.inr 0, .inl r] σ (Q_M σ (aIdle A.1 r) A) :=
  (cM_idle hw.1 hI.1.1 hI.2.1.1 hI.2.1.2 hI.2.2.1.1 hI.2.2.1.2 h1).mono (wM_sw hI hw)
theorem wM_packets {σ : fs_S} {A : ab} {r : Int} (hI : IM σ A) (hw : awf A) (h1 : rg r) : fs_C mX7_packets 4 [.inr 0, .inl r] σ (Q_M σ (aPackets A.1 r) A) :=
  (cM_packets hw.1 hI.1.1 hI.2.1.1 hI.2.1.2 hI.2.2.1.1 hI.2.2.1.2 h1).mono (wM_sw hI hw)
theorem wM_told {σ : fs_S} {A : ab} {r w : Int} (hI : IM σ A) (hw : awf A) (h1 : rg r) (h2 : rg w) : fs_C mX7_told 2 [.inr 0, .inl r, .inl w] σ (Q_M σ (aTold A.1 r w) A) :=
  (cM_told hw.1 hI.1.1 h1 h2).mono (by rintro x τ ⟨hx, rfl⟩; exact ⟨hx, hI, fun _ _ _ => rfl⟩)
theorem wM_overlap {σ : fs_S} {A : ab} {r w : Int} (hI : IM σ A) (hw : awf A) (h1 : rg r) (h2 : rg w) : fs_C mX7_overlap 2 [.inr 0, .inl r, .inl w] σ (Q_M σ (aOverlap A.1 r w) A) :=
  (cM_overlap hw.1 hI.1.1 h1 h2).mono (by rintro x τ ⟨hx, rfl⟩; exact ⟨hx, hI, fun _ _ _ => rfl⟩)
theorem wM_covered {σ : fs_S} {A : ab} {r : Int} (hI : IM σ A) (hw : awf A) (h1 : rg r) : fs_C mX7_covered 2 [.inr 0, .inl r] σ (Q_M σ (aCovered A.1 r) A) :=
  (cM_covered hw.1 hI.1.1 h1).mono (by rintro x τ ⟨hx, rfl⟩; exact ⟨hx, hI, fun _ _ _ => rfl⟩)
theorem wM_split {σ : fs_S} {A : ab} {r f : Int} (hI : IM σ A) (hw : awf A) (h1 : rg r) (h2 : rg f) : fs_C mX7_split 4 [.inr 0, .inl r, .inl f] σ (Q_M σ (aSplit A.1 r f) A) :=
  (cM_split hw.1 hI.1.1 h1 h2).mono (by rintro x τ ⟨hx, rfl⟩; exact ⟨hx, hI, fun _ _ _ => rfl⟩)
theorem wM_prefix {σ : fs_S} {A : ab} {r f i w : Int} (hI : IM σ A) (hw : awf A) (h1 : rg r) (h2 : rg f) (h3 : rg i) (h4 : rg w) : fs_C mX7_prefix 3 [.inr 0, .inl r, .inl f, .inl i, .inl w] σ (Q_M σ (aPrefix A.1 r f i w) A) :=
  (cM_prefix hw.1 hI.1.1 h1 h2 h3 h4).mono (by rintro x τ ⟨hx, rfl⟩; exact ⟨hx, hI, fun _ _ _ => rfl⟩)
theorem wM_tuple {σ : fs_S} {A : ab} {i w : Int} (hI : IM σ A) (hw : awf A) (h1 : rg i) (h2 : rg w) : fs_C mX7_tuple 4 [.inr 0, .inl i, .inl w] σ (Q_M σ (aTuple A.1 i w) A) := by
  refine (cM_tuple hw.1 hI.1.1 hI.2.1.1 hI.2.1.2 hI.2.2.2.1.1 hI.2.2.2.1.2 h1 h2).mono ?_
  rintro x τ ⟨hx, hs⟩
  rcases hs with rfl | ⟨hV, hO, h7, h9, hF⟩
  · exact ⟨hx, hI, fun _ _ _ => rfl⟩
  · exact ⟨hx, hI.l hw hV hO h7 h9 (fun k i z1 z2 => hF k i (by omega) z2), fun k i z => hF k i (by omega) (by omega)⟩
theorem wM_probe {σ : fs_S} {A : ab} {a b c d w : Int} (hI : IM σ A) (hw : awf A) (h1 : rg a) (h2 : rg b) (h3 : rg c) (h4 : rg d) (h5 : rg w) : fs_C mX7_probe 4 [.inr 0, .inl a, .inl b, .inl c, .inl d, .inl w] σ (Q_M σ (aProbe A.1 a b c d w) A) := by
  refine (cM_probe hw.1 hI.1.1 hI.2.1.1 hI.2.1.2 hI.2.2.2.1.1 hI.2.2.2.1.2 h1 h2 h3 h4 h5).mono ?_
  rintro x τ ⟨hx, hs⟩
  rcases hs with rfl | ⟨hV, hO, h7, h9, hF⟩
  · exact ⟨hx, hI, fun _ _ _ => rfl⟩
  · exact ⟨hx, hI.l hw hV hO h7 h9 hF, fun k i z => hF k i (by omega) (by omega)⟩
theorem wM_tree {σ : fs_S} {A : ab} {w : Int} (hI : IM σ A) (hw : awf A) (h1 : rg w) : fs_C mX7_tree 4 [.inr 0, .inl w] σ (Q_M σ (aTree A.1 A.2.2.1.1 A.2.2.1.2 w) A) := by
  refine (cM_tree hw.1 hI.1.1 hI.1.2.2.1.1 hI.1.2.2.1.2 hw.2.2.1.1 hw.2.2.1.2 hI.2.1.1 hI.2.1.2 hI.2.2.2.2.1 hI.2.2.2.2.2 h1).mono ?_
  rintro x τ ⟨hx, hs⟩
  rcases hs with rfl | ⟨hV, hO, h7, h9, hF⟩
  · exact ⟨hx, hI, fun _ _ _ => rfl⟩
  · exact ⟨hx, hI.g hw hV hO h7 h9 hF, fun k i z => hF k i (by omega) (by omega) (by omega)⟩
theorem wM_walk {σ : fs_S} {A : ab} {a b c d w : Int} (hI : IM σ A) (hw : awf A) (h1 : rg a) (h2 : rg b) (h3 : rg c) (h4 : rg d) (h5 : rg w) : fs_C mX7_walk 4 [.inr 0, .inl a, .inl b, .inl c, .inl d, .inl w] σ (Q_M σ (aWalk A.1 A.2.2.1.1 A.2.2.1.2 a b c d w) A) := by
  refine (cM_walk hw.1 hI.1.1 hI.1.2.2.1.1 hI.1.2.2.1.2 hw.2.2.1.1 hw.2.2.1.2 hI.2.1.1 hI.2.1.2 hI.2.2.2.2.1 hI.2.2.2.2.2 h1 h2 h3 h4 h5).mono ?_
  rintro x τ ⟨hx, hs⟩
  rcases hs with rfl | ⟨hV, hO, h7, h9, hF⟩
  · exact ⟨hx, hI, fun _ _ _ => rfl⟩
  · exact ⟨hx, hI.g hw hV hO h7 h9 hF, fun k i z => hF k i (by omega) (by omega) (by omega)⟩
