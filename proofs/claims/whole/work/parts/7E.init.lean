/-! ===== what stands behind the two constructors ===== -/
def t0 : rt := (0, fun _ _ => 0, fun _ _ => 0, fun _ => 0, fun _ => 0)
def A0 : ab := (t0, (fun _ => 0, gr), (2, 6), fun _ => (0, t0, 0, 0))
theorem t0_wf : twf t0 := ⟨⟨Int.le_refl _, by show (0 : Int) ≤ 16; decide⟩, fun r f a b => by change r < 0 at b; omega, fun r a b => by change r < 0 at b; omega⟩
theorem A0_wf : awf A0 := by
  refine ⟨t0_wf, fun f a b => ?_, ?_, fun k a b => ?_⟩
  · have := gr_r f
    show 0 ≤ (0 : Int) ∧ (0 : Int) ≤ gr f ∧ gr f ≤ gr f
    omega
  · show (1 ≤ (2 : Int) ∧ (2 : Int) ≤ 4) ∧ 1 ≤ (6 : Int) ∧ (6 : Int) ≤ 8
    omega
  · exact ⟨Or.inl rfl, fun z => by change (0 : Int) = 1 at z; omega⟩
theorem IC0 {τ : fs_S} (h : ∀ k i, 26 ≤ k → τ k i = σ0 k i) : IC τ A0 := by
  have z : ∀ k i, 26 ≤ k → k ≠ 48 → k ≠ 62 → k ≠ 74 → k ≠ 81 → τ k i = 0 := fun k i a b c d e => (h k i a).trans (σ0_z (by omega) b c d e i)
  refine ⟨⟨⟨z _ _ (by decide) (by decide) (by decide) (by decide) (by decide), fun r f a b => by change r < 0 at b; omega, fun r a b => by change r < 0 at b; omega⟩, ⟨fun p a b => by change p < 0 at b; omega, fun r a b => by change r < 0 at b; omega⟩, fun f p a b c d => ?_, fun f a b => ⟨z _ _ (by decide) (by decide) (by decide) (by decide) (by decide), h _ _ (by decide)⟩, ⟨h _ _ (by decide), h _ _ (by decide)⟩, fun k a b => ⟨z _ _ (by omega) (by omega) (by omega) (by omega) (by omega), fun y => by change (0 : Int) = 1 at y; omega⟩⟩, ⟨Or.inr (h _ _ (by decide)), fun y => ?_⟩, ⟨Or.inr (h _ _ (by decide)), fun y => ?_⟩⟩
  · rw [z _ _ (by omega) (by omega) (by omega) (by omega) (by omega)]; rfl
  · have := h 48 0 (by decide)
    rw [y] at this
    exact absurd this (by decide)
  · have := h 62 0 (by decide)
    rw [y] at this
    exact absurd this (by decide)
theorem IM0 {τ : fs_S} (h1 : ∀ f, 0 ≤ f → f < 4 → τ 1 (64 + f) = 0 ∧ τ 2 (64 + f) = gr f) (h2 : ∀ k i, ¬ ((k = 1 ∨ k = 2) ∧ 64 ≤ i ∧ i < 68) → τ k i = σ0 k i) : IM τ A0 := by
  have z : ∀ k i, 3 ≤ k → k < 26 → τ k i = 0 := fun k i a b => (h2 k i (by omega)).trans (σ0_z (by omega) (by omega) (by omega) (by omega) (by omega) i)
  have z0 : ∀ i, i ≠ 5 → i ≠ 6 → τ 0 i = 0 := fun i a b => by
    rw [h2 0 i (by omega)]
    unfold σ0
    rw [if_neg (fun y => a y.2), if_neg (fun y => b y.2), if_neg (by omega), if_neg (by omega), if_neg (by omega), if_neg (by omega), if_neg (by omega), if_neg (by omega)]
  refine ⟨⟨⟨z0 _ (by decide) (by decide), fun r f a b => by change r < 0 at b; omega, fun r a b => by change r < 0 at b; omega⟩, h1, ⟨h2 _ _ (by decide), h2 _ _ (by decide)⟩, fun k a b => ⟨z _ _ (by decide) (by decide), fun y => by change (0 : Int) = 1 at y; omega⟩⟩, ⟨Or.inl (z0 _ (by decide) (by decide)), fun y => ?_⟩, ⟨Or.inl (z0 _ (by decide) (by decide)), fun y => ?_⟩, ⟨Or.inl (z0 _ (by decide) (by decide)), fun y => ?_⟩, ⟨Or.inl (z0 _ (by decide) (by decide)), fun y => ?_⟩⟩ <;>
  · rw [z0 _ (by decide) (by decide)] at y
    exact absurd y (by decide)
