set_option maxRecDepth 100000 in
set_option maxHeartbeats 4000000 in
theorem tt_in (σ : fs_S) (v a b : Int) (hv : -2147483648 ≤ v ∧ v < 2147483648) (ha : -2147483648 ≤ a ∧ a < 2147483648) (hb : -2147483648 ≤ b ∧ b < 2147483648) : fs_C mX7_in 0 [.inl v, .inl a, .inl b] σ (fun r τ => r = some (if a ≤ v ∧ v ≤ b then 1 else 0) ∧ τ = σ) := by
  refine fs_C.intro [some (.inl v), some (.inl a), some (.inl b)] fs_oX7_in (Nat.le_of_ble_eq_true rfl) rfl ?_
  refine fr_iload_n 1 dX7_in_0 rfl rfl ?_
  refine fr_iload_n 2 dX7_in_1 rfl rfl ?_
  refine fr_icmp_lt 14 5 dX7_in_2 rfl rfl (by omega) (by omega) (fun h2 => ?_) (fun h2 => ?_)
  · refine fr_iconst 15 dX7_in_14 rfl ?_
    refine fr_zret dX7_in_15 rfl (by omega) ?_
    exact ⟨by rw [if_pos ⟨by omega, by omega⟩], rfl⟩
  · refine fr_iload_n 6 dX7_in_5 rfl rfl ?_
    refine fr_iload_n 7 dX7_in_6 rfl rfl ?_
    refine fr_icmp_gt 14 10 dX7_in_7 rfl rfl (by omega) (by omega) (fun h7 => ?_) (fun h7 => ?_)
    · refine fr_iconst 15 dX7_in_14 rfl ?_
      refine fr_zret dX7_in_15 rfl (by omega) ?_
      exact ⟨by rw [if_pos ⟨by omega, by omega⟩], rfl⟩
    · refine fr_iconst 11 dX7_in_10 rfl ?_
      refine fr_goto 15 dX7_in_11 rfl ?_
      refine fr_zret dX7_in_15 rfl (by omega) ?_
      exact ⟨by rw [if_pos ⟨by omega, by omega⟩], rfl⟩
