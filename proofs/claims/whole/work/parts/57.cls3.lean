/-! ===== the class: image, restore; first, wins, idle, packets ===== -/
theorem IC.img {σ τ : fs_S} {A : ab} {k : Int} (hk : 0 ≤ k ∧ k ≤ 1) (hI : IC σ A) (g1 : RC (83 + 15 * k) τ A.1) (g2 : τ (78 + k) 0 = 1) (g3 : τ (78 + k) 1 = A.2.2.1.1) (g4 : τ (78 + k) 2 = A.2.2.1.2) (hF : ∀ j i, ¬ (83 + 15 * k ≤ j ∧ j < 98 + 15 * k) → ¬ (j = 78 + k) → τ j i = σ j i) : IC τ (sImage A k) := by
  unfold sImage
  rw [if_pos hk]
  obtain ⟨⟨a1, a2, a3, a4, a5, a6⟩, b2, b3⟩ := hI
  have e : ∀ j i, j < 78 → τ j i = σ j i := fun j i z => hF j i (by omega) (by omega)
  refine ⟨⟨a1.eq (e _ _ (by decide)) (fun k i z => e k i (by omega)), a2.eq (fun k i z => e k i (by omega)), a3.eq (fun k i z1 z2 => e k i (by omega)), fun g x y => ?_, ?_, fun m x y => ?_⟩, ⟨by rw [e _ _ (by decide)]; exact b2.1, fun z => (b2.2 (by rw [e _ _ (by decide)] at z; exact z)).eq (fun k i z => e k i (by omega))⟩, ⟨by rw [e _ _ (by decide)]; exact b3.1, fun z => (b3.2 (by rw [e _ _ (by decide)] at z; exact z)).eq (e _ _ (by decide)) (fun k i z1 z2 => e k i (by omega))⟩⟩
  · rw [hF _ _ (by omega) (by omega), hF _ _ (by omega) (by omega)]; exact a4 g x y
  · rw [e _ _ (by decide), e _ _ (by decide)]; exact a5
  · dsimp only
    by_cases z : m = k
    · rw [if_pos z, z]
      exact ⟨g2, fun _ => ⟨g1, g3, g4⟩⟩
    · rw [if_neg z]
      exact (a6 m x y).eq (fun i => hF _ _ (by omega) (by omega)) (fun j i z1 z2 => hF j i (by omega) (by omega))
theorem IC.res {σ τ : fs_S} {A : ab} {k : Int} (hk : 0 ≤ k ∧ k ≤ 1) (hI : IC σ A) (hne : (A.2.2.2 k).1 ≠ 0) {ρ : fs_S} (g5 : Q_rc (A.2.2.2 k).2.1 ρ none τ) (g1 : ρ 74 0 = (A.2.2.2 k).2.2.1) (g2 : ρ 74 1 = (A.2.2.2 k).2.2.2) (hF : ∀ j i, ¬ (27 ≤ j ∧ j < 42) → ¬ (j = 74) → ρ j i = σ j i) : IC τ (sRestore A k) := by
  unfold sRestore
  rw [if_pos ⟨hk, hne⟩]
  obtain ⟨⟨a1, a2, a3, a4, a5, a6⟩, b2, b3⟩ := hI
  exact IC.new (A := A) g5 (fun f x y => by rw [hF _ _ (by omega) (by omega), hF _ _ (by omega) (by omega)]; exact a4 f x y) ⟨g1, g2⟩ (fun m x y => (a6 m x y).eq (fun i => hF _ _ (by omega) (by omega)) (fun j i z1 z2 => hF j i (by omega) (by omega)))
set_option maxRecDepth 100000 in
set_option maxHeartbeats 3000000 in
theorem wK_image {σ : fs_S} {A : ab} {k : Int} (hI : IC σ A) (hw : awf A) (h1 : rg k) : fs_C mX6_image 2 [.inr 26, .inl k] σ (Q_C σ (aImage k) (sImage A k)) := by
  refine fs_C.intro [some (.inr 26), some (.inl k), none] fs_oX6_image (Nat.le_of_ble_eq_true rfl) rfl ?_
  obtain ⟨⟨a1, a2, a3, a4, a5, a6⟩, b2, b3⟩ := id hI
  by_cases ok : 0 ≤ k ∧ k ≤ 1
  · rcases (by omega : k = 0 ∨ k = 1) with rfl | rfl
    · refine fr_iload_n 1 dX6_image_0 rfl rfl ?_
      refine fr_if_lt 9 4 dX6_image_1 rfl rfl (by omega) (fun h1 => ?_) (fun h1 => ?_)
      · omega
      · refine fr_iload_n 5 dX6_image_4 rfl rfl ?_
        refine fr_iconst 6 dX6_image_5 rfl ?_
        refine fr_icmp_lt 12 9 dX6_image_6 rfl rfl (by omega) (by omega) (fun h6 => ?_) (fun h6 => ?_)
        · refine fr_aload_n 13 dX6_image_12 rfl rfl ?_
          refine fr_getr 16 77 dX6_image_13 rfl fs_kX6_52 fs_l26 rfl ?_
          refine fr_iload_n 17 dX6_image_16 rfl rfl ?_
          refine fr_aaldE 18 78 dX6_image_17 rfl fs_l77 (by omega) (by omega) ?_
          refine fr_astore_n 19 [_, _, _] dX6_image_18 rfl (Nat.le_of_ble_eq_true rfl) rfl ?_
          refine fr_aload_n 20 dX6_image_19 rfl rfl ?_
          refine fr_getr 23 83 dX6_image_20 rfl fs_kX6_237 fs_l78 rfl ?_
          refine fr_aload_n 24 dX6_image_23 rfl rfl ?_
          refine fr_getr 27 27 dX6_image_24 rfl fs_kX6_10 fs_l26 rfl ?_
          refine fr_callVv 30 (M2 := mX3_copyFrom) [_] dX6_image_27 rfl fs_mX6_238 fs_oX3_copyFrom fs_iX3_copyFrom fs_l83 rfl rfl (fs_Γ_rm (d := 1) (by decide)) (Nat.le_of_ble_eq_true rfl) rfl ?_
          refine (cK_copyFrom_83_27 hw.1 a1).mono ?_
          rintro _ τ ⟨rfl, g1, g2⟩
          have e0 : τ 74 0 = A.2.2.1.1 := (g2 _ _ (by decide) (by decide)).trans a5.1
          have e1 : τ 74 1 = A.2.2.1.2 := (g2 _ _ (by decide) (by decide)).trans a5.2
          refine ⟨rfl, ?_⟩
          refine fr_aload_n 31 dX6_image_30 rfl rfl ?_
          refine fr_aload_n 32 dX6_image_31 rfl rfl ?_
          refine fr_getr 35 74 dX6_image_32 rfl fs_kX6_46 fs_l26 rfl ?_
          refine fr_geti 38 0 dX6_image_35 rfl fs_kX6_193 rfl fs_l74 rfl ?_
          refine fr_top e0 ?_
          refine fr_puti 41 1 dX6_image_38 rfl fs_kX6_241 fs_pX1_1 rfl fs_l78 rfl ?_
          refine fr_aload_n 42 dX6_image_41 rfl rfl ?_
          refine fr_aload_n 43 dX6_image_42 rfl rfl ?_
          refine fr_getr 46 74 dX6_image_43 rfl fs_kX6_46 fs_l26 rfl ?_
          refine fr_geti 49 1 dX6_image_46 rfl fs_kX6_196 rfl fs_l74 rfl ?_
          refine fr_top ((fs_u_k _ _ (by decide)).trans e1) ?_
          refine fr_puti 52 2 dX6_image_49 rfl fs_kX6_242 fs_pX1_2 rfl fs_l78 rfl ?_
          refine fr_aload_n 53 dX6_image_52 rfl rfl ?_
          refine fr_iconst 54 dX6_image_53 rfl ?_
          refine fr_putz 57 0 dX6_image_54 rfl fs_kX6_243 fs_pX1_0 rfl fs_l78 rfl (by decide) ?_
          refine fr_iconst 58 dX6_image_57 rfl ?_
          refine fr_iret dX6_image_58 rfl ?_
          have e : ∀ j i, j ≠ 78 → fs_u (fs_u (fs_u τ 78 1 A.2.2.1.1) 78 2 A.2.2.1.2) 78 0 1 j i = τ j i := fun j i z => by rw [fs_u_k _ _ z, fs_u_k _ _ z, fs_u_k _ _ z]
          refine ⟨congrArg some (by unfold aImage; rw [if_pos ok]), IC.img ok hI (RC.eq g1 (e _ _ (by decide)) (fun k i z => e k i (by omega))) (fs_u_eq _ _ _ _) ?_ ?_ (fun j i z1 z2 => (e j i (by omega)).trans (g2 j i (by omega) (by omega))), fun j i z => (e j i (by omega)).trans (g2 j i (by omega) (by omega))⟩
          · show fs_u (fs_u (fs_u τ 78 1 A.2.2.1.1) 78 2 A.2.2.1.2) 78 0 1 78 1 = _
            rw [fs_u_i _ (by decide), fs_u_i _ (by decide), fs_u_eq]
          · show fs_u (fs_u (fs_u τ 78 1 A.2.2.1.1) 78 2 A.2.2.1.2) 78 0 1 78 2 = _
            rw [fs_u_i _ (by decide), fs_u_eq]
        · omega
    · refine fr_iload_n 1 dX6_image_0 rfl rfl ?_
      refine fr_if_lt 9 4 dX6_image_1 rfl rfl (by omega) (fun h1 => ?_) (fun h1 => ?_)
      · omega
      · refine fr_iload_n 5 dX6_image_4 rfl rfl ?_
        refine fr_iconst 6 dX6_image_5 rfl ?_
        refine fr_icmp_lt 12 9 dX6_image_6 rfl rfl (by omega) (by omega) (fun h6 => ?_) (fun h6 => ?_)
        · refine fr_aload_n 13 dX6_image_12 rfl rfl ?_
          refine fr_getr 16 77 dX6_image_13 rfl fs_kX6_52 fs_l26 rfl ?_
          refine fr_iload_n 17 dX6_image_16 rfl rfl ?_
          refine fr_aaldE 18 79 dX6_image_17 rfl fs_l77 (by omega) (by omega) ?_
          refine fr_astore_n 19 [_, _, _] dX6_image_18 rfl (Nat.le_of_ble_eq_true rfl) rfl ?_
          refine fr_aload_n 20 dX6_image_19 rfl rfl ?_
          refine fr_getr 23 98 dX6_image_20 rfl fs_kX6_237 fs_l79 rfl ?_
          refine fr_aload_n 24 dX6_image_23 rfl rfl ?_
          refine fr_getr 27 27 dX6_image_24 rfl fs_kX6_10 fs_l26 rfl ?_
          refine fr_callVv 30 (M2 := mX3_copyFrom) [_] dX6_image_27 rfl fs_mX6_238 fs_oX3_copyFrom fs_iX3_copyFrom fs_l98 rfl rfl (fs_Γ_rm (d := 1) (by decide)) (Nat.le_of_ble_eq_true rfl) rfl ?_
          refine (cK_copyFrom_98_27 hw.1 a1).mono ?_
          rintro _ τ ⟨rfl, g1, g2⟩
          have e0 : τ 74 0 = A.2.2.1.1 := (g2 _ _ (by decide) (by decide)).trans a5.1
          have e1 : τ 74 1 = A.2.2.1.2 := (g2 _ _ (by decide) (by decide)).trans a5.2
          refine ⟨rfl, ?_⟩
          refine fr_aload_n 31 dX6_image_30 rfl rfl ?_
          refine fr_aload_n 32 dX6_image_31 rfl rfl ?_
          refine fr_getr 35 74 dX6_image_32 rfl fs_kX6_46 fs_l26 rfl ?_
          refine fr_geti 38 0 dX6_image_35 rfl fs_kX6_193 rfl fs_l74 rfl ?_
          refine fr_top e0 ?_
          refine fr_puti 41 1 dX6_image_38 rfl fs_kX6_241 fs_pX1_1 rfl fs_l79 rfl ?_
          refine fr_aload_n 42 dX6_image_41 rfl rfl ?_
          refine fr_aload_n 43 dX6_image_42 rfl rfl ?_
          refine fr_getr 46 74 dX6_image_43 rfl fs_kX6_46 fs_l26 rfl ?_
          refine fr_geti 49 1 dX6_image_46 rfl fs_kX6_196 rfl fs_l74 rfl ?_
          refine fr_top ((fs_u_k _ _ (by decide)).trans e1) ?_
          refine fr_puti 52 2 dX6_image_49 rfl fs_kX6_242 fs_pX1_2 rfl fs_l79 rfl ?_
          refine fr_aload_n 53 dX6_image_52 rfl rfl ?_
          refine fr_iconst 54 dX6_image_53 rfl ?_
          refine fr_putz 57 0 dX6_image_54 rfl fs_kX6_243 fs_pX1_0 rfl fs_l79 rfl (by decide) ?_
          refine fr_iconst 58 dX6_image_57 rfl ?_
          refine fr_iret dX6_image_58 rfl ?_
          have e : ∀ j i, j ≠ 79 → fs_u (fs_u (fs_u τ 79 1 A.2.2.1.1) 79 2 A.2.2.1.2) 79 0 1 j i = τ j i := fun j i z => by rw [fs_u_k _ _ z, fs_u_k _ _ z, fs_u_k _ _ z]
          refine ⟨congrArg some (by unfold aImage; rw [if_pos ok]), IC.img ok hI (RC.eq g1 (e _ _ (by decide)) (fun k i z => e k i (by omega))) (fs_u_eq _ _ _ _) ?_ ?_ (fun j i z1 z2 => (e j i (by omega)).trans (g2 j i (by omega) (by omega))), fun j i z => (e j i (by omega)).trans (g2 j i (by omega) (by omega))⟩
          · show fs_u (fs_u (fs_u τ 79 1 A.2.2.1.1) 79 2 A.2.2.1.2) 79 0 1 79 1 = _
            rw [fs_u_i _ (by decide), fs_u_i _ (by decide), fs_u_eq]
          · show fs_u (fs_u (fs_u τ 79 1 A.2.2.1.1) 79 2 A.2.2.1.2) 79 0 1 79 2 = _
            rw [fs_u_i _ (by decide), fs_u_eq]
        · omega
  · refine fr_iload_n 1 dX6_image_0 rfl rfl ?_
    refine fr_if_lt 9 4 dX6_image_1 rfl rfl (by omega) (fun h1 => ?_) (fun h1 => ?_)
    · refine fr_bipush 11 dX6_image_9 rfl (by decide) ?_
      refine fr_iret dX6_image_11 rfl ?_
      exact ⟨congrArg some (by unfold aImage; rw [if_neg ok]), by unfold sImage; rw [if_neg ok]; exact hI, fun _ _ _ => rfl⟩
    · refine fr_iload_n 5 dX6_image_4 rfl rfl ?_
      refine fr_iconst 6 dX6_image_5 rfl ?_
      refine fr_icmp_lt 12 9 dX6_image_6 rfl rfl (by omega) (by omega) (fun h6 => ?_) (fun h6 => ?_)
      · omega
      · refine fr_bipush 11 dX6_image_9 rfl (by decide) ?_
        refine fr_iret dX6_image_11 rfl ?_
        exact ⟨congrArg some (by unfold aImage; rw [if_neg ok]), by unfold sImage; rw [if_neg ok]; exact hI, fun _ _ _ => rfl⟩
set_option maxRecDepth 100000 in
set_option maxHeartbeats 3000000 in
theorem wK_restore {σ : fs_S} {A : ab} {k : Int} (hI : IC σ A) (hw : awf A) (h1 : rg k) : fs_C mX6_restore 3 [.inr 26, .inl k] σ (Q_C σ (aRestore A k) (sRestore A k)) := by
  refine fs_C.intro [some (.inr 26), some (.inl k), none] fs_oX6_restore (Nat.le_of_ble_eq_true rfl) rfl ?_
  obtain ⟨⟨a1, a2, a3, a4, a5, a6⟩, b2, b3⟩ := id hI
  by_cases ok : 0 ≤ k ∧ k ≤ 1
  · rcases (by omega : k = 0 ∨ k = 1) with rfl | rfl
    · obtain ⟨q1, q2⟩ := a6 0 (by decide) (by decide)
      change σ 78 0 = _ at q1
      have w2 := hw.2.2.2 0 (by decide) (by decide)
      by_cases hk : (A.2.2.2 0).1 = 0
      · rw [hk] at q1
        refine fr_iload_n 1 dX6_restore_0 rfl rfl ?_
        refine fr_if_lt 9 4 dX6_restore_1 rfl rfl (by omega) (fun h1 => ?_) (fun h1 => ?_)
        · omega
        · refine fr_iload_n 5 dX6_restore_4 rfl rfl ?_
          refine fr_iconst 6 dX6_restore_5 rfl ?_
          refine fr_icmp_lt 12 9 dX6_restore_6 rfl rfl (by omega) (by omega) (fun h6 => ?_) (fun h6 => ?_)
          · refine fr_aload_n 13 dX6_restore_12 rfl rfl ?_
            refine fr_getr 16 77 dX6_restore_13 rfl fs_kX6_52 fs_l26 rfl ?_
            refine fr_iload_n 17 dX6_restore_16 rfl rfl ?_
            refine fr_aaldE 18 78 dX6_restore_17 rfl fs_l77 (by omega) (by omega) ?_
            refine fr_astore_n 19 [_, _, _] dX6_restore_18 rfl (Nat.le_of_ble_eq_true rfl) rfl ?_
            refine fr_aload_n 20 dX6_restore_19 rfl rfl ?_
            refine fr_geti 23 0 dX6_restore_20 rfl fs_kX6_243 rfl fs_l78 rfl ?_
            refine fr_top q1 ?_
            refine fr_if_ne 29 26 dX6_restore_23 rfl rfl (by omega) (fun h23 => ?_) (fun h23 => ?_)
            · exact absurd rfl h23
            · refine fr_bipush 28 dX6_restore_26 rfl (by decide) ?_
              refine fr_iret dX6_restore_28 rfl ?_
              exact ⟨congrArg some (by unfold aRestore; rw [if_pos ok, if_pos hk]), by unfold sRestore; rw [if_neg (fun z => z.2 hk)]; exact hI, fun _ _ _ => rfl⟩
          · omega
      · have hk1 : (A.2.2.2 0).1 = 1 := by omega
        rw [hk1] at q1
        obtain ⟨q3, q4, q5⟩ := q2 hk1
        obtain ⟨v1, v2⟩ := w2.2 hk1
        refine fr_iload_n 1 dX6_restore_0 rfl rfl ?_
        refine fr_if_lt 9 4 dX6_restore_1 rfl rfl (by omega) (fun h1 => ?_) (fun h1 => ?_)
        · omega
        · refine fr_iload_n 5 dX6_restore_4 rfl rfl ?_
          refine fr_iconst 6 dX6_restore_5 rfl ?_
          refine fr_icmp_lt 12 9 dX6_restore_6 rfl rfl (by omega) (by omega) (fun h6 => ?_) (fun h6 => ?_)
          · refine fr_aload_n 13 dX6_restore_12 rfl rfl ?_
            refine fr_getr 16 77 dX6_restore_13 rfl fs_kX6_52 fs_l26 rfl ?_
            refine fr_iload_n 17 dX6_restore_16 rfl rfl ?_
            refine fr_aaldE 18 78 dX6_restore_17 rfl fs_l77 (by omega) (by omega) ?_
            refine fr_astore_n 19 [_, _, _] dX6_restore_18 rfl (Nat.le_of_ble_eq_true rfl) rfl ?_
            refine fr_aload_n 20 dX6_restore_19 rfl rfl ?_
            refine fr_geti 23 0 dX6_restore_20 rfl fs_kX6_243 rfl fs_l78 rfl ?_
            refine fr_top q1 ?_
            refine fr_if_ne 29 26 dX6_restore_23 rfl rfl (by omega) (fun h23 => ?_) (fun h23 => ?_)
            · refine fr_aload_n 30 dX6_restore_29 rfl rfl ?_
              refine fr_getr 33 27 dX6_restore_30 rfl fs_kX6_10 fs_l26 rfl ?_
              refine fr_aload_n 34 dX6_restore_33 rfl rfl ?_
              refine fr_getr 37 83 dX6_restore_34 rfl fs_kX6_237 fs_l78 rfl ?_
              refine fr_callVv 40 (M2 := mX3_copyFrom) [_] dX6_restore_37 rfl fs_mX6_238 fs_oX3_copyFrom fs_iX3_copyFrom fs_l27 rfl rfl (fs_Γ_rm (d := 1) (by decide)) (Nat.le_of_ble_eq_true rfl) rfl ?_
              refine (cK_copyFrom_27_83 v1 q3).mono ?_
              rintro _ τ ⟨rfl, g1, g2⟩
              have e0 : τ 78 1 = (A.2.2.2 0).2.2.1 := (g2 _ _ (by decide) (by decide)).trans q4
              have e1 : τ 78 2 = (A.2.2.2 0).2.2.2 := (g2 _ _ (by decide) (by decide)).trans q5
              refine ⟨rfl, ?_⟩
              refine fr_aload_n 41 dX6_restore_40 rfl rfl ?_
              refine fr_getr 44 74 dX6_restore_41 rfl fs_kX6_46 fs_l26 rfl ?_
              refine fr_aload_n 45 dX6_restore_44 rfl rfl ?_
              refine fr_geti 48 1 dX6_restore_45 rfl fs_kX6_241 rfl fs_l78 rfl ?_
              refine fr_top e0 ?_
              refine fr_puti 51 0 dX6_restore_48 rfl fs_kX6_193 fs_pX0_0 rfl fs_l74 rfl ?_
              refine fr_aload_n 52 dX6_restore_51 rfl rfl ?_
              refine fr_getr 55 74 dX6_restore_52 rfl fs_kX6_46 fs_l26 rfl ?_
              refine fr_aload_n 56 dX6_restore_55 rfl rfl ?_
              refine fr_geti 59 2 dX6_restore_56 rfl fs_kX6_242 rfl fs_l78 rfl ?_
              refine fr_top ((fs_u_k _ _ (by decide)).trans e1) ?_
              refine fr_puti 62 1 dX6_restore_59 rfl fs_kX6_196 fs_pX0_1 rfl fs_l74 rfl ?_
              refine fr_aload_n 63 dX6_restore_62 rfl rfl ?_
              refine fr_callVv 66 (M2 := mX6_rulesChanged) [] dX6_restore_63 rfl fs_mX6_92 fs_oX6_rulesChanged fs_iX6_rulesChanged fs_l26 rfl rfl (fs_Γ_rm (d := 2) (by decide)) (Nat.le_of_ble_eq_true rfl) rfl ?_
              have e : ∀ j i, j ≠ 74 → fs_u (fs_u τ 74 0 (A.2.2.2 0).2.2.1) 74 1 (A.2.2.2 0).2.2.2 j i = τ j i := fun j i z => by rw [fs_u_k _ _ z, fs_u_k _ _ z]
              refine (cK_rulesChanged v1 (RC.eq g1 (e _ _ (by decide)) (fun k i z => e k i (by omega)))).mono ?_
              rintro _ υ ⟨rfl, g5⟩
              refine ⟨rfl, ?_⟩
              refine fr_iconst 67 dX6_restore_66 rfl ?_
              refine fr_iret dX6_restore_67 rfl ?_
              refine ⟨congrArg some (by unfold aRestore; rw [if_pos ok, if_neg hk]), IC.res ok hI hk ⟨rfl, g5⟩ (by rw [fs_u_i _ (by decide), fs_u_eq]) (fs_u_eq _ _ _ _) (fun j i z1 z2 => (e j i z2).trans (g2 j i (by omega) (by omega))), fun j i z => ?_⟩
              rw [g5.2.2.2.2.2 j i (by omega) (by omega), e j i (by omega), g2 j i (by omega) (by omega)]
            · exact absurd h23 (by decide)
          · omega
    · obtain ⟨q1, q2⟩ := a6 1 (by decide) (by decide)
      change σ 79 0 = _ at q1
      have w2 := hw.2.2.2 1 (by decide) (by decide)
      by_cases hk : (A.2.2.2 1).1 = 0
      · rw [hk] at q1
        refine fr_iload_n 1 dX6_restore_0 rfl rfl ?_
        refine fr_if_lt 9 4 dX6_restore_1 rfl rfl (by omega) (fun h1 => ?_) (fun h1 => ?_)
        · omega
        · refine fr_iload_n 5 dX6_restore_4 rfl rfl ?_
          refine fr_iconst 6 dX6_restore_5 rfl ?_
          refine fr_icmp_lt 12 9 dX6_restore_6 rfl rfl (by omega) (by omega) (fun h6 => ?_) (fun h6 => ?_)
          · refine fr_aload_n 13 dX6_restore_12 rfl rfl ?_
            refine fr_getr 16 77 dX6_restore_13 rfl fs_kX6_52 fs_l26 rfl ?_
            refine fr_iload_n 17 dX6_restore_16 rfl rfl ?_
            refine fr_aaldE 18 79 dX6_restore_17 rfl fs_l77 (by omega) (by omega) ?_
            refine fr_astore_n 19 [_, _, _] dX6_restore_18 rfl (Nat.le_of_ble_eq_true rfl) rfl ?_
            refine fr_aload_n 20 dX6_restore_19 rfl rfl ?_
            refine fr_geti 23 0 dX6_restore_20 rfl fs_kX6_243 rfl fs_l79 rfl ?_
            refine fr_top q1 ?_
            refine fr_if_ne 29 26 dX6_restore_23 rfl rfl (by omega) (fun h23 => ?_) (fun h23 => ?_)
            · exact absurd rfl h23
            · refine fr_bipush 28 dX6_restore_26 rfl (by decide) ?_
              refine fr_iret dX6_restore_28 rfl ?_
              exact ⟨congrArg some (by unfold aRestore; rw [if_pos ok, if_pos hk]), by unfold sRestore; rw [if_neg (fun z => z.2 hk)]; exact hI, fun _ _ _ => rfl⟩
          · omega
      · have hk1 : (A.2.2.2 1).1 = 1 := by omega
        rw [hk1] at q1
        obtain ⟨q3, q4, q5⟩ := q2 hk1
        obtain ⟨v1, v2⟩ := w2.2 hk1
        refine fr_iload_n 1 dX6_restore_0 rfl rfl ?_
        refine fr_if_lt 9 4 dX6_restore_1 rfl rfl (by omega) (fun h1 => ?_) (fun h1 => ?_)
        · omega
        · refine fr_iload_n 5 dX6_restore_4 rfl rfl ?_
          refine fr_iconst 6 dX6_restore_5 rfl ?_
          refine fr_icmp_lt 12 9 dX6_restore_6 rfl rfl (by omega) (by omega) (fun h6 => ?_) (fun h6 => ?_)
          · refine fr_aload_n 13 dX6_restore_12 rfl rfl ?_
            refine fr_getr 16 77 dX6_restore_13 rfl fs_kX6_52 fs_l26 rfl ?_
            refine fr_iload_n 17 dX6_restore_16 rfl rfl ?_
            refine fr_aaldE 18 79 dX6_restore_17 rfl fs_l77 (by omega) (by omega) ?_
            refine fr_astore_n 19 [_, _, _] dX6_restore_18 rfl (Nat.le_of_ble_eq_true rfl) rfl ?_
            refine fr_aload_n 20 dX6_restore_19 rfl rfl ?_
            refine fr_geti 23 0 dX6_restore_20 rfl fs_kX6_243 rfl fs_l79 rfl ?_
            refine fr_top q1 ?_
            refine fr_if_ne 29 26 dX6_restore_23 rfl rfl (by omega) (fun h23 => ?_) (fun h23 => ?_)
            · refine fr_aload_n 30 dX6_restore_29 rfl rfl ?_
              refine fr_getr 33 27 dX6_restore_30 rfl fs_kX6_10 fs_l26 rfl ?_
              refine fr_aload_n 34 dX6_restore_33 rfl rfl ?_
              refine fr_getr 37 98 dX6_restore_34 rfl fs_kX6_237 fs_l79 rfl ?_
              refine fr_callVv 40 (M2 := mX3_copyFrom) [_] dX6_restore_37 rfl fs_mX6_238 fs_oX3_copyFrom fs_iX3_copyFrom fs_l27 rfl rfl (fs_Γ_rm (d := 1) (by decide)) (Nat.le_of_ble_eq_true rfl) rfl ?_
              refine (cK_copyFrom_27_98 v1 q3).mono ?_
              rintro _ τ ⟨rfl, g1, g2⟩
              have e0 : τ 79 1 = (A.2.2.2 1).2.2.1 := (g2 _ _ (by decide) (by decide)).trans q4
              have e1 : τ 79 2 = (A.2.2.2 1).2.2.2 := (g2 _ _ (by decide) (by decide)).trans q5
              refine ⟨rfl, ?_⟩
              refine fr_aload_n 41 dX6_restore_40 rfl rfl ?_
              refine fr_getr 44 74 dX6_restore_41 rfl fs_kX6_46 fs_l26 rfl ?_
              refine fr_aload_n 45 dX6_restore_44 rfl rfl ?_
              refine fr_geti 48 1 dX6_restore_45 rfl fs_kX6_241 rfl fs_l79 rfl ?_
              refine fr_top e0 ?_
              refine fr_puti 51 0 dX6_restore_48 rfl fs_kX6_193 fs_pX0_0 rfl fs_l74 rfl ?_
              refine fr_aload_n 52 dX6_restore_51 rfl rfl ?_
              refine fr_getr 55 74 dX6_restore_52 rfl fs_kX6_46 fs_l26 rfl ?_
              refine fr_aload_n 56 dX6_restore_55 rfl rfl ?_
              refine fr_geti 59 2 dX6_restore_56 rfl fs_kX6_242 rfl fs_l79 rfl ?_
              refine fr_top ((fs_u_k _ _ (by decide)).trans e1) ?_
              refine fr_puti 62 1 dX6_restore_59 rfl fs_kX6_196 fs_pX0_1 rfl fs_l74 rfl ?_
              refine fr_aload_n 63 dX6_restore_62 rfl rfl ?_
              refine fr_callVv 66 (M2 := mX6_rulesChanged) [] dX6_restore_63 rfl fs_mX6_92 fs_oX6_rulesChanged fs_iX6_rulesChanged fs_l26 rfl rfl (fs_Γ_rm (d := 2) (by decide)) (Nat.le_of_ble_eq_true rfl) rfl ?_
              have e : ∀ j i, j ≠ 74 → fs_u (fs_u τ 74 0 (A.2.2.2 1).2.2.1) 74 1 (A.2.2.2 1).2.2.2 j i = τ j i := fun j i z => by rw [fs_u_k _ _ z, fs_u_k _ _ z]
              refine (cK_rulesChanged v1 (RC.eq g1 (e _ _ (by decide)) (fun k i z => e k i (by omega)))).mono ?_
              rintro _ υ ⟨rfl, g5⟩
              refine ⟨rfl, ?_⟩
              refine fr_iconst 67 dX6_restore_66 rfl ?_
              refine fr_iret dX6_restore_67 rfl ?_
              refine ⟨congrArg some (by unfold aRestore; rw [if_pos ok, if_neg hk]), IC.res ok hI hk ⟨rfl, g5⟩ (by rw [fs_u_i _ (by decide), fs_u_eq]) (fs_u_eq _ _ _ _) (fun j i z1 z2 => (e j i z2).trans (g2 j i (by omega) (by omega))), fun j i z => ?_⟩
              rw [g5.2.2.2.2.2 j i (by omega) (by omega), e j i (by omega), g2 j i (by omega) (by omega)]
            · exact absurd h23 (by decide)
          · omega
  · refine fr_iload_n 1 dX6_restore_0 rfl rfl ?_
    refine fr_if_lt 9 4 dX6_restore_1 rfl rfl (by omega) (fun h1 => ?_) (fun h1 => ?_)
    · refine fr_bipush 11 dX6_restore_9 rfl (by decide) ?_
      refine fr_iret dX6_restore_11 rfl ?_
      exact ⟨congrArg some (by unfold aRestore; rw [if_neg ok]), by unfold sRestore; rw [if_neg (fun z => ok z.1)]; exact hI, fun _ _ _ => rfl⟩
    · refine fr_iload_n 5 dX6_restore_4 rfl rfl ?_
      refine fr_iconst 6 dX6_restore_5 rfl ?_
      refine fr_icmp_lt 12 9 dX6_restore_6 rfl rfl (by omega) (by omega) (fun h6 => ?_) (fun h6 => ?_)
      · omega
      · refine fr_bipush 11 dX6_restore_9 rfl (by decide) ?_
        refine fr_iret dX6_restore_11 rfl ?_
        exact ⟨congrArg some (by unfold aRestore; rw [if_neg ok]), by unfold sRestore; rw [if_neg (fun z => ok z.1)]; exact hI, fun _ _ _ => rfl⟩
