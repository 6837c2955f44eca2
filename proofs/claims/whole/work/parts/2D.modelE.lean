/-! ===== the model: walk ===== -/
def pk (a b c d f : Int) : Int := if f = 0 then a else if f = 1 then b else if f = 2 then c else d
/-- down to a packet's leaf; in how many nodes each field was cut -/
def wk (t : rt) (b e : Int) (x : Int → Int) : Nat → nd → (Int → Int) → nd × (Int → Int)
  | 0, N, c => (N, c)
  | n + 1, N, c => if pick t b e N < 0 then (N, c) else wk t b e x n (kid t N (pick t b e N) (if ((phiN (wN (pick t b e N)) (2 * N.2.1 (pick t b e N)) : Nat) : Int) < x (pick t b e N) then 1 else 0)) (fun g => c g + (if g = pick t b e N then 1 else 0))
def lkF (m fit : Nat) : Nat → Nat → Int → Int
  | 0, _, n => n
  | j + 1, k, n => if m.testBit k then (if fit.testBit k then n + 1 else lkF m fit j (k + 1) (n + 1)) else lkF m fit j (k + 1) n
def lk (t : rt) (m fit : Nat) : Int := lkF m fit (tn t).toNat 0 0
def aWalk (t : rt) (b e : Int) (x0 x1 x2 x3 w : Int) : Int := if ((0 ≤ x0 ∧ x0 ≤ 63) ∧ (0 ≤ x1 ∧ x1 ≤ 63) ∧ (0 ≤ x2 ∧ x2 ≤ 63) ∧ 0 ≤ x3 ∧ x3 ≤ 3) ∧ ((0 ≤ w ∧ w ≤ 2) ∨ (10 ≤ w ∧ w ≤ 13)) then (if 9 < w then (wk t b e (pk x0 x1 x2 x3) 8 (root t) (fun _ => 0)).2 (w - 10) else if w = 0 then (wk t b e (pk x0 x1 x2 x3) 8 (root t) (fun _ => 0)).1.2.2 else if w = 1 then pop (wk t b e (pk x0 x1 x2 x3) 8 (root t) (fun _ => 0)).1.1 else lk t (wk t b e (pk x0 x1 x2 x3) 8 (root t) (fun _ => 0)).1.1 (tfit t x0 x1 x2 x3)) else -2
set_option maxRecDepth 100000 in
set_option maxHeartbeats 3000000 in
theorem cM_looked {σ : fs_S} {t : rt} {m fit : Nat} (hw : twf t) (hR : RM σ t) (hm : m < 65536) (hf : fit < 65536) : fs_C mX7_looked 1 [.inr 0, .inl (m : Int), .inl (fit : Int)] σ (fun x τ => x = some (lk t m fit) ∧ τ = σ) := by
  refine fs_C.intro [some (.inr 0), some (.inl (m : Int)), some (.inl (fit : Int)), none, none] fs_oX7_looked (Nat.le_of_ble_eq_true rfl) rfl ?_
  have hn := hw.1
  have hmm := hR.1
  have key : ∀ (j k : Nat) (n : Int), (k : Int) + j = tn t → lkF m fit j k n = lk t m fit → fs_W (fs_Γ 1 (fun x τ => x = some (lk t m fit) ∧ τ = σ)) mX7_looked 5 [some (.inr 0), some (.inl (m : Int)), some (.inl (fit : Int)), some (.inl n), some (.inl (k : Int))] [] σ := by
    intro j
    induction j with
    | zero =>
      intro k n h1 h2
      refine fr_iload 7 dX7_looked_5 rfl rfl ?_
      refine fr_aload_n 8 dX7_looked_7 rfl rfl ?_
      refine fr_geti 11 0 dX7_looked_8 rfl fs_kX7_104 rfl fs_l0 rfl ?_
      refine fr_icmp_ge 43 14 dX7_looked_11 rfl rfl (by omega) (by omega) (fun h11 => ?_) (fun h11 => ?_)
      · refine fr_iload_n 44 dX7_looked_43 rfl rfl ?_
        refine fr_iret dX7_looked_44 rfl ?_
        exact ⟨congrArg some (by rw [← h2]; rfl), rfl⟩
      · exact absurd h11 (by omega)
    | succ j ih =>
      intro k n h1 h2
      rw [lkF] at h2
      have nxt : ∀ n', lkF m fit j (k + 1) n' = lk t m fit → fs_W (fs_Γ 1 (fun x τ => x = some (lk t m fit) ∧ τ = σ)) mX7_looked 37 [some (.inr 0), some (.inl (m : Int)), some (.inl (fit : Int)), some (.inl n'), some (.inl (k : Int))] [] σ := by
        intro n' h3
        refine fr_iinc 40 [_, _, _, _, _] dX7_looked_37 rfl rfl rfl ?_
        refine fr_goto 5 dX7_looked_40 rfl ?_
        rw [show (k : Int) + 1 = ((k + 1 : Nat) : Int) by omega]
        exact ih (k + 1) n' (by omega) h3
      refine fr_iload 7 dX7_looked_5 rfl rfl ?_
      refine fr_aload_n 8 dX7_looked_7 rfl rfl ?_
      refine fr_geti 11 0 dX7_looked_8 rfl fs_kX7_104 rfl fs_l0 rfl ?_
      refine fr_icmp_ge 43 14 dX7_looked_11 rfl rfl (by omega) (by omega) (fun h11 => ?_) (fun h11 => ?_)
      · exact absurd h11 (by omega)
      · refine fr_iload_n 15 dX7_looked_14 rfl rfl ?_
        refine fr_iload 17 dX7_looked_15 rfl rfl ?_
        refine fr_callSi 20 (M2 := mX7_has) [_, _] dX7_looked_17 rfl fs_mX7_107 fs_oX7_has fs_sX7_has rfl (fs_Γ_rm (d := 0) (by decide)) (Nat.le_of_ble_eq_true rfl) rfl ?_
        refine (cM_has hm (by omega)).ci ?_
        refine fr_if_eq 37 23 dX7_looked_20 rfl rfl (by omega) (fun h20 => ?_) (fun h20 => ?_)
        · exact nxt n (by rw [← h2, if_neg (fun z => by rw [if_pos z] at h20; omega)])
        · refine fr_iinc 26 [_, _, _, _, _] dX7_looked_23 rfl rfl rfl ?_
          refine fr_iload_n 27 dX7_looked_26 rfl rfl ?_
          refine fr_iload 29 dX7_looked_27 rfl rfl ?_
          refine fr_callSi 32 (M2 := mX7_has) [_, _] dX7_looked_29 rfl fs_mX7_107 fs_oX7_has fs_sX7_has rfl (fs_Γ_rm (d := 0) (by decide)) (Nat.le_of_ble_eq_true rfl) rfl ?_
          refine (cM_has hf (by omega)).ci ?_
          refine fr_if_eq 37 35 dX7_looked_32 rfl rfl (by omega) (fun h32 => ?_) (fun h32 => ?_)
          · exact nxt (n + 1) (by rw [← h2, if_pos (by cases hx : m.testBit k with | true => rfl | false => rw [hx] at h20; exact absurd rfl h20), if_neg (fun z => by rw [if_pos z] at h32; omega)])
          · refine fr_iload_n 36 dX7_looked_35 rfl rfl ?_
            refine fr_iret dX7_looked_36 rfl ?_
            refine ⟨congrArg some ?_, rfl⟩
            rw [← h2, if_pos (by cases hx : m.testBit k with | true => rfl | false => rw [hx] at h20; exact absurd rfl h20), if_pos (by cases hx : fit.testBit k with | true => rfl | false => rw [hx] at h32; exact absurd rfl h32)]
  refine fr_iconst 1 dX7_looked_0 rfl ?_
  refine fr_istore_n 2 [_, _, _, _, _] dX7_looked_1 rfl (Nat.le_of_ble_eq_true rfl) rfl ?_
  refine fr_iconst 3 dX7_looked_2 rfl ?_
  refine fr_istore 5 [_, _, _, _, _] dX7_looked_3 rfl (Nat.le_of_ble_eq_true rfl) rfl ?_
  exact key (tn t).toNat 0 0 (by omega) rfl
abbrev Q_wk (t : rt) (b e : Int) (σ : fs_S) (v : Int) : fs_Q := fun x τ => x = some v ∧ (τ = σ ∨ TV τ t b e ∧ OV τ t ∧ τ 0 7 = 1 ∧ τ 0 10 = 1 ∧ frG σ τ)
set_option maxRecDepth 100000 in
set_option maxHeartbeats 3000000 in
theorem cM_walk {σ : fs_S} {t : rt} {b e x0 x1 x2 x3 w : Int} (hw : twf t) (hR : RM σ t) (hB : σ 0 5 = b) (hE : σ 0 6 = e) (hb' : 1 ≤ b ∧ b ≤ 4) (he : 1 ≤ e ∧ e ≤ 8) (hb : σ 0 7 = 0 ∨ σ 0 7 = 1) (hv : σ 0 7 = 1 → OV σ t) (hb9 : σ 0 10 = 0 ∨ σ 0 10 = 1) (hv9 : σ 0 10 = 1 → TV σ t b e) (h0 : rg x0) (h1 : rg x1) (h2 : rg x2) (h3 : rg x3) (hww : rg w) : fs_C mX7_walk 4 [.inr 0, .inl x0, .inl x1, .inl x2, .inl x3, .inl w] σ (Q_wk t b e σ (aWalk t b e x0 x1 x2 x3 w)) := by
  refine fs_C.intro [some (.inr 0), some (.inl x0), some (.inl x1), some (.inl x2), some (.inl x3), some (.inl w), none, none, none, none] fs_oX7_walk (Nat.le_of_ble_eq_true rfl) rfl ?_
  have key : ∀ (τ : fs_S) (L : List nd), (((0 ≤ x0 ∧ x0 ≤ 63) ∧ (0 ≤ x1 ∧ x1 ≤ 63) ∧ (0 ≤ x2 ∧ x2 ≤ 63) ∧ 0 ≤ x3 ∧ x3 ≤ 3) ∧ ((0 ≤ w ∧ w ≤ 2) ∨ (10 ≤ w ∧ w ≤ 13))) → TV τ t b e → L.length ≤ 511 → NV τ t b e L L.length → OV τ t → τ 0 7 = 1 → τ 0 10 = 1 → frG σ τ → ∀ (n i : Nat) (N : nd) (c : Int → Int) (y8 y9 : Option fs_V), L[i]? = some N → (8 - N.2.2).toNat = n → (∀ g, 0 ≤ c g ∧ c g ≤ 8 - n) → wk t b e (pk x0 x1 x2 x3) n N c = wk t b e (pk x0 x1 x2 x3) 8 (root t) (fun _ => 0) →
      fs_W (fs_Γ 4 (Q_wk t b e σ (aWalk t b e x0 x1 x2 x3 w))) mX7_walk 46 [some (.inr 0), some (.inl x0), some (.inl x1), some (.inl x2), some (.inl x3), some (.inl w), some (.inl (i : Int)), some (.inl (c (w - 10))), y8, y9] [] τ := by
    intro τ L hok hT hlen hN hO h7 h10 hF
    have hRt : RM τ t := hR.eq hw (hF _ _ (by decide) (by decide) (by decide)) (fun k i a b _ _ => hF k i (by omega) (by omega) (by omega))
    have hfl := tfit_lt hw x0 x1 x2 x3
    have out : ∀ (i : Nat) (N : nd) (c : Int → Int) (y8 y9 : Option fs_V), L[i]? = some N → (∀ g, 0 ≤ c g ∧ c g ≤ 8) → (N, c) = wk t b e (pk x0 x1 x2 x3) 8 (root t) (fun _ => 0) → fs_W (fs_Γ 4 (Q_wk t b e σ (aWalk t b e x0 x1 x2 x3 w))) mX7_walk 158 [some (.inr 0), some (.inl x0), some (.inl x1), some (.inl x2), some (.inl x3), some (.inl w), some (.inl (i : Int)), some (.inl (c (w - 10))), y8, y9] [] τ := by
      intro i N c y8 y9 hi hc hwk
      obtain ⟨nm, gd⟩ := hN.1 i N hi
      have il := (List.getElem?_eq_some_iff.mp hi).1
      have ans : aWalk t b e x0 x1 x2 x3 w = (if 9 < w then c (w - 10) else if w = 0 then N.2.2 else if w = 1 then pop N.1 else lk t N.1 (tfit t x0 x1 x2 x3)) := by
        unfold aWalk
        rw [if_pos hok, ← hwk]
      refine fr_iload 160 dX7_walk_158 rfl rfl ?_
      refine fr_bipush 162 dX7_walk_160 rfl (by decide) ?_
      refine fr_icmp_le 168 165 dX7_walk_162 rfl rfl (by omega) (by omega) (fun h162 => ?_) (fun h162 => ?_)
      · refine fr_iload 170 dX7_walk_168 rfl rfl ?_
        refine fr_if_ne 183 173 dX7_walk_170 rfl rfl (by omega) (fun h170 => ?_) (fun h170 => ?_)
        · refine fr_iload 185 dX7_walk_183 rfl rfl ?_
          refine fr_iconst 186 dX7_walk_185 rfl ?_
          refine fr_icmp_ne 202 189 dX7_walk_186 rfl rfl (by omega) (by omega) (fun h186 => ?_) (fun h186 => ?_)
          · refine fr_aload_n 203 dX7_walk_202 rfl rfl ?_
            refine fr_aload_n 204 dX7_walk_203 rfl rfl ?_
            refine fr_getr 207 20 dX7_walk_204 rfl fs_kX7_75 fs_l0 rfl ?_
            refine fr_iload 209 dX7_walk_207 rfl rfl ?_
            refine fr_iald 210 dX7_walk_209 rfl fs_l20 (by omega) ?_
            refine fr_top nm.1 ?_
            refine fr_aload_n 211 dX7_walk_210 rfl rfl ?_
            refine fr_iload_n 212 dX7_walk_211 rfl rfl ?_
            refine fr_iload_n 213 dX7_walk_212 rfl rfl ?_
            refine fr_iload_n 214 dX7_walk_213 rfl rfl ?_
            refine fr_iload 216 dX7_walk_214 rfl rfl ?_
            refine fr_callVi 219 (M2 := mX7_fitting) [_, _, _, _] dX7_walk_216 rfl fs_mX7_154 fs_oX7_fitting fs_iX7_fitting fs_l0 rfl rfl (fs_Γ_rm (d := 3) (by decide)) (Nat.le_of_ble_eq_true rfl) rfl ?_
            refine (cM_fitting hw hRt (Or.inr h7) (fun _ => hO) hok.1.1 hok.1.2.1 hok.1.2.2.1 hok.1.2.2.2).mono ?_
            rintro _ τ2 ⟨rfl, hO2, h72, hF2⟩
            refine ⟨_, rfl, ?_⟩
            have hRt2 : RM τ2 t := hRt.eq hw (hF2 _ _ (by decide) (by decide) (by decide)) (fun k i a b _ _ => hF2 k i (by omega) (by omega) (by omega))
            refine fr_callVi 222 (M2 := mX7_looked) [_, _] dX7_walk_219 rfl fs_mX7_234 fs_oX7_looked fs_iX7_looked fs_l0 rfl rfl (fs_Γ_rm (d := 1) (by decide)) (Nat.le_of_ble_eq_true rfl) rfl ?_
            refine (cM_looked hw hRt2 gd.1 hfl).ci ?_
            refine fr_iret dX7_walk_222 rfl ?_
            first
            | (refine ⟨congrArg some ?_, Or.inr ⟨hT.eq (hF2 _ _ (by decide) (by decide) (by decide)) (fun k i h1 h2 => hF2 k i (by omega) (by omega) (by omega)), hO2, h72, (hF2 _ _ (by decide) (by decide) (by decide)).trans h10, fun k i a b c => (hF2 k i (by omega) (by omega) (by omega)).trans (hF k i a b c)⟩⟩
               rw [ans, if_neg (by omega), if_neg (by omega), if_neg (by omega)])
            | (refine ⟨congrArg some ?_, Or.inr ⟨hT, hO, h7, h10, hF⟩⟩
               rw [ans, if_neg (by omega)]
               first
               | (rw [if_pos (by omega)])
               | (rw [if_neg (by omega), if_pos (by omega)]))
          · refine fr_aload_n 190 dX7_walk_189 rfl rfl ?_
            refine fr_getr 193 20 dX7_walk_190 rfl fs_kX7_75 fs_l0 rfl ?_
            refine fr_iload 195 dX7_walk_193 rfl rfl ?_
            refine fr_iald 196 dX7_walk_195 rfl fs_l20 (by omega) ?_
            refine fr_top nm.1 ?_
            refine fr_callSi 199 (M2 := mX7_bits) [_] dX7_walk_196 rfl fs_mX7_208 fs_oX7_bits fs_sX7_bits rfl (fs_Γ_rm (d := 0) (by decide)) (Nat.le_of_ble_eq_true rfl) rfl ?_
            refine (cM_bits gd.1).ci ?_
            refine fr_goto 222 dX7_walk_199 rfl ?_
            refine fr_iret dX7_walk_222 rfl ?_
            first
            | (refine ⟨congrArg some ?_, Or.inr ⟨hT.eq (hF2 _ _ (by decide) (by decide) (by decide)) (fun k i h1 h2 => hF2 k i (by omega) (by omega) (by omega)), hO2, h72, (hF2 _ _ (by decide) (by decide) (by decide)).trans h10, fun k i a b c => (hF2 k i (by omega) (by omega) (by omega)).trans (hF k i a b c)⟩⟩
               rw [ans, if_neg (by omega), if_neg (by omega), if_neg (by omega)])
            | (refine ⟨congrArg some ?_, Or.inr ⟨hT, hO, h7, h10, hF⟩⟩
               rw [ans, if_neg (by omega)]
               first
               | (rw [if_pos (by omega)])
               | (rw [if_neg (by omega), if_pos (by omega)]))
        · refine fr_aload_n 174 dX7_walk_173 rfl rfl ?_
          refine fr_getr 177 21 dX7_walk_174 rfl fs_kX7_78 fs_l0 rfl ?_
          refine fr_iload 179 dX7_walk_177 rfl rfl ?_
          refine fr_iald 180 dX7_walk_179 rfl fs_l21 (by omega) ?_
          refine fr_top nm.2.1 ?_
          refine fr_goto 222 dX7_walk_180 rfl ?_
          refine fr_iret dX7_walk_222 rfl ?_
          first
          | (refine ⟨congrArg some ?_, Or.inr ⟨hT.eq (hF2 _ _ (by decide) (by decide) (by decide)) (fun k i h1 h2 => hF2 k i (by omega) (by omega) (by omega)), hO2, h72, (hF2 _ _ (by decide) (by decide) (by decide)).trans h10, fun k i a b c => (hF2 k i (by omega) (by omega) (by omega)).trans (hF k i a b c)⟩⟩
             rw [ans, if_neg (by omega), if_neg (by omega), if_neg (by omega)])
          | (refine ⟨congrArg some ?_, Or.inr ⟨hT, hO, h7, h10, hF⟩⟩
             rw [ans, if_neg (by omega)]
             first
             | (rw [if_pos (by omega)])
             | (rw [if_neg (by omega), if_pos (by omega)]))
      · refine fr_iload 167 dX7_walk_165 rfl rfl ?_
        refine fr_iret dX7_walk_167 rfl ?_
        exact ⟨congrArg some (by rw [ans, if_pos (by omega)]), Or.inr ⟨hT, hO, h7, h10, hF⟩⟩
    intro n
    induction n with
    | zero =>
      intro i N c y8 y9 hi hd hc hwk
      obtain ⟨nm, gd⟩ := hN.1 i N hi
      have il := (List.getElem?_eq_some_iff.mp hi).1
      have hcut := (hN.2 i N il hi).1
      have pr := pick_r t b e N
      have d8 := gd.2.2
      refine fr_aload_n 47 dX7_walk_46 rfl rfl ?_
      refine fr_getr 50 22 dX7_walk_47 rfl fs_kX7_81 fs_l0 rfl ?_
      refine fr_iload 52 dX7_walk_50 rfl rfl ?_
      refine fr_iald 53 dX7_walk_52 rfl fs_l22 (by omega) ?_
      refine fr_top hcut ?_
      refine fr_if_lt 158 56 dX7_walk_53 rfl rfl (by omega) (fun h53 => ?_) (fun h53 => ?_)
      · exact out i N c _ _ hi (fun g => by have := hc g; omega) (by rw [← hwk]; rfl)
      · exact absurd h53 (by omega)
    | succ n ih =>
      intro i N c y8 y9 hi hd hc hwk
      obtain ⟨nm, gd⟩ := hN.1 i N hi
      have il := (List.getElem?_eq_some_iff.mp hi).1
      obtain ⟨hcut, hbel⟩ := hN.2 i N il hi
      have pr := pick_r t b e N
      have d8 := gd.2.2
      rw [wk] at hwk
      have hcw := hc (w - 10)
      by_cases hp : pick t b e N < 0
      · rw [if_pos hp] at hwk
        refine fr_aload_n 47 dX7_walk_46 rfl rfl ?_
        refine fr_getr 50 22 dX7_walk_47 rfl fs_kX7_81 fs_l0 rfl ?_
        refine fr_iload 52 dX7_walk_50 rfl rfl ?_
        refine fr_iald 53 dX7_walk_52 rfl fs_l22 (by omega) ?_
        refine fr_top hcut ?_
        refine fr_if_lt 158 56 dX7_walk_53 rfl rfl (by omega) (fun h53 => ?_) (fun h53 => ?_)
        · exact out i N c _ _ hi (fun g => by have := hc g; omega) hwk
        · exact absurd h53 (by omega)
      · rw [if_neg hp] at hwk
        obtain ⟨j, j1, j2, j3, j4⟩ := hbel (by omega)
        clear hbel
        have jl := (List.getElem?_eq_some_iff.mp j4).1
        obtain ⟨f, ef⟩ : ∃ f, pick t b e N = f := ⟨_, rfl⟩
        rw [ef] at hcut hp pr hwk j3 j4
        obtain ⟨nk, gk⟩ := hN.1 j _ j3
        have to0 := (nk.2.2 f (by omega) (by omega)).2
        have kp : (kid t N f 0).2.1 f = 2 * N.2.1 f := by show (if f = f then 2 * N.2.1 f + 0 else N.2.1 f) = _; rw [if_pos rfl]; rfl
        rw [kp] at to0
        have gkr := gk.2.1 f (by omega) (by omega)
        rw [kp] at gkr
        have ca := part_all (wN f) (wN_r f) (2 * N.2.1 f) gkr.1 gkr.2
        have c7 : 2 ^ wN f ≤ 64 := by rcases wN_r f with e | e <;> rw [e] <;> decide
        obtain ⟨md, emd⟩ : ∃ md, phiN (wN f) (2 * N.2.1 f) = md := ⟨_, rfl⟩
        rw [emd] at to0 hwk ca
        have nd' : ∀ h, (8 - (kid t N f h).2.2).toNat = n := fun h => by show (8 - (N.2.2 + 1)).toNat = n; omega
        have hc' : ∀ g, 0 ≤ c g + (if g = f then 1 else 0) ∧ c g + (if g = f then 1 else 0) ≤ 8 - n := fun g => by have := hc g; split <;> omega
        have nx : ∀ (u : Nat) (v z cc : Int) (y8 y9 : Option fs_V), (u = 0 ∨ u = 1) → (u = if (md : Int) < pk x0 x1 x2 x3 f then 1 else 0) → v = (j : Int) + (u : Int) → cc = c (w - 10) + (if w - 10 = f then 1 else 0) → fs_W (fs_Γ 4 (Q_wk t b e σ (aWalk t b e x0 x1 x2 x3 w))) mX7_walk 46 [some (.inr 0), some (.inl x0), some (.inl x1), some (.inl x2), some (.inl x3), some (.inl w), some (.inl v), some (.inl cc), y8, y9] [] τ := by
          intro u v z cc y8 y9 hu hu2 hv hcc
          subst hv; subst hcc
          rw [← hu2] at hwk
          rcases hu with rfl | rfl
          · have := ih j (kid t N f 0) _ y8 y9 j3 (nd' 0) hc' hwk
            rw [show (j : Int) + ((0 : Nat) : Int) = (j : Int) by omega]
            exact this
          · have := ih (j + 1) (kid t N f 1) _ y8 y9 j4 (nd' 1) hc' hwk
            rw [show (j : Int) + ((1 : Nat) : Int) = ((j + 1 : Nat) : Int) by omega]
            exact this
        clear ih hN out
        have dn : ∀ (x : Int) (y9 : Option fs_V), x = pk x0 x1 x2 x3 f → (-2147483648 ≤ x ∧ x < 2147483648) → fs_W (fs_Γ 4 (Q_wk t b e σ (aWalk t b e x0 x1 x2 x3 w))) mX7_walk 96 [some (.inr 0), some (.inl x0), some (.inl x1), some (.inl x2), some (.inl x3), some (.inl w), some (.inl (i : Int)), some (.inl (c (w - 10))), some (.inl f), y9] [.inl x] τ := by
          intro x y9 hx hxr
          refine fr_istore 98 [_, _, _, _, _, _, _, _, _, _] dX7_walk_96 rfl (Nat.le_of_ble_eq_true rfl) rfl ?_
          refine fr_iload 100 dX7_walk_98 rfl rfl ?_
          refine fr_iload 102 dX7_walk_100 rfl rfl ?_
          refine fr_iload 104 dX7_walk_102 rfl rfl ?_
          refine fr_bipush 106 dX7_walk_104 rfl (by decide) ?_
          refine fr_isub 107 dX7_walk_106 rfl ?_
          refine fr_icmp_ne 114 110 dX7_walk_107 rfl rfl (by omega) (by omega) (fun h107 => ?_) (fun h107 => ?_)
          · refine fr_iconst 115 dX7_walk_114 rfl ?_
            refine fr_iadd 116 dX7_walk_115 rfl ?_
            refine fr_istore 118 [_, _, _, _, _, _, _, _, _, _] dX7_walk_116 rfl (Nat.le_of_ble_eq_true rfl) rfl ?_
            refine fr_aload_n 119 dX7_walk_118 rfl rfl ?_
            refine fr_getr 122 23 dX7_walk_119 rfl fs_kX7_84 fs_l0 rfl ?_
            refine fr_iload 124 dX7_walk_122 rfl rfl ?_
            refine fr_iald 125 dX7_walk_124 rfl fs_l23 (by omega) ?_
            refine fr_top j2 ?_
            refine fr_iload 127 dX7_walk_125 rfl rfl ?_
            refine fr_aload_n 128 dX7_walk_127 rfl rfl ?_
            refine fr_getr 131 19 dX7_walk_128 rfl fs_kX7_72 fs_l0 rfl ?_
            refine fr_iconst 132 dX7_walk_131 rfl ?_
            refine fr_aload_n 133 dX7_walk_132 rfl rfl ?_
            refine fr_getr 136 23 dX7_walk_133 rfl fs_kX7_84 fs_l0 rfl ?_
            refine fr_iload 138 dX7_walk_136 rfl rfl ?_
            refine fr_iald 139 dX7_walk_138 rfl fs_l23 (by omega) ?_
            refine fr_top j2 ?_
            refine fr_imul 140 dX7_walk_139 rfl ?_
            refine fr_iload 142 dX7_walk_140 rfl rfl ?_
            refine fr_iadd 143 dX7_walk_142 rfl ?_
            refine fr_iald 144 dX7_walk_143 rfl fs_l19 (by omega) ?_
            refine fr_top to0 ?_
            refine fr_icmp_le 151 147 dX7_walk_144 rfl rfl (by omega) (by omega) (fun h144 => ?_) (fun h144 => ?_)
            · refine fr_iconst 152 dX7_walk_151 rfl ?_
              refine fr_iadd 153 dX7_walk_152 rfl ?_
              refine fr_istore 155 [_, _, _, _, _, _, _, _, _, _] dX7_walk_153 rfl (Nat.le_of_ble_eq_true rfl) rfl ?_
              refine fr_goto 46 dX7_walk_155 rfl ?_
              first
              | exact nx 0 _ 0 _ _ _ (Or.inl rfl) (by rw [if_neg (by omega)]) (by omega) (by first | (rw [if_pos (by omega)]) | (rw [if_neg (by omega)]))
              | exact nx 1 _ 0 _ _ _ (Or.inr rfl) (by rw [if_pos (by omega)]) (by omega) (by first | (rw [if_pos (by omega)]) | (rw [if_neg (by omega)]))
            · refine fr_iconst 148 dX7_walk_147 rfl ?_
              refine fr_goto 152 dX7_walk_148 rfl ?_
              refine fr_iadd 153 dX7_walk_152 rfl ?_
              refine fr_istore 155 [_, _, _, _, _, _, _, _, _, _] dX7_walk_153 rfl (Nat.le_of_ble_eq_true rfl) rfl ?_
              refine fr_goto 46 dX7_walk_155 rfl ?_
              first
              | exact nx 0 _ 0 _ _ _ (Or.inl rfl) (by rw [if_neg (by omega)]) (by omega) (by first | (rw [if_pos (by omega)]) | (rw [if_neg (by omega)]))
              | exact nx 1 _ 0 _ _ _ (Or.inr rfl) (by rw [if_pos (by omega)]) (by omega) (by first | (rw [if_pos (by omega)]) | (rw [if_neg (by omega)]))
          · refine fr_iconst 111 dX7_walk_110 rfl ?_
            refine fr_goto 115 dX7_walk_111 rfl ?_
            refine fr_iadd 116 dX7_walk_115 rfl ?_
            refine fr_istore 118 [_, _, _, _, _, _, _, _, _, _] dX7_walk_116 rfl (Nat.le_of_ble_eq_true rfl) rfl ?_
            refine fr_aload_n 119 dX7_walk_118 rfl rfl ?_
            refine fr_getr 122 23 dX7_walk_119 rfl fs_kX7_84 fs_l0 rfl ?_
            refine fr_iload 124 dX7_walk_122 rfl rfl ?_
            refine fr_iald 125 dX7_walk_124 rfl fs_l23 (by omega) ?_
            refine fr_top j2 ?_
            refine fr_iload 127 dX7_walk_125 rfl rfl ?_
            refine fr_aload_n 128 dX7_walk_127 rfl rfl ?_
            refine fr_getr 131 19 dX7_walk_128 rfl fs_kX7_72 fs_l0 rfl ?_
            refine fr_iconst 132 dX7_walk_131 rfl ?_
            refine fr_aload_n 133 dX7_walk_132 rfl rfl ?_
            refine fr_getr 136 23 dX7_walk_133 rfl fs_kX7_84 fs_l0 rfl ?_
            refine fr_iload 138 dX7_walk_136 rfl rfl ?_
            refine fr_iald 139 dX7_walk_138 rfl fs_l23 (by omega) ?_
            refine fr_top j2 ?_
            refine fr_imul 140 dX7_walk_139 rfl ?_
            refine fr_iload 142 dX7_walk_140 rfl rfl ?_
            refine fr_iadd 143 dX7_walk_142 rfl ?_
            refine fr_iald 144 dX7_walk_143 rfl fs_l19 (by omega) ?_
            refine fr_top to0 ?_
            refine fr_icmp_le 151 147 dX7_walk_144 rfl rfl (by omega) (by omega) (fun h144 => ?_) (fun h144 => ?_)
            · refine fr_iconst 152 dX7_walk_151 rfl ?_
              refine fr_iadd 153 dX7_walk_152 rfl ?_
              refine fr_istore 155 [_, _, _, _, _, _, _, _, _, _] dX7_walk_153 rfl (Nat.le_of_ble_eq_true rfl) rfl ?_
              refine fr_goto 46 dX7_walk_155 rfl ?_
              first
              | exact nx 0 _ 0 _ _ _ (Or.inl rfl) (by rw [if_neg (by omega)]) (by omega) (by first | (rw [if_pos (by omega)]) | (rw [if_neg (by omega)]))
              | exact nx 1 _ 0 _ _ _ (Or.inr rfl) (by rw [if_pos (by omega)]) (by omega) (by first | (rw [if_pos (by omega)]) | (rw [if_neg (by omega)]))
            · refine fr_iconst 148 dX7_walk_147 rfl ?_
              refine fr_goto 152 dX7_walk_148 rfl ?_
              refine fr_iadd 153 dX7_walk_152 rfl ?_
              refine fr_istore 155 [_, _, _, _, _, _, _, _, _, _] dX7_walk_153 rfl (Nat.le_of_ble_eq_true rfl) rfl ?_
              refine fr_goto 46 dX7_walk_155 rfl ?_
              first
              | exact nx 0 _ 0 _ _ _ (Or.inl rfl) (by rw [if_neg (by omega)]) (by omega) (by first | (rw [if_pos (by omega)]) | (rw [if_neg (by omega)]))
              | exact nx 1 _ 0 _ _ _ (Or.inr rfl) (by rw [if_pos (by omega)]) (by omega) (by first | (rw [if_pos (by omega)]) | (rw [if_neg (by omega)]))
        refine fr_aload_n 47 dX7_walk_46 rfl rfl ?_
        refine fr_getr 50 22 dX7_walk_47 rfl fs_kX7_81 fs_l0 rfl ?_
        refine fr_iload 52 dX7_walk_50 rfl rfl ?_
        refine fr_iald 53 dX7_walk_52 rfl fs_l22 (by omega) ?_
        refine fr_top hcut ?_
        refine fr_if_lt 158 56 dX7_walk_53 rfl rfl (by omega) (fun h53 => ?_) (fun h53 => ?_)
        · exact absurd h53 (by omega)
        · refine fr_aload_n 57 dX7_walk_56 rfl rfl ?_
          refine fr_getr 60 22 dX7_walk_57 rfl fs_kX7_81 fs_l0 rfl ?_
          refine fr_iload 62 dX7_walk_60 rfl rfl ?_
          refine fr_iald 63 dX7_walk_62 rfl fs_l22 (by omega) ?_
          refine fr_top hcut ?_
          refine fr_istore 65 [_, _, _, _, _, _, _, _, _, _] dX7_walk_63 rfl (Nat.le_of_ble_eq_true rfl) rfl ?_
          refine fr_iload 67 dX7_walk_65 rfl rfl ?_
          refine fr_if_ne 74 70 dX7_walk_67 rfl rfl (by omega) (fun h67 => ?_) (fun h67 => ?_)
          · refine fr_iload 76 dX7_walk_74 rfl rfl ?_
            refine fr_iconst 77 dX7_walk_76 rfl ?_
            refine fr_icmp_ne 84 80 dX7_walk_77 rfl rfl (by omega) (by omega) (fun h77 => ?_) (fun h77 => ?_)
            · refine fr_iload 86 dX7_walk_84 rfl rfl ?_
              refine fr_iconst 87 dX7_walk_86 rfl ?_
              refine fr_icmp_ne 94 90 dX7_walk_87 rfl rfl (by omega) (by omega) (fun h87 => ?_) (fun h87 => ?_)
              · refine fr_iload 96 dX7_walk_94 rfl rfl ?_
                refine dn _ _ ?_ (by omega)
                unfold pk
                first
                | (rw [if_pos (by omega)])
                | (rw [if_neg (by omega), if_pos (by omega)])
                | (rw [if_neg (by omega), if_neg (by omega), if_pos (by omega)])
                | (rw [if_neg (by omega), if_neg (by omega), if_neg (by omega)])
              · refine fr_iload_n 91 dX7_walk_90 rfl rfl ?_
                refine fr_goto 96 dX7_walk_91 rfl ?_
                refine dn _ _ ?_ (by omega)
                unfold pk
                first
                | (rw [if_pos (by omega)])
                | (rw [if_neg (by omega), if_pos (by omega)])
                | (rw [if_neg (by omega), if_neg (by omega), if_pos (by omega)])
                | (rw [if_neg (by omega), if_neg (by omega), if_neg (by omega)])
            · refine fr_iload_n 81 dX7_walk_80 rfl rfl ?_
              refine fr_goto 96 dX7_walk_81 rfl ?_
              refine dn _ _ ?_ (by omega)
              unfold pk
              first
              | (rw [if_pos (by omega)])
              | (rw [if_neg (by omega), if_pos (by omega)])
              | (rw [if_neg (by omega), if_neg (by omega), if_pos (by omega)])
              | (rw [if_neg (by omega), if_neg (by omega), if_neg (by omega)])
          · refine fr_iload_n 71 dX7_walk_70 rfl rfl ?_
            refine fr_goto 96 dX7_walk_71 rfl ?_
            refine dn _ _ ?_ (by omega)
            unfold pk
            first
            | (rw [if_pos (by omega)])
            | (rw [if_neg (by omega), if_pos (by omega)])
            | (rw [if_neg (by omega), if_neg (by omega), if_pos (by omega)])
            | (rw [if_neg (by omega), if_neg (by omega), if_neg (by omega)])
  refine fr_iload_n 1 dX7_walk_0 rfl rfl ?_
  refine fr_iload_n 2 dX7_walk_1 rfl rfl ?_
  refine fr_iload_n 3 dX7_walk_2 rfl rfl ?_
  refine fr_iload 5 dX7_walk_3 rfl rfl ?_
  refine fr_callSi 8 (M2 := mX7_isPacket) [_, _, _, _] dX7_walk_5 rfl fs_mX7_150 fs_oX7_isPacket fs_sX7_isPacket rfl (fs_Γ_rm (d := 1) (by decide)) (Nat.le_of_ble_eq_true rfl) rfl ?_
  refine (cM_isPacket h0 h1 h2 h3).ci ?_
  refine fr_if_eq 33 11 dX7_walk_8 rfl rfl (by omega) (fun h8 => ?_) (fun h8 => ?_)
  · refine fr_bipush 35 dX7_walk_33 rfl (by decide) ?_
    refine fr_iret dX7_walk_35 rfl ?_
    exact ⟨congrArg some (by unfold aWalk; rw [if_neg (by omega)]), Or.inl rfl⟩
  · refine fr_iload 13 dX7_walk_11 rfl rfl ?_
    refine fr_iconst 14 dX7_walk_13 rfl ?_
    refine fr_iconst 15 dX7_walk_14 rfl ?_
    refine fr_callSi 18 (M2 := mX7_in) [_, _, _] dX7_walk_15 rfl fs_mX7_100 fs_oX7_in fs_sX7_in rfl (fs_Γ_rm (d := 0) (by decide)) (Nat.le_of_ble_eq_true rfl) rfl ?_
    refine (cM_in hww (by decide) (by decide)).ci ?_
    refine fr_if_ne 36 21 dX7_walk_18 rfl rfl (by omega) (fun h18 => ?_) (fun h18 => ?_)
    · refine fr_aload_n 37 dX7_walk_36 rfl rfl ?_
      refine fr_callVv 40 (M2 := mX7_growTree) [] dX7_walk_37 rfl fs_mX7_231 fs_oX7_growTree fs_iX7_growTree fs_l0 rfl rfl (fs_Γ_rm (d := 3) (by decide)) (Nat.le_of_ble_eq_true rfl) rfl ?_
      refine (cM_growTree hw hR hB hE hb' he hb hv hb9 hv9).mono ?_
      rintro _ τ ⟨rfl, hT, hO, h7, h10, hF⟩
      refine ⟨rfl, ?_⟩
      obtain ⟨L, l1, l2, l3, l4, l5, l6⟩ := id hT
      refine fr_iconst 41 dX7_walk_40 rfl ?_
      refine fr_istore 43 [_, _, _, _, _, _, _, _, _, _] dX7_walk_41 rfl (Nat.le_of_ble_eq_true rfl) rfl ?_
      refine fr_iconst 44 dX7_walk_43 rfl ?_
      refine fr_istore 46 [_, _, _, _, _, _, _, _, _, _] dX7_walk_44 rfl (Nat.le_of_ble_eq_true rfl) rfl ?_
      exact key τ L (by omega) hT l2.2 l4 hO h7 h10 hF 8 0 (root t) (fun _ => 0) _ _ l3 rfl (fun g => by constructor <;> decide) rfl
    · refine fr_iload 23 dX7_walk_21 rfl rfl ?_
      refine fr_bipush 25 dX7_walk_23 rfl (by decide) ?_
      refine fr_bipush 27 dX7_walk_25 rfl (by decide) ?_
      refine fr_callSi 30 (M2 := mX7_in) [_, _, _] dX7_walk_27 rfl fs_mX7_100 fs_oX7_in fs_sX7_in rfl (fs_Γ_rm (d := 0) (by decide)) (Nat.le_of_ble_eq_true rfl) rfl ?_
      refine (cM_in hww (by decide) (by decide)).ci ?_
      refine fr_if_ne 36 33 dX7_walk_30 rfl rfl (by omega) (fun h30 => ?_) (fun h30 => ?_)
      · refine fr_aload_n 37 dX7_walk_36 rfl rfl ?_
        refine fr_callVv 40 (M2 := mX7_growTree) [] dX7_walk_37 rfl fs_mX7_231 fs_oX7_growTree fs_iX7_growTree fs_l0 rfl rfl (fs_Γ_rm (d := 3) (by decide)) (Nat.le_of_ble_eq_true rfl) rfl ?_
        refine (cM_growTree hw hR hB hE hb' he hb hv hb9 hv9).mono ?_
        rintro _ τ ⟨rfl, hT, hO, h7, h10, hF⟩
        refine ⟨rfl, ?_⟩
        obtain ⟨L, l1, l2, l3, l4, l5, l6⟩ := id hT
        refine fr_iconst 41 dX7_walk_40 rfl ?_
        refine fr_istore 43 [_, _, _, _, _, _, _, _, _, _] dX7_walk_41 rfl (Nat.le_of_ble_eq_true rfl) rfl ?_
        refine fr_iconst 44 dX7_walk_43 rfl ?_
        refine fr_istore 46 [_, _, _, _, _, _, _, _, _, _] dX7_walk_44 rfl (Nat.le_of_ble_eq_true rfl) rfl ?_
        exact key τ L (by omega) hT l2.2 l4 hO h7 h10 hF 8 0 (root t) (fun _ => 0) _ _ l3 rfl (fun g => by constructor <;> decide) rfl
      · refine fr_bipush 35 dX7_walk_33 rfl (by decide) ?_
        refine fr_iret dX7_walk_35 rfl ?_
        exact ⟨congrArg some (by unfold aWalk; rw [if_neg (by omega)]), Or.inl rfl⟩
