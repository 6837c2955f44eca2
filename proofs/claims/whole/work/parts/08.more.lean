/-! ===== Math.max, Math.min, switches, a cell's row by an explicit number ===== -/
section MORE
variable {Γ : fs_G} {M : fs_Me} {pc : Nat} {L : List (Option fs_V)} {st : List fs_V} {σ : fs_S}
theorem fs_cats {ad : Int → Nat} (l : List fs_V) : ((l.map (fs_cv ad)).map fun v => v.category).sum = l.length := by
  induction l with
  | nil => rfl
  | cons a l ih =>
    simp only [List.map_cons, List.sum_cons, List.length_cons, fs_cv_cat] at ih ⊢
    omega
theorem fr_mmax (q : Nat) {idx d : Nat} {a b : Int} (hd : decode M.2.1 pc = .ok (.invokestatic idx, 3)) (hp : pc + 3 = q) (hm : Cond.methodLink M.1.cls idx Lib.Math.max.name ∈ fs_tbl) (h1 : Cond.static Lib.Math.max.name ∈ fs_tbl) (h2 : Cond.initialized "java/lang/Math" ∈ fs_tbl) (h3 : Cond.code Lib.Math.max.name Lib.Math.max.code 2 (some .int) ∈ fs_tbl) (hr : fs_Rm Γ d) (hw : st.length ≤ 8) (ha : -2147483648 ≤ a ∧ a < 2147483648) (hb : -2147483648 ≤ b ∧ b < 2147483648) (kk : fs_W Γ M q L (.inl (max a b) :: st) σ) : fs_W Γ M pc L (.inl b :: .inl a :: st) σ := by
  subst hp
  intro p l e R s m args below meth c D ad cs cells slots Z hC hG hn H locs ls hH hL
  have K := kk p l e R s m args below meth c D ad cs cells slots Z hC hG hn H locs ls hH hL
  obtain ⟨r1, r2, r3, r4⟩ := hr _ _ _ _ _ _ _ _ _ _ _ hG
  have hts := hC.2.2.2.2.2.2.1
  refine va_mmax hC.1 hC.2.1 (hC.2.2.2.1.trans (hL.1.trans hn).symm) hC.2.2.2.2.2.1 (hts _ hm) (hts _ h1) (hts _ h2) (hts _ h3) (by omega) (by rw [fs_cats]; omega) r3 r4 hd ?_
  rw [fs_mp (x := max a b) (v := if Int32.ofInt a < Int32.ofInt b then Int32.ofInt b else Int32.ofInt a) (by
    by_cases h : a < b
    · rw [if_pos ((fs_lt ha hb).mpr h)]; congr 1; omega
    · rw [if_neg (fun z => h ((fs_lt ha hb).mp z))]; congr 1; omega)] at K
  exact K
theorem fr_mmin (q : Nat) {idx d : Nat} {a b : Int} (hd : decode M.2.1 pc = .ok (.invokestatic idx, 3)) (hp : pc + 3 = q) (hm : Cond.methodLink M.1.cls idx Lib.Math.min.name ∈ fs_tbl) (h1 : Cond.static Lib.Math.min.name ∈ fs_tbl) (h2 : Cond.initialized "java/lang/Math" ∈ fs_tbl) (h3 : Cond.code Lib.Math.min.name Lib.Math.min.code 2 (some .int) ∈ fs_tbl) (hr : fs_Rm Γ d) (hw : st.length ≤ 8) (ha : -2147483648 ≤ a ∧ a < 2147483648) (hb : -2147483648 ≤ b ∧ b < 2147483648) (kk : fs_W Γ M q L (.inl (min a b) :: st) σ) : fs_W Γ M pc L (.inl b :: .inl a :: st) σ := by
  subst hp
  intro p l e R s m args below meth c D ad cs cells slots Z hC hG hn H locs ls hH hL
  have K := kk p l e R s m args below meth c D ad cs cells slots Z hC hG hn H locs ls hH hL
  obtain ⟨r1, r2, r3, r4⟩ := hr _ _ _ _ _ _ _ _ _ _ _ hG
  have hts := hC.2.2.2.2.2.2.1
  refine va_mmin hC.1 hC.2.1 (hC.2.2.2.1.trans (hL.1.trans hn).symm) hC.2.2.2.2.2.1 (hts _ hm) (hts _ h1) (hts _ h2) (hts _ h3) (by omega) (by rw [fs_cats]; omega) r3 r4 hd ?_
  rw [fs_mp (x := min a b) (v := if Int32.ofInt b < Int32.ofInt a then Int32.ofInt b else Int32.ofInt a) (by
    by_cases h : b < a
    · rw [if_pos ((fs_lt hb ha).mpr h)]; congr 1; omega
    · rw [if_neg (fun z => h ((fs_lt hb ha).mp z))]; congr 1; omega)] at K
  exact K
theorem fr_tblIn (t : Nat) {x dflt lo hi off : Int} {offs : Array Int} {len : Nat} (hd : decode M.2.1 pc = .ok (.tableswitch dflt lo hi offs, len)) (hr : -2147483648 ≤ x ∧ x < 2147483648) (h1 : lo ≤ x) (h2 : x ≤ hi) (ho : offs[(x - lo).toNat]? = some off) (ht : (pc : Int) + off = (t : Int)) (kk : fs_W Γ M t L st σ) : fs_W Γ M pc L (.inl x :: st) σ := by
  intro p l e R s m args below meth c D ad cs cells slots Z hC hG hn H locs ls hH hL
  exact lv_tableIn hC.1 hC.2.1 hd (by rw [fs_toInt hr]; omega) (by rw [fs_toInt hr]; omega) (by rw [fs_toInt hr]; exact ho) ht (kk p l e R s m args below meth c D ad cs cells slots Z hC hG hn H locs ls hH hL)
theorem fr_tblOut (t : Nat) {x dflt lo hi : Int} {offs : Array Int} {len : Nat} (hd : decode M.2.1 pc = .ok (.tableswitch dflt lo hi offs, len)) (hr : -2147483648 ≤ x ∧ x < 2147483648) (h1 : x < lo ∨ hi < x) (ht : (pc : Int) + dflt = (t : Int)) (kk : fs_W Γ M t L st σ) : fs_W Γ M pc L (.inl x :: st) σ := by
  intro p l e R s m args below meth c D ad cs cells slots Z hC hG hn H locs ls hH hL
  exact lv_tableOut hC.1 hC.2.1 hd (by rw [fs_toInt hr]; exact h1) ht (kk p l e R s m args below meth c D ad cs cells slots Z hC hG hn H locs ls hH hL)
theorem fr_look (t : Nat) {x dflt off : Int} {ps : Array (Int × Int)} {len : Nat} (hd : decode M.2.1 pc = .ok (.lookupswitch dflt ps, len)) (hr : -2147483648 ≤ x ∧ x < 2147483648) (hp : (ps.toList.zip (ps.toList.drop 1)).all (fun (a, next) => a.1 < next.1) = true) (ho : Op.lookupswitch.offset ps.toList dflt x = off) (ht : (pc : Int) + off = (t : Int)) (kk : fs_W Γ M t L st σ) : fs_W Γ M pc L (.inl x :: st) σ := by
  intro p l e R s m args below meth c D ad cs cells slots Z hC hG hn H locs ls hH hL
  exact lv_lookup hC.1 hC.2.1 hd hp (by rw [fs_toInt hr]; exact ho) ht (kk p l e R s m args below meth c D ad cs cells slots Z hC hG hn H locs ls hH hL)
theorem fr_aaldE (q : Nat) (y : Int) {k x b : Int} {n : Nat} {o : Bool} (hd : decode M.2.1 pc = .ok (.aaload, 1)) (hp : pc + 1 = q) (hl : fs_lay k = some (.inr (.inr (n, o, b)))) (hx : 0 ≤ x ∧ x < (n : Int)) (hy : b + x = y) (kk : fs_W Γ M q L (.inr y :: st) σ) : fs_W Γ M pc L (.inl x :: .inr k :: st) σ := by
  subst hy
  exact fr_aald q hd hp hl hx kk
end MORE
/-! the state behind a write -/
theorem fs_u_eq (σ : fs_S) (k i v : Int) : fs_u σ k i v k i = v := by simp [fs_u]
theorem fs_u_ne (σ : fs_S) {k i v k' i' : Int} (h : ¬ (k' = k ∧ i' = i)) : fs_u σ k i v k' i' = σ k' i' := by simp [fs_u, h]
theorem fs_u_k (σ : fs_S) {k i v k' : Int} (i' : Int) (h : k' ≠ k) : fs_u σ k i v k' i' = σ k' i' := by simp [fs_u, h]
theorem fs_u_i (σ : fs_S) {k i v i' : Int} (h : i' ≠ i) : fs_u σ k i v k i' = σ k i' := by simp [fs_u, h]
