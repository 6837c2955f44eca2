theorem fs_cin (ci : Nat) (q : vw_C) (h : fs_cl[ci]? = some q) : (∀ w ∈ u_ws q.1 q.2.1 q.2.2, w ∈ fs_tbl) ∧ ∃ ty0 : Nat → FieldType, (∀ k, k < q.2.2 → parseFieldDescriptor (q.2.1 k).2.2.1 = some (ty0 k)) ∧ (∀ a, a < q.2.2 → ∀ b, b < q.2.2 → a ≠ b → (q.2.1 a).2.1 ≠ (q.2.1 b).2.1) := by
  match ci, h with
  | 0, h => cases h; exact ⟨fs_inX0, tyX0, tyX0_ok, nmX0⟩
  | 1, h => cases h; exact ⟨fs_inX1, tyX1, tyX1_ok, nmX1⟩
  | 2, h => cases h; exact ⟨fs_inX2, tyX2, tyX2_ok, nmX2⟩
  | 3, h => cases h; exact ⟨fs_inX3, tyX3, tyX3_ok, nmX3⟩
  | 4, h => cases h; exact ⟨fs_inX4, tyX4, tyX4_ok, nmX4⟩
  | 5, h => cases h; exact ⟨fs_inX5, tyX5, tyX5_ok, nmX5⟩
  | 6, h => cases h; exact ⟨fs_inX6, tyX6, tyX6_ok, nmX6⟩
  | 7, h => cases h; exact ⟨fs_inX7, tyX7, tyX7_ok, nmX7⟩
  | n + 8, h => simp [fs_cl] at h
def fi_and (a b : Int) : Int := (Int32.ofInt a &&& Int32.ofInt b).toInt
def fi_or (a b : Int) : Int := (Int32.ofInt a ||| Int32.ofInt b).toInt
def fi_xor (a b : Int) : Int := (Int32.ofInt a ^^^ Int32.ofInt b).toInt
def fi_shl (a b : Int) : Int := (Int32.ofInt a <<< (Int32.ofInt b &&& 31)).toInt
def fi_shr (a b : Int) : Int := (Int32.ofInt a >>> (Int32.ofInt b &&& 31)).toInt
def fi_ushr (a b : Int) : Int := ((Int32.ofInt a).toUInt32 >>> ((Int32.ofInt b).toUInt32 &&& Int32.toUInt32 31)).toInt32.toInt
def fi_w (a : Int) : Int := (Int32.ofInt a).toInt
theorem fi_and_w (a b : Int) : Int32.ofInt (fi_and a b) = Int32.ofInt a &&& Int32.ofInt b := Int32.ofInt_toInt _
theorem fi_or_w (a b : Int) : Int32.ofInt (fi_or a b) = Int32.ofInt a ||| Int32.ofInt b := Int32.ofInt_toInt _
theorem fi_xor_w (a b : Int) : Int32.ofInt (fi_xor a b) = Int32.ofInt a ^^^ Int32.ofInt b := Int32.ofInt_toInt _
theorem fi_shl_w (a b : Int) : Int32.ofInt (fi_shl a b) = Int32.ofInt a <<< (Int32.ofInt b &&& 31) := Int32.ofInt_toInt _
theorem fi_shr_w (a b : Int) : Int32.ofInt (fi_shr a b) = Int32.ofInt a >>> (Int32.ofInt b &&& 31) := Int32.ofInt_toInt _
theorem fi_ushr_w (a b : Int) : Int32.ofInt (fi_ushr a b) = ((Int32.ofInt a).toUInt32 >>> ((Int32.ofInt b).toUInt32 &&& Int32.toUInt32 31)).toInt32 := Int32.ofInt_toInt _
theorem fi_w_w (a : Int) : Int32.ofInt (fi_w a) = Int32.ofInt a := Int32.ofInt_toInt _
theorem fs_mp {ad : Int → Nat} {st : List fs_V} {x : Int} {v : Int32} (h : Int32.ofInt x = v) : List.map (fs_cv ad) (Sum.inl x :: st) = Value.int v :: List.map (fs_cv ad) st := by subst h; rfl
theorem fs_toInt {a : Int} (h : -2147483648 ≤ a ∧ a < 2147483648) : (Int32.ofInt a).toInt = a := Int32.toInt_ofInt_of_le (by omega) (by omega)
theorem fs_lt {a b : Int} (ha : -2147483648 ≤ a ∧ a < 2147483648) (hb : -2147483648 ≤ b ∧ b < 2147483648) : Int32.ofInt a < Int32.ofInt b ↔ a < b := by rw [Int32.lt_iff_toInt_lt, fs_toInt ha, fs_toInt hb]
theorem fs_le {a b : Int} (ha : -2147483648 ≤ a ∧ a < 2147483648) (hb : -2147483648 ≤ b ∧ b < 2147483648) : Int32.ofInt a ≤ Int32.ofInt b ↔ a ≤ b := by rw [Int32.le_iff_toInt_le, fs_toInt ha, fs_toInt hb]
theorem fs_eq {a b : Int} (ha : -2147483648 ≤ a ∧ a < 2147483648) (hb : -2147483648 ≤ b ∧ b < 2147483648) : Int32.ofInt a = Int32.ofInt b ↔ a = b := by rw [← Int32.toInt_inj, fs_toInt ha, fs_toInt hb]
theorem fs_zero : (0 : Int32) = Int32.ofInt 0 := by decide
theorem fs_z : -2147483648 ≤ (0 : Int) ∧ (0 : Int) < 2147483648 := by decide
theorem fs_i8 {n : Int} (h : -128 ≤ n ∧ n < 128) : (Int8.ofInt n).toInt32 = Int32.ofInt n := by
  rw [← Int32.toInt_inj, fs_toInt (by omega), Int8.toInt_toInt32, Int8.toInt_ofInt_of_le (by omega) (by omega)]
theorem fs_i16 {n : Int} (h : -32768 ≤ n ∧ n < 32768) : (Int16.ofInt n).toInt32 = Int32.ofInt n := by
  rw [← Int32.toInt_inj, fs_toInt (by omega), Int16.toInt_toInt32, Int16.toInt_ofInt_of_le (by omega) (by omega)]
theorem fs_clamp {x : Int} {n : Nat} (h : 0 ≤ x ∧ x < (n : Int)) (hn : n ≤ 65536) : (Int32.ofInt x).toNatClampNeg = x.toNat := Int32.toNatClampNeg_ofInt_of_le (by omega) (by omega)
theorem fs_vin {x : Int} {n : Nat} (h : 0 ≤ x ∧ x < (n : Int)) (hn : n ≤ 65536) : vp_in (Int32.ofInt x) n := by
  unfold vp_in
  rw [fs_clamp h hn, fs_zero, fs_lt (by omega) fs_z]
  omega
theorem fs_div {a b : Int} (ha : 0 ≤ a ∧ a < 2147483648) (hb : 0 < b ∧ b < 2147483648) : Int32.ofInt (a / b) = Int32.ofInt a / Int32.ofInt b := by
  have h1 : 0 ≤ a / b := Int.ediv_nonneg ha.1 (by omega)
  have h2 : a / b ≤ a := Int.ediv_le_self b ha.1
  rw [← Int32.toInt_inj, fs_toInt (by omega), Int32.toInt_div_of_ne_right, fs_toInt (by omega), fs_toInt (by omega), Int.tdiv_eq_ediv_of_nonneg ha.1]
  intro h
  have h3 : (Int32.ofInt b).toInt = (-1 : Int32).toInt := by rw [h]
  rw [fs_toInt (by omega)] at h3
  have h4 : (-1 : Int32).toInt = -1 := by decide
  omega
theorem fs_rem {a b : Int} (ha : 0 ≤ a ∧ a < 2147483648) (hb : 0 < b ∧ b < 2147483648) : Int32.ofInt (a % b) = Int32.ofInt a - Int32.ofInt a / Int32.ofInt b * Int32.ofInt b := by
  rw [← fs_div ha hb, ← Int32.ofInt_mul, ← Int32.ofInt_sub]
  congr 1
  have := Int.emod_def a b
  rw [this, Int.mul_comm]
theorem fs_goodAll {ws : List Cond} (h : ∀ w ∈ ws, w ∈ fs_tbl) : GoodIn fs_tbl ws := fun w hw => ⟨h w hw, good_of_word (List.mem_filter.mp (h w hw)).2⟩
section RULES
variable {Γ : fs_G} {M : fs_Me} {pc : Nat} {L : List (Option fs_V)} {st : List fs_V} {σ : fs_S}
theorem fr_top {x y : Int} (h : x = y) (kk : fs_W Γ M pc L (.inl y :: st) σ) : fs_W Γ M pc L (.inl x :: st) σ := h ▸ kk
theorem fr_wrap {x : Int} (kk : fs_W Γ M pc L (.inl (fi_w x) :: st) σ) : fs_W Γ M pc L (.inl x :: st) σ := by
  intro p l e R s m args below meth c D ad cs cells slots Z hC hG hn H locs ls hH hL
  have K := kk p l e R s m args below meth c D ad cs cells slots Z hC hG hn H locs ls hH hL
  rw [fs_mp (fi_w_w x)] at K
  exact K

theorem fr_iconst (q : Nat) {n : Int} (hd : decode M.2.1 pc = .ok (.iconst n, 1)) (hp : pc + 1 = q) (kk : fs_W Γ M q L (.inl n :: st) σ) : fs_W Γ M pc L (st) σ := by
  intro p l e R s m args below meth c D ad cs cells slots Z hC hG hn H locs ls hH hL
  have K := kk p l e R s m args below meth c D ad cs cells slots Z hC hG hn H locs ls hH hL
  subst hp
  exact lv_iconst hC.1 hC.2.1 hd rfl K

theorem fr_bipush (q : Nat) {n : Int} (hd : decode M.2.1 pc = .ok (.bipush n, 2)) (hp : pc + 2 = q) (hv : -128 ≤ n ∧ n < 128) (kk : fs_W Γ M q L (.inl n :: st) σ) : fs_W Γ M pc L (st) σ := by
  intro p l e R s m args below meth c D ad cs cells slots Z hC hG hn H locs ls hH hL
  have K := kk p l e R s m args below meth c D ad cs cells slots Z hC hG hn H locs ls hH hL
  subst hp
  exact lv_bipush hC.1 hC.2.1 hd (fs_i8 hv) K

theorem fr_sipush (q : Nat) {n : Int} (hd : decode M.2.1 pc = .ok (.sipush n, 3)) (hp : pc + 3 = q) (hv : -32768 ≤ n ∧ n < 32768) (kk : fs_W Γ M q L (.inl n :: st) σ) : fs_W Γ M pc L (st) σ := by
  intro p l e R s m args below meth c D ad cs cells slots Z hC hG hn H locs ls hH hL
  have K := kk p l e R s m args below meth c D ad cs cells slots Z hC hG hn H locs ls hH hL
  subst hp
  exact lv_sipush hC.1 hC.2.1 hd (fs_i16 hv) K

theorem fr_ldcw (q : Nat) {index : Nat} {n : Int} (hd : decode M.2.1 pc = .ok (.ldc_w index, 3)) (hp : pc + 3 = q) (hw : Cond.constant M.1.cls index (Int32.ofInt n) ∈ fs_tbl) (kk : fs_W Γ M q L (.inl n :: st) σ) : fs_W Γ M pc L (st) σ := by
  intro p l e R s m args below meth c D ad cs cells slots Z hC hG hn H locs ls hH hL
  have K := kk p l e R s m args below meth c D ad cs cells slots Z hC hG hn H locs ls hH hL
  subst hp
  exact lv_ldcw hC.1 hC.2.1 hC.2.2.2.2.2.1 (hC.2.2.2.2.2.2.1 _ hw) hd K

theorem fr_iload_n (q : Nat) {k : Fin 4} {x : Int} (hd : decode M.2.1 pc = .ok (.iload_n k, 1)) (hp : pc + 1 = q) (hl : L[(k : Nat)]? = some (some (.inl x))) (kk : fs_W Γ M q L (.inl x :: st) σ) : fs_W Γ M pc L (st) σ := by
  intro p l e R s m args below meth c D ad cs cells slots Z hC hG hn H locs ls hH hL
  have K := kk p l e R s m args below meth c D ad cs cells slots Z hC hG hn H locs ls hH hL
  subst hp
  exact lv_iload_n hC.1 hC.2.1 hd rfl (hL.2.2 _ _ hl) K

theorem fr_iload (q : Nat) {i : Nat} {x : Int} (hd : decode M.2.1 pc = .ok (.iload i, 2)) (hp : pc + 2 = q) (hl : L[i]? = some (some (.inl x))) (kk : fs_W Γ M q L (.inl x :: st) σ) : fs_W Γ M pc L (st) σ := by
  intro p l e R s m args below meth c D ad cs cells slots Z hC hG hn H locs ls hH hL
  have K := kk p l e R s m args below meth c D ad cs cells slots Z hC hG hn H locs ls hH hL
  subst hp
  exact lv_iload hC.1 hC.2.1 hd (hL.2.2 _ _ hl) K

theorem fr_aload_n (q : Nat) {k : Fin 4} {x : Int} (hd : decode M.2.1 pc = .ok (.aload_n k, 1)) (hp : pc + 1 = q) (hl : L[(k : Nat)]? = some (some (.inr x))) (kk : fs_W Γ M q L (.inr x :: st) σ) : fs_W Γ M pc L (st) σ := by
  intro p l e R s m args below meth c D ad cs cells slots Z hC hG hn H locs ls hH hL
  have K := kk p l e R s m args below meth c D ad cs cells slots Z hC hG hn H locs ls hH hL
  subst hp
  exact lv_aload_n hC.1 hC.2.1 hd rfl (hL.2.2 _ _ hl) K

theorem fr_aload (q : Nat) {i : Nat} {x : Int} (hd : decode M.2.1 pc = .ok (.aload i, 2)) (hp : pc + 2 = q) (hl : L[i]? = some (some (.inr x))) (kk : fs_W Γ M q L (.inr x :: st) σ) : fs_W Γ M pc L (st) σ := by
  intro p l e R s m args below meth c D ad cs cells slots Z hC hG hn H locs ls hH hL
  have K := kk p l e R s m args below meth c D ad cs cells slots Z hC hG hn H locs ls hH hL
  subst hp
  exact lv_aload hC.1 hC.2.1 hd (hL.2.2 _ _ hl) K

theorem fr_iadd (q : Nat) {a b : Int} (hd : decode M.2.1 pc = .ok (.iadd, 1)) (hp : pc + 1 = q) (kk : fs_W Γ M q L (.inl (a + b) :: st) σ) : fs_W Γ M pc L (.inl b :: .inl a :: st) σ := by
  intro p l e R s m args below meth c D ad cs cells slots Z hC hG hn H locs ls hH hL
  have K := kk p l e R s m args below meth c D ad cs cells slots Z hC hG hn H locs ls hH hL
  subst hp
  rw [fs_mp (Int32.ofInt_add a b)] at K
  exact lv_iadd hC.1 hC.2.1 hd K

theorem fr_isub (q : Nat) {a b : Int} (hd : decode M.2.1 pc = .ok (.isub, 1)) (hp : pc + 1 = q) (kk : fs_W Γ M q L (.inl (a - b) :: st) σ) : fs_W Γ M pc L (.inl b :: .inl a :: st) σ := by
  intro p l e R s m args below meth c D ad cs cells slots Z hC hG hn H locs ls hH hL
  have K := kk p l e R s m args below meth c D ad cs cells slots Z hC hG hn H locs ls hH hL
  subst hp
  rw [fs_mp (Int32.ofInt_sub a b)] at K
  exact lv_isub hC.1 hC.2.1 hd K

theorem fr_imul (q : Nat) {a b : Int} (hd : decode M.2.1 pc = .ok (.imul, 1)) (hp : pc + 1 = q) (kk : fs_W Γ M q L (.inl (a * b) :: st) σ) : fs_W Γ M pc L (.inl b :: .inl a :: st) σ := by
  intro p l e R s m args below meth c D ad cs cells slots Z hC hG hn H locs ls hH hL
  have K := kk p l e R s m args below meth c D ad cs cells slots Z hC hG hn H locs ls hH hL
  subst hp
  rw [fs_mp (Int32.ofInt_mul a b)] at K
  exact lv_imul hC.1 hC.2.1 hd K

theorem fr_iand (q : Nat) {a b : Int} (hd : decode M.2.1 pc = .ok (.iand, 1)) (hp : pc + 1 = q) (kk : fs_W Γ M q L (.inl (fi_and a b) :: st) σ) : fs_W Γ M pc L (.inl b :: .inl a :: st) σ := by
  intro p l e R s m args below meth c D ad cs cells slots Z hC hG hn H locs ls hH hL
  have K := kk p l e R s m args below meth c D ad cs cells slots Z hC hG hn H locs ls hH hL
  subst hp
  rw [fs_mp (fi_and_w a b)] at K
  exact lv_iand hC.1 hC.2.1 hd K

theorem fr_ior (q : Nat) {a b : Int} (hd : decode M.2.1 pc = .ok (.ior, 1)) (hp : pc + 1 = q) (kk : fs_W Γ M q L (.inl (fi_or a b) :: st) σ) : fs_W Γ M pc L (.inl b :: .inl a :: st) σ := by
  intro p l e R s m args below meth c D ad cs cells slots Z hC hG hn H locs ls hH hL
  have K := kk p l e R s m args below meth c D ad cs cells slots Z hC hG hn H locs ls hH hL
  subst hp
  rw [fs_mp (fi_or_w a b)] at K
  exact lv_ior hC.1 hC.2.1 hd K

theorem fr_ixor (q : Nat) {a b : Int} (hd : decode M.2.1 pc = .ok (.ixor, 1)) (hp : pc + 1 = q) (kk : fs_W Γ M q L (.inl (fi_xor a b) :: st) σ) : fs_W Γ M pc L (.inl b :: .inl a :: st) σ := by
  intro p l e R s m args below meth c D ad cs cells slots Z hC hG hn H locs ls hH hL
  have K := kk p l e R s m args below meth c D ad cs cells slots Z hC hG hn H locs ls hH hL
  subst hp
  rw [fs_mp (fi_xor_w a b)] at K
  exact lv_ixor hC.1 hC.2.1 hd K

theorem fr_ishl (q : Nat) {a b : Int} (hd : decode M.2.1 pc = .ok (.ishl, 1)) (hp : pc + 1 = q) (kk : fs_W Γ M q L (.inl (fi_shl a b) :: st) σ) : fs_W Γ M pc L (.inl b :: .inl a :: st) σ := by
  intro p l e R s m args below meth c D ad cs cells slots Z hC hG hn H locs ls hH hL
  have K := kk p l e R s m args below meth c D ad cs cells slots Z hC hG hn H locs ls hH hL
  subst hp
  rw [fs_mp (fi_shl_w a b)] at K
  exact lv_ishl hC.1 hC.2.1 hd K

theorem fr_ishr (q : Nat) {a b : Int} (hd : decode M.2.1 pc = .ok (.ishr, 1)) (hp : pc + 1 = q) (kk : fs_W Γ M q L (.inl (fi_shr a b) :: st) σ) : fs_W Γ M pc L (.inl b :: .inl a :: st) σ := by
  intro p l e R s m args below meth c D ad cs cells slots Z hC hG hn H locs ls hH hL
  have K := kk p l e R s m args below meth c D ad cs cells slots Z hC hG hn H locs ls hH hL
  subst hp
  rw [fs_mp (fi_shr_w a b)] at K
  exact lv_ishr hC.1 hC.2.1 hd K

theorem fr_iushr (q : Nat) {a b : Int} (hd : decode M.2.1 pc = .ok (.iushr, 1)) (hp : pc + 1 = q) (kk : fs_W Γ M q L (.inl (fi_ushr a b) :: st) σ) : fs_W Γ M pc L (.inl b :: .inl a :: st) σ := by
  intro p l e R s m args below meth c D ad cs cells slots Z hC hG hn H locs ls hH hL
  have K := kk p l e R s m args below meth c D ad cs cells slots Z hC hG hn H locs ls hH hL
  subst hp
  rw [fs_mp (fi_ushr_w a b)] at K
  exact lv_iushr hC.1 hC.2.1 hd rfl K

theorem fr_ineg (q : Nat) {a : Int} (hd : decode M.2.1 pc = .ok (.ineg, 1)) (hp : pc + 1 = q) (kk : fs_W Γ M q L (.inl (-a) :: st) σ) : fs_W Γ M pc L (.inl a :: st) σ := by
  intro p l e R s m args below meth c D ad cs cells slots Z hC hG hn H locs ls hH hL
  have K := kk p l e R s m args below meth c D ad cs cells slots Z hC hG hn H locs ls hH hL
  subst hp
  rw [fs_mp (Int32.ofInt_neg a)] at K
  exact lv_ineg hC.1 hC.2.1 hd K

theorem fr_idiv (q : Nat) {a b : Int} (hd : decode M.2.1 pc = .ok (.idiv, 1)) (hp : pc + 1 = q) (ha : 0 ≤ a ∧ a < 2147483648) (hb : 0 < b ∧ b < 2147483648) (kk : fs_W Γ M q L (.inl (a / b) :: st) σ) : fs_W Γ M pc L (.inl b :: .inl a :: st) σ := by
  intro p l e R s m args below meth c D ad cs cells slots Z hC hG hn H locs ls hH hL
  have K := kk p l e R s m args below meth c D ad cs cells slots Z hC hG hn H locs ls hH hL
  subst hp
  rw [fs_mp (fs_div ha hb)] at K
  exact lv_idiv hC.1 hC.2.1 hd (fun z => by rw [fs_zero, fs_eq (by omega) fs_z] at z; omega) K

theorem fr_irem (q : Nat) {a b : Int} (hd : decode M.2.1 pc = .ok (.irem, 1)) (hp : pc + 1 = q) (ha : 0 ≤ a ∧ a < 2147483648) (hb : 0 < b ∧ b < 2147483648) (kk : fs_W Γ M q L (.inl (a % b) :: st) σ) : fs_W Γ M pc L (.inl b :: .inl a :: st) σ := by
  intro p l e R s m args below meth c D ad cs cells slots Z hC hG hn H locs ls hH hL
  have K := kk p l e R s m args below meth c D ad cs cells slots Z hC hG hn H locs ls hH hL
  subst hp
  rw [fs_mp (fs_rem ha hb)] at K
  exact lv_irem hC.1 hC.2.1 hd (fun z => by rw [fs_zero, fs_eq (by omega) fs_z] at z; omega) K

theorem fr_dup (q : Nat) {v : fs_V} (hd : decode M.2.1 pc = .ok (.dup, 1)) (hp : pc + 1 = q) (kk : fs_W Γ M q L (v :: v :: st) σ) : fs_W Γ M pc L (v :: st) σ := by
  intro p l e R s m args below meth c D ad cs cells slots Z hC hG hn H locs ls hH hL
  have K := kk p l e R s m args below meth c D ad cs cells slots Z hC hG hn H locs ls hH hL
  subst hp
  exact lv_dup hC.1 hC.2.1 hd (fs_cv_cat ad v) K

theorem fr_pop (q : Nat) {v : fs_V} (hd : decode M.2.1 pc = .ok (.pop, 1)) (hp : pc + 1 = q) (kk : fs_W Γ M q L (st) σ) : fs_W Γ M pc L (v :: st) σ := by
  intro p l e R s m args below meth c D ad cs cells slots Z hC hG hn H locs ls hH hL
  have K := kk p l e R s m args below meth c D ad cs cells slots Z hC hG hn H locs ls hH hL
  subst hp
  exact lv_pop hC.1 hC.2.1 hd (fs_cv_cat ad v) K

theorem fr_dup2 (q : Nat) {v w : fs_V} (hd : decode M.2.1 pc = .ok (.dup2, 1)) (hp : pc + 1 = q) (kk : fs_W Γ M q L (v :: w :: v :: w :: st) σ) : fs_W Γ M pc L (v :: w :: st) σ := by
  intro p l e R s m args below meth c D ad cs cells slots Z hC hG hn H locs ls hH hL
  have K := kk p l e R s m args below meth c D ad cs cells slots Z hC hG hn H locs ls hH hL
  subst hp
  exact lv_dup2_11 hC.1 hC.2.1 hd (fs_cv_cat ad v) (fs_cv_cat ad w) K

theorem fr_istore_n (q : Nat) (L2 : List (Option fs_V)) {k : Fin 4} {x : Int} (hd : decode M.2.1 pc = .ok (.istore_n k, 1)) (hp : pc + 1 = q) (hi : (k : Nat) < L.length) (hs : L.set (k : Nat) (some (.inl x)) = L2) (kk : fs_W Γ M q L2 st σ) : fs_W Γ M pc L (.inl x :: st) σ := by
  intro p l e R s m args below meth c D ad cs cells slots Z hC hG hn H locs ls hH hL
  subst hp; subst hs
  refine lv_istore_n hC.1 hC.2.1 hd rfl hL.has hi rfl (fun ls' h' => ?_)
  exact kk p l e R s m args below meth c D ad cs cells slots Z hC hG (by rw [List.length_set]; exact hn) H locs ls' hH (fs_Lr.store (v := .inl x) hi h')

theorem fr_istore (q : Nat) (L2 : List (Option fs_V)) {i : Nat} {x : Int} (hd : decode M.2.1 pc = .ok (.istore i, 2)) (hp : pc + 2 = q) (hi : i < L.length) (hs : L.set i (some (.inl x)) = L2) (kk : fs_W Γ M q L2 st σ) : fs_W Γ M pc L (.inl x :: st) σ := by
  intro p l e R s m args below meth c D ad cs cells slots Z hC hG hn H locs ls hH hL
  subst hp; subst hs
  refine lv_istore hC.1 hC.2.1 hd hL.has hi rfl (fun ls' h' => ?_)
  exact kk p l e R s m args below meth c D ad cs cells slots Z hC hG (by rw [List.length_set]; exact hn) H locs ls' hH (fs_Lr.store (v := .inl x) hi h')

theorem fr_astore_n (q : Nat) (L2 : List (Option fs_V)) {k : Fin 4} {x : Int} (hd : decode M.2.1 pc = .ok (.astore_n k, 1)) (hp : pc + 1 = q) (hi : (k : Nat) < L.length) (hs : L.set (k : Nat) (some (.inr x)) = L2) (kk : fs_W Γ M q L2 st σ) : fs_W Γ M pc L (.inr x :: st) σ := by
  intro p l e R s m args below meth c D ad cs cells slots Z hC hG hn H locs ls hH hL
  subst hp; subst hs
  refine lv_astore_n hC.1 hC.2.1 hd rfl hL.has hi rfl (fun ls' h' => ?_)
  exact kk p l e R s m args below meth c D ad cs cells slots Z hC hG (by rw [List.length_set]; exact hn) H locs ls' hH (fs_Lr.store (v := .inr x) hi h')

theorem fr_astore (q : Nat) (L2 : List (Option fs_V)) {i : Nat} {x : Int} (hd : decode M.2.1 pc = .ok (.astore i, 2)) (hp : pc + 2 = q) (hi : i < L.length) (hs : L.set i (some (.inr x)) = L2) (kk : fs_W Γ M q L2 st σ) : fs_W Γ M pc L (.inr x :: st) σ := by
  intro p l e R s m args below meth c D ad cs cells slots Z hC hG hn H locs ls hH hL
  subst hp; subst hs
  refine lv_astore hC.1 hC.2.1 hd hL.has hi rfl (fun ls' h' => ?_)
  exact kk p l e R s m args below meth c D ad cs cells slots Z hC hG (by rw [List.length_set]; exact hn) H locs ls' hH (fs_Lr.store (v := .inr x) hi h')

theorem fs_lv_at {ad : Int → Nat} {L : List (Option fs_V)} {i : Nat} {v : fs_V} (h : L[i]? = some (some v)) : ∃ k : Nat, (fs_lv ad L)[k]? = some (i, fs_cv ad v) := List.getElem?_of_mem (fs_lv_mem.mpr ⟨v, h, rfl⟩)
theorem fr_iinc (q : Nat) (L2 : List (Option fs_V)) {i : Nat} {n x : Int} (hd : decode M.2.1 pc = .ok (.iinc i n, 3)) (hp : pc + 3 = q) (hl : L[i]? = some (some (.inl x))) (hs : L.set i (some (.inl (x + n))) = L2) (kk : fs_W Γ M q L2 st σ) : fs_W Γ M pc L st σ := by
  intro p l e R s m args below meth c D ad cs cells slots Z hC hG hn H locs ls hH hL
  subst hp; subst hs
  obtain ⟨k, hk⟩ := fs_lv_at (ad := ad) hl
  have hi : i < L.length := (List.getElem?_eq_some_iff.mp hl).1
  refine lv_iinc (v := Int32.ofInt (x + n)) hC.1 hC.2.1 hd hL.has hk (Int32.ofInt_add x n).symm hi rfl (fun ls' h' => ?_)
  exact kk p l e R s m args below meth c D ad cs cells slots Z hC hG (by rw [List.length_set]; exact hn) H locs ls' hH (fs_Lr.store (v := .inl (x + n)) hi h')
theorem fr_goto (t : Nat) {off : Int} (hd : decode M.2.1 pc = .ok (.goto off, 3)) (ht : (pc : Int) + off = (t : Int)) (kk : fs_W Γ M t L st σ) : fs_W Γ M pc L st σ := by
  intro p l e R s m args below meth c D ad cs cells slots Z hC hG hn H locs ls hH hL
  exact lv_goto hC.1 hC.2.1 hd ht (kk p l e R s m args below meth c D ad cs cells slots Z hC hG hn H locs ls hH hL)

theorem fr_icmp_eq (t q : Nat) {a b off : Int} (hd : decode M.2.1 pc = .ok (.if_icmp .eq off, 3)) (ht : (pc : Int) + off = (t : Int)) (hp : pc + 3 = q) (ha : -2147483648 ≤ a ∧ a < 2147483648) (hb : -2147483648 ≤ b ∧ b < 2147483648) (kt : a = b → fs_W Γ M t L st σ) (kf : ¬ a = b → fs_W Γ M q L st σ) : fs_W Γ M pc L (.inl b :: .inl a :: st) σ := by
  intro p l e R s m args below meth c D ad cs cells slots Z hC hG hn H locs ls hH hL
  subst hp
  have E := fs_eq ha hb
  refine lv_icmp_eq hC.1 hC.2.1 hd ht (fun h => kt ?_ p l e R s m args below meth c D ad cs cells slots Z hC hG hn H locs ls hH hL) (fun h => kf ?_ p l e R s m args below meth c D ad cs cells slots Z hC hG hn H locs ls hH hL)
  · first | exact E.mp h | exact fun z => h (E.mpr z)
  · first | exact E.mp h | exact fun z => h (E.mpr z) | exact Int.not_lt.mp (fun z => h (E.mpr z)) | exact Int.not_le.mp (fun z => h (E.mpr z))

theorem fr_icmp_ne (t q : Nat) {a b off : Int} (hd : decode M.2.1 pc = .ok (.if_icmp .ne off, 3)) (ht : (pc : Int) + off = (t : Int)) (hp : pc + 3 = q) (ha : -2147483648 ≤ a ∧ a < 2147483648) (hb : -2147483648 ≤ b ∧ b < 2147483648) (kt : ¬ a = b → fs_W Γ M t L st σ) (kf : a = b → fs_W Γ M q L st σ) : fs_W Γ M pc L (.inl b :: .inl a :: st) σ := by
  intro p l e R s m args below meth c D ad cs cells slots Z hC hG hn H locs ls hH hL
  subst hp
  have E := fs_eq ha hb
  refine lv_icmp_ne hC.1 hC.2.1 hd ht (fun h => kt ?_ p l e R s m args below meth c D ad cs cells slots Z hC hG hn H locs ls hH hL) (fun h => kf ?_ p l e R s m args below meth c D ad cs cells slots Z hC hG hn H locs ls hH hL)
  · first | exact E.mp h | exact fun z => h (E.mpr z)
  · first | exact E.mp h | exact fun z => h (E.mpr z) | exact Int.not_lt.mp (fun z => h (E.mpr z)) | exact Int.not_le.mp (fun z => h (E.mpr z))

theorem fr_icmp_lt (t q : Nat) {a b off : Int} (hd : decode M.2.1 pc = .ok (.if_icmp .lt off, 3)) (ht : (pc : Int) + off = (t : Int)) (hp : pc + 3 = q) (ha : -2147483648 ≤ a ∧ a < 2147483648) (hb : -2147483648 ≤ b ∧ b < 2147483648) (kt : a < b → fs_W Γ M t L st σ) (kf : b ≤ a → fs_W Γ M q L st σ) : fs_W Γ M pc L (.inl b :: .inl a :: st) σ := by
  intro p l e R s m args below meth c D ad cs cells slots Z hC hG hn H locs ls hH hL
  subst hp
  have E := fs_lt ha hb
  refine lv_icmp_lt hC.1 hC.2.1 hd ht (fun h => kt ?_ p l e R s m args below meth c D ad cs cells slots Z hC hG hn H locs ls hH hL) (fun h => kf ?_ p l e R s m args below meth c D ad cs cells slots Z hC hG hn H locs ls hH hL)
  · first | exact E.mp h | exact fun z => h (E.mpr z)
  · first | exact E.mp h | exact fun z => h (E.mpr z) | exact Int.not_lt.mp (fun z => h (E.mpr z)) | exact Int.not_le.mp (fun z => h (E.mpr z))

theorem fr_icmp_ge (t q : Nat) {a b off : Int} (hd : decode M.2.1 pc = .ok (.if_icmp .ge off, 3)) (ht : (pc : Int) + off = (t : Int)) (hp : pc + 3 = q) (ha : -2147483648 ≤ a ∧ a < 2147483648) (hb : -2147483648 ≤ b ∧ b < 2147483648) (kt : b ≤ a → fs_W Γ M t L st σ) (kf : a < b → fs_W Γ M q L st σ) : fs_W Γ M pc L (.inl b :: .inl a :: st) σ := by
  intro p l e R s m args below meth c D ad cs cells slots Z hC hG hn H locs ls hH hL
  subst hp
  have E := fs_le hb ha
  refine lv_icmp_ge hC.1 hC.2.1 hd ht (fun h => kt ?_ p l e R s m args below meth c D ad cs cells slots Z hC hG hn H locs ls hH hL) (fun h => kf ?_ p l e R s m args below meth c D ad cs cells slots Z hC hG hn H locs ls hH hL)
  · first | exact E.mp h | exact fun z => h (E.mpr z)
  · first | exact E.mp h | exact fun z => h (E.mpr z) | exact Int.not_lt.mp (fun z => h (E.mpr z)) | exact Int.not_le.mp (fun z => h (E.mpr z))

theorem fr_icmp_gt (t q : Nat) {a b off : Int} (hd : decode M.2.1 pc = .ok (.if_icmp .gt off, 3)) (ht : (pc : Int) + off = (t : Int)) (hp : pc + 3 = q) (ha : -2147483648 ≤ a ∧ a < 2147483648) (hb : -2147483648 ≤ b ∧ b < 2147483648) (kt : b < a → fs_W Γ M t L st σ) (kf : a ≤ b → fs_W Γ M q L st σ) : fs_W Γ M pc L (.inl b :: .inl a :: st) σ := by
  intro p l e R s m args below meth c D ad cs cells slots Z hC hG hn H locs ls hH hL
  subst hp
  have E := fs_lt hb ha
  refine lv_icmp_gt hC.1 hC.2.1 hd ht (fun h => kt ?_ p l e R s m args below meth c D ad cs cells slots Z hC hG hn H locs ls hH hL) (fun h => kf ?_ p l e R s m args below meth c D ad cs cells slots Z hC hG hn H locs ls hH hL)
  · first | exact E.mp h | exact fun z => h (E.mpr z)
  · first | exact E.mp h | exact fun z => h (E.mpr z) | exact Int.not_lt.mp (fun z => h (E.mpr z)) | exact Int.not_le.mp (fun z => h (E.mpr z))

theorem fr_icmp_le (t q : Nat) {a b off : Int} (hd : decode M.2.1 pc = .ok (.if_icmp .le off, 3)) (ht : (pc : Int) + off = (t : Int)) (hp : pc + 3 = q) (ha : -2147483648 ≤ a ∧ a < 2147483648) (hb : -2147483648 ≤ b ∧ b < 2147483648) (kt : a ≤ b → fs_W Γ M t L st σ) (kf : b < a → fs_W Γ M q L st σ) : fs_W Γ M pc L (.inl b :: .inl a :: st) σ := by
  intro p l e R s m args below meth c D ad cs cells slots Z hC hG hn H locs ls hH hL
  subst hp
  have E := fs_le ha hb
  refine lv_icmp_le hC.1 hC.2.1 hd ht (fun h => kt ?_ p l e R s m args below meth c D ad cs cells slots Z hC hG hn H locs ls hH hL) (fun h => kf ?_ p l e R s m args below meth c D ad cs cells slots Z hC hG hn H locs ls hH hL)
  · first | exact E.mp h | exact fun z => h (E.mpr z)
  · first | exact E.mp h | exact fun z => h (E.mpr z) | exact Int.not_lt.mp (fun z => h (E.mpr z)) | exact Int.not_le.mp (fun z => h (E.mpr z))

theorem fr_if_eq (t q : Nat) {a off : Int} (hd : decode M.2.1 pc = .ok (.ifCond .eq off, 3)) (ht : (pc : Int) + off = (t : Int)) (hp : pc + 3 = q) (ha : -2147483648 ≤ a ∧ a < 2147483648) (kt : a = 0 → fs_W Γ M t L st σ) (kf : ¬ a = 0 → fs_W Γ M q L st σ) : fs_W Γ M pc L (.inl a :: st) σ := by
  intro p l e R s m args below meth c D ad cs cells slots Z hC hG hn H locs ls hH hL
  subst hp
  have E := fs_eq ha fs_z
  rw [← fs_zero] at E
  refine lv_if_eq hC.1 hC.2.1 hd ht (fun h => kt ?_ p l e R s m args below meth c D ad cs cells slots Z hC hG hn H locs ls hH hL) (fun h => kf ?_ p l e R s m args below meth c D ad cs cells slots Z hC hG hn H locs ls hH hL)
  · first | exact E.mp h | exact fun z => h (E.mpr z)
  · first | exact E.mp h | exact fun z => h (E.mpr z) | exact Int.not_lt.mp (fun z => h (E.mpr z)) | exact Int.not_le.mp (fun z => h (E.mpr z))

theorem fr_if_ne (t q : Nat) {a off : Int} (hd : decode M.2.1 pc = .ok (.ifCond .ne off, 3)) (ht : (pc : Int) + off = (t : Int)) (hp : pc + 3 = q) (ha : -2147483648 ≤ a ∧ a < 2147483648) (kt : ¬ a = 0 → fs_W Γ M t L st σ) (kf : a = 0 → fs_W Γ M q L st σ) : fs_W Γ M pc L (.inl a :: st) σ := by
  intro p l e R s m args below meth c D ad cs cells slots Z hC hG hn H locs ls hH hL
  subst hp
  have E := fs_eq ha fs_z
  rw [← fs_zero] at E
  refine lv_if_ne hC.1 hC.2.1 hd ht (fun h => kt ?_ p l e R s m args below meth c D ad cs cells slots Z hC hG hn H locs ls hH hL) (fun h => kf ?_ p l e R s m args below meth c D ad cs cells slots Z hC hG hn H locs ls hH hL)
  · first | exact E.mp h | exact fun z => h (E.mpr z)
  · first | exact E.mp h | exact fun z => h (E.mpr z) | exact Int.not_lt.mp (fun z => h (E.mpr z)) | exact Int.not_le.mp (fun z => h (E.mpr z))

theorem fr_if_lt (t q : Nat) {a off : Int} (hd : decode M.2.1 pc = .ok (.ifCond .lt off, 3)) (ht : (pc : Int) + off = (t : Int)) (hp : pc + 3 = q) (ha : -2147483648 ≤ a ∧ a < 2147483648) (kt : a < 0 → fs_W Γ M t L st σ) (kf : 0 ≤ a → fs_W Γ M q L st σ) : fs_W Γ M pc L (.inl a :: st) σ := by
  intro p l e R s m args below meth c D ad cs cells slots Z hC hG hn H locs ls hH hL
  subst hp
  have E := fs_lt ha fs_z
  rw [← fs_zero] at E
  refine lv_if_lt hC.1 hC.2.1 hd ht (fun h => kt ?_ p l e R s m args below meth c D ad cs cells slots Z hC hG hn H locs ls hH hL) (fun h => kf ?_ p l e R s m args below meth c D ad cs cells slots Z hC hG hn H locs ls hH hL)
  · first | exact E.mp h | exact fun z => h (E.mpr z)
  · first | exact E.mp h | exact fun z => h (E.mpr z) | exact Int.not_lt.mp (fun z => h (E.mpr z)) | exact Int.not_le.mp (fun z => h (E.mpr z))

theorem fr_if_ge (t q : Nat) {a off : Int} (hd : decode M.2.1 pc = .ok (.ifCond .ge off, 3)) (ht : (pc : Int) + off = (t : Int)) (hp : pc + 3 = q) (ha : -2147483648 ≤ a ∧ a < 2147483648) (kt : 0 ≤ a → fs_W Γ M t L st σ) (kf : a < 0 → fs_W Γ M q L st σ) : fs_W Γ M pc L (.inl a :: st) σ := by
  intro p l e R s m args below meth c D ad cs cells slots Z hC hG hn H locs ls hH hL
  subst hp
  have E := fs_le fs_z ha
  rw [← fs_zero] at E
  refine lv_if_ge hC.1 hC.2.1 hd ht (fun h => kt ?_ p l e R s m args below meth c D ad cs cells slots Z hC hG hn H locs ls hH hL) (fun h => kf ?_ p l e R s m args below meth c D ad cs cells slots Z hC hG hn H locs ls hH hL)
  · first | exact E.mp h | exact fun z => h (E.mpr z)
  · first | exact E.mp h | exact fun z => h (E.mpr z) | exact Int.not_lt.mp (fun z => h (E.mpr z)) | exact Int.not_le.mp (fun z => h (E.mpr z))

theorem fr_if_gt (t q : Nat) {a off : Int} (hd : decode M.2.1 pc = .ok (.ifCond .gt off, 3)) (ht : (pc : Int) + off = (t : Int)) (hp : pc + 3 = q) (ha : -2147483648 ≤ a ∧ a < 2147483648) (kt : 0 < a → fs_W Γ M t L st σ) (kf : a ≤ 0 → fs_W Γ M q L st σ) : fs_W Γ M pc L (.inl a :: st) σ := by
  intro p l e R s m args below meth c D ad cs cells slots Z hC hG hn H locs ls hH hL
  subst hp
  have E := fs_lt fs_z ha
  rw [← fs_zero] at E
  refine lv_if_gt hC.1 hC.2.1 hd ht (fun h => kt ?_ p l e R s m args below meth c D ad cs cells slots Z hC hG hn H locs ls hH hL) (fun h => kf ?_ p l e R s m args below meth c D ad cs cells slots Z hC hG hn H locs ls hH hL)
  · first | exact E.mp h | exact fun z => h (E.mpr z)
  · first | exact E.mp h | exact fun z => h (E.mpr z) | exact Int.not_lt.mp (fun z => h (E.mpr z)) | exact Int.not_le.mp (fun z => h (E.mpr z))

theorem fr_if_le (t q : Nat) {a off : Int} (hd : decode M.2.1 pc = .ok (.ifCond .le off, 3)) (ht : (pc : Int) + off = (t : Int)) (hp : pc + 3 = q) (ha : -2147483648 ≤ a ∧ a < 2147483648) (kt : a ≤ 0 → fs_W Γ M t L st σ) (kf : 0 < a → fs_W Γ M q L st σ) : fs_W Γ M pc L (.inl a :: st) σ := by
  intro p l e R s m args below meth c D ad cs cells slots Z hC hG hn H locs ls hH hL
  subst hp
  have E := fs_le ha fs_z
  rw [← fs_zero] at E
  refine lv_if_le hC.1 hC.2.1 hd ht (fun h => kt ?_ p l e R s m args below meth c D ad cs cells slots Z hC hG hn H locs ls hH hL) (fun h => kf ?_ p l e R s m args below meth c D ad cs cells slots Z hC hG hn H locs ls hH hL)
  · first | exact E.mp h | exact fun z => h (E.mpr z)
  · first | exact E.mp h | exact fun z => h (E.mpr z) | exact Int.not_lt.mp (fun z => h (E.mpr z)) | exact Int.not_le.mp (fun z => h (E.mpr z))

theorem fs_cap : ∀ x ∈ fs_L, (match x with | .inr (.inl (n, _)) => decide (n ≤ 65536) | .inr (.inr (n, _, _)) => decide (n ≤ 65536) | _ => true) = true := by decide +kernel
theorem fs_capA {k : Int} {n : Nat} {z : Bool} (h : fs_lay k = some (.inr (.inl (n, z)))) : n ≤ 65536 := by
  have := fs_cap _ (List.mem_of_getElem? (fs_lay_spec h).2.2.1)
  simpa using this
theorem fs_capR {k : Int} {n : Nat} {z : Bool} {b : Int} (h : fs_lay k = some (.inr (.inr (n, z, b)))) : n ≤ 65536 := by
  have := fs_cap _ (List.mem_of_getElem? (fs_lay_spec h).2.2.1)
  simpa using this

theorem fr_iald (q : Nat) {k x : Int} {n : Nat} (hd : decode M.2.1 pc = .ok (.iaload, 1)) (hp : pc + 1 = q) (hl : fs_lay k = some (.inr (.inl (n, false)))) (hx : 0 ≤ x ∧ x < (n : Int)) (kk : fs_W Γ M q L (.inl (σ k x) :: st) σ) : fs_W Γ M pc L (.inl x :: .inr k :: st) σ := by
  intro p l e R s m args below meth c D ad cs cells slots Z hC hG hn H locs ls hH hL
  subst hp
  have hN := fs_capA hl
  have K := kk p l e R s m args below meth c D ad cs cells slots Z hC hG hn H locs ls hH hL
  refine va_iald (f := fun i => Int32.ofInt (σ k (i : Int))) hC.1 hC.2.1 hC.2.2.2.2.2.2.2.1 hH.1 k.toNat 0 (fs_get hl) rfl (fs_vin hx hN) hd ?_
  rw [fs_clamp hx hN, Int.toNat_of_nonneg hx.1]
  exact K

theorem fr_zald (q : Nat) {k x : Int} {n : Nat} (hd : decode M.2.1 pc = .ok (.baload, 1)) (hp : pc + 1 = q) (hl : fs_lay k = some (.inr (.inl (n, true)))) (hx : 0 ≤ x ∧ x < (n : Int)) (kk : fs_W Γ M q L (.inl (σ k x) :: st) σ) : fs_W Γ M pc L (.inl x :: .inr k :: st) σ := by
  intro p l e R s m args below meth c D ad cs cells slots Z hC hG hn H locs ls hH hL
  subst hp
  have hN := fs_capA hl
  have K := kk p l e R s m args below meth c D ad cs cells slots Z hC hG hn H locs ls hH hL
  refine va_zald (f := fun i => Int32.ofInt (σ k (i : Int))) hC.1 hC.2.1 hC.2.2.2.2.2.2.2.1 hH.1 k.toNat 1 (fs_get hl) rfl (fs_vin hx hN) hd ?_
  rw [fs_clamp hx hN, Int.toNat_of_nonneg hx.1]
  exact K

theorem fs_updE {ad : Int → Nat} {cs : Nat → ClassId} {σ : fs_S} {k x v : Int} {n : Nat} {z : Bool} (hx : 0 ≤ x ∧ x < (n : Int)) (hN : n ≤ 65536) {y : Int32} (hy : y = Int32.ofInt v) : (Sum.inl (cs (if z then 1 else 0), n, Sum.inl (upd (fun i : Nat => Int32.ofInt (σ k (i : Int))) (Int32.ofInt x).toNatClampNeg y)) : va_E) = fs_cell ad cs (.inr (.inl (n, z))) (fs_u σ k x v k) := by
  subst hy
  rw [fs_clamp hx hN]
  simp only [fs_cell]
  congr 3
  congr 1
  funext i
  simp only [upd, fs_u]
  by_cases h : i = x.toNat
  · rw [if_pos h, if_pos ⟨trivial, by omega⟩]
  · rw [if_neg h, if_neg (fun q => h (by have := q.2; omega))]

theorem fr_iast (q : Nat) {k x v : Int} {n : Nat} (hd : decode M.2.1 pc = .ok (.iastore, 1)) (hp : pc + 1 = q) (hl : fs_lay k = some (.inr (.inl (n, false)))) (hx : 0 ≤ x ∧ x < (n : Int)) (kk : fs_W Γ M q L st (fs_u σ k x v)) : fs_W Γ M pc L (.inl v :: .inl x :: .inr k :: st) σ := by
  intro p l e R s m args below meth c D ad cs cells slots Z hC hG hn H locs ls hH hL
  subst hp
  have hN := fs_capA hl
  refine va_iast (f := fun i => Int32.ofInt (σ k (i : Int))) hC.1 hC.2.1 hC.2.2.2.2.2.2.2.1 hH.1 hH.2.1 hH.2.2 k.toNat 0 (fs_get hl) rfl (fs_vin hx hN) hd (fun H1 locs1 hP hD hS => ?_)
  rw [fs_set hl (fs_updE (v := v) hx hN rfl) fs_u_off] at hP hD
  exact kk p l e R s m args below meth c D ad cs cells slots Z hC hG hn H1 locs1 ls ⟨hP, hD, hS⟩ hL

theorem fr_zast (q : Nat) {k x v : Int} {n : Nat} (hd : decode M.2.1 pc = .ok (.bastore, 1)) (hp : pc + 1 = q) (hl : fs_lay k = some (.inr (.inl (n, true)))) (hx : 0 ≤ x ∧ x < (n : Int)) (hv : v = 0 ∨ v = 1) (kk : fs_W Γ M q L st (fs_u σ k x v)) : fs_W Γ M pc L (.inl v :: .inl x :: .inr k :: st) σ := by
  intro p l e R s m args below meth c D ad cs cells slots Z hC hG hn H locs ls hH hL
  subst hp
  have hN := fs_capA hl
  refine va_zast (f := fun i => Int32.ofInt (σ k (i : Int))) hC.1 hC.2.1 hC.2.2.2.2.2.2.2.1 hH.1 hH.2.1 hH.2.2 k.toNat 1 (fs_get hl) rfl (fs_vin hx hN) hd (fun H1 locs1 hP hD hS => ?_)
  rw [fs_set hl (fs_updE (v := v) hx hN (by rcases hv with rfl | rfl <;> rfl)) fs_u_off] at hP hD
  exact kk p l e R s m args below meth c D ad cs cells slots Z hC hG hn H1 locs1 ls ⟨hP, hD, hS⟩ hL

theorem fr_aald (q : Nat) {k x b : Int} {n : Nat} {o : Bool} (hd : decode M.2.1 pc = .ok (.aaload, 1)) (hp : pc + 1 = q) (hl : fs_lay k = some (.inr (.inr (n, o, b)))) (hx : 0 ≤ x ∧ x < (n : Int)) (kk : fs_W Γ M q L (.inr (b + x) :: st) σ) : fs_W Γ M pc L (.inl x :: .inr k :: st) σ := by
  intro p l e R s m args below meth c D ad cs cells slots Z hC hG hn H locs ls hH hL
  subst hp
  have hN := fs_capR hl
  have K := kk p l e R s m args below meth c D ad cs cells slots Z hC hG hn H locs ls hH hL
  have hlt : (Int32.ofInt x).toNatClampNeg < n := by rw [fs_clamp hx hN]; omega
  have hP := hH.1 k.toNat _ (fs_get hl)
  have hv : va_rf (some (ad (b + (((Int32.ofInt x).toNatClampNeg : Nat) : Int)))) = .ref (ad (b + x)) := by rw [fs_clamp hx hN, Int.toNat_of_nonneg hx.1]; rfl
  obtain ⟨t0, ty, ht, hty⟩ : ∃ (t0 : Nat) (ty : FieldType), (fs_tys cs)[t0]? = some (cs (if o then 3 else 2), ty) ∧ ty.isReference = true := by
    cases o
    · exact ⟨2, _, rfl, rfl⟩
    · exact ⟨3, _, rfl, rfl⟩
  refine W.aald (v := .ref (ad (b + x))) (ty := ty) hC.1 hC.2.1 hP ((hC.2.2.2.2.2.2.2.1.2 t0 _ ht).1 n (fun j => va_rf (some (ad (b + (j : Int)))))) hty (fun q => by cases q) (by show ¬ (_ ∨ (arrV _ _ _).slots.size ≤ _); rw [arrV_size]; exact fs_vin hx hN) (by show (arrV _ _ _).slots[_]? = _; rw [arrV_read _ _ hlt, hv]) rfl rfl hd K

theorem fr_ialdS (q : Nat) {j x v : Int} (i : Nat) {c0 f0 : String} {vs : List Int} (hd : decode M.2.1 pc = .ok (.iaload, 1)) (hp : pc + 1 = q) (hj : j = 1000 + (i : Int)) (hs : fs_stL[i]? = some (c0, f0, vs)) (hN : vs.length ≤ 65536) (hx : 0 ≤ x ∧ x < (vs.length : Int)) (hv : vs.getD x.toNat 0 = v) (kk : fs_W Γ M q L (.inl v :: st) σ) : fs_W Γ M pc L (.inl x :: .inr j :: st) σ := by
  intro p l e R s m args below meth c D ad cs cells slots Z hC hG hn H locs ls hH hL
  subst hp; subst hj; subst hv
  have K := kk p l e R s m args below meth c D ad cs cells slots Z hC hG hn H locs ls hH hL
  exact va_ti hC.1 hC.2.1 (hC.2.2.2.2.2.2.2.2.1 i _ hs).2 hH.2.2 (fs_vin hx hN) (by rw [fs_clamp hx hN]; rfl) hd K
theorem fr_gets (q : Nat) (i : Nat) {idx : Nat} {c0 f0 : String} {vs : List Int} {j : Int} (hd : decode M.2.1 pc = .ok (.getstatic idx, 3)) (hp : pc + 3 = q) (hj : 1000 + (i : Int) = j) (hs : fs_stL[i]? = some (c0, f0, vs)) (hl : Cond.fieldLink M.1.cls idx c0 f0 "[I" ∈ fs_tbl) (kk : fs_W Γ M q L (.inr j :: st) σ) : fs_W Γ M pc L st σ := by
  intro p l e R s m args below meth c D ad cs cells slots Z hC hG hn H locs ls hH hL
  subst hp; subst hj
  have K := kk p l e R s m args below meth c D ad cs cells slots Z hC hG hn H locs ls hH hL
  exact va_gets hC.1 hC.2.1 (hC.2.2.2.2.2.2.2.2.1 i _ hs).1 hH.2.2 hC.2.2.2.2.2.1 (hC.2.2.2.2.2.2.1 _ hl) (fun _ h => h) hd K
theorem fr_getsN (q : Nat) (i : Nat) {idx : Nat} {c0 f0 host : String} {vs : List Int} {j : Int} (hd : decode M.2.1 pc = .ok (.getstatic idx, 3)) (hp : pc + 3 = q) (hj : 1000 + (i : Int) = j) (hs : fs_stL[i]? = some (c0, f0, vs)) (hl : Cond.fieldLinkNest M.1.cls idx c0 f0 "[I" host ∈ fs_nest) (kk : fs_W Γ M q L (.inr j :: st) σ) : fs_W Γ M pc L st σ := by
  intro p l e R s m args below meth c D ad cs cells slots Z hC hG hn H locs ls hH hL
  subst hp; subst hj
  have K := kk p l e R s m args below meth c D ad cs cells slots Z hC hG hn H locs ls hH hL
  exact va_getsN hC.1 hC.2.1 (hC.2.2.2.2.2.2.2.2.1 i _ hs).1 hH.2.2 hC.2.2.2.2.2.1 ((hC.2.2.2.2.2.2.2.2.2 _ hl).use rfl) (fun _ h => h) hd K
theorem fr_geti (q : Nat) (g : Int) {idx ci f : Nat} {k : Int} {fs : List (Option Int)} (hd : decode M.2.1 pc = .ok (.getfield idx, 3)) (hp : pc + 3 = q) (hF : fs_F M.1.cls idx ci f) (hg : (f : Int) = g) (hl : fs_lay k = some (.inl (ci, fs))) (hf : fs[f]? = some none) (kk : fs_W Γ M q L (.inl (σ k g) :: st) σ) : fs_W Γ M pc L (.inr k :: st) σ := by
  intro p l e R s m args below meth c D ad cs cells slots Z hC hG hn H locs ls hH hL
  subst hp; subst hg
  have K := kk p l e R s m args below meth c D ad cs cells slots Z hC hG hn H locs ls hH hL
  obtain ⟨C, T, N, h1, h2, h3⟩ := hF
  exact va_get (v := .int (Int32.ofInt (σ k (f : Int)))) hC.1 hC.2.1 hC.2.2.2.2.2.2.1 (fs_cin ci _ h1).1 hC.2.2.2.2.2.1 hC.2.2.2.2.2.2.2.1 hH.1 k.toNat (fs_get hl) h1 f h2 (hC.2.2.2.2.2.2.1 _ h3) (fun _ h => h) (by rw [List.getElem?_mapIdx, hf]; rfl) hd K
theorem fr_getr (q : Nat) (k2 : Int) {idx ci f : Nat} {k : Int} {fs : List (Option Int)} (hd : decode M.2.1 pc = .ok (.getfield idx, 3)) (hp : pc + 3 = q) (hF : fs_F M.1.cls idx ci f) (hl : fs_lay k = some (.inl (ci, fs))) (hf : fs[f]? = some (some k2)) (kk : fs_W Γ M q L (.inr k2 :: st) σ) : fs_W Γ M pc L (.inr k :: st) σ := by
  intro p l e R s m args below meth c D ad cs cells slots Z hC hG hn H locs ls hH hL
  subst hp
  have K := kk p l e R s m args below meth c D ad cs cells slots Z hC hG hn H locs ls hH hL
  obtain ⟨C, T, N, h1, h2, h3⟩ := hF
  exact va_get (v := .ref (ad k2)) hC.1 hC.2.1 hC.2.2.2.2.2.2.1 (fs_cin ci _ h1).1 hC.2.2.2.2.2.1 hC.2.2.2.2.2.2.2.1 hH.1 k.toNat (fs_get hl) h1 f h2 (hC.2.2.2.2.2.2.1 _ h3) (fun _ h => h) (by rw [List.getElem?_mapIdx, hf]; rfl) hd K
theorem fs_putE {ad : Int → Nat} {cs : Nat → ClassId} {σ : fs_S} {k v : Int} {ci f : Nat} {fs : List (Option Int)} (hf : fs[f]? = some none) : (Sum.inr (ci, (fs.mapIdx (fs_fld ad (σ k))).set f (.int (Int32.ofInt v))) : va_E) = fs_cell ad cs (.inl (ci, fs)) (fs_u σ k (f : Int) v k) := by
  simp only [fs_cell]
  congr 2
  apply List.ext_getElem?
  intro i
  have hfl : f < fs.length := (List.getElem?_eq_some_iff.mp hf).1
  by_cases h : f = i
  · subst h
    rw [List.getElem?_set_self (by rw [List.length_mapIdx]; exact hfl), List.getElem?_mapIdx, hf]
    simp [fs_fld, fs_u]
  · rw [List.getElem?_set_ne h, List.getElem?_mapIdx, List.getElem?_mapIdx]
    cases fs[i]? with
    | none => rfl
    | some o =>
      cases o with
      | none => simp only [Option.map_some, fs_fld, fs_u]; rw [if_neg (fun q => h (by have := q.2; omega))]
      | some k2 => rfl

theorem fr_puti (q : Nat) (g : Int) {idx ci f : Nat} {k v : Int} {fs : List (Option Int)} (hd : decode M.2.1 pc = .ok (.putfield idx, 3)) (hp : pc + 3 = q) (hF : fs_F M.1.cls idx ci f) (hW : fs_P ci f .int) (hg : (f : Int) = g) (hl : fs_lay k = some (.inl (ci, fs))) (hf : fs[f]? = some none) (kk : fs_W Γ M q L st (fs_u σ k g v)) : fs_W Γ M pc L (.inl v :: .inr k :: st) σ := by
  intro p l e R s m args below meth c D ad cs cells slots Z hC hG hn H locs ls hH hL
  subst hp; subst hg
  obtain ⟨C, T, N, h1, h2, h3⟩ := hF
  obtain ⟨C2, T2, N2, g1, g2, g3⟩ := hW
  cases h1.symm.trans g1
  obtain ⟨a1, ty0, a2, a3⟩ := fs_cin ci _ h1
  have hfl : f < fs.length := (List.getElem?_eq_some_iff.mp hf).1
  refine va_put (v := .int (Int32.ofInt v)) (ty := .int) hC.1 hC.2.1 hC.2.2.2.2.2.2.1 a1 ty0 a2 a3 hC.2.2.2.2.2.1 hC.2.2.2.2.2.2.2.1 hH.1 hH.2.1 hH.2.2 k.toNat (fs_get hl) h1 f h2 (hC.2.2.2.2.2.2.1 _ h3) (fun _ h => h) g2 g3 rfl rfl (by rw [List.length_mapIdx]; exact hfl) hd (fun H1 locs1 hP hD hS => ?_)
  rw [fs_set hl (fs_putE hf) fs_u_off] at hP hD
  exact kk p l e R s m args below meth c D ad cs cells slots Z hC hG hn H1 locs1 ls ⟨hP, hD, hS⟩ hL

theorem fr_putz (q : Nat) (g : Int) {idx ci f : Nat} {k v : Int} {fs : List (Option Int)} (hd : decode M.2.1 pc = .ok (.putfield idx, 3)) (hp : pc + 3 = q) (hF : fs_F M.1.cls idx ci f) (hW : fs_P ci f .boolean) (hg : (f : Int) = g) (hl : fs_lay k = some (.inl (ci, fs))) (hf : fs[f]? = some none) (hv : v = 0 ∨ v = 1) (kk : fs_W Γ M q L st (fs_u σ k g v)) : fs_W Γ M pc L (.inl v :: .inr k :: st) σ := by
  intro p l e R s m args below meth c D ad cs cells slots Z hC hG hn H locs ls hH hL
  subst hp; subst hg
  obtain ⟨C, T, N, h1, h2, h3⟩ := hF
  obtain ⟨C2, T2, N2, g1, g2, g3⟩ := hW
  cases h1.symm.trans g1
  obtain ⟨a1, ty0, a2, a3⟩ := fs_cin ci _ h1
  have hfl : f < fs.length := (List.getElem?_eq_some_iff.mp hf).1
  refine va_put (v := .int (Int32.ofInt v)) (ty := .boolean) hC.1 hC.2.1 hC.2.2.2.2.2.2.1 a1 ty0 a2 a3 hC.2.2.2.2.2.1 hC.2.2.2.2.2.2.2.1 hH.1 hH.2.1 hH.2.2 k.toNat (fs_get hl) h1 f h2 (hC.2.2.2.2.2.2.1 _ h3) (fun _ h => h) g2 g3 (by rcases hv with rfl | rfl <;> rfl) (by rcases hv with rfl | rfl <;> rfl) (by rw [List.length_mapIdx]; exact hfl) hd (fun H1 locs1 hP hD hS => ?_)
  rw [fs_set hl (fs_putE hf) fs_u_off] at hP hD
  exact kk p l e R s m args below meth c D ad cs cells slots Z hC hG hn H1 locs1 ls ⟨hP, hD, hS⟩ hL

end RULES
