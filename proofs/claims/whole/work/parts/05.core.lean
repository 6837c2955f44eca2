/-! ===== a machine of whole numbers over the kit's rows: values, world, contracts, a row an instruction ===== -/
abbrev fs_V : Type := Int ⊕ Int
abbrev fs_S : Type := Int → Int → Int
abbrev fs_Q : Type := Option Int → fs_S → Prop
def fs_cv (ad : Int → Nat) (v : fs_V) : Value := match v with
  | .inl x => .int (Int32.ofInt x)
  | .inr k => .ref (ad k)
theorem fs_cv_cat (ad : Int → Nat) (v : fs_V) : (fs_cv ad v).category = 1 := by cases v <;> rfl
def fs_fld (ad : Int → Nat) (g : Int → Int) (i : Nat) (o : Option Int) : Value := match o with
  | some k => .ref (ad k)
  | none => .int (Int32.ofInt (g (i : Int)))
def fs_cell (ad : Int → Nat) (cs : Nat → ClassId) (x : fs_K) (g : Int → Int) : va_E := match x with
  | .inl (ci, fs) => .inr (ci, fs.mapIdx (fs_fld ad g))
  | .inr (.inl (n, z)) => .inl (cs (if z then 1 else 0), n, .inl fun i => Int32.ofInt (g (i : Int)))
  | .inr (.inr (n, o, b)) => .inl (cs (if o then 3 else 2), n, .inr (.inr (.inr (.inr fun i => some (ad (b + (i : Int)))))))
def fs_ws (ad : Int → Nat) (cs : Nat → ClassId) (σ : fs_S) : va_W := (List.range fs_N).map fun (i : Nat) => (ad (i : Int), fs_cell ad cs ((fs_L[i]?).getD (.inl (0, []))) (σ (i : Int)))
def fs_A (ad : Int → Nat) : Nat → Prop := fun q => ∃ i : Nat, i < fs_N ∧ q = ad (i : Int)
def fs_tys (cs : Nat → ClassId) : List (ClassId × FieldType) := [(cs 0, .int), (cs 1, .boolean), (cs 2, .array .int), (cs 3, .object "FieldSorter$Image")]
/-- what stands outside the world: rows of constants, links of nest mates -/
def fs_St (U : State) (ad : Int → Nat) : Prop :=
  (∀ (j : Nat) (q : String × String × List Int), fs_stL[j]? = some q → va_Z q.1 q.2.1 "[I" (.ref (ad (1000 + (j : Int)))) (fs_A ad) U U.heap ∧ va_T .int (ad (1000 + (j : Int))) q.2.2.length (fun i => .int (Int32.ofInt (q.2.2.getD i 0))) (fs_A ad) U U.heap) ∧
  ∀ w ∈ fs_nest, va_Nw w U
def fs_u (σ : fs_S) (k i v : Int) : fs_S := fun k' i' => if k' = k ∧ i' = i then v else σ k' i'
theorem fs_lay_spec {k : Int} {x : fs_K} (h : fs_lay k = some x) : 0 ≤ k ∧ k.toNat < fs_N ∧ fs_L[k.toNat]? = some x ∧ ((k.toNat : Nat) : Int) = k := by
  unfold fs_lay at h
  by_cases hk : k < 0
  · rw [if_pos hk] at h; cases h
  · rw [if_neg hk] at h
    have hl : k.toNat < fs_L.length := (List.getElem?_eq_some_iff.mp h).1
    rw [fs_N_eq] at hl
    exact ⟨by omega, hl, h, by omega⟩
theorem fs_get {ad : Int → Nat} {cs : Nat → ClassId} {σ : fs_S} {k : Int} {x : fs_K} (h : fs_lay k = some x) : (fs_ws ad cs σ)[k.toNat]? = some (ad k, fs_cell ad cs x (σ k)) := by
  obtain ⟨h0, h1, h2, h3⟩ := fs_lay_spec h
  unfold fs_ws
  rw [List.getElem?_map, List.getElem?_range h1, Option.map_some, h2, Option.getD_some, h3]
theorem fs_ws_len (ad : Int → Nat) (cs : Nat → ClassId) (σ : fs_S) : (fs_ws ad cs σ).length = fs_N := by simp [fs_ws]
theorem fs_set {ad : Int → Nat} {cs : Nat → ClassId} {σ τ : fs_S} {k : Int} {x : fs_K} (h : fs_lay k = some x) {e : va_E} (he : e = fs_cell ad cs x (τ k)) (ho : ∀ k', k' ≠ k → τ k' = σ k') : (fs_ws ad cs σ).set k.toNat (ad k, e) = fs_ws ad cs τ := by
  obtain ⟨h0, h1, h2, h3⟩ := fs_lay_spec h
  apply List.ext_getElem?
  intro i
  by_cases hi : i < fs_N
  · by_cases hk : k.toNat = i
    · subst hk
      rw [List.getElem?_set_self (by rw [fs_ws_len]; exact h1), he, fs_get h]
    · rw [List.getElem?_set_ne hk]
      unfold fs_ws
      rw [List.getElem?_map, List.getElem?_map, List.getElem?_range hi, Option.map_some, Option.map_some, ho (i : Int) (by omega)]
  · rw [List.getElem?_eq_none (by rw [List.length_set, fs_ws_len]; omega), List.getElem?_eq_none (by rw [fs_ws_len]; omega)]
theorem fs_u_off {σ : fs_S} {k i v : Int} : ∀ k', k' ≠ k → fs_u σ k i v k' = σ k' := by
  intro k' h
  funext i'
  simp [fs_u, h]
theorem fs_D_eq {ad : Int → Nat} {cs : Nat → ClassId} {σ τ : fs_S} {A : Nat → Prop} (h : va_D A (fs_ws ad cs σ)) : va_D A (fs_ws ad cs τ) := by
  have key : ∀ (i : Nat) (q : Nat × va_E), (fs_ws ad cs τ)[i]? = some q → ∃ q0, (fs_ws ad cs σ)[i]? = some q0 ∧ q0.1 = q.1 := by
    intro i q hq
    have hi : i < fs_N := by rw [← fs_ws_len ad cs τ]; exact (List.getElem?_eq_some_iff.mp hq).1
    unfold fs_ws at hq ⊢
    rw [List.getElem?_map, List.getElem?_range hi, Option.map_some] at hq
    rw [List.getElem?_map, List.getElem?_range hi, Option.map_some]
    cases hq
    exact ⟨_, rfl, rfl⟩
  refine ⟨fun i j x y hi hj hxy => ?_, fun i q hq => ?_⟩
  · obtain ⟨x0, a1, a2⟩ := key i x hi
    obtain ⟨y0, b1, b2⟩ := key j y hj
    exact h.1 i j x0 y0 a1 b1 (a2.trans (hxy.trans b2.symm))
  · obtain ⟨q0, a1, a2⟩ := key i q hq
    rw [← a2]
    exact h.2 i q0 a1
/-! the locals -/
def fs_Lr (ad : Int → Nat) (ls : Array Slot) (L : List (Option fs_V)) : Prop := ls.size = L.length ∧ lv_wf ls ∧ ∀ (i : Nat) (v : fs_V), L[i]? = some (some v) → ls[i]? = some (.val (fs_cv ad v))
def fs_lv (ad : Int → Nat) (L : List (Option fs_V)) : List (Nat × Value) := (List.range L.length).filterMap fun i => match L[i]? with
  | some (some v) => some (i, fs_cv ad v)
  | _ => none
theorem fs_lv_mem {ad : Int → Nat} {L : List (Option fs_V)} {q : Nat × Value} : q ∈ fs_lv ad L ↔ ∃ v, L[q.1]? = some (some v) ∧ q.2 = fs_cv ad v := by
  unfold fs_lv
  rw [List.mem_filterMap]
  constructor
  · rintro ⟨i, -, h⟩
    split at h
    next v hv => cases h; exact ⟨v, hv, rfl⟩
    next => cases h
  · rintro ⟨v, h1, h2⟩
    obtain ⟨i, w⟩ := q
    refine ⟨i, List.mem_range.mpr (List.getElem?_eq_some_iff.mp h1).1, ?_⟩
    simp only at h1 h2
    rw [h1, h2]
theorem fs_Lr.has {ad : Int → Nat} {ls : Array Slot} {L : List (Option fs_V)} (h : fs_Lr ad ls L) : lv_has ls L.length (fs_lv ad L) := by
  refine ⟨h.1, h.2.1, fun q hq => ?_⟩
  obtain ⟨v, h1, h2⟩ := fs_lv_mem.mp hq
  rw [h2]
  exact h.2.2 q.1 v h1
theorem fs_Lr.store {ad : Int → Nat} {ls' : Array Slot} {L : List (Option fs_V)} {i : Nat} {v : fs_V} (hi : i < L.length) (h : lv_has ls' L.length ((i, fs_cv ad v) :: (fs_lv ad L).filter (fun q => !(q.1 == i) && !(q.1 + 1 == i && q.2.category == 2)))) : fs_Lr ad ls' (L.set i (some v)) := by
  refine ⟨by rw [List.length_set]; exact h.1, h.2.1, fun j w hw => ?_⟩
  by_cases hj : j = i
  · subst hj
    rw [List.getElem?_set_self hi] at hw
    cases hw
    exact h.2.2 (j, fs_cv ad v) List.mem_cons_self
  · rw [List.getElem?_set_ne (Ne.symm hj)] at hw
    refine h.2.2 (j, fs_cv ad w) (List.mem_cons_of_mem _ (List.mem_filter.mpr ⟨fs_lv_mem.mpr ⟨w, hw, rfl⟩, ?_⟩))
    simp [hj, fs_cv_cat]
/-! contexts, the walk, contracts -/
def fs_Cx (M : fs_Me) (p : Program) (s : State) (m : MethodId) (args : Array Value) (meth : Method) (c : Code) (D : va_G) (ad : Int → Nat) (cs : Nat → ClassId) : Prop :=
  p.tables.exec = Jvm.exec ∧ c.code = M.2.1 ∧ meth.sig.returnType = M.2.2.2 ∧ c.maxLocals = M.2.2.1 ∧ meth.locks = false ∧ s.vm.findClass M.1.cls = some m.cls ∧ (∀ w ∈ fs_tbl, w.before args s = true) ∧ va_K D fs_cl (fs_tys cs) s ∧ fs_St s ad
def fs_H (s : State) (D : va_G) (ad : Int → Nat) (cs : Nat → ClassId) (σ : fs_S) (H : Heap) (locs : List Loc) : Prop :=
  va_P D fs_cl (fs_ws ad cs σ) H ∧ va_D (fs_A ad) (fs_ws ad cs σ) ∧ va_S (fs_A ad) s.heap H locs
abbrev fs_G : Type := Launch → Room → State → Array Value → List Frame → va_G → (Int → Nat) → (Nat → ClassId) → Nat → Nat → (State → Prop) → Prop
def fs_W (Γ : fs_G) (M : fs_Me) (pc : Nat) (L : List (Option fs_V)) (st : List fs_V) (σ : fs_S) : Prop :=
  ∀ (p : Program) (l : Launch) (e : Env) (R : Room) (s : State) (m : MethodId) (args : Array Value) (below : List Frame) (meth : Method) (c : Code) (D : va_G) (ad : Int → Nat) (cs : Nat → ClassId) (cells slots : Nat) (Z : State → Prop),
    fs_Cx M p s m args meth c D ad cs → Γ l R s args below D ad cs cells slots Z → L.length = M.2.2.1 →
    ∀ (H : Heap) (locs : List Loc) (ls : Array Slot), fs_H s D ad cs σ H locs → fs_Lr ad ls L → W p l e R s m args below meth c H locs cells slots Z (F0 m pc ls (st.map (fs_cv ad)))
def fs_rm (d : Nat) : Room := { frames := d, cells := 0, slots := 0, locals := 64 * d }
def fs_U (D : va_G) (ad : Int → Nat) (cs : Nat → ClassId) (σ : fs_S) (U : State) : Prop := va_P D fs_cl (fs_ws ad cs σ) U.heap ∧ va_D (fs_A ad) (fs_ws ad cs σ) ∧ va_K D fs_cl (fs_tys cs) U ∧ fs_St U ad
def fs_Qc (D : va_G) (ad : Int → Nat) (cs : Nat → ClassId) (Q : fs_Q) : Array Value → State → Outcome → State → Prop := fun _ st oc t => ∃ (r : Option Int) (τ : fs_S), oc = .returned (r.map fun x => .int (Int32.ofInt x)) ∧ Q r τ ∧ va_P D fs_cl (fs_ws ad cs τ) t.heap ∧ va_F (fs_A ad) st t
/-- a method's contract: called with these values in this state it returns, and Q holds of the answer and the state behind it -/
def fs_C (M : fs_Me) (d : Nat) (av : List fs_V) (σ : fs_S) (Q : fs_Q) : Prop :=
  ∀ (l : Launch) (D : va_G) (ad : Int → Nat) (cs : Nat → ClassId), Met l M.1 (.code M.1 M.2.1 M.2.2.1 M.2.2.2 :: fs_tbl) (fs_rm d) (va_Pc (av.map (fs_cv ad)) (fun U => fs_U D ad cs σ U)) (fs_Qc D ad cs Q) 0 0 (fs_A ad)
def fs_Γ (d : Nat) (Q : fs_Q) : fs_G := fun _ R s args below D ad cs cells slots Z => R = fs_rm d ∧ cells = 0 ∧ slots = 0 ∧ Z = MQ below (fs_Qc D ad cs Q) args s 0 0 (fs_A ad)
/-- there is room for a call of depth d -/
def fs_Rm (Γ : fs_G) (d : Nat) : Prop := ∀ l R s args below D ad cs cells slots Z, Γ l R s args below D ad cs cells slots Z → d + 1 ≤ R.frames ∧ 64 * d + 64 ≤ R.locals ∧ cells ≤ R.cells ∧ slots ≤ R.slots
theorem fs_Γ_rm {d n : Nat} {Q : fs_Q} (h : d < n) : fs_Rm (fs_Γ n Q) d := by
  intro l R s args below D ad cs cells slots Z hG
  obtain ⟨h1, h2, h3, -⟩ := hG
  subst h1; subst h2; subst h3
  exact ⟨h, by show 64 * d + 64 ≤ 64 * n; omega, Nat.le_refl _, Nat.le_refl _⟩
theorem fs_C.mono {M : fs_Me} {d : Nat} {av : List fs_V} {σ : fs_S} {Q Q' : fs_Q} (h : fs_C M d av σ Q) (hQ : ∀ r τ, Q r τ → Q' r τ) : fs_C M d av σ Q' := by
  intro l D ad cs p e h1 h2 h3 s m args below h4 h5 h6 h7
  obtain ⟨n, o, k1, k2, k3, ⟨r, τ, q1, q2, q3⟩, k5⟩ := h l D ad cs p e h1 h2 h3 s m args below h4 h5 h6 h7
  exact ⟨n, o, k1, k2, k3, ⟨r, τ, q1, hQ r τ q2, q3⟩, k5⟩
theorem fs_St.moved {u U : State} {ad : Int → Nat} (hW : u.WarmedH U.vm) (hh : ∀ a : Nat, a < u.heap.size → ¬ fs_A ad a → U.heap[a]? = u.heap[a]?) (h : fs_St u ad) : fs_St U ad := by
  refine ⟨fun j q hq => ?_, fun w hw => ?_⟩
  · obtain ⟨h1, h2⟩ := h.1 j q hq
    exact ⟨(h1.kept hh).moved hW.alike, (h2.kept hh).moved hW.alike⟩
  · have h1 := h.2 w hw
    have hk : (∃ a i b n d h, w = .fieldLinkNest a i b n d h) ∨ ∃ a i x h, w = .methodLinkNest a i x h := by
      have hall : ∀ w ∈ fs_nest, (match w with | .fieldLinkNest .. => true | .methodLinkNest .. => true | _ => false) = true := by decide +kernel
      have h2 := hall w hw
      cases w <;> first | exact Or.inl ⟨_, _, _, _, _, _, rfl⟩ | exact Or.inr ⟨_, _, _, _, rfl⟩ | cases h2
    rcases hk with ⟨a, i, b, n, d, h, rfl⟩ | ⟨a, i, x, h, rfl⟩
    · exact h1.warmF hW
    · exact h1.warmM hW
