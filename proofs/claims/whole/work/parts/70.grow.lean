/-! ===== constructors: a stretch of cells from the address b on, one after another ===== -/
def zi (b : Nat) (es : List va_E) : va_W := es.mapIdx (fun i e => (b + i, e))
theorem zi_get {b : Nat} {es : List va_E} {i : Nat} : (zi b es)[i]? = (es[i]?).map (fun e => (b + i, e)) := by unfold zi; rw [List.getElem?_mapIdx]
theorem zi_at {b : Nat} {es : List va_E} {i : Nat} {e : va_E} (h : es[i]? = some e) : (zi b es)[i]? = some (b + i, e) := by rw [zi_get, h]; rfl
theorem zi_inv {b : Nat} {es : List va_E} {i : Nat} {q : Nat × va_E} (h : (zi b es)[i]? = some q) : ∃ e, es[i]? = some e ∧ q = (b + i, e) := by
  rw [zi_get] at h
  cases he : es[i]? with
  | none => rw [he] at h; cases h
  | some e => rw [he] at h; cases h; exact ⟨e, rfl, rfl⟩
theorem zi_set {b : Nat} {es : List va_E} {i : Nat} {e : va_E} : (zi b es).set i (b + i, e) = zi b (es.set i e) := by
  apply List.ext_getElem?
  intro k
  rw [zi_get, List.getElem?_set, List.getElem?_set, zi_get]
  by_cases h : i = k
  · subst h
    rw [if_pos rfl, if_pos rfl]
    have e1 : (zi b es).length = es.length := by unfold zi; rw [List.length_mapIdx]
    rw [e1]
    split <;> rfl
  · rw [if_neg h, if_neg h]
def gA (b : Nat) : Nat → Prop := fun q => b ≤ q
theorem zi_D {b : Nat} {es : List va_E} : va_D (gA b) (zi b es) := by
  refine ⟨fun i j x y hi hj h => ?_, fun i q h => ?_⟩
  · obtain ⟨e1, -, rfl⟩ := zi_inv hi
    obtain ⟨e2, -, rfl⟩ := zi_inv hj
    dsimp only at h
    omega
  · obtain ⟨e1, -, rfl⟩ := zi_inv h
    exact Nat.le_add_right _ _
theorem gP_push {D : va_G} {b : Nat} {es : List va_E} {e : va_E} {H H1 : Heap} (hP : va_P D fs_cl (zi b es) H) (hz : H.size = b + es.length) (ho : ∀ q, q < H.size → H1[q]? = H[q]?) (hn : va_at D fs_cl (b + es.length, e) H1) : va_P D fs_cl (zi b (es ++ [e])) H1 := by
  intro k q hq
  obtain ⟨e1, h1, rfl⟩ := zi_inv hq
  by_cases hk : k < es.length
  · rw [List.getElem?_append_left hk] at h1
    exact (hP k _ (zi_at h1)).kept (ho _ (by show b + k < H.size; omega))
  · rw [List.getElem?_append_right (by omega)] at h1
    have hl := (List.getElem?_eq_some_iff.mp h1).1
    have hk2 : k = es.length := by simp at hl; omega
    subst hk2
    rw [Nat.sub_self] at h1
    cases h1
    exact hn
/-- the world from b on, as it lies in a heap -/
def gH (s : State) (D : va_G) (b : Nat) (es : List va_E) (n : Nat) (H : Heap) (locs : List Loc) : Prop := H.size = b + es.length ∧ va_P D fs_cl (zi b es) H ∧ va_S (gA b) s.heap H locs ∧ s.heap.size + n = b + es.length
/-- what stands outside: rows of constants, links of nest mates, two array classes -/
def gSt (U : State) (b : Nat) (ad : Int → Nat) : Prop :=
  (∀ (j : Nat) (q : String × String × List Int), fs_stL[j]? = some q → va_Z q.1 q.2.1 "[I" (.ref (ad (1000 + (j : Int)))) (gA b) U U.heap ∧ va_T .int (ad (1000 + (j : Int))) q.2.2.length (fun i => .int (Int32.ofInt (q.2.2.getD i 0))) (gA b) U U.heap) ∧
  (∀ w ∈ fs_nest, va_Nw w U) ∧ (Cond.arrayOver (.array .int)).before #[] U = true ∧ va_AO "FieldSorter$Image" U
theorem gNw_warm {u U : State} (hW : u.WarmedH U.vm) {w : Cond} (hw : w ∈ fs_nest) (h1 : va_Nw w u) : va_Nw w U := by
  have hk : (∃ a i b n d h, w = .fieldLinkNest a i b n d h) ∨ ∃ a i x h, w = .methodLinkNest a i x h := by
    have hall : ∀ w ∈ fs_nest, (match w with | .fieldLinkNest .. => true | .methodLinkNest .. => true | _ => false) = true := by decide +kernel
    have h2 := hall w hw
    cases w <;> first | exact Or.inl ⟨_, _, _, _, _, _, rfl⟩ | exact Or.inr ⟨_, _, _, _, rfl⟩ | cases h2
  rcases hk with ⟨a, i, b, n, d, h, rfl⟩ | ⟨a, i, x, h, rfl⟩
  · exact h1.warmF hW
  · exact h1.warmM hW
theorem gSt.moved {u U : State} {b : Nat} {ad : Int → Nat} (hW : u.WarmedH U.vm) (hh : ∀ a : Nat, a < u.heap.size → ¬ gA b a → U.heap[a]? = u.heap[a]?) (h : gSt u b ad) : gSt U b ad := by
  refine ⟨fun j q hq => ?_, fun w hw => gNw_warm hW hw (h.2.1 w hw), arrayOver_alikeB hW.alike h.2.2.1, va_AO.moved hW.alike h.2.2.2⟩
  obtain ⟨h1, h2⟩ := h.1 j q hq
  exact ⟨(h1.kept hh).moved hW.alike, (h2.kept hh).moved hW.alike⟩
def gad (b : Nat) (ad : Int → Nat) : Prop := ∀ i : Nat, i < 1000 → ad (i : Int) = b + i
def gCx (M : fs_Me) (p : Program) (s : State) (m : MethodId) (args : Array Value) (meth : Method) (c : Code) (D : va_G) (b : Nat) (ad : Int → Nat) (cs : Nat → ClassId) : Prop :=
  p.tables.exec = Jvm.exec ∧ c.code = M.2.1 ∧ meth.sig.returnType = M.2.2.2 ∧ c.maxLocals = M.2.2.1 ∧ meth.locks = false ∧ s.vm.findClass M.1.cls = some m.cls ∧ (∀ w ∈ fs_tbl, w.before args s = true) ∧ va_K D fs_cl (fs_tys cs) s ∧ gSt s b ad ∧ meth.name = M.1.name ∧ b ≤ s.heap.size
abbrev gG : Type := Launch → Room → State → Array Value → List Frame → (State → Prop) → Prop
/-- the machine at pc, with the cells pre, the object o at work, the cells behind it, n cells and k slots made so far -/
def zW (D : va_G) (cs : Nat → ClassId) (b : Nat) (ad : Int → Nat) (G : gG) (M : fs_Me) (pre : List va_E) (o : Nat × List Value) (rest : List va_E) (pc : Nat) (L : List (Option fs_V)) (st : List fs_V) (n k : Nat) : Prop :=
  ∀ (p : Program) (l : Launch) (e : Env) (R : Room) (s : State) (m : MethodId) (args : Array Value) (below : List Frame) (meth : Method) (c : Code) (Z : State → Prop),
    gCx M p s m args meth c D b ad cs → G l R s args below Z → L.length = M.2.2.1 →
    ∀ (H : Heap) (locs : List Loc) (ls : Array Slot), gH s D b (pre ++ .inr o :: rest) n H locs → fs_Lr ad ls L → W p l e R s m args below meth c H locs n k Z (F0 m pc ls (st.map (fs_cv ad)))
def gRm (G : gG) (f lc c s : Nat) : Prop := ∀ l R s' args below Z, G l R s' args below Z → f ≤ R.frames ∧ lc ≤ R.locals ∧ c ≤ R.cells ∧ s ≤ R.slots
section GROW
variable {D : va_G} {cs : Nat → ClassId} {b : Nat} {ad : Int → Nat} {G : gG} {M : fs_Me} {pre rest : List va_E} {o : Nat × List Value} {pc : Nat} {L : List (Option fs_V)} {st : List fs_V} {n k f0 lc0 c0 s0 : Nat}
theorem gr_aload_n (q : Nat) {i : Fin 4} {x : Int} (hd : decode M.2.1 pc = .ok (.aload_n i, 1)) (hp : pc + 1 = q) (hl : L[(i : Nat)]? = some (some (.inr x))) (kk : zW D cs b ad G M pre o rest q L (.inr x :: st) n k) : zW D cs b ad G M pre o rest pc L st n k := by
  intro p l e R s m args below meth c Z hC hG hn H locs ls hH hL
  subst hp
  exact lv_aload_n hC.1 hC.2.1 hd rfl (hL.2.2 _ _ hl) (kk p l e R s m args below meth c Z hC hG hn H locs ls hH hL)
theorem gr_iload_n (q : Nat) {i : Fin 4} {x : Int} (hd : decode M.2.1 pc = .ok (.iload_n i, 1)) (hp : pc + 1 = q) (hl : L[(i : Nat)]? = some (some (.inl x))) (kk : zW D cs b ad G M pre o rest q L (.inl x :: st) n k) : zW D cs b ad G M pre o rest pc L st n k := by
  intro p l e R s m args below meth c Z hC hG hn H locs ls hH hL
  subst hp
  exact lv_iload_n hC.1 hC.2.1 hd rfl (hL.2.2 _ _ hl) (kk p l e R s m args below meth c Z hC hG hn H locs ls hH hL)
theorem gr_iconst (q : Nat) {x : Int} (hd : decode M.2.1 pc = .ok (.iconst x, 1)) (hp : pc + 1 = q) (kk : zW D cs b ad G M pre o rest q L (.inl x :: st) n k) : zW D cs b ad G M pre o rest pc L st n k := by
  intro p l e R s m args below meth c Z hC hG hn H locs ls hH hL
  subst hp
  exact lv_iconst hC.1 hC.2.1 hd rfl (kk p l e R s m args below meth c Z hC hG hn H locs ls hH hL)
theorem gr_bipush (q : Nat) {x : Int} (hd : decode M.2.1 pc = .ok (.bipush x, 2)) (hp : pc + 2 = q) (hv : -128 ≤ x ∧ x < 128) (kk : zW D cs b ad G M pre o rest q L (.inl x :: st) n k) : zW D cs b ad G M pre o rest pc L st n k := by
  intro p l e R s m args below meth c Z hC hG hn H locs ls hH hL
  subst hp
  exact lv_bipush hC.1 hC.2.1 hd (fs_i8 hv) (kk p l e R s m args below meth c Z hC hG hn H locs ls hH hL)
theorem gr_sipush (q : Nat) {x : Int} (hd : decode M.2.1 pc = .ok (.sipush x, 3)) (hp : pc + 3 = q) (hv : -32768 ≤ x ∧ x < 32768) (kk : zW D cs b ad G M pre o rest q L (.inl x :: st) n k) : zW D cs b ad G M pre o rest pc L st n k := by
  intro p l e R s m args below meth c Z hC hG hn H locs ls hH hL
  subst hp
  exact lv_sipush hC.1 hC.2.1 hd (fs_i16 hv) (kk p l e R s m args below meth c Z hC hG hn H locs ls hH hL)
theorem gr_dup (q : Nat) {v : fs_V} (hd : decode M.2.1 pc = .ok (.dup, 1)) (hp : pc + 1 = q) (kk : zW D cs b ad G M pre o rest q L (v :: v :: st) n k) : zW D cs b ad G M pre o rest pc L (v :: st) n k := by
  intro p l e R s m args below meth c Z hC hG hn H locs ls hH hL
  subst hp
  exact lv_dup hC.1 hC.2.1 hd (fs_cv_cat ad v) (kk p l e R s m args below meth c Z hC hG hn H locs ls hH hL)
theorem gr_istore_n (q : Nat) (L2 : List (Option fs_V)) {i : Fin 4} {x : Int} (hd : decode M.2.1 pc = .ok (.istore_n i, 1)) (hp : pc + 1 = q) (hi : (i : Nat) < L.length) (hs : L.set (i : Nat) (some (.inl x)) = L2) (kk : zW D cs b ad G M pre o rest q L2 st n k) : zW D cs b ad G M pre o rest pc L (.inl x :: st) n k := by
  intro p l e R s m args below meth c Z hC hG hn H locs ls hH hL
  subst hp; subst hs
  refine lv_istore_n hC.1 hC.2.1 hd rfl hL.has hi rfl (fun ls' h' => ?_)
  exact kk p l e R s m args below meth c Z hC hG (by rw [List.length_set]; exact hn) H locs ls' hH (fs_Lr.store (v := .inl x) hi h')
theorem gr_iinc (q : Nat) (L2 : List (Option fs_V)) {i : Nat} {y x : Int} (hd : decode M.2.1 pc = .ok (.iinc i y, 3)) (hp : pc + 3 = q) (hl : L[i]? = some (some (.inl x))) (hs : L.set i (some (.inl (x + y))) = L2) (kk : zW D cs b ad G M pre o rest q L2 st n k) : zW D cs b ad G M pre o rest pc L st n k := by
  intro p l e R s m args below meth c Z hC hG hn H locs ls hH hL
  subst hp; subst hs
  obtain ⟨i2, hk⟩ := fs_lv_at (ad := ad) hl
  have hi : i < L.length := (List.getElem?_eq_some_iff.mp hl).1
  refine lv_iinc (v := Int32.ofInt (x + y)) hC.1 hC.2.1 hd hL.has hk (Int32.ofInt_add x y).symm hi rfl (fun ls' h' => ?_)
  exact kk p l e R s m args below meth c Z hC hG (by rw [List.length_set]; exact hn) H locs ls' hH (fs_Lr.store (v := .inl (x + y)) hi h')
theorem gr_goto (t : Nat) {off : Int} (hd : decode M.2.1 pc = .ok (.goto off, 3)) (ht : (pc : Int) + off = (t : Int)) (kk : zW D cs b ad G M pre o rest t L st n k) : zW D cs b ad G M pre o rest pc L st n k := by
  intro p l e R s m args below meth c Z hC hG hn H locs ls hH hL
  exact lv_goto hC.1 hC.2.1 hd ht (kk p l e R s m args below meth c Z hC hG hn H locs ls hH hL)
theorem gr_icmp_ge (t q : Nat) {x y off : Int} (hd : decode M.2.1 pc = .ok (.if_icmp .ge off, 3)) (ht : (pc : Int) + off = (t : Int)) (hp : pc + 3 = q) (ha : -2147483648 ≤ x ∧ x < 2147483648) (hb : -2147483648 ≤ y ∧ y < 2147483648) (kt : y ≤ x → zW D cs b ad G M pre o rest t L st n k) (kf : x < y → zW D cs b ad G M pre o rest q L st n k) : zW D cs b ad G M pre o rest pc L (.inl y :: .inl x :: st) n k := by
  intro p l e R s m args below meth c Z hC hG hn H locs ls hH hL
  subst hp
  have E := fs_le hb ha
  refine lv_icmp_ge hC.1 hC.2.1 hd ht (fun h => kt ?_ p l e R s m args below meth c Z hC hG hn H locs ls hH hL) (fun h => kf ?_ p l e R s m args below meth c Z hC hG hn H locs ls hH hL)
  · first | exact E.mp h | exact fun z => h (E.mpr z)
  · first | exact E.mp h | exact fun z => h (E.mpr z) | exact Int.not_lt.mp (fun z => h (E.mpr z)) | exact Int.not_le.mp (fun z => h (E.mpr z))
theorem gr_oinit (q : Nat) {idx : Nat} {x : Int} (hr : gRm G f0 lc0 c0 s0) (hf : 1 ≤ f0) (hlc : 40 ≤ lc0) (hw : st.length ≤ 8) (hd : decode M.2.1 pc = .ok (.invokespecial idx, 3)) (hp : pc + 3 = q) (h1 : Cond.methodLink M.1.cls idx objectInit ∈ fs_tbl) (h2 : Cond.instanceMethod objectInit ∈ fs_tbl) (h3 : Cond.code objectInit ⟨#[0xb1]⟩ 1 none ∈ fs_tbl) (kk : zW D cs b ad G M pre o rest q L st n k) : zW D cs b ad G M pre o rest pc L (.inr x :: st) n k := by
  intro p l e R s m args below meth c Z hC hG hn H locs ls hH hL
  subst hp
  obtain ⟨r1, r2, r3, r4⟩ := hr _ _ _ _ _ _ hG
  have hts := hC.2.2.2.2.2.2.1
  refine W.objInit hC.1 hC.2.1 hC.2.2.2.2.2.1 (hts _ h1) (hts _ h2) (hts _ h3) rfl ((hL.1.trans hn).trans hC.2.2.2.1.symm) rfl hd (by omega) ?_ (kk p l e R s m args below meth c Z hC hG hn H locs ls hH hL)
  have := fs_room (pc := pc) (ad := ad) (m := m) (ls := ls) (stk := []) hw
  show 2 * (F0 m pc ls []).monitorRoom + ((st.map (fs_cv ad)).map fun v => v.category).sum + 12 ≤ R.locals
  omega
end GROW
