/-! ===== constructors: making cells, fields, calls ===== -/
theorem gP_app {D : va_G} {b : Nat} {es fs : List va_E} {H H1 : Heap} (hP : va_P D fs_cl (zi b es) H) (hz : H.size = b + es.length) (ho : ∀ q, q < H.size → H1[q]? = H[q]?) (hn : ∀ (i : Nat) (e : va_E), fs[i]? = some e → va_at D fs_cl (b + es.length + i, e) H1) : va_P D fs_cl (zi b (es ++ fs)) H1 := by
  intro k q hq
  obtain ⟨e1, h1, rfl⟩ := zi_inv hq
  by_cases hk : k < es.length
  · rw [List.getElem?_append_left hk] at h1
    exact (hP k _ (zi_at h1)).kept (ho _ (by show b + k < H.size; omega))
  · rw [List.getElem?_append_right (by omega)] at h1
    have := hn _ _ h1
    rw [show b + es.length + (k - es.length) = b + k by omega] at this
    exact this
theorem gH.app {s : State} {D : va_G} {b : Nat} {pre rest fs : List va_E} {o : Nat × List Value} {H H1 : Heap} {locs : List Loc} {n : Nat} (h : gH s D b (pre ++ .inr o :: rest) n H locs) (hz : H1.size = H.size + fs.length) (ho : ∀ q, q < H.size → H1[q]? = H[q]?) (hn : ∀ (i : Nat) (e : va_E), fs[i]? = some e → va_at D fs_cl (H.size + i, e) H1) : gH s D b (pre ++ .inr o :: (rest ++ fs)) (n + fs.length) H1 locs := by
  obtain ⟨h1, h2, h3, h4⟩ := h
  have e : pre ++ .inr o :: (rest ++ fs) = (pre ++ .inr o :: rest) ++ fs := by simp
  rw [e]
  refine ⟨by rw [List.length_append, hz, h1]; omega, gP_app h2 h1 ho (fun i x hx => by rw [← h1]; exact hn i x hx), ⟨Nat.le_trans h3.1 (by omega), fun x a c => (ho x (Nat.lt_of_lt_of_le a h3.1)).trans (h3.2.1 x a c), h3.2.2⟩, by rw [List.length_append]; omega⟩
theorem g_len {pre rest : List va_E} {o : Nat × List Value} : (pre ++ (.inr o : va_E) :: rest).length = pre.length + 1 + rest.length := by simp; omega
theorem g_this {pre rest : List va_E} {o : Nat × List Value} : (pre ++ (.inr o : va_E) :: rest)[pre.length]? = some (.inr o) := by simp
theorem g_setO {pre rest : List va_E} {o o2 : Nat × List Value} : (pre ++ (.inr o : va_E) :: rest).set pre.length (.inr o2) = pre ++ .inr o2 :: rest := by simp
theorem g_setR {pre rest : List va_E} {o : Nat × List Value} {i : Nat} {e : va_E} : (pre ++ (.inr o : va_E) :: rest).set (pre.length + 1 + i) e = pre ++ .inr o :: rest.set i e := by
  rw [List.set_append_right _ _ (by omega), show pre.length + 1 + i - pre.length = i + 1 by omega]
  rfl
theorem g_getR {pre rest : List va_E} {o : Nat × List Value} {i : Nat} : (pre ++ (.inr o : va_E) :: rest)[pre.length + 1 + i]? = rest[i]? := by
  rw [List.getElem?_append_right (by omega), show pre.length + 1 + i - pre.length = i + 1 by omega]
  rfl
theorem gH_of {p : Program} {l : Launch} {e : Env} {R : Room} {s : State} {m : MethodId} {args : Array Value} {below : List Frame} {meth : Method} {c : Code} {D : va_G} {b : Nat} {pre rest rest2 : List va_E} {o o2 : Nat × List Value} {n k : Nat} {H : Heap} {T : State} {locs : List Loc} (hP : va_P D fs_cl (zi b (pre ++ .inr o2 :: rest2)) H) (hS : va_S (gA b) s.heap H locs) (hc : s.heap.size + n = b + (pre ++ (.inr o : va_E) :: rest).length) (hT : T.heap = H) (X : Stand p l e R s m args below meth c T locs n k) (hl : rest2.length = rest.length := by rfl) : gH s D b (pre ++ .inr o2 :: rest2) n H locs := by
  have hl2 : (pre ++ (.inr o2 : va_E) :: rest2).length = (pre ++ (.inr o : va_E) :: rest).length := by rw [g_len, g_len, hl]
  rw [← hl2] at hc
  refine ⟨?_, hP, hS, hc⟩
  have h1 : T.heap.size ≤ s.heap.size + n := X.same.2.2.1
  rw [hT] at h1
  have hlen : 0 < (pre ++ (.inr o2 : va_E) :: rest2).length := by rw [g_len]; omega
  have h2 := (hP ((pre ++ (.inr o2 : va_E) :: rest2).length - 1) _ (zi_at (List.getElem?_eq_getElem (by omega)))).lt
  dsimp only at h2
  omega
section GROW2
variable {D : va_G} {cs : Nat → ClassId} {b : Nat} {ad : Int → Nat} {G : gG} {M : fs_Me} {pre rest : List va_E} {o : Nat × List Value} {pc : Nat} {L : List (Option fs_V)} {st : List fs_V} {n k f0 lc0 c0 s0 : Nat}
theorem g_ofN {N : Nat} (h : N ≤ 65536) : ¬ Int32.ofInt (N : Int) < 0 ∧ (Int32.ofInt (N : Int)).toNatClampNeg = N := by
  constructor
  · rw [fs_zero, fs_lt (by omega) fs_z]; omega
  · rw [Int32.toNatClampNeg_ofInt_of_le (by omega) (by omega)]; omega
theorem gr_newi (q i : Nat) {N : Nat} (hA : gad b ad) (hr : gRm G f0 lc0 c0 s0) (hc : n + 1 ≤ c0) (hs : k + N ≤ s0) (hN : N ≤ 65536) (hd : decode M.2.1 pc = .ok (.newarray .int, 2)) (hp : pc + 2 = q) (hw : Cond.arrayClass .int ∈ fs_tbl) (hi : pre.length + 1 + rest.length = i) (hi2 : i < 1000) (kk : zW D cs b ad G M pre o (rest ++ [.inl (cs 0, N, .inl fun _ => 0)]) q L (.inr (i : Int) :: st) (n + 1) (k + N)) : zW D cs b ad G M pre o rest pc L (.inl (N : Int) :: st) n k := by
  intro p l e R s m args below meth c Z hC hG hn H locs ls hH hL
  subst hp
  obtain ⟨r1, r2, r3, r4⟩ := hr _ _ _ _ _ _ hG
  obtain ⟨n1, n2⟩ := g_ofN hN
  have hz := hH.1
  rw [g_len, hi] at hz
  refine va_newaK (atype := .int) hC.1 hC.2.1 (hC.2.2.2.2.2.2.1 _ hw) rfl hd rfl n1 n2 (by show N * 4 ≤ 536870912; omega) (by omega) (by omega) hz (fun H1 cA e1 z1 o1 hAr hNm => ?_)
  have hcA : cA = cs 0 := by
    have h := (hC.2.2.2.2.2.2.2.1.2 0 (cs 0, .int) rfl).2
    exact Option.some.inj (hNm.symm.trans h)
  subst hcA
  have K := kk p l e R s m args below meth c Z hC hG hn H1 locs ls (hH.app (fs := [.inl (cs 0, N, .inl fun _ => 0)]) (by rw [hz]; exact z1) (fun q h => o1 q (by omega)) (fun j x hx => by
    have hj : j < 1 := (List.getElem?_eq_some_iff.mp hx).1
    have : j = 0 := by omega
    subst this
    cases hx
    show H1[H.size + 0]? = _
    rw [Nat.add_zero, hz]
    exact e1)) hL
  rw [List.map_cons] at K
  change W p l e R s m args below meth c H1 locs (n + 1) (k + N) Z (F0 m (pc + 2) ls (.ref (ad (i : Int)) :: _)) at K
  rw [hA i hi2] at K
  exact K
theorem gr_newz (q i : Nat) {N : Nat} (hA : gad b ad) (hr : gRm G f0 lc0 c0 s0) (hc : n + 1 ≤ c0) (hs : k + N ≤ s0) (hN : N ≤ 65536) (hd : decode M.2.1 pc = .ok (.newarray .boolean, 2)) (hp : pc + 2 = q) (hw : Cond.arrayClass .boolean ∈ fs_tbl) (hi : pre.length + 1 + rest.length = i) (hi2 : i < 1000) (kk : zW D cs b ad G M pre o (rest ++ [.inl (cs 1, N, .inl fun _ => 0)]) q L (.inr (i : Int) :: st) (n + 1) (k + N)) : zW D cs b ad G M pre o rest pc L (.inl (N : Int) :: st) n k := by
  intro p l e R s m args below meth c Z hC hG hn H locs ls hH hL
  subst hp
  obtain ⟨r1, r2, r3, r4⟩ := hr _ _ _ _ _ _ hG
  obtain ⟨n1, n2⟩ := g_ofN hN
  have hz := hH.1
  rw [g_len, hi] at hz
  refine va_newaK (atype := .boolean) hC.1 hC.2.1 (hC.2.2.2.2.2.2.1 _ hw) rfl hd rfl n1 n2 (by show N * 1 ≤ 536870912; omega) (by omega) (by omega) hz (fun H1 cA e1 z1 o1 hAr hNm => ?_)
  have hcA : cA = cs 1 := by
    have h := (hC.2.2.2.2.2.2.2.1.2 1 (cs 1, .boolean) rfl).2
    exact Option.some.inj (hNm.symm.trans h)
  subst hcA
  have K := kk p l e R s m args below meth c Z hC hG hn H1 locs ls (hH.app (fs := [.inl (cs 1, N, .inl fun _ => 0)]) (by rw [hz]; exact z1) (fun q h => o1 q (by omega)) (fun j x hx => by
    have hj : j < 1 := (List.getElem?_eq_some_iff.mp hx).1
    have : j = 0 := by omega
    subst this
    cases hx
    show H1[H.size + 0]? = _
    rw [Nat.add_zero, hz]
    exact e1)) hL
  rw [List.map_cons] at K
  change W p l e R s m args below meth c H1 locs (n + 1) (k + N) Z (F0 m (pc + 2) ls (.ref (ad (i : Int)) :: _)) at K
  rw [hA i hi2] at K
  exact K
theorem gr_newo (q i : Nat) {idx ci N : Nat} {C : String} {T : u_T} {ty : Nat → FieldType} (fs : List Value) (hA : gad b ad) (hr : gRm G f0 lc0 c0 s0) (hc : n + 1 ≤ c0) (hs : k + N ≤ s0) (hd : decode M.2.1 pc = .ok (.new idx, 3)) (hp : pc + 3 = q) (hcl : fs_cl[ci]? = some (C, T, N)) (hin : ∀ w ∈ u_ws C T N, w ∈ fs_tbl) (hty : ∀ k, k < N → parseFieldDescriptor (T k).2.2.1 = some (ty k)) (h1 : Cond.classLink M.1.cls idx C ∈ fs_tbl) (h2 : Cond.instantiable C N ∈ fs_tbl) (h3 : Cond.initialized C ∈ fs_tbl) (hfs : ∀ j, j < N → defaultValue (ty j) = vp_V fs j) (hi : pre.length + 1 + rest.length = i) (hi2 : i < 1000) (kk : zW D cs b ad G M pre o (rest ++ [.inr (ci, fs)]) q L (.inr (i : Int) :: st) (n + 1) (k + N)) : zW D cs b ad G M pre o rest pc L st n k := by
  intro p l e R s m args below meth c Z hC hG hn H locs ls hH hL
  subst hp
  obtain ⟨r1, r2, r3, r4⟩ := hr _ _ _ _ _ _ hG
  have hz := hH.1
  rw [g_len, hi] at hz
  have hts := hC.2.2.2.2.2.2.1
  have hKn := hC.2.2.2.2.2.2.2.1.1 ci _ hcl
  refine W.newcK hC.1 hC.2.1 hC.2.2.2.2.2.1 (hts _ h1) (hts _ h2) (hts _ h3) rfl hd (by omega) (by omega) hKn.2.1 hz (fun H1 kC hkC e1 z1 o1 => ?_)
  have K := kk p l e R s m args below meth c Z hC hG hn H1 locs ls (hH.app (fs := [.inr (ci, fs)]) (by rw [hz]; exact z1) (fun q h => o1 q (by omega)) (fun j x hx => by
    have hj : j < 1 := (List.getElem?_eq_some_iff.mp hx).1
    have : j = 0 := by omega
    subst this
    cases hx
    rw [Nat.add_zero, hz]
    exact ⟨_, hcl, (u_born ty hts hin hKn hkC e1 hty).to hfs⟩)) hL
  rw [List.map_cons] at K
  change W p l e R s m args below meth c H1 locs (n + 1) (k + N) Z (F0 m (pc + 3) ls (.ref (ad (i : Int)) :: _)) at K
  rw [hA i hi2] at K
  exact K
theorem arrV_cg {c : ClassId} {N : Nat} {f g : Nat → Value} (h : ∀ j, j < N → f j = g j) : arrV c N f = arrV c N g := by
  unfold arrV
  have : (fun j : Fin N => f j.val) = (fun j : Fin N => g j.val) := funext fun j => h j.val j.isLt
  rw [this]
theorem g_outer (c : ClassId) (N h0 : Nat) : ∀ i : Nat, Jvm.Free.Multi.outerC c N h0 i = arrV c N (fun j => if j < i then .ref (h0 + 1 + j) else .null)
  | 0 => by
    show ({ cls := c, slots := Array.replicate N .null, vm := .none } : Cell) = _
    rw [arrV_new]
    exact arrV_cg (fun j _ => by rw [if_neg (by omega)])
  | i + 1 => by
    show (Jvm.Free.Multi.outerC c N h0 i).setSlot i (.ref (h0 + 1 + i)) = _
    rw [g_outer c N h0 i, arrV_store]
    refine arrV_cg (fun j _ => ?_)
    unfold updV
    show (if j = i then Value.ref (h0 + 1 + i) else if j < i then Value.ref (h0 + 1 + j) else Value.null) = _
    by_cases e : j = i
    · rw [if_pos e, if_pos (by omega), e]
    · rw [if_neg e]
      by_cases h : j < i
      · rw [if_pos h, if_pos (by omega)]
      · rw [if_neg h, if_neg (by omega)]
/-- a row of rows, then its rows -/
def mnE (cs : Nat → ClassId) (N K h : Nat) : List va_E := .inl (cs 2, N, .inr (.inr (.inr (.inr fun j => some (h + 1 + j))))) :: List.replicate N (.inl (cs 0, K, .inl fun _ => 0))
theorem gr_mna (q i : Nat) {idx N K : Nat} (hA : gad b ad) (hr : gRm G f0 lc0 c0 s0) (hc : n + 1 + N ≤ c0) (hs : k + N + N * K ≤ s0) (hN : N ≤ 65536) (hK : K ≤ 65536) (hd : decode M.2.1 pc = .ok (.multianewarray idx 2, 4)) (hp : pc + 4 = q) (hcl : Cond.classLink M.1.cls idx "[[I" ∈ fs_tbl) (hw : Cond.arrayClass .int ∈ fs_tbl) (hi : pre.length + 1 + rest.length = i) (hi2 : i < 1000) (kk : zW D cs b ad G M pre o (rest ++ mnE cs N K (b + i)) q L (.inr (i : Int) :: st) (n + 1 + N) (k + N + N * K)) : zW D cs b ad G M pre o rest pc L (.inl (K : Int) :: .inl (N : Int) :: st) n k := by
  intro p l e R s m args below meth c Z hC hG hn H locs ls hH hL
  subst hp
  obtain ⟨r1, r2, r3, r4⟩ := hr _ _ _ _ _ _ hG
  obtain ⟨n1, n2⟩ := g_ofN hN
  obtain ⟨k1, k2⟩ := g_ofN hK
  have hz := hH.1
  rw [g_len, hi] at hz
  have hts := hC.2.2.2.2.2.2.1
  intro T hT X
  obtain ⟨vm₁, cA, comp, -, fA, fC, -, -, X', step⟩ := X.multianewarray2F hC.1 hC.2.2.2.2.2.1 (ty := .int) (hts _ hcl) hC.2.2.2.2.2.2.2.2.1.2.2.1 (hts _ hw) (g := F0 m pc ls (.int (Int32.ofInt (K : Int)) :: .int (Int32.ofInt (N : Int)) :: st.map (fs_cv ad))) rfl (by rw [hC.2.1]; exact hd) rfl n1 k1 (by rw [n2]; omega) (by rw [k2]; show K * 4 ≤ 536870912; omega) (by rw [k2]; omega) rfl rfl (by rw [n2]; omega) (by rw [n2, k2]; omega)
  rw [n2, k2] at X' step
  have hcA : cA = cs 2 := by
    have h := (hC.2.2.2.2.2.2.2.1.2 2 (cs 2, .array .int) rfl).2
    exact Option.some.inj (fA.symm.trans h)
  have hcomp : comp = cs 0 := by
    have h := (hC.2.2.2.2.2.2.2.1.2 0 (cs 0, .int) rfl).2
    exact Option.some.inj (fC.symm.trans h)
  subst hcA; subst hcomp
  have hTh : (T.setVm vm₁).heap = H := hT
  obtain ⟨f1, f2, -, -⟩ := Jvm.Free.Multi.fill_facts (T.setVm vm₁) (cs 2) (cs 0) N K (defaultValue .int) N
  have fo := fun x hx => Jvm.Free.Multi.fill_old (T.setVm vm₁) (cs 2) (cs 0) N K (defaultValue .int) (a := x) hx N
  have fi := fun j hj => Jvm.Free.Multi.fill_inner (T.setVm vm₁) (cs 2) (cs 0) N K (defaultValue .int) N j hj
  rw [hTh] at f1 f2 fo fi
  generalize hF : Jvm.Free.Multi.fill (T.setVm vm₁) (cs 2) (cs 0) N K (defaultValue .int) N = F at X' step f1 f2 fo fi
  have hh := hH.app (H1 := F.heap) (fs := mnE cs N K (b + i)) (by unfold mnE; rw [f1, List.length_cons, List.length_replicate]; omega) fo (fun j x hx => by
    unfold mnE at hx
    cases j with
    | zero =>
      cases hx
      show F.heap[H.size + 0]? = _
      rw [Nat.add_zero, f2, g_outer, vp_cell_q]
      refine congrArg some (arrV_cg (fun j hj => ?_))
      rw [if_pos hj, hz]
      rfl
    | succ j =>
      rw [List.getElem?_cons_succ] at hx
      have hj : j < N := by have := (List.getElem?_eq_some_iff.mp hx).1; rwa [List.length_replicate] at this
      rw [List.getElem?_replicate, if_pos hj] at hx
      cases hx
      show F.heap[H.size + (j + 1)]? = _
      rw [show H.size + (j + 1) = H.size + 1 + j by omega, fi j hj, vp_cell_i]
      unfold Jvm.Free.Multi.innerC
      rw [arrV_new]
      rfl)
  rw [show n + (mnE cs N K (b + i)).length = n + 1 + N by unfold mnE; rw [List.length_cons, List.length_replicate]; omega] at hh
  have K1 := kk p l e R s m args below meth c Z hC hG hn F.heap locs ls hh hL
  rw [List.map_cons] at K1
  change W p l e R s m args below meth c F.heap locs (n + 1 + N) (k + N + N * K) Z (F0 m (pc + 4) ls (.ref (ad (i : Int)) :: _)) at K1
  rw [hA i hi2, ← hz] at K1
  obtain ⟨t, a1, a2⟩ := K1 F rfl X'
  refine ⟨t, step t ?_, a2⟩
  have hTz : T.heap.size = H.size := by rw [← hT]
  rw [hTz]
  exact a1
/-! fields -/
def fs_PF (ci f : Nat) (own : String) : Prop := ∃ (C : String) (T : u_T) (N : Nat) (ty : FieldType), fs_cl[ci]? = some (C, T, N) ∧ (T f).2.2.2 = true ∧ (T f).1 = own ∧ parseFieldDescriptor (T f).2.2.1 = some ty ∧ ∀ a : Nat, narrow ty (.ref a) = .ref a ∧ fits ty (.ref a) = true
theorem gr_putF (q : Nat) {idx f i : Nat} {x : Int} (hA : gad b ad) (hd : decode M.2.1 pc = .ok (.putfield idx, 3)) (hp : pc + 3 = q) (hF : fs_F M.1.cls idx o.1 f) (hW : fs_PF o.1 f M.1.cls) (hM : M.1.name = "<init>") (hx : x = (i : Int)) (hi2 : i < 1000) (hj : pre.length < 1000) {y : Int} (hy : y = (pre.length : Int)) (hlen : f < o.2.length) (kk : zW D cs b ad G M pre (o.1, o.2.set f (.ref (b + i))) rest q L st n k) : zW D cs b ad G M pre o rest pc L (.inr x :: .inr y :: st) n k := by
  intro p l e R s m args below meth c Z hC hG hn H locs ls hH hL
  subst hp; subst hx; subst hy
  obtain ⟨C, T, N, h1, h2, h3⟩ := hF
  obtain ⟨C2, T2, N2, ty, g1, g2, g3, g4, g5⟩ := hW
  cases h1.symm.trans g1
  obtain ⟨a1, ty0, a2, a3⟩ := fs_cin o.1 _ h1
  have hts := hC.2.2.2.2.2.2.1
  show W p l e R s m args below meth c H locs n k Z (F0 m pc ls (.ref (ad (i : Int)) :: .ref (ad (pre.length : Int)) :: st.map (fs_cv ad)))
  rw [hA i hi2, hA pre.length hj]
  refine va_putF (v := .ref (b + i)) (ty := ty) hC.1 hC.2.1 hts a1 ty0 a2 a3 hC.2.2.2.2.2.1 hC.2.2.2.2.2.2.2.1 hH.2.1 zi_D hH.2.2.1 pre.length (zi_at g_this) h1 f h2 (hts _ h3) (fun _ h => h) g2 (hC.2.2.2.2.2.2.2.2.2.1.trans hM) g3 g4 (g5 _).1 (g5 _).2 hlen hd (fun H1 locs1 hP hD hS => ?_)
  rw [zi_set, g_setO] at hP
  exact fun T' hT X => kk p l e R s m args below meth c Z hC hG hn H1 locs1 ls (gH_of hP hS hH.2.2.2 hT X) hL T' hT X
theorem gr_putn (q : Nat) {idx f : Nat} {v : Int} {ty : FieldType} (hA : gad b ad) (hd : decode M.2.1 pc = .ok (.putfield idx, 3)) (hp : pc + 3 = q) (hF : fs_F M.1.cls idx o.1 f) (hW : fs_P o.1 f ty) (hn1 : narrow ty (.int (Int32.ofInt v)) = .int (Int32.ofInt v)) (hn2 : fits ty (.int (Int32.ofInt v)) = true) (hj : pre.length < 1000) {y : Int} (hy : y = (pre.length : Int)) (hlen : f < o.2.length) (kk : zW D cs b ad G M pre (o.1, o.2.set f (.int (Int32.ofInt v))) rest q L st n k) : zW D cs b ad G M pre o rest pc L (.inl v :: .inr y :: st) n k := by
  intro p l e R s m args below meth c Z hC hG hn H locs ls hH hL
  subst hp; subst hy
  obtain ⟨C, T, N, h1, h2, h3⟩ := hF
  obtain ⟨C2, T2, N2, g1, g2, g3⟩ := hW
  cases h1.symm.trans g1
  obtain ⟨a1, ty0, a2, a3⟩ := fs_cin o.1 _ h1
  have hts := hC.2.2.2.2.2.2.1
  show W p l e R s m args below meth c H locs n k Z (F0 m pc ls (.int (Int32.ofInt v) :: .ref (ad (pre.length : Int)) :: st.map (fs_cv ad)))
  rw [hA pre.length hj]
  refine va_put (v := .int (Int32.ofInt v)) (ty := ty) hC.1 hC.2.1 hts a1 ty0 a2 a3 hC.2.2.2.2.2.1 hC.2.2.2.2.2.2.2.1 hH.2.1 zi_D hH.2.2.1 pre.length (zi_at g_this) h1 f h2 (hts _ h3) (fun _ h => h) g2 g3 hn1 hn2 hlen hd (fun H1 locs1 hP hD hS => ?_)
  rw [zi_set, g_setO] at hP
  exact fun T' hT X => kk p l e R s m args below meth c Z hC hG hn H1 locs1 ls (gH_of hP hS hH.2.2.2 hT X) hL T' hT X
theorem gr_getr (q i : Nat) {idx f : Nat} (hA : gad b ad) (hd : decode M.2.1 pc = .ok (.getfield idx, 3)) (hp : pc + 3 = q) (hF : fs_F M.1.cls idx o.1 f) (hj : pre.length < 1000) (hi2 : i < 1000) {y : Int} (hy : y = (pre.length : Int)) (hf : o.2[f]? = some (.ref (b + i))) (kk : zW D cs b ad G M pre o rest q L (.inr (i : Int) :: st) n k) : zW D cs b ad G M pre o rest pc L (.inr y :: st) n k := by
  intro p l e R s m args below meth c Z hC hG hn H locs ls hH hL
  subst hp; subst hy
  obtain ⟨C, T, N, h1, h2, h3⟩ := hF
  have hts := hC.2.2.2.2.2.2.1
  have K := kk p l e R s m args below meth c Z hC hG hn H locs ls hH hL
  rw [List.map_cons] at K ⊢
  change W p l e R s m args below meth c H locs n k Z (F0 m (pc + 3) ls (.ref (ad (i : Int)) :: _)) at K
  show W p l e R s m args below meth c H locs n k Z (F0 m pc ls (.ref (ad (pre.length : Int)) :: _))
  rw [hA i hi2] at K
  rw [hA pre.length hj]
  exact va_get (v := .ref (b + i)) hC.1 hC.2.1 hts (fs_cin o.1 _ h1).1 hC.2.2.2.2.2.1 hC.2.2.2.2.2.2.2.1 hH.2.1 pre.length (zi_at g_this) h1 f h2 (hts _ h3) (fun _ h => h) hf hd K
/-! a contract of a constructor -/
def gU (D : va_G) (cs : Nat → ClassId) (b : Nat) (ad : Int → Nat) (es : List va_E) (U : State) : Prop := U.heap.size = b + es.length ∧ va_P D fs_cl (zi b es) U.heap ∧ va_K D fs_cl (fs_tys cs) U ∧ gSt U b ad
def gQ (D : va_G) (b : Nat) (es : List va_E) : Array Value → State → Outcome → State → Prop := fun _ st oc t => oc = .returned none ∧ t.heap.size = b + es.length ∧ va_P D fs_cl (zi b es) t.heap ∧ va_F (gA b) st t
def gC (D : va_G) (cs : Nat → ClassId) (b : Nat) (ad : Int → Nat) (M : fs_Me) (rm : Room) (av : List fs_V) (es0 es1 : List va_E) : Prop := ∀ l : Launch, Met l M.1 (.code M.1 M.2.1 M.2.2.1 M.2.2.2 :: fs_tbl) rm (va_Pc (av.map (fs_cv ad)) (gU D cs b ad es0)) (gQ D b es1) rm.cells rm.slots (gA b)
def gΓ (D : va_G) (b : Nat) (rm : Room) (es1 : List va_E) : gG := fun _ R s args below Z => R = rm ∧ Z = MQ below (gQ D b es1) args s rm.cells rm.slots (gA b)
theorem gΓ_rm {rm : Room} {es1 : List va_E} : gRm (gΓ D b rm es1) rm.frames rm.locals rm.cells rm.slots := by
  intro l R s args below Z h
  rw [h.1]
  exact ⟨Nat.le_refl _, Nat.le_refl _, Nat.le_refl _, Nat.le_refl _⟩
theorem gr_vret {rm : Room} (hd : decode M.2.1 pc = .ok (.return_, 1)) (hr : M.2.2.2 = none) (hn2 : rm.cells = n) (hk2 : rm.slots = k) : zW D cs b ad (gΓ D b rm (pre ++ .inr o :: rest)) M pre o rest pc L [] n k := by
  intro p l e R s m args below meth c Z hC hG hn H locs ls hH hL
  obtain ⟨h1, h2⟩ := hG
  subst h1; subst h2; subst hn2; subst hk2
  exact W.vret hC.1 hC.2.1 (hC.2.2.1.trans hr) (fun t ht hW => ⟨rfl, by rw [ht]; exact hH.1, by rw [ht]; exact hH.2.1, hH.2.2.1.F ht⟩) hH.2.2.1.2.2 hd (hlocks := hC.2.2.2.2.1)
set_option maxHeartbeats 4000000 in
theorem gC.intro {na : Nat} {rm : Room} {av : List fs_V} {es1 : List va_E} (L : List (Option fs_V)) (ho : fs_Ok M na) (hlen : av.length ≤ M.2.2.1) (hL : av.map some ++ List.replicate (M.2.2.1 - av.length) none = L) (h : zW D cs b ad (gΓ D b rm es1) M pre o rest 0 L [] 0 0) : gC D cs b ad M rm av (pre ++ .inr o :: rest) es1 := by
  subst hL
  intro l
  refine Met.ofW (cc := M.2.1) (maxL := M.2.2.1) (ret := M.2.2.2) ho.1.2 rfl ?_
  intro p e s m args below meth c s₁ B hml hv
  obtain ⟨rfl, hz, hP, hK, hSt⟩ := hv
  have hts := atoms_spec (ws := Cond.code M.1 M.2.1 M.2.2.1 M.2.2.2 :: fs_tbl) B.pre
  have hcat := fs_cat_all ad av
  have hsl := fs_sl (av.map (fs_cv ad)) hcat
  rw [List.length_map] at hsl
  have hl := lv_entry (av.map (fs_cv ad)) (n := M.2.2.1) (by rw [hsl]; exact hlen)
  rw [lg_entry_eq]
  generalize (lg_sl (av.map (fs_cv ad)) ++ List.replicate (M.2.2.1 - (lg_sl (av.map (fs_cv ad))).length) Slot.unset).toArray = ls at hl ⊢
  refine h p l e rm s m _ below meth c _ ⟨B.exec, B.bytes, B.returns, hml, B.notSynchronized, findClass_of_methodNamed B.named, fun w hw => hts w (List.mem_cons_of_mem _ hw), hK, hSt, (name_of_methodNamed B.named B.method).1, by rw [hz]; exact Nat.le_add_right _ _⟩ ⟨rfl, rfl⟩ (by simp; omega) s.heap [] ls ⟨hz, hP, va_S.rf, hz⟩ ⟨by rw [hl.1]; simp; omega, hl.2.1, fun i v hv => ?_⟩
  by_cases hi : i < av.length
  · rw [List.getElem?_append_left (by simpa using hi), List.getElem?_map] at hv
    have hv2 : av[i]? = some v := by
      cases h9 : av[i]? with
      | none => rw [h9] at hv; cases hv
      | some w => rw [h9] at hv; cases hv; rfl
    have := fs_args (av.map (fs_cv ad)) hcat 0 i (fs_cv ad v) (by rw [List.getElem?_map, hv2]; rfl)
    rw [Nat.zero_add] at this
    exact hl.2.2 (i, fs_cv ad v) this
  · rw [List.getElem?_append_right (by simpa using Nat.not_lt.mp hi)] at hv
    have := List.eq_of_mem_replicate (List.mem_of_getElem? hv)
    cases this
theorem gC.cast {rm : Room} {av : List fs_V} {es0 es1 es0' es1' : List va_E} (h : gC D cs b ad M rm av es0 es1) (h0 : es0 = es0') (h1 : es1 = es1') : gC D cs b ad M rm av es0' es1' := by subst h0; subst h1; exact h
theorem g_blind {es : List va_E} {av : List Value} : FrameBlind (va_Pc av (gU D cs b ad es)) := by
  intro a U g mk q
  obtain ⟨q0, qz, qP, qK, qS⟩ := q
  refine ⟨q0, qz, qP, va_K.moved (u := U) (U := U.calling g mk a) (Vm.Alike.refl U.vm) qK, fun j x hx => ?_, fun w hw => ?_, arrayOver_alikeB (U := U.calling g mk a) (Vm.Alike.refl U.vm) qS.2.2.1, va_AO.moved (U := U.calling g mk a) (Vm.Alike.refl U.vm) qS.2.2.2⟩
  · obtain ⟨h1, h2⟩ := qS.1 j x hx
    exact ⟨h1.moved (U := U.calling g mk a) (Vm.Alike.refl U.vm), h2.moved (U := U.calling g mk a) (Vm.Alike.refl U.vm)⟩
  · have hk : w.onTables = true := by
      have hall : ∀ w ∈ fs_nest, w.onTables = true := by decide +kernel
      exact hall w hw
    exact va_Nw.same hk (rfl : U.vm = (U.calling g mk a).vm) (qS.2.1 w hw)
theorem g_pre {es : List va_E} {s U : State} {H : Heap} {locs : List Loc} (hK : va_K D fs_cl (fs_tys cs) s) (hS : gSt s b ad) (hH : gH s D b es n H locs) (hU : U.heap = H) (hW : s.WarmedH U.vm) : gU D cs b ad es U :=
  ⟨by rw [hU]; exact hH.1, by rw [hU]; exact hH.2.1, va_K.moved hW.alike hK, hS.moved hW (fun a h1 h2 => by rw [hU]; exact hH.2.2.1.2.1 a h1 h2)⟩
theorem g_back {p : Program} {l : Launch} {e : Env} {R : Room} {s : State} {m : MethodId} {args : Array Value} {below : List Frame} {meth : Method} {c : Code} {Z : State → Prop} {H : Heap} {locs : List Loc} {ls : Array Slot} {stk : List Value} {a : Array Value} {rest2 : List va_E} {o2 : Nat × List Value} {mc ms : Nat} (hC : gCx M p s m args meth c D b ad cs) (hG : G l R s args below Z) (hn : L.length = M.2.2.1) (hH : gH s D b (pre ++ .inr o :: rest) n H locs) (hL : fs_Lr ad ls L)
    (hr : va_Run p l e R s m args below meth c H locs n k mc ms (F0 m pc ls stk) (st.map (fs_cv ad)) (gQ D b (pre ++ .inr o2 :: rest2) a) (gA b)) (hlen : rest2.length = rest.length + mc) (kk : zW D cs b ad G M pre o2 rest2 (pc + 3) L st (n + mc) (k + ms)) : W p l e R s m args below meth c H locs n k Z (F0 m pc ls stk) := by
  intro T hT X
  obtain ⟨v, st₀, t, T', L', h0, X', hL', e1, e2, ⟨hv, hz2, hP, hz, hk⟩, stp⟩ := hr T hT X
  rw [h0] at hz hk
  have hv2 : v = none := by injection hv
  subst hv2
  have hc := hH.2.2.2
  have hS := hH.2.2.1
  rw [g_len] at hc
  obtain ⟨t2, a1, b1⟩ := kk p l e R s m args below meth c Z hC hG hn T'.heap (locs ++ L') ls ⟨by rw [e1]; exact hz2, by rw [e1]; exact hP, ⟨Nat.le_trans hS.1 (by rw [e1]; exact hz), fun q h1 h2 => by rw [e1, hk q (Nat.lt_of_lt_of_le h1 hS.1) h2]; exact hS.2.1 q h1 h2, fun q hq => by
      rcases List.mem_append.mp hq with h | h
      · exact hS.2.2 q h
      · exact hL' q h⟩, by rw [g_len]; omega⟩ hL T' rfl X'
  exact ⟨t2, stp t2 a1, b1⟩
theorem gr_call (q : Nat) {M2 : fs_Me} {na idx : Nat} {x : Int} {rm : Room} {rest2 : List va_E} {ST : List fs_V} (As : List fs_V) (hr : gRm G f0 lc0 c0 s0) (hd : decode M.2.1 pc = .ok (.invokespecial idx, 3)) (hp : pc + 3 = q) (hm : Cond.methodLink M.1.cls idx M2.1 ∈ fs_tbl) (ho : fs_Ok M2 na) (hi : Cond.instanceMethod M2.1 ∈ fs_tbl) (hy : M2.1.name = "<init>") (hret : M2.2.2.2 = none) (hn2 : As.length = na) (hf : rm.frames + 1 ≤ f0) (hlc : 8 + (M2.2.2.1 + 11) + rm.locals ≤ lc0) (hc : n + rm.cells ≤ c0) (hs : k + rm.slots ≤ s0) (hw : st.length ≤ 8) (hst : ST = As.reverse ++ .inr x :: st) (hk : gC D cs b ad M2 rm (.inr x :: As) (pre ++ .inr o :: rest) (pre ++ .inr o :: rest2)) (hlen : rest2.length = rest.length + rm.cells) (kk : zW D cs b ad G M pre o rest2 q L st (n + rm.cells) (k + rm.slots)) : zW D cs b ad G M pre o rest pc L ST n k := by
  subst hst; subst hp
  intro p l e R s m args below meth c Z hC hG hn H locs ls hH hL
  obtain ⟨r1, r2, r3, r4⟩ := hr _ _ _ _ _ _ hG
  obtain ⟨hx, hb, hrt, hml, hlk, hown, hts, hK, hS, hnm, hbs⟩ := id hC
  obtain ⟨⟨o1, o2⟩, o3, o4, o5, o6, o7⟩ := ho
  have hgood : GoodIn fs_tbl (.code M2.1 M2.2.1 M2.2.2.1 M2.2.2.2 :: fs_tbl) := fs_goodAll (fun w hw => (List.mem_cons.mp hw).elim (fun h => by rw [h]; exact o3) id)
  have hM := hk l
  rw [hret] at hM hgood
  refine g_back hC hG hn hH hL (va_runI (As := As.map (fs_cv ad)) (rest := st.map (fs_cv ad)) (b := ad x) ⟨hx, hb, hml, hown, hts⟩ hM (cwI na hts hgood rfl rfl rfl (hts _ o4) (hts _ hm) (hts _ hi) hy ⟨o5, o6, o7⟩ ⟨by omega, by omega⟩) ⟨g_blind, fun U hU hW => ⟨rfl, g_pre hK hS hH hU hW⟩⟩ rfl (by rw [List.length_map]; exact hn2) (hL.1.trans hn) (by simp [fs_cv]) (fs_room hw) hd ⟨by omega, by omega⟩) hlen kk
theorem gr_callN (q : Nat) {M2 : fs_Me} {na idx : Nat} {x : Int} {host : String} {rm : Room} {rest2 : List va_E} {ST : List fs_V} (As : List fs_V) (hr : gRm G f0 lc0 c0 s0) (hd : decode M.2.1 pc = .ok (.invokespecial idx, 3)) (hp : pc + 3 = q) (hm : Cond.methodLinkNest M.1.cls idx M2.1 host ∈ fs_nest) (ho : fs_Ok M2 na) (hi : Cond.instanceMethod M2.1 ∈ fs_tbl) (hy : M2.1.name = "<init>") (hret : M2.2.2.2 = none) (hn2 : As.length = na) (hf : rm.frames + 1 ≤ f0) (hlc : 8 + (M2.2.2.1 + 11) + rm.locals ≤ lc0) (hc : n + rm.cells ≤ c0) (hs : k + rm.slots ≤ s0) (hw : st.length ≤ 8) (hst : ST = As.reverse ++ .inr x :: st) (hk : gC D cs b ad M2 rm (.inr x :: As) (pre ++ .inr o :: rest) (pre ++ .inr o :: rest2)) (hlen : rest2.length = rest.length + rm.cells) (kk : zW D cs b ad G M pre o rest2 q L st (n + rm.cells) (k + rm.slots)) : zW D cs b ad G M pre o rest pc L ST n k := by
  subst hst; subst hp
  intro p l e R s m args below meth c Z hC hG hn H locs ls hH hL
  obtain ⟨r1, r2, r3, r4⟩ := hr _ _ _ _ _ _ hG
  obtain ⟨hx, hb, hrt, hml, hlk, hown, hts, hK, hS, hnm, hbs⟩ := id hC
  obtain ⟨⟨o1, o2⟩, o3, o4, o5, o6, o7⟩ := ho
  have hgood : GoodIn fs_tbl (.code M2.1 M2.2.1 M2.2.2.1 M2.2.2.2 :: fs_tbl) := fs_goodAll (fun w hw => (List.mem_cons.mp hw).elim (fun h => by rw [h]; exact o3) id)
  have hM := hk l
  rw [hret] at hM hgood
  refine g_back hC hG hn hH hL (va_runIN (As := As.map (fs_cv ad)) (rest := st.map (fs_cv ad)) (b := ad x) ⟨hx, hb, hml, hown, hts⟩ hM ⟨va_cnB na hts hgood rfl rfl rfl (hS.2.1 _ hm) (hts _ o4) ⟨o5, o6, o7⟩ ⟨by omega, by omega⟩, hy, hts _ hi⟩ ⟨g_blind, fun U hU hW => ⟨rfl, g_pre hK hS hH hU hW⟩⟩ rfl (by rw [List.length_map]; exact hn2) (hL.1.trans hn) (by simp [fs_cv]) (fs_room hw) hd ⟨by omega, by omega⟩) hlen kk
end GROW2
