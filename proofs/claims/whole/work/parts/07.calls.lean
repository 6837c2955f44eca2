/-! ===== entry, returns, calls ===== -/
theorem fs_sl (vs : List Value) (h : ∀ v ∈ vs, v.category = 1) : (lg_sl vs).length = vs.length := by
  induction vs with
  | nil => rfl
  | cons v vs ih =>
    have h1 : ¬ v.category = 2 := by rw [h v List.mem_cons_self]; decide
    have e : lg_sl (v :: vs) = [.val v] ++ lg_sl vs := by simp [lg_sl, h1]
    rw [e, List.length_append, ih (fun w hw => h w (List.mem_cons_of_mem _ hw))]
    simp; omega
theorem fs_args (vs : List Value) (h : ∀ v ∈ vs, v.category = 1) : ∀ (j i : Nat) (v : Value), vs[i]? = some v → (j + i, v) ∈ lv_args j vs := by
  induction vs with
  | nil => intro j i v h; simp at h
  | cons w vs ih =>
    intro j i v hv
    have h1 : ¬ w.category = 2 := by rw [h w List.mem_cons_self]; decide
    simp only [lv_args, h1, if_false]
    cases i with
    | zero =>
      simp at hv
      subst hv
      exact List.mem_cons_self
    | succ i =>
      rw [List.getElem?_cons_succ] at hv
      have := ih (fun w hw => h w (List.mem_cons_of_mem _ hw)) (j + 1) i v hv
      rw [show j + 1 + i = j + (i + 1) by omega] at this
      exact List.mem_cons_of_mem _ this
theorem fs_cat_all (ad : Int → Nat) (av : List fs_V) : ∀ v ∈ av.map (fs_cv ad), v.category = 1 := by
  intro v hv
  obtain ⟨w, -, rfl⟩ := List.mem_map.mp hv
  exact fs_cv_cat ad w
set_option maxHeartbeats 4000000 in
theorem fs_C.intro {M : fs_Me} {n d : Nat} {av : List fs_V} {σ : fs_S} {Q : fs_Q} (L : List (Option fs_V)) (ho : fs_Ok M n) (hlen : av.length ≤ M.2.2.1) (hL : av.map some ++ List.replicate (M.2.2.1 - av.length) none = L) (h : fs_W (fs_Γ d Q) M 0 L [] σ) : fs_C M d av σ Q := by
  subst hL
  intro l D ad cs
  refine Met.ofW (cc := M.2.1) (maxL := M.2.2.1) (ret := M.2.2.2) ho.1.2 rfl ?_
  intro p e s m args below meth c s₁ B hml hv
  obtain ⟨rfl, hP, hD, hK, hSt⟩ := hv
  have hts := atoms_spec (ws := Cond.code M.1 M.2.1 M.2.2.1 M.2.2.2 :: fs_tbl) B.pre
  have hcat := fs_cat_all ad av
  have hsl := fs_sl (av.map (fs_cv ad)) hcat
  rw [List.length_map] at hsl
  have hl := lv_entry (av.map (fs_cv ad)) (n := M.2.2.1) (by rw [hsl]; exact hlen)
  rw [lg_entry_eq]
  generalize (lg_sl (av.map (fs_cv ad)) ++ List.replicate (M.2.2.1 - (lg_sl (av.map (fs_cv ad))).length) Slot.unset).toArray = ls at hl ⊢
  refine h p l e (fs_rm d) s m _ below meth c D ad cs 0 0 _ ⟨B.exec, B.bytes, B.returns, hml, B.notSynchronized, findClass_of_methodNamed B.named, fun w hw => hts w (List.mem_cons_of_mem _ hw), hK, hSt⟩ ⟨rfl, rfl, rfl, rfl⟩ (by simp; omega) s.heap [] ls ⟨hP, hD, va_S.rf⟩ ⟨by rw [hl.1]; simp; omega, hl.2.1, fun i v hv => ?_⟩
  by_cases hi : i < av.length
  · rw [List.getElem?_append_left (by simpa using hi), List.getElem?_map] at hv
    have hv2 : av[i]? = some v := by
      cases h9 : av[i]? with
      | none => rw [h9] at hv; cases hv
      | some w => rw [h9] at hv; cases hv; rfl
    have := fs_args (av.map (fs_cv ad)) hcat 0 i (fs_cv ad v) (by rw [List.getElem?_map, hv2]; rfl)
    rw [Nat.zero_add] at this
    exact hl.2.2 (i, fs_cv ad v) this
  · rw [List.getElem?_append_right (by simpa using Nat.not_lt.mp hi)] at hv
    have := List.eq_of_mem_replicate (List.mem_of_getElem? hv)
    cases this
section RETS
variable {M : fs_Me} {pc d : Nat} {L : List (Option fs_V)} {σ : fs_S} {Q : fs_Q}
theorem fr_iret {x : Int} (hd : decode M.2.1 pc = .ok (.ireturn, 1)) (hr : M.2.2.2 = some .int) (hq : Q (some x) σ) : fs_W (fs_Γ d Q) M pc L [.inl x] σ := by
  intro p l e R s m args below meth c D ad cs cells slots Z hC hG hn H locs ls hH hL
  obtain ⟨h1, h2, h3, h4⟩ := hG
  subst h1; subst h2; subst h3; subst h4
  exact W.iret (v := Int32.ofInt x) hC.1 hC.2.1 (hC.2.2.1.trans hr) (fun t ht hW => ⟨some x, σ, rfl, hq, by rw [ht]; exact hH.1, hH.2.2.F ht⟩) hH.2.2.2.2 hd (hlocks := hC.2.2.2.2.1)
theorem fr_zret {x : Int} (hd : decode M.2.1 pc = .ok (.ireturn, 1)) (hr : M.2.2.2 = some .boolean) (hx : x = 0 ∨ x = 1) (hq : Q (some x) σ) : fs_W (fs_Γ d Q) M pc L [.inl x] σ := by
  intro p l e R s m args below meth c D ad cs cells slots Z hC hG hn H locs ls hH hL
  obtain ⟨h1, h2, h3, h4⟩ := hG
  subst h1; subst h2; subst h3; subst h4
  exact W.zret (v := Int32.ofInt x) hC.1 hC.2.1 (hC.2.2.1.trans hr) (by rcases hx with rfl | rfl <;> rfl) (fun t ht hW => ⟨some x, σ, rfl, hq, by rw [ht]; exact hH.1, hH.2.2.F ht⟩) hH.2.2.2.2 hd (hlocks := hC.2.2.2.2.1)
theorem fr_vret (hd : decode M.2.1 pc = .ok (.return_, 1)) (hr : M.2.2.2 = none) (hq : Q none σ) : fs_W (fs_Γ d Q) M pc L [] σ := by
  intro p l e R s m args below meth c D ad cs cells slots Z hC hG hn H locs ls hH hL
  obtain ⟨h1, h2, h3, h4⟩ := hG
  subst h1; subst h2; subst h3; subst h4
  exact W.vret hC.1 hC.2.1 (hC.2.2.1.trans hr) (fun t ht hW => ⟨none, σ, rfl, hq, by rw [ht]; exact hH.1, hH.2.2.F ht⟩) hH.2.2.2.2 hd (hlocks := hC.2.2.2.2.1)
end RETS
theorem fs_blind {D : va_G} {ad : Int → Nat} {cs : Nat → ClassId} {σ : fs_S} {av : List Value} : FrameBlind (va_Pc av (fun U => fs_U D ad cs σ U)) := by
  intro a U g mk q
  obtain ⟨q0, qP, qD, qK, qS⟩ := q
  refine ⟨q0, qP, qD, va_K.moved (u := U) (U := U.calling g mk a) (Vm.Alike.refl U.vm) qK, fun j x hx => ?_, fun w hw => ?_⟩
  · obtain ⟨h1, h2⟩ := qS.1 j x hx
    exact ⟨h1.moved (U := U.calling g mk a) (Vm.Alike.refl U.vm), h2.moved (U := U.calling g mk a) (Vm.Alike.refl U.vm)⟩
  · have hk : w.onTables = true := by
      have hall : ∀ w ∈ fs_nest, w.onTables = true := by decide +kernel
      exact hall w hw
    exact va_Nw.same hk (rfl : U.vm = (U.calling g mk a).vm) (qS.2 w hw)
section CALLS
variable {Γ : fs_G} {M M2 : fs_Me} {pc : Nat} {L : List (Option fs_V)} {st ST : List fs_V} {σ : fs_S}
/-- behind a call -/
theorem fs_back {p : Program} {l : Launch} {e : Env} {R : Room} {s : State} {m : MethodId} {args : Array Value} {below : List Frame} {meth : Method} {c : Code} {D : va_G} {ad : Int → Nat} {cs : Nat → ClassId} {cells slots : Nat} {Z : State → Prop} {Q : fs_Q} {H : Heap} {locs : List Loc} {ls : Array Slot} {stk : List Value} {a : Array Value} (hC : fs_Cx M p s m args meth c D ad cs) (hG : Γ l R s args below D ad cs cells slots Z) (hn : L.length = M.2.2.1) (hH : fs_H s D ad cs σ H locs) (hL : fs_Lr ad ls L)
    (hr : va_Run p l e R s m args below meth c H locs cells slots 0 0 (F0 m pc ls stk) (st.map (fs_cv ad)) (fs_Qc D ad cs Q a) (fs_A ad)) (hq : ∀ r τ, Q r τ → fs_W Γ M (pc + 3) L (r.toList.map Sum.inl ++ st) τ) : W p l e R s m args below meth c H locs cells slots Z (F0 m pc ls stk) := by
  intro T hT X
  obtain ⟨v, st₀, t, T', L', h0, X', hL', e1, e2, ⟨r, τ, hv, hQ, hP, hz, hk⟩, stp⟩ := hr T hT X
  rw [h0] at hz hk
  have hv2 : v = r.map fun x => .int (Int32.ofInt x) := by injection hv
  subst hv2
  obtain ⟨t2, a1, b1⟩ := hq r τ hQ p l e R s m args below meth c D ad cs cells slots Z hC hG hn T'.heap (locs ++ L') ls ⟨by rw [e1]; exact hP, fs_D_eq hH.2.1, Nat.le_trans hH.2.2.1 (by rw [e1]; exact hz), fun q h1 h2 => by rw [e1, hk q (Nat.lt_of_lt_of_le h1 hH.2.2.1) h2]; exact hH.2.2.2.1 q h1 h2, fun q hq => by
      rcases List.mem_append.mp hq with h | h
      · exact hH.2.2.2.2 q h
      · exact hL' q h⟩ hL T' rfl X'
  refine ⟨t2, stp t2 ?_, b1⟩
  have e3 : (r.map fun x => Value.int (Int32.ofInt x)).toList ++ st.map (fs_cv ad) = (r.toList.map Sum.inl ++ st).map (fs_cv ad) := by cases r <;> rfl
  rw [e3]
  exact a1
theorem fs_pre {s U : State} {D : va_G} {ad : Int → Nat} {cs : Nat → ClassId} {H : Heap} {locs : List Loc} (hK : va_K D fs_cl (fs_tys cs) s) (hS : fs_St s ad) (hH : fs_H s D ad cs σ H locs) (hU : U.heap = H) (hW : s.WarmedH U.vm) : fs_U D ad cs σ U :=
  ⟨by rw [hU]; exact hH.1, hH.2.1, va_K.moved hW.alike hK, hS.moved hW (fun a h1 h2 => by rw [hU]; exact hH.2.2.2.1 a h1 h2)⟩
theorem fs_room {st : List fs_V} {ad : Int → Nat} {m : MethodId} {ls : Array Slot} {stk : List Value} (hw : st.length ≤ 8) : 2 * (F0 m pc ls stk).monitorRoom + ((st.map (fs_cv ad)).map fun v => v.category).sum ≤ 8 := by
  refine lv_room ?_
  have h : ∀ l : List fs_V, ((l.map (fs_cv ad)).map fun v => v.category).sum = l.length := by
    intro l
    induction l with
    | nil => rfl
    | cons a l ih =>
      simp only [List.map_cons, List.sum_cons, List.length_cons, fs_cv_cat] at ih ⊢
      omega
  rw [h]
  exact hw
theorem fs_callV {n d idx : Nat} {k : Int} {ci : Nat} {fs : List (Option Int)} {T : u_T} {N : Nat} {Q : fs_Q} (As : List fs_V) (hd : decode M.2.1 pc = .ok (.invokevirtual idx, 3)) (hm : Cond.methodLink M.1.cls idx M2.1 ∈ fs_tbl) (ho : fs_Ok M2 n) (hi : fs_Iv M2.1) (hl : fs_lay k = some (.inl (ci, fs))) (hc : fs_cl[ci]? = some (M2.1.cls, T, N)) (hn2 : As.length = n) (hr : fs_Rm Γ d) (hw : st.length ≤ 8) (hst : ST = As.reverse ++ .inr k :: st) (hk : fs_C M2 d (.inr k :: As) σ Q) (hq : ∀ r τ, Q r τ → fs_W Γ M (pc + 3) L (r.toList.map Sum.inl ++ st) τ) : fs_W Γ M pc L ST σ := by
  subst hst
  intro p l e R s m args below meth c D ad cs cells slots Z hC hG hn H locs ls hH hL
  obtain ⟨r1, r2, r3, r4⟩ := hr _ _ _ _ _ _ _ _ _ _ _ hG
  obtain ⟨hx, hb, hrt, hml, hlk, hown, hts, hK, hS⟩ := id hC
  obtain ⟨⟨o1, o2⟩, o3, o4, o5, o6, o7⟩ := ho
  have hgood : GoodIn fs_tbl (wsV M.1.cls idx M2.1.cls M2.1 (.code M2.1 M2.2.1 M2.2.2.1 M2.2.2.2 :: fs_tbl)) := fs_goodAll (fun w hw => by
    simp only [wsV, List.mem_append, List.mem_cons, List.not_mem_nil, or_false] at hw
    rcases hw with (rfl | rfl | rfl | rfl) | rfl | hw
    · exact hm
    · exact hi.1
    · exact hi.2
    · exact o4
    · exact o3
    · exact hw)
  refine fs_back hC hG hn hH hL (va_runV (As := As.map (fs_cv ad)) (rest := st.map (fs_cv ad)) (b := ad k) ⟨hx, hb, hml, hown, hts⟩ (hk l D ad cs) (cwV n hts hgood rfl rfl rfl ⟨rfl, o5, o6, o7⟩ ⟨r1, by show 8 + (M2.2.2.1 + 11) + 64 * d ≤ R.locals; omega⟩) ⟨fs_blind, va_recv hK hH.1 hc (fs_get hl), fun U hU hW => ⟨rfl, fs_pre hK hS hH hU hW⟩⟩ rfl (by rw [List.length_map]; exact hn2) (hL.1.trans hn) (by simp [fs_cv]) (fs_room hw) hd ⟨r3, r4⟩) hq
theorem fs_callS {n d idx : Nat} {Q : fs_Q} (As : List fs_V) (hd : decode M.2.1 pc = .ok (.invokestatic idx, 3)) (hm : Cond.methodLink M.1.cls idx M2.1 ∈ fs_tbl) (ho : fs_Ok M2 n) (hi : fs_Is M2.1) (hn2 : As.length = n) (hr : fs_Rm Γ d) (hw : st.length ≤ 8) (hst : ST = As.reverse ++ st) (hk : fs_C M2 d As σ Q) (hq : ∀ r τ, Q r τ → fs_W Γ M (pc + 3) L (r.toList.map Sum.inl ++ st) τ) : fs_W Γ M pc L ST σ := by
  subst hst
  intro p l e R s m args below meth c D ad cs cells slots Z hC hG hn H locs ls hH hL
  obtain ⟨r1, r2, r3, r4⟩ := hr _ _ _ _ _ _ _ _ _ _ _ hG
  obtain ⟨hx, hb, hrt, hml, hlk, hown, hts, hK, hS⟩ := id hC
  obtain ⟨⟨o1, o2⟩, o3, o4, o5, o6, o7⟩ := ho
  have hgood : GoodIn fs_tbl (.code M2.1 M2.2.1 M2.2.2.1 M2.2.2.2 :: fs_tbl) := fs_goodAll (fun w hw => (List.mem_cons.mp hw).elim (fun h => by rw [h]; exact o3) id)
  refine fs_back hC hG hn hH hL (va_runS (As := As.map (fs_cv ad)) (rest := st.map (fs_cv ad)) ⟨hx, hb, hml, hown, hts⟩ (hk l D ad cs) ⟨callB_of n hts hgood rfl rfl rfl (hts _ o4) (hts _ hm) ⟨o5, o6, o7⟩ ⟨r1, by show 8 + (M2.2.2.1 + 11) + 64 * d ≤ R.locals; omega⟩, hts _ hi⟩ ⟨fs_blind, fun U hU hW => ⟨rfl, fs_pre hK hS hH hU hW⟩⟩ rfl (by rw [List.length_map]; exact hn2) (hL.1.trans hn) (by simp) (fs_room hw) hd ⟨r3, r4⟩) hq
theorem fs_callSN {n d idx : Nat} {host : String} {Q : fs_Q} (As : List fs_V) (hd : decode M.2.1 pc = .ok (.invokestatic idx, 3)) (hm : Cond.methodLinkNest M.1.cls idx M2.1 host ∈ fs_nest) (ho : fs_Ok M2 n) (hi : fs_Is M2.1) (hn2 : As.length = n) (hr : fs_Rm Γ d) (hw : st.length ≤ 8) (hst : ST = As.reverse ++ st) (hk : fs_C M2 d As σ Q) (hq : ∀ r τ, Q r τ → fs_W Γ M (pc + 3) L (r.toList.map Sum.inl ++ st) τ) : fs_W Γ M pc L ST σ := by
  subst hst
  intro p l e R s m args below meth c D ad cs cells slots Z hC hG hn H locs ls hH hL
  obtain ⟨r1, r2, r3, r4⟩ := hr _ _ _ _ _ _ _ _ _ _ _ hG
  obtain ⟨hx, hb, hrt, hml, hlk, hown, hts, hK, hS⟩ := id hC
  obtain ⟨⟨o1, o2⟩, o3, o4, o5, o6, o7⟩ := ho
  have hgood : GoodIn fs_tbl (.code M2.1 M2.2.1 M2.2.2.1 M2.2.2.2 :: fs_tbl) := fs_goodAll (fun w hw => (List.mem_cons.mp hw).elim (fun h => by rw [h]; exact o3) id)
  refine fs_back hC hG hn hH hL (va_runSN (As := As.map (fs_cv ad)) (rest := st.map (fs_cv ad)) ⟨hx, hb, hml, hown, hts⟩ (hk l D ad cs) ⟨va_cnB n hts hgood rfl rfl rfl (hS.2 _ hm) (hts _ o4) ⟨o5, o6, o7⟩ ⟨r1, by show 8 + (M2.2.2.1 + 11) + 64 * d ≤ R.locals; omega⟩, hts _ hi, trivial⟩ ⟨fs_blind, fun U hU hW => ⟨rfl, fs_pre hK hS hH hU hW⟩⟩ rfl (by rw [List.length_map]; exact hn2) (hL.1.trans hn) (by simp) (fs_room hw) hd ⟨r3, r4⟩) hq
/-! the same, with the answer on the stack (i) or without one (v) -/
theorem fr_callVi (q : Nat) {n d idx : Nat} {k : Int} {ci : Nat} {fs : List (Option Int)} {T : u_T} {N : Nat} (As : List fs_V) (hd : decode M.2.1 pc = .ok (.invokevirtual idx, 3)) (hp : pc + 3 = q) (hm : Cond.methodLink M.1.cls idx M2.1 ∈ fs_tbl) (ho : fs_Ok M2 n) (hi : fs_Iv M2.1) (hl : fs_lay k = some (.inl (ci, fs))) (hc : fs_cl[ci]? = some (M2.1.cls, T, N)) (hn2 : As.length = n) (hr : fs_Rm Γ d) (hw : st.length ≤ 8) (hst : ST = As.reverse ++ .inr k :: st) (hk : fs_C M2 d (.inr k :: As) σ (fun r τ => ∃ x, r = some x ∧ fs_W Γ M q L (.inl x :: st) τ)) : fs_W Γ M pc L ST σ := by
  subst hp
  exact fs_callV As hd hm ho hi hl hc hn2 hr hw hst hk (fun r τ h => by obtain ⟨x, rfl, h⟩ := h; exact h)
theorem fr_callVv (q : Nat) {n d idx : Nat} {k : Int} {ci : Nat} {fs : List (Option Int)} {T : u_T} {N : Nat} (As : List fs_V) (hd : decode M.2.1 pc = .ok (.invokevirtual idx, 3)) (hp : pc + 3 = q) (hm : Cond.methodLink M.1.cls idx M2.1 ∈ fs_tbl) (ho : fs_Ok M2 n) (hi : fs_Iv M2.1) (hl : fs_lay k = some (.inl (ci, fs))) (hc : fs_cl[ci]? = some (M2.1.cls, T, N)) (hn2 : As.length = n) (hr : fs_Rm Γ d) (hw : st.length ≤ 8) (hst : ST = As.reverse ++ .inr k :: st) (hk : fs_C M2 d (.inr k :: As) σ (fun r τ => r = none ∧ fs_W Γ M q L st τ)) : fs_W Γ M pc L ST σ := by
  subst hp
  exact fs_callV As hd hm ho hi hl hc hn2 hr hw hst hk (fun r τ h => by obtain ⟨rfl, h⟩ := h; exact h)
theorem fr_callSi (q : Nat) {n d idx : Nat} (As : List fs_V) (hd : decode M.2.1 pc = .ok (.invokestatic idx, 3)) (hp : pc + 3 = q) (hm : Cond.methodLink M.1.cls idx M2.1 ∈ fs_tbl) (ho : fs_Ok M2 n) (hi : fs_Is M2.1) (hn2 : As.length = n) (hr : fs_Rm Γ d) (hw : st.length ≤ 8) (hst : ST = As.reverse ++ st) (hk : fs_C M2 d As σ (fun r τ => ∃ x, r = some x ∧ fs_W Γ M q L (.inl x :: st) τ)) : fs_W Γ M pc L ST σ := by
  subst hp
  exact fs_callS As hd hm ho hi hn2 hr hw hst hk (fun r τ h => by obtain ⟨x, rfl, h⟩ := h; exact h)
theorem fr_callSv (q : Nat) {n d idx : Nat} (As : List fs_V) (hd : decode M.2.1 pc = .ok (.invokestatic idx, 3)) (hp : pc + 3 = q) (hm : Cond.methodLink M.1.cls idx M2.1 ∈ fs_tbl) (ho : fs_Ok M2 n) (hi : fs_Is M2.1) (hn2 : As.length = n) (hr : fs_Rm Γ d) (hw : st.length ≤ 8) (hst : ST = As.reverse ++ st) (hk : fs_C M2 d As σ (fun r τ => r = none ∧ fs_W Γ M q L st τ)) : fs_W Γ M pc L ST σ := by
  subst hp
  exact fs_callS As hd hm ho hi hn2 hr hw hst hk (fun r τ h => by obtain ⟨rfl, h⟩ := h; exact h)
theorem fr_callSNi (q : Nat) {n d idx : Nat} {host : String} (As : List fs_V) (hd : decode M.2.1 pc = .ok (.invokestatic idx, 3)) (hp : pc + 3 = q) (hm : Cond.methodLinkNest M.1.cls idx M2.1 host ∈ fs_nest) (ho : fs_Ok M2 n) (hi : fs_Is M2.1) (hn2 : As.length = n) (hr : fs_Rm Γ d) (hw : st.length ≤ 8) (hst : ST = As.reverse ++ st) (hk : fs_C M2 d As σ (fun r τ => ∃ x, r = some x ∧ fs_W Γ M q L (.inl x :: st) τ)) : fs_W Γ M pc L ST σ := by
  subst hp
  exact fs_callSN As hd hm ho hi hn2 hr hw hst hk (fun r τ h => by obtain ⟨x, rfl, h⟩ := h; exact h)
end CALLS
