/-! ===== FieldSorterModel(): its last call, its end ===== -/
def gΓQ (b : Nat) (rm : Room) (Qc : Array Value → State → Outcome → State → Prop) : gG := fun _ R s args below Z => R = rm ∧ Z = MQ below Qc args s rm.cells rm.slots (gA b)
theorem gΓQ_rm {b : Nat} {rm : Room} {Qc : Array Value → State → Outcome → State → Prop} : gRm (gΓQ b rm Qc) rm.frames rm.locals rm.cells rm.slots := by
  intro l R s args below Z h
  rw [h.1]
  exact ⟨Nat.le_refl _, Nat.le_refl _, Nat.le_refl _, Nat.le_refl _⟩
set_option maxHeartbeats 3000000 in
theorem gM_intro {D : va_G} {cs : Nat → ClassId} {b : Nat} {ad : Int → Nat} {M : fs_Me} {pre rest : List va_E} {o : Nat × List Value} {Qc : Array Value → State → Outcome → State → Prop} {na : Nat} {rm : Room} {av : List fs_V} (L : List (Option fs_V)) (ho : fs_Ok M na) (hlen : av.length ≤ M.2.2.1) (hL : av.map some ++ List.replicate (M.2.2.1 - av.length) none = L) (h : zW D cs b ad (gΓQ b rm Qc) M pre o rest 0 L [] 0 0) : ∀ l : Launch, Met l M.1 (.code M.1 M.2.1 M.2.2.1 M.2.2.2 :: fs_tbl) rm (va_Pc (av.map (fs_cv ad)) (gU D cs b ad (pre ++ .inr o :: rest))) Qc rm.cells rm.slots (gA b) := by
  subst hL
  intro l
  refine Met.ofW (cc := M.2.1) (maxL := M.2.2.1) (ret := M.2.2.2) ho.1.2 rfl ?_
  intro p e s m args below meth c s₁ B hml hv
  obtain ⟨rfl, hz, hP, hK, hSt⟩ := hv
  have hts := atoms_spec (ws := Cond.code M.1 M.2.1 M.2.2.1 M.2.2.2 :: fs_tbl) B.pre
  have hcat := fs_cat_all ad av
  have hsl := fs_sl (av.map (fs_cv ad)) hcat
  rw [List.length_map] at hsl
  have hl := lv_entry (av.map (fs_cv ad)) (n := M.2.2.1) (by rw [hsl]; exact hlen)
  rw [lg_entry_eq]
  generalize (lg_sl (av.map (fs_cv ad)) ++ List.replicate (M.2.2.1 - (lg_sl (av.map (fs_cv ad))).length) Slot.unset).toArray = ls at hl ⊢
  refine h p l e rm s m _ below meth c _ ⟨B.exec, B.bytes, B.returns, hml, B.notSynchronized, findClass_of_methodNamed B.named, fun w hw => hts w (List.mem_cons_of_mem _ hw), hK, hSt, (name_of_methodNamed B.named B.method).1, by rw [hz]; exact Nat.le_add_right _ _⟩ ⟨rfl, rfl⟩ (by simp; omega) s.heap [] ls ⟨hz, hP, va_S.rf, hz⟩ ⟨by rw [hl.1]; simp; omega, hl.2.1, fun i v hv => ?_⟩
  by_cases hi : i < av.length
  · rw [List.getElem?_append_left (by simpa using hi), List.getElem?_map] at hv
    have hv2 : av[i]? = some v := by
      cases h9 : av[i]? with
      | none => rw [h9] at hv; cases hv
      | some w => rw [h9] at hv; cases hv; rfl
    have := fs_args (av.map (fs_cv ad)) hcat 0 i (fs_cv ad v) (by rw [List.getElem?_map, hv2]; rfl)
    rw [Nat.zero_add] at this
    exact hl.2.2 (i, fs_cv ad v) this
  · rw [List.getElem?_append_right (by simpa using Nat.not_lt.mp hi)] at hv
    have := List.eq_of_mem_replicate (List.mem_of_getElem? hv)
    cases this
def gQ7 (D : va_G) (cs : Nat → ClassId) (b : Nat) (sa : Int → Nat) : Array Value → State → Outcome → State → Prop := fun _ st oc t => ∃ τ : fs_S, oc = .returned none ∧ (IC τ A0 ∧ IM τ A0) ∧ va_P D fs_cl (fs_ws (adF b sa) cs τ) t.heap ∧ va_F (gA b) st t
theorem ad_87 (b : Nat) (sa : Int → Nat) : adG b sa 87 = adF b sa 0 := by
  have h1 : adG b sa 87 = b + 87 := if_neg (by decide)
  have h2 : adF b sa 0 = b + piL.getD 0 0 := if_neg (by decide)
  rw [h1, h2]
  rfl
set_option maxHeartbeats 3000000 in
theorem gK_X7_end {D : va_G} {cs : Nat → ClassId} {b : Nat} {sa : Int → Nat} : zW D cs b (adG b sa) (gΓQ b rmX7 (gQ7 D cs b sa)) mX7_init (classE cs b) (7, fX7 b 87) (bX7 cs b 87) 228 [some (.inr 87)] [.inr 87] 25 11010 := by
  intro p l e R s m args below meth c Z hC hG hn H locs ls hH hL
  obtain ⟨g1, g2⟩ := hG
  subst g1; subst g2
  obtain ⟨hx, hb, hrt, hml, hlk, hown, hts, hK, hS, hnm, hbs⟩ := id hC
  have hP : va_P D fs_cl (fs_ws (adF b sa) cs σ0) H := cv_P hH.2.1
  obtain ⟨⟨o1, o2'⟩, o3, o4, o5, o6, o7⟩ := fs_oX7_clearDraft
  have hgood : GoodIn fs_tbl (wsV RX7 93 RX7 yX7_clearDraft (.code yX7_clearDraft cX7_clearDraft 2 none :: fs_tbl)) := fs_goodAll (fun w hw => by
    simp only [wsV, List.mem_append, List.mem_cons, List.not_mem_nil, or_false] at hw
    rcases hw with (rfl | rfl | rfl | rfl) | rfl | hw
    · exact fs_mX7_93
    · exact fs_iX7_clearDraft.1
    · exact fs_iX7_clearDraft.2
    · exact o4
    · exact o3
    · exact hw)
  have hre := va_recv hK hP (ci := 7) (q := (RX7, TX7, 34)) rfl (fs_get fs_l0)
  have hU : ∀ U : State, U.heap = H → s.WarmedH U.vm → fs_U D (adF b sa) cs σ0 U := fun U hU hW =>
    ⟨by rw [hU]; exact hP, cv_D, va_K.moved hW.alike hK, gSt_fs (hS.moved hW (fun a h1 h2 => by rw [hU]; exact hH.2.2.1.2.1 a h1 h2))⟩
  have hr := va_runV (p := p) (e := e) (below := below) (meth := meth) (locs := locs) (cells := 25) (slots := 11010) (R := rmX7) (g := F0 m 228 ls [.ref (adF b sa 0)]) (As := []) (rest := []) (b := adF b sa 0) ⟨hx, hb, hml, hown, hts⟩ (cM_clearDraft (σ := σ0) l D (adF b sa) cs) (cwV 0 hts hgood rfl rfl rfl ⟨rfl, o5, o6, o7⟩ ⟨by decide, by decide⟩) ⟨fs_blind, hre, fun U h1 h2 => ⟨rfl, hU U h1 h2⟩⟩ rfl rfl (hL.1.trans hn) rfl (fs_room (st := []) (ad := adF b sa) (Nat.zero_le _)) dX7_init_228 ⟨by decide, by decide⟩
  show W p l e rmX7 s m args below meth c H locs 25 11010 _ (F0 m 228 ls [.ref (adG b sa 87)])
  rw [ad_87]
  intro T hT X
  obtain ⟨v, st₀, t, T', L', h0, X', hL', e1, e2, ⟨r, τ, hv, ⟨hr0, hq1, hq2⟩, hP2, hz, hk⟩, stp⟩ := hr T hT X
  subst hr0
  rw [h0] at hz hk
  have hv2 : v = none := by injection hv
  subst hv2
  have hS0 := hH.2.2.1
  have hS2 : va_S (gA b) s.heap T'.heap (locs ++ L') := ⟨Nat.le_trans hS0.1 (by rw [e1]; exact hz), fun q h1 h2 => by rw [e1, hk q (Nat.lt_of_lt_of_le h1 hS0.1) (fun z => h2 (fsA_gA z))]; exact hS0.2.1 q h1 h2, fun q hq => by
      rcases List.mem_append.mp hq with h | h
      · exact hS0.2.2 q h
      · exact fsA_gA (hL' q h)⟩
  have K : W p l e rmX7 s m args below meth c T'.heap (locs ++ L') 25 11010 (MQ below (gQ7 D cs b sa) args s rmX7.cells rmX7.slots (gA b)) (F0 m 231 ls []) := W.vret hx hb (hrt.trans rfl) (fun t ht hW => ⟨τ, rfl, ⟨IC0 (fun k i h => hq2 k i (by omega)), IM0 hq1 hq2⟩, by rw [ht, e1]; exact hP2, hS2.F ht⟩) hS2.2.2 dX7_init_231 (hlocks := hlk)
  obtain ⟨t2, a1, b1⟩ := K T' rfl X'
  exact ⟨t2, stp t2 a1, b1⟩
set_option maxHeartbeats 3000000 in
theorem gK_X7_met {D : va_G} {cs : Nat → ClassId} {b : Nat} {sa : Int → Nat} : ∀ l : Launch, Met l yX7_init (.code yX7_init cX7_init 1 none :: fs_tbl) rmX7 (va_Pc [.ref (adG b sa 87)] (gU D cs b (adG b sa) (classE cs b ++ .inr (7, [.int 0, .null, .null, .null, .null, .int 0, .int 0, .int 0, .int 0, .int 0, .int 0, .null, .null, .null, .null, .null, .null, .null, .null, .null, .null, .null, .null, .int 0, .null, .int 0, .null, .null, .null, .null, .null, .null, .null, .null]) :: []))) (gQ7 D cs b sa) rmX7.cells rmX7.slots (gA b) := by
  have h := gK_X7_init (D := D) (cs := cs) (b := b) (ad := adG b sa) (pre := classE cs b) (G := gΓQ b rmX7 (gQ7 D cs b sa)) (adG_ok b sa) (by rw [classE_len]; decide) gΓQ_rm (by rw [classE_len]; exact gK_X7_end)
  rw [classE_len] at h
  exact gM_intro (D := D) (cs := cs) (b := b) (ad := adG b sa) (M := mX7_init) (pre := classE cs b) (rest := []) (rm := rmX7) (Qc := gQ7 D cs b sa) (na := 0) (av := [.inr 87]) [some (.inr 87)] fs_oX7_init (Nat.le_of_ble_eq_true rfl) rfl h
