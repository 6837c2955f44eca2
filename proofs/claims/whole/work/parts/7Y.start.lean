/-! ===== the law: from its entry to its loop (written by gen/gy.py) ===== -/
section GROW4
variable {D : va_G} {cs : Nat → ClassId} {b : Nat} {ad : Int → Nat} {G : gG} {M : fs_Me} {pre rest : List va_E} {o : Nat × List Value} {pc : Nat} {L : List (Option fs_V)} {st : List fs_V} {n k f0 lc0 c0 s0 : Nat}
theorem gr_astore_n (q : Nat) (L2 : List (Option fs_V)) {i : Fin 4} {x : Int} (hd : decode M.2.1 pc = .ok (.astore_n i, 1)) (hp : pc + 1 = q) (hi : (i : Nat) < L.length) (hs : L.set (i : Nat) (some (.inr x)) = L2) (kk : zW D cs b ad G M pre o rest q L2 st n k) : zW D cs b ad G M pre o rest pc L (.inr x :: st) n k := by
  intro p l e R s m args below meth c Z hC hG hn H locs ls hH hL
  subst hp; subst hs
  refine lv_astore_n hC.1 hC.2.1 hd rfl hL.has hi rfl (fun ls' h' => ?_)
  exact kk p l e R s m args below meth c Z hC hG (by rw [List.length_set]; exact hn) H locs ls' hH (fs_Lr.store (v := .inr x) hi h')
theorem gr_callO (q : Nat) {M2 : fs_Me} {na idx : Nat} {x : Int} {rm : Room} {rest2 : List va_E} {oo : Nat × List Value} {ST : List fs_V} (As : List fs_V) (hr : gRm G f0 lc0 c0 s0) (hd : decode M.2.1 pc = .ok (.invokespecial idx, 3)) (hp : pc + 3 = q) (hm : Cond.methodLink M.1.cls idx M2.1 ∈ fs_tbl) (ho : fs_Ok M2 na) (hi : Cond.instanceMethod M2.1 ∈ fs_tbl) (hy : M2.1.name = "<init>") (hret : M2.2.2.2 = none) (hn2 : As.length = na) (hf : rm.frames + 1 ≤ f0) (hlc : 8 + (M2.2.2.1 + 11) + rm.locals ≤ lc0) (hc : n + rm.cells ≤ c0) (hs : k + rm.slots ≤ s0) (hw : st.length ≤ 8) (hst : ST = As.reverse ++ .inr x :: st) (hk : gC D cs b ad M2 rm (.inr x :: As) (pre ++ .inr o :: rest) (pre ++ .inr oo :: rest2)) (hlen : rest2.length = rest.length + rm.cells) (kk : zW D cs b ad G M pre oo rest2 q L st (n + rm.cells) (k + rm.slots)) : zW D cs b ad G M pre o rest pc L ST n k := by
  subst hst; subst hp
  intro p l e R s m args below meth c Z hC hG hn H locs ls hH hL
  obtain ⟨r1, r2, r3, r4⟩ := hr _ _ _ _ _ _ hG
  obtain ⟨hx, hb, hrt, hml, hlk, hown, hts, hK, hS, hnm, hbs⟩ := id hC
  obtain ⟨⟨o1, o2⟩, o3, o4, o5, o6, o7⟩ := ho
  have hgood : GoodIn fs_tbl (.code M2.1 M2.2.1 M2.2.2.1 M2.2.2.2 :: fs_tbl) := fs_goodAll (fun w hw => (List.mem_cons.mp hw).elim (fun h => by rw [h]; exact o3) id)
  have hM := hk l
  rw [hret] at hM hgood
  refine g_back hC hG hn hH hL (va_runI (As := As.map (fs_cv ad)) (rest := st.map (fs_cv ad)) (b := ad x) ⟨hx, hb, hml, hown, hts⟩ hM (cwI na hts hgood rfl rfl rfl (hts _ o4) (hts _ hm) (hts _ hi) hy ⟨o5, o6, o7⟩ ⟨by omega, by omega⟩) ⟨g_blind, fun U hU hW => ⟨rfl, g_pre hK hS hH hU hW⟩⟩ rfl (by rw [List.length_map]; exact hn2) (hL.1.trans hn) (by simp [fs_cv]) (fs_room hw) hd ⟨by omega, by omega⟩) hlen kk
end GROW4
abbrev mLn (nm : String) : fs_Me := (⟨RL, nm, "([I)Z"⟩, cL_law, 4, some .boolean)
def gL (sa : Int → Nat) (b L : Nat) (xs : Nat → Int32) : gG := fun _ R s args below Z => R = room_1 ∧ Z = lw_Z below args s ∧ args = #[.ref (sa 2000)] ∧ va_X (sa 2000) L xs s s.heap ∧ sa 2000 < s.heap.size ∧ s.heap.size = b
theorem gL_rm {sa : Int → Nat} {b L : Nat} {xs : Nat → Int32} : gRm (gL sa b L xs) 2048 84000 600000 7302250 := by
  intro l R s args below Z h
  rw [h.1]
  exact ⟨Nat.le_refl _, Nat.le_refl _, Nat.le_refl _, Nat.le_refl _⟩
theorem lbX6 (cs : Nat → ClassId) (b : Nat) : (bX6 cs b 0).length = 86 := by
  have h := classE_len cs b
  unfold classE at h
  rw [List.nil_append, List.length_cons] at h
  omega
theorem ad_26 (b : Nat) (sa : Int → Nat) : adG b sa 0 = adF b sa 26 := by
  have h1 : adG b sa 0 = b + 0 := if_neg (by decide)
  have h2 : adF b sa 26 = b + piL.getD 26 0 := if_neg (by decide)
  rw [h1, h2]
  rfl
theorem ad_2000 (b : Nat) (sa : Int → Nat) : adG b sa 2000 = sa 2000 ∧ adF b sa 2000 = sa 2000 := ⟨if_pos (by decide), if_pos (by decide)⟩
set_option maxHeartbeats 3000000 in
theorem lw_b7 {D : va_G} {cs : Nat → ClassId} {b L : Nat} {sa : Int → Nat} {xs : Nat → Int32} {nm : String} (hL : L ≤ 3072) : zW D cs b (adG b sa) (gL sa b L xs) (mLn nm) [] (6, fX6 b 0) (bX6 cs b 0 ++ [.inr (7, [.int 0, .null, .null, .null, .null, .int 0, .int 0, .int 0, .int 0, .int 0, .int 0, .null, .null, .null, .null, .null, .null, .null, .null, .null, .null, .null, .null, .int 0, .null, .int 0, .null, .null, .null, .null, .null, .null, .null, .null])]) 12 [some (.inr 2000), some (.inr 0), none, none] [.inr 87, .inr 87] 88 8013 := by
  intro p l e R s m args below meth c Z hC hG hn H locs ls hH hLr
  obtain ⟨g1, g2, g3, g4, g5, g6⟩ := hG
  subst g1; subst g2
  obtain ⟨hx, hb, hrt, hml, hlk, hown, hts, hK, hS, hnm, hbs⟩ := id hC
  obtain ⟨⟨o1, o2⟩, o3, o4, o5, o6, o7⟩ := fs_oX7_init
  have hgood : GoodIn fs_tbl (.code yX7_init cX7_init 1 none :: fs_tbl) := fs_goodAll (fun w hw => (List.mem_cons.mp hw).elim (fun h => by rw [h]; exact o3) id)
  have hpre : ∀ U : State, U.heap = H → s.WarmedH U.vm → gU D cs b (adG b sa) (classE cs b ++ .inr (7, [.int 0, .null, .null, .null, .null, .int 0, .int 0, .int 0, .int 0, .int 0, .int 0, .null, .null, .null, .null, .null, .null, .null, .null, .null, .null, .null, .null, .int 0, .null, .int 0, .null, .null, .null, .null, .null, .null, .null, .null]) :: []) U := fun U hU hW => by
    unfold classE
    rw [g_asc]
    exact g_pre hK hS hH hU hW
  have hr := va_runI (p := p) (e := e) (below := below) (meth := meth) (locs := locs) (cells := 88) (slots := 8013) (R := room_1) (g := F0 m 12 ls [.ref (adG b sa 87), .ref (adG b sa 87)]) (As := []) (rest := [.ref (adG b sa 87)]) (b := adG b sa 87) ⟨hx, hb, hml, hown, hts⟩ (gK_X7_met (D := D) (cs := cs) (b := b) (sa := sa) l) (cwI 0 hts hgood rfl rfl rfl (hts _ o4) (hts _ fs_mL_12) (hts _ (fs_tm 683 (by decide +kernel) rfl)) rfl ⟨o5, o6, o7⟩ ⟨(Nat.le_of_ble_eq_true rfl), (Nat.le_of_ble_eq_true rfl)⟩) ⟨g_blind, fun U hU hW => ⟨rfl, hpre U hU hW⟩⟩ rfl rfl (hLr.1.trans hn) rfl (fs_room (st := [.inr 87]) (ad := adG b sa) (Nat.le_of_ble_eq_true rfl)) dL_law_12 ⟨(Nat.le_of_ble_eq_true rfl), (Nat.le_of_ble_eq_true rfl)⟩
  show W p l e room_1 s m args below meth c H locs 88 8013 _ (F0 m 12 ls [.ref (adG b sa 87), .ref (adG b sa 87)])
  intro T hT X
  obtain ⟨v, st₀, t, T', L', h0, X', hL', e1, e2, ⟨τ, hv, ⟨hIC, hIM⟩, hP2, hz, hk⟩, stp⟩ := hr T hT X
  rw [h0] at hz hk
  have hv2 : v = none := by injection hv
  subst hv2
  have hS0 := hH.2.2.1
  have hS2 : va_S (gA b) s.heap T'.heap (locs ++ L') := ⟨Nat.le_trans hS0.1 (by rw [e1]; exact hz), fun q h1 h2 => by rw [e1, hk q (Nat.lt_of_lt_of_le h1 hS0.1) h2]; exact hS0.2.1 q h1 h2, fun q hq => by
      rcases List.mem_append.mp hq with h | h
      · exact hS0.2.2 q h
      · exact hL' q h⟩
  have hSF : va_S (fs_A (adF b sa)) s.heap T'.heap [] := ⟨hS2.1, fun q h1 _ => hS2.2.1 q h1 (fun z => by unfold gA at z; omega), fun _ h => by cases h⟩
  have hF : fs_W (lwΓ L xs) mL_law 15 [some (.inr 2000), some (.inr 26), none, none] [.inr 0] τ := by
    refine fr_astore_n 16 [_, _, _, _] dL_law_15 rfl (by decide) rfl ?_
    refine fr_iconst 17 dL_law_16 rfl ?_
    refine fr_istore_n 18 [_, _, _, _] dL_law_17 rfl (by decide) rfl ?_
    exact lw_loop hL 4000 0 τ A0 (by decide) (by omega) (by decide) hIC hIM A0_wf
  have hG2 : lwΓ L xs l room_1 s args below D (adF b sa) cs (88 + rmX7.cells) (8013 + rmX7.slots) (lw_Z below args s) := by
    refine ⟨rfl, (Nat.le_of_ble_eq_true rfl), (Nat.le_of_ble_eq_true rfl), rfl, ?_, ?_, ?_, fun q hq => ?_⟩
    · rw [(ad_2000 b sa).2]; exact g3
    · rw [(ad_2000 b sa).2]; exact g4
    · rw [(ad_2000 b sa).2]; exact g5
    · rw [g6]; exact fsA_gA hq
  have hLF : fs_Lr (adF b sa) ls [some (.inr 2000), some (.inr 26), none, none] := by
    refine ⟨hLr.1, hLr.2.1, fun i v hv => ?_⟩
    match i, hv with
    | 0, hv =>
      cases hv
      have h := hLr.2.2 0 (.inr 2000) rfl
      change ls[0]? = some (.val (.ref (adG b sa 2000))) at h
      rw [(ad_2000 b sa).1] at h
      show ls[0]? = some (.val (.ref (adF b sa 2000)))
      rw [(ad_2000 b sa).2]
      exact h
    | 1, hv =>
      cases hv
      have h := hLr.2.2 1 (.inr 0) rfl
      change ls[1]? = some (.val (.ref (adG b sa 0))) at h
      rw [ad_26] at h
      exact h
    | 2, hv => cases hv
    | 3, hv => cases hv
    | n + 4, hv => exact absurd (List.getElem?_eq_some_iff.mp hv).1 (by show ¬ n + 4 < 4; omega)
  have K := hF p l e room_1 s m args below meth c D (adF b sa) cs (88 + rmX7.cells) (8013 + rmX7.slots) (lw_Z below args s) ⟨hx, hb, hrt, hml, hlk, hown, hts, hK, gSt_fs hS⟩ hG2 rfl T'.heap [] ls ⟨by rw [e1]; exact hP2, cv_D, hSF⟩ hLF
  change W p l e room_1 s m args below meth c T'.heap [] (88 + rmX7.cells) (8013 + rmX7.slots) (lw_Z below args s) (F0 m 15 ls [.ref (adF b sa 0)]) at K
  rw [← ad_87] at K
  obtain ⟨t2, a1, b1⟩ := (va_forget (locs := locs ++ L') (fun q hq => by rw [g6]; exact hS2.2.2 q hq) K) T' rfl X'
  exact ⟨t2, stp t2 a1, b1⟩
set_option maxRecDepth 100000 in
set_option maxHeartbeats 3000000 in
theorem lw_b3 {D : va_G} {cs : Nat → ClassId} {b L : Nat} {sa : Int → Nat} {xs : Nat → Int32} {nm : String} (hL : L ≤ 3072) : zW D cs b (adG b sa) (gL sa b L xs) (mLn nm) [] (6, [.null, .null, .null, .null, .null, .null, .null, .null, .null]) [] 3 [some (.inr 2000), none, none, none] [.inr 0] 1 9 := by
  refine gr_dup 4 dL_law_3 rfl ?_
  refine gr_callO 7 (M2 := mX6_init) (rm := rmX6) (oo := (6, fX6 b 0)) (rest2 := bX6 cs b 0) [] gL_rm dL_law_4 rfl fs_mL_9 fs_oX6_init (fs_tm 72 (by decide +kernel) rfl) rfl rfl rfl (Nat.le_of_ble_eq_true rfl) (Nat.le_of_ble_eq_true rfl) (Nat.le_of_ble_eq_true rfl) (Nat.le_of_ble_eq_true rfl) (Nat.le_of_ble_eq_true rfl) rfl (gK_X6_init (pre := []) (j := 0) (adG_ok b sa) rfl (by decide)) (by rw [lbX6]; rfl) ?_
  refine gr_astore_n 8 [_, _, _, _] dL_law_7 rfl (by decide) rfl ?_
  refine gr_newo 11 87 (ci := 7) (N := 34) [.int 0, .null, .null, .null, .null, .int 0, .int 0, .int 0, .int 0, .int 0, .int 0, .null, .null, .null, .null, .null, .null, .null, .null, .null, .null, .null, .null, .int 0, .null, .int 0, .null, .null, .null, .null, .null, .null, .null, .null] (adG_ok b sa) gL_rm (Nat.le_of_ble_eq_true rfl) (Nat.le_of_ble_eq_true rfl) dL_law_8 rfl rfl fs_inX7 tyX7_ok (show Cond.classLink RL 10 RX7 ∈ fs_tbl from fs_tm 680 (by decide +kernel) rfl) (fs_tm 681 (by decide +kernel) rfl) (fs_tm 65 (by decide +kernel) rfl) (fun j hj => by match j, hj with | 0, _ => rfl | 1, _ => rfl | 2, _ => rfl | 3, _ => rfl | 4, _ => rfl | 5, _ => rfl | 6, _ => rfl | 7, _ => rfl | 8, _ => rfl | 9, _ => rfl | 10, _ => rfl | 11, _ => rfl | 12, _ => rfl | 13, _ => rfl | 14, _ => rfl | 15, _ => rfl | 16, _ => rfl | 17, _ => rfl | 18, _ => rfl | 19, _ => rfl | 20, _ => rfl | 21, _ => rfl | 22, _ => rfl | 23, _ => rfl | 24, _ => rfl | 25, _ => rfl | 26, _ => rfl | 27, _ => rfl | 28, _ => rfl | 29, _ => rfl | 30, _ => rfl | 31, _ => rfl | 32, _ => rfl | 33, _ => rfl | n + 34, h => exact absurd h (by omega)) (by rw [lbX6]; rfl) (by decide) ?_
  refine gr_dup 12 dL_law_11 rfl ?_
  exact lw_b7 hL
theorem st_el {args : Array Value} {s : State} {tm : Term} {j : Nat} {x : Int} {z y : Int32} (h : (Cond.eq (.elem tm (.int y)) (.int z)).before args s = true) (hy : Int32.ofNat j = y) (hz : Int32.ofInt x = z) : (Term.elem tm (.int (Int32.ofNat j))).eval args s none [] s = some (.int (Int32.ofInt x)) := by
  subst hy; subst hz
  exact va_eqt h
theorem st_len {args : Array Value} {s : State} {tm : Term} {j : Nat} {z : Int32} (h : (Cond.eq (.length tm) (.int z)).before args s = true) (hy : Int32.ofNat j = z) : (Term.length tm).eval args s none [] s = some (.int (Int32.ofNat j)) := by
  subst hy
  exact va_eqt h
theorem st_A (s : State) : ∀ a : Nat, a < s.heap.size → ¬ gA s.heap.size a := fun a h z => by unfold gA at z; omega
theorem st_0 {sc : Nat} {s : State} (hts : ∀ w ∈ lw_tbl, w.before #[Value.ref sc] s = true) (hs : (Jvm.Cond.and given_1 narrow_1).before #[Value.ref sc] s = true) : ∃ t : Nat, va_Z "FieldSorter" "GREATEST" "[I" (.ref t) (gA s.heap.size) s s.heap ∧ va_T .int t 4 (fun i => .int (Int32.ofInt (([63, 63, 63, 3] : List Int).getD i 0))) (gA s.heap.size) s s.heap := by
  have hq := flat_of_before _ hs
  obtain ⟨t, h1, h2⟩ := va_Tof (s := s) (args := #[Value.ref sc]) (tm := (.static "FieldSorter" "GREATEST" "[I")) (ty := .int) (N := 4) (f := fun i => .int (Int32.ofInt (([63, 63, 63, 3] : List Int).getD i 0))) (A := gA s.heap.size) (by decide) (hq (Cond.arrayOf (.static "FieldSorter" "GREATEST" "[I") .int) (by decide +kernel)) (st_len (z := 4) (hq (Cond.eq (.length (.static "FieldSorter" "GREATEST" "[I")) (.int 4)) (by decide +kernel)) (by decide +kernel)) (fun j hj => by
    match j, hj with
    | 0, _ => exact st_el (j := 0) (x := 63) (y := 0) (z := 63) (hq (Cond.eq (.elem (.static "FieldSorter" "GREATEST" "[I") (.int 0)) (.int 63)) (by decide +kernel)) (by decide +kernel) (by decide +kernel)
    | 1, _ => exact st_el (j := 1) (x := 63) (y := 1) (z := 63) (hq (Cond.eq (.elem (.static "FieldSorter" "GREATEST" "[I") (.int 1)) (.int 63)) (by decide +kernel)) (by decide +kernel) (by decide +kernel)
    | 2, _ => exact st_el (j := 2) (x := 63) (y := 2) (z := 63) (hq (Cond.eq (.elem (.static "FieldSorter" "GREATEST" "[I") (.int 2)) (.int 63)) (by decide +kernel)) (by decide +kernel) (by decide +kernel)
    | 3, _ => exact st_el (j := 3) (x := 3) (y := 3) (z := 3) (hq (Cond.eq (.elem (.static "FieldSorter" "GREATEST" "[I") (.int 3)) (.int 3)) (by decide +kernel)) (by decide +kernel) (by decide +kernel)
    | n + 4, h => exact absurd h (by omega)) (st_A s)
  exact ⟨t, va_Zof (hts _ (List.mem_of_getElem? (i := 314) (by decide +kernel))) (hts _ (List.mem_of_getElem? (i := 58) (by decide +kernel))) h1 (st_A s), h2⟩
theorem st_1 {sc : Nat} {s : State} (hts : ∀ w ∈ lw_tbl, w.before #[Value.ref sc] s = true) (hs : (Jvm.Cond.and given_1 narrow_1).before #[Value.ref sc] s = true) : ∃ t : Nat, va_Z "FieldSorter" "WIDTH" "[I" (.ref t) (gA s.heap.size) s s.heap ∧ va_T .int t 4 (fun i => .int (Int32.ofInt (([6, 6, 6, 2] : List Int).getD i 0))) (gA s.heap.size) s s.heap := by
  have hq := flat_of_before _ hs
  obtain ⟨t, h1, h2⟩ := va_Tof (s := s) (args := #[Value.ref sc]) (tm := (.static "FieldSorter" "WIDTH" "[I")) (ty := .int) (N := 4) (f := fun i => .int (Int32.ofInt (([6, 6, 6, 2] : List Int).getD i 0))) (A := gA s.heap.size) (by decide) (hq (Cond.arrayOf (.static "FieldSorter" "WIDTH" "[I") .int) (by decide +kernel)) (st_len (z := 4) (hq (Cond.eq (.length (.static "FieldSorter" "WIDTH" "[I")) (.int 4)) (by decide +kernel)) (by decide +kernel)) (fun j hj => by
    match j, hj with
    | 0, _ => exact st_el (j := 0) (x := 6) (y := 0) (z := 6) (hq (Cond.eq (.elem (.static "FieldSorter" "WIDTH" "[I") (.int 0)) (.int 6)) (by decide +kernel)) (by decide +kernel) (by decide +kernel)
    | 1, _ => exact st_el (j := 1) (x := 6) (y := 1) (z := 6) (hq (Cond.eq (.elem (.static "FieldSorter" "WIDTH" "[I") (.int 1)) (.int 6)) (by decide +kernel)) (by decide +kernel) (by decide +kernel)
    | 2, _ => exact st_el (j := 2) (x := 6) (y := 2) (z := 6) (hq (Cond.eq (.elem (.static "FieldSorter" "WIDTH" "[I") (.int 2)) (.int 6)) (by decide +kernel)) (by decide +kernel) (by decide +kernel)
    | 3, _ => exact st_el (j := 3) (x := 2) (y := 3) (z := 2) (hq (Cond.eq (.elem (.static "FieldSorter" "WIDTH" "[I") (.int 3)) (.int 2)) (by decide +kernel)) (by decide +kernel) (by decide +kernel)
    | n + 4, h => exact absurd h (by omega)) (st_A s)
  exact ⟨t, va_Zof (hts _ (List.mem_of_getElem? (i := 526) (by decide +kernel))) (hts _ (List.mem_of_getElem? (i := 58) (by decide +kernel))) h1 (st_A s), h2⟩
theorem st_2 {sc : Nat} {s : State} (hts : ∀ w ∈ lw_tbl, w.before #[Value.ref sc] s = true) (hs : (Jvm.Cond.and given_1 narrow_1).before #[Value.ref sc] s = true) : ∃ t : Nat, va_Z "FieldSorter$Survey" "REST" "[I" (.ref t) (gA s.heap.size) s s.heap ∧ va_T .int t 5 (fun i => .int (Int32.ofInt (([1048576, 16384, 256, 4, 1] : List Int).getD i 0))) (gA s.heap.size) s s.heap := by
  have hq := flat_of_before _ hs
  obtain ⟨t, h1, h2⟩ := va_Tof (s := s) (args := #[Value.ref sc]) (tm := (.static "FieldSorter$Survey" "REST" "[I")) (ty := .int) (N := 5) (f := fun i => .int (Int32.ofInt (([1048576, 16384, 256, 4, 1] : List Int).getD i 0))) (A := gA s.heap.size) (by decide) (hq (Cond.arrayOf (.static "FieldSorter$Survey" "REST" "[I") .int) (by decide +kernel)) (st_len (z := 5) (hq (Cond.eq (.length (.static "FieldSorter$Survey" "REST" "[I")) (.int 5)) (by decide +kernel)) (by decide +kernel)) (fun j hj => by
    match j, hj with
    | 0, _ => exact st_el (j := 0) (x := 1048576) (y := 0) (z := 1048576) (hq (Cond.eq (.elem (.static "FieldSorter$Survey" "REST" "[I") (.int 0)) (.int 1048576)) (by decide +kernel)) (by decide +kernel) (by decide +kernel)
    | 1, _ => exact st_el (j := 1) (x := 16384) (y := 1) (z := 16384) (hq (Cond.eq (.elem (.static "FieldSorter$Survey" "REST" "[I") (.int 1)) (.int 16384)) (by decide +kernel)) (by decide +kernel) (by decide +kernel)
    | 2, _ => exact st_el (j := 2) (x := 256) (y := 2) (z := 256) (hq (Cond.eq (.elem (.static "FieldSorter$Survey" "REST" "[I") (.int 2)) (.int 256)) (by decide +kernel)) (by decide +kernel) (by decide +kernel)
    | 3, _ => exact st_el (j := 3) (x := 4) (y := 3) (z := 4) (hq (Cond.eq (.elem (.static "FieldSorter$Survey" "REST" "[I") (.int 3)) (.int 4)) (by decide +kernel)) (by decide +kernel) (by decide +kernel)
    | 4, _ => exact st_el (j := 4) (x := 1) (y := 4) (z := 1) (hq (Cond.eq (.elem (.static "FieldSorter$Survey" "REST" "[I") (.int 4)) (.int 1)) (by decide +kernel)) (by decide +kernel) (by decide +kernel)
    | n + 5, h => exact absurd h (by omega)) (st_A s)
  exact ⟨t, va_Zof (hts _ (List.mem_of_getElem? (i := 473) (by decide +kernel))) (hts _ (List.mem_of_getElem? (i := 61) (by decide +kernel))) h1 (st_A s), h2⟩
theorem st_3 {sc : Nat} {s : State} (hts : ∀ w ∈ lw_tbl, w.before #[Value.ref sc] s = true) (hs : (Jvm.Cond.and given_1 narrow_1).before #[Value.ref sc] s = true) : ∃ t : Nat, va_Z "FieldSorter$Tuples" "SHIFT" "[I" (.ref t) (gA s.heap.size) s s.heap ∧ va_T .int t 4 (fun i => .int (Int32.ofInt (([8, 5, 2, 0] : List Int).getD i 0))) (gA s.heap.size) s s.heap := by
  have hq := flat_of_before _ hs
  obtain ⟨t, h1, h2⟩ := va_Tof (s := s) (args := #[Value.ref sc]) (tm := (.static "FieldSorter$Tuples" "SHIFT" "[I")) (ty := .int) (N := 4) (f := fun i => .int (Int32.ofInt (([8, 5, 2, 0] : List Int).getD i 0))) (A := gA s.heap.size) (by decide) (hq (Cond.arrayOf (.static "FieldSorter$Tuples" "SHIFT" "[I") .int) (by decide +kernel)) (st_len (z := 4) (hq (Cond.eq (.length (.static "FieldSorter$Tuples" "SHIFT" "[I")) (.int 4)) (by decide +kernel)) (by decide +kernel)) (fun j hj => by
    match j, hj with
    | 0, _ => exact st_el (j := 0) (x := 8) (y := 0) (z := 8) (hq (Cond.eq (.elem (.static "FieldSorter$Tuples" "SHIFT" "[I") (.int 0)) (.int 8)) (by decide +kernel)) (by decide +kernel) (by decide +kernel)
    | 1, _ => exact st_el (j := 1) (x := 5) (y := 1) (z := 5) (hq (Cond.eq (.elem (.static "FieldSorter$Tuples" "SHIFT" "[I") (.int 1)) (.int 5)) (by decide +kernel)) (by decide +kernel) (by decide +kernel)
    | 2, _ => exact st_el (j := 2) (x := 2) (y := 2) (z := 2) (hq (Cond.eq (.elem (.static "FieldSorter$Tuples" "SHIFT" "[I") (.int 2)) (.int 2)) (by decide +kernel)) (by decide +kernel) (by decide +kernel)
    | 3, _ => exact st_el (j := 3) (x := 0) (y := 3) (z := 0) (hq (Cond.eq (.elem (.static "FieldSorter$Tuples" "SHIFT" "[I") (.int 3)) (.int 0)) (by decide +kernel)) (by decide +kernel) (by decide +kernel)
    | n + 4, h => exact absurd h (by omega)) (st_A s)
  exact ⟨t, va_Zof (hts _ (List.mem_of_getElem? (i := 575) (by decide +kernel))) (hts _ (List.mem_of_getElem? (i := 62) (by decide +kernel))) h1 (st_A s), h2⟩
theorem st_4 {sc : Nat} {s : State} (hts : ∀ w ∈ lw_tbl, w.before #[Value.ref sc] s = true) (hs : (Jvm.Cond.and given_1 narrow_1).before #[Value.ref sc] s = true) : ∃ t : Nat, va_Z "FieldSorter$Tuples" "LENGTH_MASK" "[I" (.ref t) (gA s.heap.size) s s.heap ∧ va_T .int t 4 (fun i => .int (Int32.ofInt (([7, 7, 7, 3] : List Int).getD i 0))) (gA s.heap.size) s s.heap := by
  have hq := flat_of_before _ hs
  obtain ⟨t, h1, h2⟩ := va_Tof (s := s) (args := #[Value.ref sc]) (tm := (.static "FieldSorter$Tuples" "LENGTH_MASK" "[I")) (ty := .int) (N := 4) (f := fun i => .int (Int32.ofInt (([7, 7, 7, 3] : List Int).getD i 0))) (A := gA s.heap.size) (by decide) (hq (Cond.arrayOf (.static "FieldSorter$Tuples" "LENGTH_MASK" "[I") .int) (by decide +kernel)) (st_len (z := 4) (hq (Cond.eq (.length (.static "FieldSorter$Tuples" "LENGTH_MASK" "[I")) (.int 4)) (by decide +kernel)) (by decide +kernel)) (fun j hj => by
    match j, hj with
    | 0, _ => exact st_el (j := 0) (x := 7) (y := 0) (z := 7) (hq (Cond.eq (.elem (.static "FieldSorter$Tuples" "LENGTH_MASK" "[I") (.int 0)) (.int 7)) (by decide +kernel)) (by decide +kernel) (by decide +kernel)
    | 1, _ => exact st_el (j := 1) (x := 7) (y := 1) (z := 7) (hq (Cond.eq (.elem (.static "FieldSorter$Tuples" "LENGTH_MASK" "[I") (.int 1)) (.int 7)) (by decide +kernel)) (by decide +kernel) (by decide +kernel)
    | 2, _ => exact st_el (j := 2) (x := 7) (y := 2) (z := 7) (hq (Cond.eq (.elem (.static "FieldSorter$Tuples" "LENGTH_MASK" "[I") (.int 2)) (.int 7)) (by decide +kernel)) (by decide +kernel) (by decide +kernel)
    | 3, _ => exact st_el (j := 3) (x := 3) (y := 3) (z := 3) (hq (Cond.eq (.elem (.static "FieldSorter$Tuples" "LENGTH_MASK" "[I") (.int 3)) (.int 3)) (by decide +kernel)) (by decide +kernel) (by decide +kernel)
    | n + 4, h => exact absurd h (by omega)) (st_A s)
  exact ⟨t, va_Zof (hts _ (List.mem_of_getElem? (i := 581) (by decide +kernel))) (hts _ (List.mem_of_getElem? (i := 62) (by decide +kernel))) h1 (st_A s), h2⟩
def saF (t0 t1 t2 t3 t4 sc : Nat) : Int → Nat := fun k => if k = 2000 then sc else if k = 1000 then t0 else if k = 1001 then t1 else if k = 1002 then t2 else if k = 1003 then t3 else t4
theorem st_all {sc : Nat} {s : State} (hts : ∀ w ∈ lw_tbl, w.before #[Value.ref sc] s = true) (hs : (Jvm.Cond.and given_1 narrow_1).before #[Value.ref sc] s = true) : ∃ sa : Int → Nat, sa 2000 = sc ∧ gSt s s.heap.size (adG s.heap.size sa) := by
  obtain ⟨t0, a0⟩ := st_0 hts hs
  obtain ⟨t1, a1⟩ := st_1 hts hs
  obtain ⟨t2, a2⟩ := st_2 hts hs
  obtain ⟨t3, a3⟩ := st_3 hts hs
  obtain ⟨t4, a4⟩ := st_4 hts hs
  have e : ∀ j : Nat, adG s.heap.size (saF t0 t1 t2 t3 t4 sc) (1000 + (j : Int)) = saF t0 t1 t2 t3 t4 sc (1000 + (j : Int)) := fun j => if_pos (by omega)
  have onT : ∀ w ∈ fs_nest, w.onTables = true := by decide +kernel
  refine ⟨saF t0 t1 t2 t3 t4 sc, by simp [saF], fun j q hq => ?_, fun w hw => va_Nw.of (onT w hw) (hts w (fs_nest_in w hw)), ?_, ?_⟩
  · rw [e]
    match j, hq with
    | 0, hq => cases hq; rw [show saF t0 t1 t2 t3 t4 sc (1000 + ((0 : Nat) : Int)) = t0 by simp [saF]]; exact a0
    | 1, hq => cases hq; rw [show saF t0 t1 t2 t3 t4 sc (1000 + ((1 : Nat) : Int)) = t1 by simp [saF]]; exact a1
    | 2, hq => cases hq; rw [show saF t0 t1 t2 t3 t4 sc (1000 + ((2 : Nat) : Int)) = t2 by simp [saF]]; exact a2
    | 3, hq => cases hq; rw [show saF t0 t1 t2 t3 t4 sc (1000 + ((3 : Nat) : Int)) = t3 by simp [saF]]; exact a3
    | 4, hq => cases hq; rw [show saF t0 t1 t2 t3 t4 sc (1000 + ((4 : Nat) : Int)) = t4 by simp [saF]]; exact a4
    | n + 5, hq => exact absurd (List.getElem?_eq_some_iff.mp hq).1 (by show ¬ n + 5 < 5; omega)
  · have h := hts (Cond.arrayOver (.array .int)) (List.mem_of_getElem? (i := 84) (by decide +kernel))
    exact arrayOver_alikeB (Vm.Alike.refl s.vm) h
  · exact va_AO.of (hts (Cond.arrayOver (.object "FieldSorter$Image")) (List.mem_of_getElem? (i := 284) (by decide +kernel)))
theorem st_K {sc : Nat} {s : State} (hts : ∀ w ∈ lw_tbl, w.before #[Value.ref sc] s = true) : ∃ (D : va_G) (cs : Nat → ClassId), va_K D fs_cl (fs_tys cs) s := by
  have ht2 : ∀ w ∈ fs_tbl, w.before #[Value.ref sc] s = true := fun w hw => hts w (List.mem_filter.mp hw).1
  obtain ⟨c0, i0, k0⟩ := u_known ht2 fs_inX0 (ht2 (Cond.instantiable RX0 12) (fs_tm 231 (by decide +kernel) rfl))
  obtain ⟨c1, i1, k1⟩ := u_known ht2 fs_inX1 (ht2 (Cond.instantiable RX1 4) (fs_tm 285 (by decide +kernel) rfl))
  obtain ⟨c2, i2, k2⟩ := u_known ht2 fs_inX2 (ht2 (Cond.instantiable RX2 2) (fs_tm 125 (by decide +kernel) rfl))
  obtain ⟨c3, i3, k3⟩ := u_known ht2 fs_inX3 (ht2 (Cond.instantiable RX3 7) (fs_tm 78 (by decide +kernel) rfl))
  obtain ⟨c4, i4, k4⟩ := u_known ht2 fs_inX4 (ht2 (Cond.instantiable RX4 9) (fs_tm 140 (by decide +kernel) rfl))
  obtain ⟨c5, i5, k5⟩ := u_known ht2 fs_inX5 (ht2 (Cond.instantiable RX5 12) (fs_tm 180 (by decide +kernel) rfl))
  obtain ⟨c6, i6, k6⟩ := u_known ht2 fs_inX6 (ht2 (Cond.instantiable RX6 9) (fs_tm 70 (by decide +kernel) rfl))
  obtain ⟨c7, i7, k7⟩ := u_known ht2 fs_inX7 (ht2 (Cond.instantiable RX7 34) (fs_tm 681 (by decide +kernel) rfl))
  obtain ⟨a0, f0, m0, p0, q0, r0⟩ := Cond.arrayClass_spec (hts (Cond.arrayClass .int) (List.mem_of_getElem? (i := 123) (by decide +kernel)))
  obtain ⟨a1, f1, m1, p1, q1, r1⟩ := Cond.arrayClass_spec (hts (Cond.arrayClass .boolean) (List.mem_of_getElem? (i := 178) (by decide +kernel)))
  obtain ⟨m2, a2, f2, -, -, q2, r2, p2⟩ := arrayOver_specB (hts (Cond.arrayOver (.array .int)) (List.mem_of_getElem? (i := 84) (by decide +kernel)))
  obtain ⟨m3, a3, f3, n3, -, q3, r3, p3⟩ := Cond.arrayOver_spec (hts (Cond.arrayOver (.object "FieldSorter$Image")) (List.mem_of_getElem? (i := 284) (by decide +kernel)))
  refine ⟨(fun n => match n with | 0 => c0 | 1 => c1 | 2 => c2 | 3 => c3 | 4 => c4 | 5 => c5 | 6 => c6 | _ => c7, fun n => match n with | 0 => i0 | 1 => i1 | 2 => i2 | 3 => i3 | 4 => i4 | 5 => i5 | 6 => i6 | _ => i7), fun n => match n with | 0 => a0 | 1 => a1 | 2 => a2 | _ => a3, fun n q hq => ?_, fun n q hq => ?_⟩
  · match n, hq with
    | 0, hq => cases hq; exact k0
    | 1, hq => cases hq; exact k1
    | 2, hq => cases hq; exact k2
    | 3, hq => cases hq; exact k3
    | 4, hq => cases hq; exact k4
    | 5, hq => cases hq; exact k5
    | 6, hq => cases hq; exact k6
    | 7, hq => cases hq; exact k7
    | n + 8, hq => exact absurd (List.getElem?_eq_some_iff.mp hq).1 (by show ¬ n + 8 < 8; omega)
  · match n, hq with
    | 0, hq => cases hq; exact ⟨fun N z => ⟨(fun k h => by cases h), f0, q0, m0, r0⟩, p0⟩
    | 1, hq => cases hq; exact ⟨fun N z => ⟨(fun k h => by cases h), f1, q1, m1, r1⟩, p1⟩
    | 2, hq => cases hq; exact ⟨fun N z => ⟨(fun k h => by cases h), f2, q2, m2, r2⟩, p2⟩
    | 3, hq => cases hq; exact ⟨fun N z => ⟨(fun k h => by cases h), f3, q3, m3, r3⟩, f3, m3, q3, r3, n3, p3⟩
    | n + 4, hq => exact absurd (List.getElem?_eq_some_iff.mp hq).1 (by show ¬ n + 4 < 4; omega)
set_option maxRecDepth 100000 in
set_option maxHeartbeats 3000000 in
theorem whole_start {p : Program} {e : Env} {s : State} {m : MethodId} {below : List Frame} {meth : Method} {c : Code} (l : Launch) (hflags : l.flags = flags0) {b L : Nat} {xs : Nat → Int32} (hL : L ≤ 3072) (C0 : lw_At p s m meth c b L xs) : W p l e room_1 s m #[Value.ref b] below meth c s.heap [] 0 0 (lw_Z below #[Value.ref b] s) (entryFrame m ([Value.ref b] : List Value).toArray 4) := by
  obtain ⟨hx, hb, hrt, hml, hown, hts0, hX, hbl, hlk, hgv⟩ := C0
  have hts : ∀ w ∈ fs_tbl, w.before #[Value.ref b] s = true := fun w hw => hts0 w (List.mem_filter.mp hw).1
  obtain ⟨sa, hsa, hSt⟩ := st_all hts0 hgv
  obtain ⟨D, cs, hK⟩ := st_K hts0
  subst hsa
  have hown2 : s.vm.findClass RL = some m.cls := hown
  have hl := lv_entry [Value.ref (sa 2000)] (n := 4) (by rw [fs_sl _ (fun v hv => by cases List.mem_singleton.mp hv; rfl)]; exact Nat.le_of_ble_eq_true rfl)
  rw [lg_entry_eq]
  generalize (lg_sl [Value.ref (sa 2000)] ++ List.replicate (4 - (lg_sl [Value.ref (sa 2000)]).length) Slot.unset).toArray = ls at hl ⊢
  have hLr : fs_Lr (adG s.heap.size sa) ls [some (.inr 2000), none, none, none] := by
    refine ⟨hl.1, hl.2.1, fun i v hv => ?_⟩
    match i, hv with
    | 0, hv =>
      cases hv
      have h := hl.2.2 (0, Value.ref (sa 2000)) (fs_args [Value.ref (sa 2000)] (fun v hv => by cases List.mem_singleton.mp hv; rfl) 0 0 _ rfl)
      show ls[0]? = some (.val (.ref (adG s.heap.size sa 2000)))
      rw [(ad_2000 s.heap.size sa).1]
      exact h
    | 1, hv => cases hv
    | 2, hv => cases hv
    | 3, hv => cases hv
    | n + 4, hv => exact absurd (List.getElem?_eq_some_iff.mp hv).1 (by show ¬ n + 4 < 4; omega)
  have hKn := hK.1 6 (RX6, TX6, 9) rfl
  refine W.newcK (h := s.heap.size) hx hb hown2 (hts (Cond.classLink RL 7 RX6) (fs_tm 69 (by decide +kernel) rfl)) (hts (Cond.instantiable RX6 9) (fs_tm 70 (by decide +kernel) rfl)) (hts (Cond.initialized RX6) (fs_tm 58 (by decide +kernel) rfl)) rfl dL_law_0 (Nat.le_of_ble_eq_true rfl) (Nat.le_of_ble_eq_true rfl) hKn.2.1 rfl (fun H1 kC hkC e1 z1 o1 => ?_)
  have hH : gH s D s.heap.size ([] ++ .inr (6, [.null, .null, .null, .null, .null, .null, .null, .null, .null]) :: []) 1 H1 [] := by
    refine ⟨z1, fun k q hq => ?_, ⟨by rw [z1]; exact Nat.le_succ _, fun q h1 _ => o1 q h1, fun _ h => by cases h⟩, rfl⟩
    obtain ⟨e2, h1, rfl⟩ := zi_inv hq
    have hk : k < 1 := (List.getElem?_eq_some_iff.mp h1).1
    have hk0 : k = 0 := by omega
    subst hk0
    cases h1
    rw [Nat.add_zero]
    exact ⟨_, rfl, (u_born tyX6 hts fs_inX6 hKn hkC e1 tyX6_ok).to (fun j hj => by match j, hj with | 0, _ => rfl | 1, _ => rfl | 2, _ => rfl | 3, _ => rfl | 4, _ => rfl | 5, _ => rfl | 6, _ => rfl | 7, _ => rfl | 8, _ => rfl | n + 9, h => exact absurd h (by omega))⟩
  have K := lw_b3 (D := D) (cs := cs) (b := s.heap.size) (sa := sa) (xs := xs) (nm := meth.name) hL p l e room_1 s m #[Value.ref (sa 2000)] below meth c (lw_Z below #[Value.ref (sa 2000)] s) ⟨hx, hb, hrt, hml, hlk, hown2, hts, hK, hSt, rfl, Nat.le_refl _⟩ ⟨rfl, rfl, rfl, hX, hbl, rfl⟩ rfl H1 [] ls hH hLr
  have e0 : adG s.heap.size sa 0 = s.heap.size := if_neg (by decide)
  change W p l e room_1 s m #[Value.ref (sa 2000)] below meth c H1 [] 1 9 (lw_Z below #[Value.ref (sa 2000)] s) (F0 m 3 ls [.ref (adG s.heap.size sa 0)]) at K
  rw [e0] at K
  exact K
