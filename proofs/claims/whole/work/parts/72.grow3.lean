/-! ===== constructors: rows of references, stores, statics, a call of a private method ===== -/
theorem g_asc {pre R S : List va_E} {o : Nat × List Value} : (pre ++ (.inr o : va_E) :: R) ++ S = pre ++ .inr o :: (R ++ S) := by simp
section GROW3
variable {D : va_G} {cs : Nat → ClassId} {b : Nat} {ad : Int → Nat} {G : gG} {M : fs_Me} {pre rest : List va_E} {o : Nat × List Value} {pc : Nat} {L : List (Option fs_V)} {st : List fs_V} {n k f0 lc0 c0 s0 : Nat}
theorem gr_anew (q i : Nat) {idx N : Nat} (hA : gad b ad) (hr : gRm G f0 lc0 c0 s0) (hc : n + 1 ≤ c0) (hs : k + N ≤ s0) (hN : N ≤ 65536) (hd : decode M.2.1 pc = .ok (.anewarray idx, 3)) (hp : pc + 3 = q) (hcl : Cond.classLink M.1.cls idx "FieldSorter$Image" ∈ fs_tbl) (hi : pre.length + 1 + rest.length = i) (hi2 : i < 1000) (kk : zW D cs b ad G M pre o (rest ++ [.inl (cs 3, N, .inr (.inr (.inr (.inr fun _ => none))))]) q L (.inr (i : Int) :: st) (n + 1) (k + N)) : zW D cs b ad G M pre o rest pc L (.inl (N : Int) :: st) n k := by
  intro p l e R s m args below meth c Z hC hG hn H locs ls hH hL
  subst hp
  obtain ⟨r1, r2, r3, r4⟩ := hr _ _ _ _ _ _ hG
  obtain ⟨n1, n2⟩ := g_ofN hN
  have hz := hH.1
  rw [g_len, hi] at hz
  refine W.anew hC.1 hC.2.1 hC.2.2.2.2.2.1 (hC.2.2.2.2.2.2.1 _ hcl) (va_AO.use hC.2.2.2.2.2.2.2.2.1.2.2.2) rfl hd rfl n1 (by rw [n2]; omega) (by omega) (by rw [n2]; omega) (fun cA kA comp g1 g2 g3 g4 => ?_)
  rw [n2]
  have hcA : cA = cs 3 := by
    obtain ⟨_, _, -, -, -, h⟩ := (hC.2.2.2.2.2.2.2.1.2 3 (cs 3, .object "FieldSorter$Image") rfl).2
    exact Option.some.inj (g1.symm.trans h)
  subst hcA
  generalize hH1 : H.push ({ cls := cs 3, slots := Array.replicate N .null, vm := .none } : Cell) = H1
  have z1 : H1.size = H.size + 1 := by rw [← hH1, Array.size_push]
  have e1 : H1[H.size]? = some (arrV (cs 3) N (fun _ => .null)) := by rw [← hH1, Array.getElem?_push_size, ← arrV_new]
  have o1 : ∀ q, q < H.size → H1[q]? = H[q]? := fun q hq => by rw [← hH1, Array.getElem?_push, if_neg (Nat.ne_of_lt hq)]
  have K := kk p l e R s m args below meth c Z hC hG hn H1 locs ls (hH.app (fs := [.inl (cs 3, N, .inr (.inr (.inr (.inr fun _ => none))))]) z1 o1 (fun j x hx => by
    have hj : j < 1 := (List.getElem?_eq_some_iff.mp hx).1
    have : j = 0 := by omega
    subst this
    cases hx
    show H1[H.size + 0]? = _
    rw [Nat.add_zero]
    exact e1)) hL
  rw [List.map_cons] at K
  change W p l e R s m args below meth c H1 locs (n + 1) (k + N) Z (F0 m (pc + 3) ls (.ref (ad (i : Int)) :: _)) at K
  rw [hA i hi2, ← hz] at K
  exact K
theorem gr_aast (q ri vi x i1 i2 : Nat) {N : Nat} {f : Nat → Option Nat} {vs : List Value} {rest2 : List va_E} (hA : gad b ad) (hd : decode M.2.1 pc = .ok (.aastore, 1)) (hp : pc + 1 = q) (hg : rest[ri]? = some (.inl (cs 3, N, .inr (.inr (.inr (.inr f)))))) (hv : rest[vi]? = some (.inr (1, vs))) (hx : x < N) (hN : N ≤ 65536) (h1 : pre.length + 1 + ri = i1) (h2 : pre.length + 1 + vi = i2) (b1 : i1 < 1000) (b2 : i2 < 1000) (hs : rest.set ri (.inl (cs 3, N, .inr (.inr (.inr (.inr (va_up f x (some (b + i2)))))))) = rest2) (kk : zW D cs b ad G M pre o rest2 q L st n k) : zW D cs b ad G M pre o rest pc L (.inr (i2 : Int) :: .inl (x : Int) :: .inr (i1 : Int) :: st) n k := by
  intro p l e R s m args below meth c Z hC hG hn H locs ls hH hL
  subst hp; subst hs
  have hxx : (0 : Int) ≤ (x : Int) ∧ (x : Int) < (N : Int) := by omega
  show W p l e R s m args below meth c H locs n k Z (F0 m pc ls (.ref (ad (i2 : Int)) :: .int (Int32.ofInt (x : Int)) :: .ref (ad (i1 : Int)) :: st.map (fs_cv ad)))
  rw [hA i1 b1, hA i2 b2]
  refine va_astq (r := (RX1, TX1, 4)) hC.1 hC.2.1 hC.2.2.2.2.2.2.2.1 hH.2.1 zi_D hH.2.2.1 i1 3 i2 1 (zi_at (by rw [← h1, g_getR]; exact hg)) rfl (zi_at (by rw [← h2, g_getR]; exact hv)) rfl (fs_vin hxx hN) hd (fun H1 locs1 hP hD hS => ?_)
  rw [fs_clamp hxx hN, zi_set, ← h1, g_setR, Int.toNat_natCast] at hP
  exact fun T' hT X => kk p l e R s m args below meth c Z hC hG hn H1 locs1 ls (gH_of hP hS hH.2.2.2 hT X (List.length_set ..)) hL T' hT X
theorem gr_iast (q ri x i1 : Nat) {v : Int} {N : Nat} {f : Nat → Int32} {rest2 : List va_E} (hA : gad b ad) (hd : decode M.2.1 pc = .ok (.iastore, 1)) (hp : pc + 1 = q) (hg : rest[ri]? = some (.inl (cs 0, N, .inl f))) (hx : x < N) (hN : N ≤ 65536) (h1 : pre.length + 1 + ri = i1) (b1 : i1 < 1000) (hs : rest.set ri (.inl (cs 0, N, .inl (upd f x (Int32.ofInt v)))) = rest2) (kk : zW D cs b ad G M pre o rest2 q L st n k) : zW D cs b ad G M pre o rest pc L (.inl v :: .inl (x : Int) :: .inr (i1 : Int) :: st) n k := by
  intro p l e R s m args below meth c Z hC hG hn H locs ls hH hL
  subst hp; subst hs
  have hxx : (0 : Int) ≤ (x : Int) ∧ (x : Int) < (N : Int) := by omega
  show W p l e R s m args below meth c H locs n k Z (F0 m pc ls (.int (Int32.ofInt v) :: .int (Int32.ofInt (x : Int)) :: .ref (ad (i1 : Int)) :: st.map (fs_cv ad)))
  rw [hA i1 b1]
  refine va_iast hC.1 hC.2.1 hC.2.2.2.2.2.2.2.1 hH.2.1 zi_D hH.2.2.1 i1 0 (zi_at (by rw [← h1, g_getR]; exact hg)) rfl (fs_vin hxx hN) hd (fun H1 locs1 hP hD hS => ?_)
  rw [fs_clamp hxx hN, zi_set, ← h1, g_setR, Int.toNat_natCast] at hP
  exact fun T' hT X => kk p l e R s m args below meth c Z hC hG hn H1 locs1 ls (gH_of hP hS hH.2.2.2 hT X (List.length_set ..)) hL T' hT X
theorem gr_gets (q : Nat) (i : Nat) {idx : Nat} {c1 f1 : String} {vs : List Int} {j : Int} (hd : decode M.2.1 pc = .ok (.getstatic idx, 3)) (hp : pc + 3 = q) (hj : 1000 + (i : Int) = j) (hs : fs_stL[i]? = some (c1, f1, vs)) (hl : Cond.fieldLink M.1.cls idx c1 f1 "[I" ∈ fs_tbl) (kk : zW D cs b ad G M pre o rest q L (.inr j :: st) n k) : zW D cs b ad G M pre o rest pc L st n k := by
  intro p l e R s m args below meth c Z hC hG hn H locs ls hH hL
  subst hp; subst hj
  have K := kk p l e R s m args below meth c Z hC hG hn H locs ls hH hL
  exact va_gets hC.1 hC.2.1 (hC.2.2.2.2.2.2.2.2.1.1 i _ hs).1 hH.2.2.1 hC.2.2.2.2.2.1 (hC.2.2.2.2.2.2.1 _ hl) (fun _ h => h) hd K
theorem gr_ialdS (q : Nat) {j x v : Int} (i : Nat) {c1 f1 : String} {vs : List Int} (hd : decode M.2.1 pc = .ok (.iaload, 1)) (hp : pc + 1 = q) (hj : j = 1000 + (i : Int)) (hs : fs_stL[i]? = some (c1, f1, vs)) (hN : vs.length ≤ 65536) (hx : 0 ≤ x ∧ x < (vs.length : Int)) (hv : vs.getD x.toNat 0 = v) (kk : zW D cs b ad G M pre o rest q L (.inl v :: st) n k) : zW D cs b ad G M pre o rest pc L (.inl x :: .inr j :: st) n k := by
  intro p l e R s m args below meth c Z hC hG hn H locs ls hH hL
  subst hp; subst hj; subst hv
  have K := kk p l e R s m args below meth c Z hC hG hn H locs ls hH hL
  exact va_ti hC.1 hC.2.1 (hC.2.2.2.2.2.2.2.2.1.1 i _ hs).2 hH.2.2.1 (fs_vin hx hN) (by rw [fs_clamp hx hN]; rfl) hd K
theorem gr_callV (q : Nat) {M2 : fs_Me} {idx N : Nat} {T : u_T} {x : Int} {rm : Room} {rest2 : List va_E} {o2 : Nat × List Value} (hA : gad b ad) (hr : gRm G f0 lc0 c0 s0) (hd : decode M.2.1 pc = .ok (.invokevirtual idx, 3)) (hp : pc + 3 = q) (hm : Cond.methodLink M.1.cls idx M2.1 ∈ fs_tbl) (ho : fs_Ok M2 0) (hi : fs_Iv M2.1) (hcl : fs_cl[o.1]? = some (M2.1.cls, T, N)) (hj : pre.length < 1000) (hx : x = (pre.length : Int)) (hf : rm.frames + 1 ≤ f0) (hlc : 8 + (M2.2.2.1 + 11) + rm.locals ≤ lc0) (hc : n + rm.cells ≤ c0) (hs : k + rm.slots ≤ s0) (hw : st.length ≤ 8) (hk : gC D cs b ad M2 rm [.inr x] (pre ++ .inr o :: rest) (pre ++ .inr o2 :: rest2)) (hlen : rest2.length = rest.length + rm.cells) (kk : zW D cs b ad G M pre o2 rest2 q L st (n + rm.cells) (k + rm.slots)) : zW D cs b ad G M pre o rest pc L (.inr x :: st) n k := by
  subst hp; subst hx
  intro p l e R s m args below meth c Z hC hG hn H locs ls hH hL
  obtain ⟨r1, r2, r3, r4⟩ := hr _ _ _ _ _ _ hG
  obtain ⟨hx, hb, hrt, hml, hlk, hown, hts, hK, hS, hnm, hbs⟩ := id hC
  obtain ⟨⟨o1, o2'⟩, o3, o4, o5, o6, o7⟩ := ho
  have hgood : GoodIn fs_tbl (wsV M.1.cls idx M2.1.cls M2.1 (.code M2.1 M2.2.1 M2.2.2.1 M2.2.2.2 :: fs_tbl)) := fs_goodAll (fun w hw => by
    simp only [wsV, List.mem_append, List.mem_cons, List.not_mem_nil, or_false] at hw
    rcases hw with (rfl | rfl | rfl | rfl) | rfl | hw
    · exact hm
    · exact hi.1
    · exact hi.2
    · exact o4
    · exact o3
    · exact hw)
  have hre := va_recv (q0 := pre.length) hK hH.2.1 hcl (zi_at g_this)
  rw [← hA pre.length hj] at hre
  refine g_back hC hG hn hH hL (va_runV (As := []) (rest := st.map (fs_cv ad)) (b := ad (pre.length : Int)) ⟨hx, hb, hml, hown, hts⟩ (hk l) (cwV 0 hts hgood rfl rfl rfl ⟨rfl, o5, o6, o7⟩ ⟨by omega, by omega⟩) ⟨g_blind, hre, fun U hU hW => ⟨rfl, g_pre hK hS hH hU hW⟩⟩ rfl rfl (hL.1.trans hn) rfl (fs_room hw) hd ⟨by omega, by omega⟩) hlen kk
end GROW3
