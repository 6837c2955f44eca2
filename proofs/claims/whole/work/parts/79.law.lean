/-! ===== the law: its rows, its cases, its loop (written by gen/glaw.py) ===== -/
abbrev mL_law : fs_Me := (yL_law, cL_law, 4, some .boolean)
theorem rgx (y : Int32) : rg y.toInt := ⟨Int32.le_toInt y, Int32.toInt_lt y⟩
theorem IM.lo {σ τ : fs_S} {A : ab} (h : IM σ A) (hw : awf A) (e : ∀ k i, k < 26 → τ k i = σ k i) : IM τ A := by
  obtain ⟨a0, a1, a2, a3, a4⟩ := h
  have e7 := e 0 7 (by decide)
  have e8 := e 0 8 (by decide)
  have e9 := e 0 9 (by decide)
  have e10 := e 0 10 (by decide)
  refine ⟨a0.eq hw (fun i _ => e _ _ (by decide)) (fun k i z => e k i (by omega)), ⟨by rw [e7]; exact a1.1, fun z => ?_⟩, ⟨by rw [e8]; exact a2.1, fun z => ?_⟩, ⟨by rw [e9]; exact a3.1, fun z => ?_⟩, ⟨by rw [e10]; exact a4.1, fun z => ?_⟩⟩
  · exact (a1.2 (by omega)).eq (fun k i z => e k i (by omega))
  · exact (a2.2 (by omega)).eq (fun k i z => e k i (by omega))
  · exact (a3.2 (by omega)).eq (e _ _ (by decide)) (fun k i z1 z2 => e k i (by omega))
  · exact (a4.2 (by omega)).eq (e _ _ (by decide)) (fun k i z1 z2 => e k i (by omega))
theorem IC.hi {σ τ : fs_S} {A : ab} (h : IC σ A) (e : frC σ τ) : IC τ A := h.eq (fun k i z _ _ _ _ _ => e k i z)
def lwΓ (L : Nat) (xs : Nat → Int32) : fs_G := fun _ R s args below _ ad _ cells slots Z => R = room_1 ∧ cells ≤ 600000 ∧ slots ≤ 7302250 ∧ Z = lw_Z below args s ∧ args = #[.ref (ad 2000)] ∧ va_X (ad 2000) L xs s s.heap ∧ ad 2000 < s.heap.size ∧ ∀ q, fs_A ad q → s.heap.size ≤ q
theorem lw_rm {L : Nat} {xs : Nat → Int32} {d : Nat} (hd : d ≤ 20) : fs_Rm (lwΓ L xs) d := by
  intro l R s args below D ad cs cells slots Z h
  obtain ⟨rfl, h2, h3, -⟩ := h
  refine ⟨?_, ?_, h2, h3⟩
  · show d + 1 ≤ 2048; omega
  · show 64 * d + 64 ≤ 84000; omega
section LAW
variable {pc : Nat} {Lo : List (Option fs_V)} {st : List fs_V} {σ : fs_S} {L : Nat} {xs : Nat → Int32}
theorem fr_sld (q : Nat) {x : Int} (hd : decode mL_law.2.1 pc = .ok (.iaload, 1)) (hp : pc + 1 = q) (hx : (0 ≤ x ∧ x < (L : Int)) ∧ L ≤ 65536) (kk : fs_W (lwΓ L xs) mL_law q Lo (.inl (xs x.toNat).toInt :: st) σ) : fs_W (lwΓ L xs) mL_law pc Lo (.inl x :: .inr 2000 :: st) σ := by
  intro p l e R s m args below meth c D ad cs cells slots Z hC hG hn H locs ls hH hL
  subst hp
  have K := kk p l e R s m args below meth c D ad cs cells slots Z hC hG hn H locs ls hH hL
  obtain ⟨-, -, -, -, -, g1, g2, g3⟩ := hG
  refine va_sld hC.1 hC.2.1 g1 g2 (fun z => absurd (g3 _ z) (by omega)) hH.2.2 (fs_vin hx.1 hx.2) hd ?_
  rw [fs_clamp hx.1 hx.2]
  have e : Int32.ofInt (xs x.toNat).toInt = xs x.toNat := Int32.ofInt_toInt _
  rw [fs_mp e] at K
  exact K
theorem fr_slen (q : Nat) (hd : decode mL_law.2.1 pc = .ok (.arraylength, 1)) (hp : pc + 1 = q) (kk : fs_W (lwΓ L xs) mL_law q Lo (.inl (L : Int) :: st) σ) : fs_W (lwΓ L xs) mL_law pc Lo (.inr 2000 :: st) σ := by
  intro p l e R s m args below meth c D ad cs cells slots Z hC hG hn H locs ls hH hL
  subst hp
  have K := kk p l e R s m args below meth c D ad cs cells slots Z hC hG hn H locs ls hH hL
  obtain ⟨-, -, -, -, -, g1, g2, g3⟩ := hG
  exact va_slen hC.1 hC.2.1 g1 g2 (fun z => absurd (g3 _ z) (by omega)) hH.2.2 hd K
theorem fr_icmp_same {Γ : fs_G} {M : fs_Me} (t : Nat) {a off : Int} (hd : decode M.2.1 pc = .ok (.if_icmp .eq off, 3)) (ht : (pc : Int) + off = (t : Int)) (kk : fs_W Γ M t Lo st σ) : fs_W Γ M pc Lo (.inl a :: .inl a :: st) σ := by
  intro p l e R s m args below meth c D ad cs cells slots Z hC hG hn H locs ls hH hL
  exact lv_icmp_eq hC.1 hC.2.1 hd ht (fun _ => kk p l e R s m args below meth c D ad cs cells slots Z hC hG hn H locs ls hH hL) (fun h => absurd rfl h)
theorem fr_lret (hd : decode mL_law.2.1 pc = .ok (.ireturn, 1)) : fs_W (lwΓ L xs) mL_law pc Lo [.inl 1] σ := by
  intro p l e R s m args below meth c D ad cs cells slots Z hC hG hn H locs ls hH hL
  obtain ⟨rfl, g2, g3, rfl, rfl, g5, g6, g7⟩ := hG
  refine va_forget (fun q hq => g7 _ (hH.2.2.2.2 q hq)) ?_
  refine W.widen g2 g3 ?_
  exact lw_ret hC.1 hC.2.1 hC.2.2.1 hC.2.2.2.2.1 hd
end LAW
set_option maxRecDepth 100000 in
set_option maxHeartbeats 3000000 in
theorem lw_c0 {L : Nat} {xs : Nat → Int32} {i : Int} {σ : fs_S} {A : ab} (hi : 0 ≤ i ∧ i + 6 ≤ (L : Int)) (hL : L ≤ 3072) (hIC : IC σ A) (hIM : IM σ A) (hwf : awf A) (hk : ∀ (τ : fs_S) (B : ab), IC τ B → IM τ B → awf B → fs_W (lwΓ L xs) mL_law 845 [some (.inr 2000), some (.inr 26), some (.inr 0), some (.inl i)] [] τ) : fs_W (lwΓ L xs) mL_law 132 [some (.inr 2000), some (.inr 26), some (.inr 0), some (.inl i)] [] σ := by
  have hrg : i < 4000 := by omega
  refine fr_aload_n 133 dL_law_132 rfl rfl ?_
  refine fr_aload_n 134 dL_law_133 rfl rfl ?_
  refine fr_iload_n 135 dL_law_134 rfl rfl ?_
  refine fr_iconst 136 dL_law_135 rfl ?_
  refine fr_iadd 137 dL_law_136 rfl ?_
  refine fr_sld 138 dL_law_137 rfl ⟨by omega, by omega⟩ ?_
  refine fr_aload_n 139 dL_law_138 rfl rfl ?_
  refine fr_iload_n 140 dL_law_139 rfl rfl ?_
  refine fr_iconst 141 dL_law_140 rfl ?_
  refine fr_iadd 142 dL_law_141 rfl ?_
  refine fr_sld 143 dL_law_142 rfl ⟨by omega, by omega⟩ ?_
  refine fr_aload_n 144 dL_law_143 rfl rfl ?_
  refine fr_iload_n 145 dL_law_144 rfl rfl ?_
  refine fr_iconst 146 dL_law_145 rfl ?_
  refine fr_iadd 147 dL_law_146 rfl ?_
  refine fr_sld 148 dL_law_147 rfl ⟨by omega, by omega⟩ ?_
  refine fr_callVi 151 (M2 := mX6_draft) [_, _, _] dL_law_148 rfl fs_mL_13 fs_oX6_draft fs_iX6_draft fs_l26 rfl rfl (lw_rm (d := 1) (by decide)) (Nat.le_of_ble_eq_true rfl) rfl ?_
  refine (wK_draft hIC hwf (rgx _) (rgx _) (rgx _)).mono ?_
  rintro _ τ ⟨rfl, ic1, f1⟩
  have im1 := hIM.lo hwf f1
  refine ⟨_, rfl, ?_⟩
  refine fr_aload_n 152 dL_law_151 rfl rfl ?_
  refine fr_aload_n 153 dL_law_152 rfl rfl ?_
  refine fr_iload_n 154 dL_law_153 rfl rfl ?_
  refine fr_iconst 155 dL_law_154 rfl ?_
  refine fr_iadd 156 dL_law_155 rfl ?_
  refine fr_sld 157 dL_law_156 rfl ⟨by omega, by omega⟩ ?_
  refine fr_aload_n 158 dL_law_157 rfl rfl ?_
  refine fr_iload_n 159 dL_law_158 rfl rfl ?_
  refine fr_iconst 160 dL_law_159 rfl ?_
  refine fr_iadd 161 dL_law_160 rfl ?_
  refine fr_sld 162 dL_law_161 rfl ⟨by omega, by omega⟩ ?_
  refine fr_aload_n 163 dL_law_162 rfl rfl ?_
  refine fr_iload_n 164 dL_law_163 rfl rfl ?_
  refine fr_iconst 165 dL_law_164 rfl ?_
  refine fr_iadd 166 dL_law_165 rfl ?_
  refine fr_sld 167 dL_law_166 rfl ⟨by omega, by omega⟩ ?_
  refine fr_callVi 170 (M2 := mX7_draft) [_, _, _] dL_law_167 rfl fs_mL_17 fs_oX7_draft fs_iX7_draft fs_l0 rfl rfl (lw_rm (d := 2) (by decide)) (Nat.le_of_ble_eq_true rfl) rfl ?_
  refine (wM_draft im1 hwf (rgx _) (rgx _) (rgx _)).mono ?_
  rintro _ υ ⟨rfl, im2, f2⟩
  have ic2 := ic1.hi f2
  refine ⟨_, rfl, ?_⟩
  refine fr_icmp_same 845 dL_law_170 rfl ?_
  exact hk υ _ ic2 im2 (sDraft_wf hwf _ _ _)
set_option maxRecDepth 100000 in
set_option maxHeartbeats 3000000 in
theorem lw_c1 {L : Nat} {xs : Nat → Int32} {i : Int} {σ : fs_S} {A : ab} (hi : 0 ≤ i ∧ i + 6 ≤ (L : Int)) (hL : L ≤ 3072) (hIC : IC σ A) (hIM : IM σ A) (hwf : awf A) (hk : ∀ (τ : fs_S) (B : ab), IC τ B → IM τ B → awf B → fs_W (lwΓ L xs) mL_law 845 [some (.inr 2000), some (.inr 26), some (.inr 0), some (.inl i)] [] τ) : fs_W (lwΓ L xs) mL_law 175 [some (.inr 2000), some (.inr 26), some (.inr 0), some (.inl i)] [] σ := by
  have hrg : i < 4000 := by omega
  refine fr_aload_n 176 dL_law_175 rfl rfl ?_
  refine fr_aload_n 177 dL_law_176 rfl rfl ?_
  refine fr_iload_n 178 dL_law_177 rfl rfl ?_
  refine fr_iconst 179 dL_law_178 rfl ?_
  refine fr_iadd 180 dL_law_179 rfl ?_
  refine fr_sld 181 dL_law_180 rfl ⟨by omega, by omega⟩ ?_
  refine fr_aload_n 182 dL_law_181 rfl rfl ?_
  refine fr_iload_n 183 dL_law_182 rfl rfl ?_
  refine fr_iconst 184 dL_law_183 rfl ?_
  refine fr_iadd 185 dL_law_184 rfl ?_
  refine fr_sld 186 dL_law_185 rfl ⟨by omega, by omega⟩ ?_
  refine fr_callVi 189 (M2 := mX6_rule) [_, _] dL_law_186 rfl fs_mL_18 fs_oX6_rule fs_iX6_rule fs_l26 rfl rfl (lw_rm (d := 3) (by decide)) (Nat.le_of_ble_eq_true rfl) rfl ?_
  refine (wK_rule hIC hwf (rgx _) (rgx _)).mono ?_
  rintro _ τ ⟨rfl, ic1, f1⟩
  have im1 := hIM.lo hwf f1
  refine ⟨_, rfl, ?_⟩
  refine fr_aload_n 190 dL_law_189 rfl rfl ?_
  refine fr_aload_n 191 dL_law_190 rfl rfl ?_
  refine fr_iload_n 192 dL_law_191 rfl rfl ?_
  refine fr_iconst 193 dL_law_192 rfl ?_
  refine fr_iadd 194 dL_law_193 rfl ?_
  refine fr_sld 195 dL_law_194 rfl ⟨by omega, by omega⟩ ?_
  refine fr_aload_n 196 dL_law_195 rfl rfl ?_
  refine fr_iload_n 197 dL_law_196 rfl rfl ?_
  refine fr_iconst 198 dL_law_197 rfl ?_
  refine fr_iadd 199 dL_law_198 rfl ?_
  refine fr_sld 200 dL_law_199 rfl ⟨by omega, by omega⟩ ?_
  refine fr_callVi 203 (M2 := mX7_rule) [_, _] dL_law_200 rfl fs_mL_22 fs_oX7_rule fs_iX7_rule fs_l0 rfl rfl (lw_rm (d := 3) (by decide)) (Nat.le_of_ble_eq_true rfl) rfl ?_
  refine (wM_rule im1 hwf (rgx _) (rgx _)).mono ?_
  rintro _ υ ⟨rfl, im2, f2⟩
  have ic2 := ic1.hi f2
  refine ⟨_, rfl, ?_⟩
  refine fr_icmp_same 845 dL_law_203 rfl ?_
  exact hk υ _ ic2 im2 (sRule_wf hwf _ _)
set_option maxRecDepth 100000 in
set_option maxHeartbeats 3000000 in
theorem lw_c2 {L : Nat} {xs : Nat → Int32} {i : Int} {σ : fs_S} {A : ab} (hi : 0 ≤ i ∧ i + 6 ≤ (L : Int)) (hL : L ≤ 3072) (hIC : IC σ A) (hIM : IM σ A) (hwf : awf A) (hk : ∀ (τ : fs_S) (B : ab), IC τ B → IM τ B → awf B → fs_W (lwΓ L xs) mL_law 845 [some (.inr 2000), some (.inr 26), some (.inr 0), some (.inl i)] [] τ) : fs_W (lwΓ L xs) mL_law 208 [some (.inr 2000), some (.inr 26), some (.inr 0), some (.inl i)] [] σ := by
  have hrg : i < 4000 := by omega
  refine fr_aload_n 209 dL_law_208 rfl rfl ?_
  refine fr_aload_n 210 dL_law_209 rfl rfl ?_
  refine fr_iload_n 211 dL_law_210 rfl rfl ?_
  refine fr_iconst 212 dL_law_211 rfl ?_
  refine fr_iadd 213 dL_law_212 rfl ?_
  refine fr_sld 214 dL_law_213 rfl ⟨by omega, by omega⟩ ?_
  refine fr_callVi 217 (M2 := mX6_drop) [_] dL_law_214 rfl fs_mL_23 fs_oX6_drop fs_iX6_drop fs_l26 rfl rfl (lw_rm (d := 3) (by decide)) (Nat.le_of_ble_eq_true rfl) rfl ?_
  refine (wK_drop hIC hwf (rgx _)).mono ?_
  rintro _ τ ⟨rfl, ic1, f1⟩
  have im1 := hIM.lo hwf f1
  refine ⟨_, rfl, ?_⟩
  refine fr_aload_n 218 dL_law_217 rfl rfl ?_
  refine fr_aload_n 219 dL_law_218 rfl rfl ?_
  refine fr_iload_n 220 dL_law_219 rfl rfl ?_
  refine fr_iconst 221 dL_law_220 rfl ?_
  refine fr_iadd 222 dL_law_221 rfl ?_
  refine fr_sld 223 dL_law_222 rfl ⟨by omega, by omega⟩ ?_
  refine fr_callVi 226 (M2 := mX7_drop) [_] dL_law_223 rfl fs_mL_27 fs_oX7_drop fs_iX7_drop fs_l0 rfl rfl (lw_rm (d := 2) (by decide)) (Nat.le_of_ble_eq_true rfl) rfl ?_
  refine (wM_drop im1 hwf (rgx _)).mono ?_
  rintro _ υ ⟨rfl, im2, f2⟩
  have ic2 := ic1.hi f2
  refine ⟨_, rfl, ?_⟩
  refine fr_icmp_same 845 dL_law_226 rfl ?_
  exact hk υ _ ic2 im2 (sDrop_wf hwf _)
set_option maxRecDepth 100000 in
set_option maxHeartbeats 3000000 in
theorem lw_c3 {L : Nat} {xs : Nat → Int32} {i : Int} {σ : fs_S} {A : ab} (hi : 0 ≤ i ∧ i + 6 ≤ (L : Int)) (hL : L ≤ 3072) (hIC : IC σ A) (hIM : IM σ A) (hwf : awf A) (hk : ∀ (τ : fs_S) (B : ab), IC τ B → IM τ B → awf B → fs_W (lwΓ L xs) mL_law 845 [some (.inr 2000), some (.inr 26), some (.inr 0), some (.inl i)] [] τ) : fs_W (lwΓ L xs) mL_law 231 [some (.inr 2000), some (.inr 26), some (.inr 0), some (.inl i)] [] σ := by
  have hrg : i < 4000 := by omega
  refine fr_aload_n 232 dL_law_231 rfl rfl ?_
  refine fr_aload_n 233 dL_law_232 rfl rfl ?_
  refine fr_iload_n 234 dL_law_233 rfl rfl ?_
  refine fr_iconst 235 dL_law_234 rfl ?_
  refine fr_iadd 236 dL_law_235 rfl ?_
  refine fr_sld 237 dL_law_236 rfl ⟨by omega, by omega⟩ ?_
  refine fr_aload_n 238 dL_law_237 rfl rfl ?_
  refine fr_iload_n 239 dL_law_238 rfl rfl ?_
  refine fr_iconst 240 dL_law_239 rfl ?_
  refine fr_iadd 241 dL_law_240 rfl ?_
  refine fr_sld 242 dL_law_241 rfl ⟨by omega, by omega⟩ ?_
  refine fr_callVi 245 (M2 := mX6_rank) [_, _] dL_law_242 rfl fs_mL_28 fs_oX6_rank fs_iX6_rank fs_l26 rfl rfl (lw_rm (d := 3) (by decide)) (Nat.le_of_ble_eq_true rfl) rfl ?_
  refine (wK_rank hIC hwf (rgx _) (rgx _)).mono ?_
  rintro _ τ ⟨rfl, ic1, f1⟩
  have im1 := hIM.lo hwf f1
  refine ⟨_, rfl, ?_⟩
  refine fr_aload_n 246 dL_law_245 rfl rfl ?_
  refine fr_aload_n 247 dL_law_246 rfl rfl ?_
  refine fr_iload_n 248 dL_law_247 rfl rfl ?_
  refine fr_iconst 249 dL_law_248 rfl ?_
  refine fr_iadd 250 dL_law_249 rfl ?_
  refine fr_sld 251 dL_law_250 rfl ⟨by omega, by omega⟩ ?_
  refine fr_aload_n 252 dL_law_251 rfl rfl ?_
  refine fr_iload_n 253 dL_law_252 rfl rfl ?_
  refine fr_iconst 254 dL_law_253 rfl ?_
  refine fr_iadd 255 dL_law_254 rfl ?_
  refine fr_sld 256 dL_law_255 rfl ⟨by omega, by omega⟩ ?_
  refine fr_callVi 259 (M2 := mX7_rank) [_, _] dL_law_256 rfl fs_mL_31 fs_oX7_rank fs_iX7_rank fs_l0 rfl rfl (lw_rm (d := 2) (by decide)) (Nat.le_of_ble_eq_true rfl) rfl ?_
  refine (wM_rank im1 hwf (rgx _) (rgx _)).mono ?_
  rintro _ υ ⟨rfl, im2, f2⟩
  have ic2 := ic1.hi f2
  refine ⟨_, rfl, ?_⟩
  refine fr_icmp_same 845 dL_law_259 rfl ?_
  exact hk υ _ ic2 im2 (sRank_wf hwf _ _)
set_option maxRecDepth 100000 in
set_option maxHeartbeats 3000000 in
theorem lw_c4 {L : Nat} {xs : Nat → Int32} {i : Int} {σ : fs_S} {A : ab} (hi : 0 ≤ i ∧ i + 6 ≤ (L : Int)) (hL : L ≤ 3072) (hIC : IC σ A) (hIM : IM σ A) (hwf : awf A) (hk : ∀ (τ : fs_S) (B : ab), IC τ B → IM τ B → awf B → fs_W (lwΓ L xs) mL_law 845 [some (.inr 2000), some (.inr 26), some (.inr 0), some (.inl i)] [] τ) : fs_W (lwΓ L xs) mL_law 264 [some (.inr 2000), some (.inr 26), some (.inr 0), some (.inl i)] [] σ := by
  have hrg : i < 4000 := by omega
  refine fr_aload_n 265 dL_law_264 rfl rfl ?_
  refine fr_aload_n 266 dL_law_265 rfl rfl ?_
  refine fr_iload_n 267 dL_law_266 rfl rfl ?_
  refine fr_iconst 268 dL_law_267 rfl ?_
  refine fr_iadd 269 dL_law_268 rfl ?_
  refine fr_sld 270 dL_law_269 rfl ⟨by omega, by omega⟩ ?_
  refine fr_aload_n 271 dL_law_270 rfl rfl ?_
  refine fr_iload_n 272 dL_law_271 rfl rfl ?_
  refine fr_iconst 273 dL_law_272 rfl ?_
  refine fr_iadd 274 dL_law_273 rfl ?_
  refine fr_sld 275 dL_law_274 rfl ⟨by omega, by omega⟩ ?_
  refine fr_callVi 278 (M2 := mX6_told) [_, _] dL_law_275 rfl fs_mL_32 fs_oX6_told fs_iX6_told fs_l26 rfl rfl (lw_rm (d := 1) (by decide)) (Nat.le_of_ble_eq_true rfl) rfl ?_
  refine (wK_told hIC hwf (rgx _) (rgx _)).mono ?_
  rintro _ τ ⟨rfl, ic1, f1⟩
  have im1 := hIM.lo hwf f1
  refine ⟨_, rfl, ?_⟩
  refine fr_aload_n 279 dL_law_278 rfl rfl ?_
  refine fr_aload_n 280 dL_law_279 rfl rfl ?_
  refine fr_iload_n 281 dL_law_280 rfl rfl ?_
  refine fr_iconst 282 dL_law_281 rfl ?_
  refine fr_iadd 283 dL_law_282 rfl ?_
  refine fr_sld 284 dL_law_283 rfl ⟨by omega, by omega⟩ ?_
  refine fr_aload_n 285 dL_law_284 rfl rfl ?_
  refine fr_iload_n 286 dL_law_285 rfl rfl ?_
  refine fr_iconst 287 dL_law_286 rfl ?_
  refine fr_iadd 288 dL_law_287 rfl ?_
  refine fr_sld 289 dL_law_288 rfl ⟨by omega, by omega⟩ ?_
  refine fr_callVi 292 (M2 := mX7_told) [_, _] dL_law_289 rfl fs_mL_35 fs_oX7_told fs_iX7_told fs_l0 rfl rfl (lw_rm (d := 2) (by decide)) (Nat.le_of_ble_eq_true rfl) rfl ?_
  refine (wM_told im1 hwf (rgx _) (rgx _)).mono ?_
  rintro _ υ ⟨rfl, im2, f2⟩
  have ic2 := ic1.hi f2
  refine ⟨_, rfl, ?_⟩
  refine fr_icmp_same 845 dL_law_292 rfl ?_
  exact hk υ _ ic2 im2 hwf
set_option maxRecDepth 100000 in
set_option maxHeartbeats 3000000 in
theorem lw_c5 {L : Nat} {xs : Nat → Int32} {i : Int} {σ : fs_S} {A : ab} (hi : 0 ≤ i ∧ i + 6 ≤ (L : Int)) (hL : L ≤ 3072) (hIC : IC σ A) (hIM : IM σ A) (hwf : awf A) (hk : ∀ (τ : fs_S) (B : ab), IC τ B → IM τ B → awf B → fs_W (lwΓ L xs) mL_law 845 [some (.inr 2000), some (.inr 26), some (.inr 0), some (.inl i)] [] τ) : fs_W (lwΓ L xs) mL_law 297 [some (.inr 2000), some (.inr 26), some (.inr 0), some (.inl i)] [] σ := by
  have hrg : i < 4000 := by omega
  refine fr_aload_n 298 dL_law_297 rfl rfl ?_
  refine fr_aload_n 299 dL_law_298 rfl rfl ?_
  refine fr_iload_n 300 dL_law_299 rfl rfl ?_
  refine fr_iconst 301 dL_law_300 rfl ?_
  refine fr_iadd 302 dL_law_301 rfl ?_
  refine fr_sld 303 dL_law_302 rfl ⟨by omega, by omega⟩ ?_
  refine fr_aload_n 304 dL_law_303 rfl rfl ?_
  refine fr_iload_n 305 dL_law_304 rfl rfl ?_
  refine fr_iconst 306 dL_law_305 rfl ?_
  refine fr_iadd 307 dL_law_306 rfl ?_
  refine fr_sld 308 dL_law_307 rfl ⟨by omega, by omega⟩ ?_
  refine fr_aload_n 309 dL_law_308 rfl rfl ?_
  refine fr_iload_n 310 dL_law_309 rfl rfl ?_
  refine fr_iconst 311 dL_law_310 rfl ?_
  refine fr_iadd 312 dL_law_311 rfl ?_
  refine fr_sld 313 dL_law_312 rfl ⟨by omega, by omega⟩ ?_
  refine fr_aload_n 314 dL_law_313 rfl rfl ?_
  refine fr_iload_n 315 dL_law_314 rfl rfl ?_
  refine fr_iconst 316 dL_law_315 rfl ?_
  refine fr_iadd 317 dL_law_316 rfl ?_
  refine fr_sld 318 dL_law_317 rfl ⟨by omega, by omega⟩ ?_
  refine fr_callVi 321 (M2 := mX6_first) [_, _, _, _] dL_law_318 rfl fs_mL_36 fs_oX6_first fs_iX6_first fs_l26 rfl rfl (lw_rm (d := 2) (by decide)) (Nat.le_of_ble_eq_true rfl) rfl ?_
  refine (wK_first hIC hwf (rgx _) (rgx _) (rgx _) (rgx _)).mono ?_
  rintro _ τ ⟨rfl, ic1, f1⟩
  have im1 := hIM.lo hwf f1
  refine ⟨_, rfl, ?_⟩
  refine fr_aload_n 322 dL_law_321 rfl rfl ?_
  refine fr_aload_n 323 dL_law_322 rfl rfl ?_
  refine fr_iload_n 324 dL_law_323 rfl rfl ?_
  refine fr_iconst 325 dL_law_324 rfl ?_
  refine fr_iadd 326 dL_law_325 rfl ?_
  refine fr_sld 327 dL_law_326 rfl ⟨by omega, by omega⟩ ?_
  refine fr_aload_n 328 dL_law_327 rfl rfl ?_
  refine fr_iload_n 329 dL_law_328 rfl rfl ?_
  refine fr_iconst 330 dL_law_329 rfl ?_
  refine fr_iadd 331 dL_law_330 rfl ?_
  refine fr_sld 332 dL_law_331 rfl ⟨by omega, by omega⟩ ?_
  refine fr_aload_n 333 dL_law_332 rfl rfl ?_
  refine fr_iload_n 334 dL_law_333 rfl rfl ?_
  refine fr_iconst 335 dL_law_334 rfl ?_
  refine fr_iadd 336 dL_law_335 rfl ?_
  refine fr_sld 337 dL_law_336 rfl ⟨by omega, by omega⟩ ?_
  refine fr_aload_n 338 dL_law_337 rfl rfl ?_
  refine fr_iload_n 339 dL_law_338 rfl rfl ?_
  refine fr_iconst 340 dL_law_339 rfl ?_
  refine fr_iadd 341 dL_law_340 rfl ?_
  refine fr_sld 342 dL_law_341 rfl ⟨by omega, by omega⟩ ?_
  refine fr_callVi 345 (M2 := mX7_first) [_, _, _, _] dL_law_342 rfl fs_mL_40 fs_oX7_first fs_iX7_first fs_l0 rfl rfl (lw_rm (d := 4) (by decide)) (Nat.le_of_ble_eq_true rfl) rfl ?_
  refine (wM_first im1 hwf (rgx _) (rgx _) (rgx _) (rgx _)).mono ?_
  rintro _ υ ⟨rfl, im2, f2⟩
  have ic2 := ic1.hi f2
  refine ⟨_, rfl, ?_⟩
  refine fr_icmp_same 845 dL_law_345 rfl ?_
  exact hk υ _ ic2 im2 hwf
set_option maxRecDepth 100000 in
set_option maxHeartbeats 3000000 in
theorem lw_c6 {L : Nat} {xs : Nat → Int32} {i : Int} {σ : fs_S} {A : ab} (hi : 0 ≤ i ∧ i + 6 ≤ (L : Int)) (hL : L ≤ 3072) (hIC : IC σ A) (hIM : IM σ A) (hwf : awf A) (hk : ∀ (τ : fs_S) (B : ab), IC τ B → IM τ B → awf B → fs_W (lwΓ L xs) mL_law 845 [some (.inr 2000), some (.inr 26), some (.inr 0), some (.inl i)] [] τ) : fs_W (lwΓ L xs) mL_law 350 [some (.inr 2000), some (.inr 26), some (.inr 0), some (.inl i)] [] σ := by
  have hrg : i < 4000 := by omega
  refine fr_aload_n 351 dL_law_350 rfl rfl ?_
  refine fr_aload_n 352 dL_law_351 rfl rfl ?_
  refine fr_iload_n 353 dL_law_352 rfl rfl ?_
  refine fr_iconst 354 dL_law_353 rfl ?_
  refine fr_iadd 355 dL_law_354 rfl ?_
  refine fr_sld 356 dL_law_355 rfl ⟨by omega, by omega⟩ ?_
  refine fr_callVi 359 (M2 := mX6_wins) [_] dL_law_356 rfl fs_mL_41 fs_oX6_wins fs_iX6_wins fs_l26 rfl rfl (lw_rm (d := 11) (by decide)) (Nat.le_of_ble_eq_true rfl) rfl ?_
  refine (wK_wins hIC hwf (rgx _)).mono ?_
  rintro _ τ ⟨rfl, ic1, f1⟩
  have im1 := hIM.lo hwf f1
  refine ⟨_, rfl, ?_⟩
  refine fr_aload_n 360 dL_law_359 rfl rfl ?_
  refine fr_aload_n 361 dL_law_360 rfl rfl ?_
  refine fr_iload_n 362 dL_law_361 rfl rfl ?_
  refine fr_iconst 363 dL_law_362 rfl ?_
  refine fr_iadd 364 dL_law_363 rfl ?_
  refine fr_sld 365 dL_law_364 rfl ⟨by omega, by omega⟩ ?_
  refine fr_callVi 368 (M2 := mX7_wins) [_] dL_law_365 rfl fs_mL_44 fs_oX7_wins fs_iX7_wins fs_l0 rfl rfl (lw_rm (d := 4) (by decide)) (Nat.le_of_ble_eq_true rfl) rfl ?_
  refine (wM_wins im1 hwf (rgx _)).mono ?_
  rintro _ υ ⟨rfl, im2, f2⟩
  have ic2 := ic1.hi f2
  refine ⟨_, rfl, ?_⟩
  refine fr_icmp_same 845 dL_law_368 rfl ?_
  exact hk υ _ ic2 im2 hwf
set_option maxRecDepth 100000 in
set_option maxHeartbeats 3000000 in
theorem lw_c7 {L : Nat} {xs : Nat → Int32} {i : Int} {σ : fs_S} {A : ab} (hi : 0 ≤ i ∧ i + 6 ≤ (L : Int)) (hL : L ≤ 3072) (hIC : IC σ A) (hIM : IM σ A) (hwf : awf A) (hk : ∀ (τ : fs_S) (B : ab), IC τ B → IM τ B → awf B → fs_W (lwΓ L xs) mL_law 845 [some (.inr 2000), some (.inr 26), some (.inr 0), some (.inl i)] [] τ) : fs_W (lwΓ L xs) mL_law 373 [some (.inr 2000), some (.inr 26), some (.inr 0), some (.inl i)] [] σ := by
  have hrg : i < 4000 := by omega
  refine fr_aload_n 374 dL_law_373 rfl rfl ?_
  refine fr_aload_n 375 dL_law_374 rfl rfl ?_
  refine fr_iload_n 376 dL_law_375 rfl rfl ?_
  refine fr_iconst 377 dL_law_376 rfl ?_
  refine fr_iadd 378 dL_law_377 rfl ?_
  refine fr_sld 379 dL_law_378 rfl ⟨by omega, by omega⟩ ?_
  refine fr_aload_n 380 dL_law_379 rfl rfl ?_
  refine fr_iload_n 381 dL_law_380 rfl rfl ?_
  refine fr_iconst 382 dL_law_381 rfl ?_
  refine fr_iadd 383 dL_law_382 rfl ?_
  refine fr_sld 384 dL_law_383 rfl ⟨by omega, by omega⟩ ?_
  refine fr_callVi 387 (M2 := mX6_overlap) [_, _] dL_law_384 rfl fs_mL_45 fs_oX6_overlap fs_iX6_overlap fs_l26 rfl rfl (lw_rm (d := 2) (by decide)) (Nat.le_of_ble_eq_true rfl) rfl ?_
  refine (wK_overlap hIC hwf (rgx _) (rgx _)).mono ?_
  rintro _ τ ⟨rfl, ic1, f1⟩
  have im1 := hIM.lo hwf f1
  refine ⟨_, rfl, ?_⟩
  refine fr_aload_n 388 dL_law_387 rfl rfl ?_
  refine fr_aload_n 389 dL_law_388 rfl rfl ?_
  refine fr_iload_n 390 dL_law_389 rfl rfl ?_
  refine fr_iconst 391 dL_law_390 rfl ?_
  refine fr_iadd 392 dL_law_391 rfl ?_
  refine fr_sld 393 dL_law_392 rfl ⟨by omega, by omega⟩ ?_
  refine fr_aload_n 394 dL_law_393 rfl rfl ?_
  refine fr_iload_n 395 dL_law_394 rfl rfl ?_
  refine fr_iconst 396 dL_law_395 rfl ?_
  refine fr_iadd 397 dL_law_396 rfl ?_
  refine fr_sld 398 dL_law_397 rfl ⟨by omega, by omega⟩ ?_
  refine fr_callVi 401 (M2 := mX7_overlap) [_, _] dL_law_398 rfl fs_mL_48 fs_oX7_overlap fs_iX7_overlap fs_l0 rfl rfl (lw_rm (d := 2) (by decide)) (Nat.le_of_ble_eq_true rfl) rfl ?_
  refine (wM_overlap im1 hwf (rgx _) (rgx _)).mono ?_
  rintro _ υ ⟨rfl, im2, f2⟩
  have ic2 := ic1.hi f2
  refine ⟨_, rfl, ?_⟩
  refine fr_icmp_same 845 dL_law_401 rfl ?_
  exact hk υ _ ic2 im2 hwf
set_option maxRecDepth 100000 in
set_option maxHeartbeats 3000000 in
theorem lw_c8 {L : Nat} {xs : Nat → Int32} {i : Int} {σ : fs_S} {A : ab} (hi : 0 ≤ i ∧ i + 6 ≤ (L : Int)) (hL : L ≤ 3072) (hIC : IC σ A) (hIM : IM σ A) (hwf : awf A) (hk : ∀ (τ : fs_S) (B : ab), IC τ B → IM τ B → awf B → fs_W (lwΓ L xs) mL_law 845 [some (.inr 2000), some (.inr 26), some (.inr 0), some (.inl i)] [] τ) : fs_W (lwΓ L xs) mL_law 406 [some (.inr 2000), some (.inr 26), some (.inr 0), some (.inl i)] [] σ := by
  have hrg : i < 4000 := by omega
  refine fr_aload_n 407 dL_law_406 rfl rfl ?_
  refine fr_aload_n 408 dL_law_407 rfl rfl ?_
  refine fr_iload_n 409 dL_law_408 rfl rfl ?_
  refine fr_iconst 410 dL_law_409 rfl ?_
  refine fr_iadd 411 dL_law_410 rfl ?_
  refine fr_sld 412 dL_law_411 rfl ⟨by omega, by omega⟩ ?_
  refine fr_callVi 415 (M2 := mX6_covered) [_] dL_law_412 rfl fs_mL_49 fs_oX6_covered fs_iX6_covered fs_l26 rfl rfl (lw_rm (d := 2) (by decide)) (Nat.le_of_ble_eq_true rfl) rfl ?_
  refine (wK_covered hIC hwf (rgx _)).mono ?_
  rintro _ τ ⟨rfl, ic1, f1⟩
  have im1 := hIM.lo hwf f1
  refine ⟨_, rfl, ?_⟩
  refine fr_aload_n 416 dL_law_415 rfl rfl ?_
  refine fr_aload_n 417 dL_law_416 rfl rfl ?_
  refine fr_iload_n 418 dL_law_417 rfl rfl ?_
  refine fr_iconst 419 dL_law_418 rfl ?_
  refine fr_iadd 420 dL_law_419 rfl ?_
  refine fr_sld 421 dL_law_420 rfl ⟨by omega, by omega⟩ ?_
  refine fr_callVi 424 (M2 := mX7_covered) [_] dL_law_421 rfl fs_mL_52 fs_oX7_covered fs_iX7_covered fs_l0 rfl rfl (lw_rm (d := 2) (by decide)) (Nat.le_of_ble_eq_true rfl) rfl ?_
  refine (wM_covered im1 hwf (rgx _)).mono ?_
  rintro _ υ ⟨rfl, im2, f2⟩
  have ic2 := ic1.hi f2
  refine ⟨_, rfl, ?_⟩
  refine fr_icmp_same 845 dL_law_424 rfl ?_
  exact hk υ _ ic2 im2 hwf
set_option maxRecDepth 100000 in
set_option maxHeartbeats 3000000 in
theorem lw_c9 {L : Nat} {xs : Nat → Int32} {i : Int} {σ : fs_S} {A : ab} (hi : 0 ≤ i ∧ i + 6 ≤ (L : Int)) (hL : L ≤ 3072) (hIC : IC σ A) (hIM : IM σ A) (hwf : awf A) (hk : ∀ (τ : fs_S) (B : ab), IC τ B → IM τ B → awf B → fs_W (lwΓ L xs) mL_law 845 [some (.inr 2000), some (.inr 26), some (.inr 0), some (.inl i)] [] τ) : fs_W (lwΓ L xs) mL_law 429 [some (.inr 2000), some (.inr 26), some (.inr 0), some (.inl i)] [] σ := by
  have hrg : i < 4000 := by omega
  refine fr_aload_n 430 dL_law_429 rfl rfl ?_
  refine fr_aload_n 431 dL_law_430 rfl rfl ?_
  refine fr_iload_n 432 dL_law_431 rfl rfl ?_
  refine fr_iconst 433 dL_law_432 rfl ?_
  refine fr_iadd 434 dL_law_433 rfl ?_
  refine fr_sld 435 dL_law_434 rfl ⟨by omega, by omega⟩ ?_
  refine fr_callVi 438 (M2 := mX6_idle) [_] dL_law_435 rfl fs_mL_53 fs_oX6_idle fs_iX6_idle fs_l26 rfl rfl (lw_rm (d := 11) (by decide)) (Nat.le_of_ble_eq_true rfl) rfl ?_
  refine (wK_idle hIC hwf (rgx _)).mono ?_
  rintro _ τ ⟨rfl, ic1, f1⟩
  have im1 := hIM.lo hwf f1
  refine ⟨_, rfl, ?_⟩
  refine fr_aload_n 439 dL_law_438 rfl rfl ?_
  refine fr_aload_n 440 dL_law_439 rfl rfl ?_
  refine fr_iload_n 441 dL_law_440 rfl rfl ?_
  refine fr_iconst 442 dL_law_441 rfl ?_
  refine fr_iadd 443 dL_law_442 rfl ?_
  refine fr_sld 444 dL_law_443 rfl ⟨by omega, by omega⟩ ?_
  refine fr_callVi 447 (M2 := mX7_idle) [_] dL_law_444 rfl fs_mL_56 fs_oX7_idle fs_iX7_idle fs_l0 rfl rfl (lw_rm (d := 4) (by decide)) (Nat.le_of_ble_eq_true rfl) rfl ?_
  refine (wM_idle im1 hwf (rgx _)).mono ?_
  rintro _ υ ⟨rfl, im2, f2⟩
  have ic2 := ic1.hi f2
  refine ⟨_, rfl, ?_⟩
  refine fr_icmp_same 845 dL_law_447 rfl ?_
  exact hk υ _ ic2 im2 hwf
set_option maxRecDepth 100000 in
set_option maxHeartbeats 3000000 in
theorem lw_c10 {L : Nat} {xs : Nat → Int32} {i : Int} {σ : fs_S} {A : ab} (hi : 0 ≤ i ∧ i + 6 ≤ (L : Int)) (hL : L ≤ 3072) (hIC : IC σ A) (hIM : IM σ A) (hwf : awf A) (hk : ∀ (τ : fs_S) (B : ab), IC τ B → IM τ B → awf B → fs_W (lwΓ L xs) mL_law 845 [some (.inr 2000), some (.inr 26), some (.inr 0), some (.inl i)] [] τ) : fs_W (lwΓ L xs) mL_law 452 [some (.inr 2000), some (.inr 26), some (.inr 0), some (.inl i)] [] σ := by
  have hrg : i < 4000 := by omega
  refine fr_aload_n 453 dL_law_452 rfl rfl ?_
  refine fr_aload_n 454 dL_law_453 rfl rfl ?_
  refine fr_iload_n 455 dL_law_454 rfl rfl ?_
  refine fr_iconst 456 dL_law_455 rfl ?_
  refine fr_iadd 457 dL_law_456 rfl ?_
  refine fr_sld 458 dL_law_457 rfl ⟨by omega, by omega⟩ ?_
  refine fr_callVi 461 (M2 := mX6_packets) [_] dL_law_458 rfl fs_mL_57 fs_oX6_packets fs_iX6_packets fs_l26 rfl rfl (lw_rm (d := 11) (by decide)) (Nat.le_of_ble_eq_true rfl) rfl ?_
  refine (wK_packets hIC hwf (rgx _)).mono ?_
  rintro _ τ ⟨rfl, ic1, f1⟩
  have im1 := hIM.lo hwf f1
  refine ⟨_, rfl, ?_⟩
  refine fr_aload_n 462 dL_law_461 rfl rfl ?_
  refine fr_aload_n 463 dL_law_462 rfl rfl ?_
  refine fr_iload_n 464 dL_law_463 rfl rfl ?_
  refine fr_iconst 465 dL_law_464 rfl ?_
  refine fr_iadd 466 dL_law_465 rfl ?_
  refine fr_sld 467 dL_law_466 rfl ⟨by omega, by omega⟩ ?_
  refine fr_callVi 470 (M2 := mX7_packets) [_] dL_law_467 rfl fs_mL_60 fs_oX7_packets fs_iX7_packets fs_l0 rfl rfl (lw_rm (d := 4) (by decide)) (Nat.le_of_ble_eq_true rfl) rfl ?_
  refine (wM_packets im1 hwf (rgx _)).mono ?_
  rintro _ υ ⟨rfl, im2, f2⟩
  have ic2 := ic1.hi f2
  refine ⟨_, rfl, ?_⟩
  refine fr_icmp_same 845 dL_law_470 rfl ?_
  exact hk υ _ ic2 im2 hwf
set_option maxRecDepth 100000 in
set_option maxHeartbeats 3000000 in
theorem lw_c11 {L : Nat} {xs : Nat → Int32} {i : Int} {σ : fs_S} {A : ab} (hi : 0 ≤ i ∧ i + 6 ≤ (L : Int)) (hL : L ≤ 3072) (hIC : IC σ A) (hIM : IM σ A) (hwf : awf A) (hk : ∀ (τ : fs_S) (B : ab), IC τ B → IM τ B → awf B → fs_W (lwΓ L xs) mL_law 845 [some (.inr 2000), some (.inr 26), some (.inr 0), some (.inl i)] [] τ) : fs_W (lwΓ L xs) mL_law 475 [some (.inr 2000), some (.inr 26), some (.inr 0), some (.inl i)] [] σ := by
  have hrg : i < 4000 := by omega
  refine fr_aload_n 476 dL_law_475 rfl rfl ?_
  refine fr_aload_n 477 dL_law_476 rfl rfl ?_
  refine fr_iload_n 478 dL_law_477 rfl rfl ?_
  refine fr_iconst 479 dL_law_478 rfl ?_
  refine fr_iadd 480 dL_law_479 rfl ?_
  refine fr_sld 481 dL_law_480 rfl ⟨by omega, by omega⟩ ?_
  refine fr_aload_n 482 dL_law_481 rfl rfl ?_
  refine fr_iload_n 483 dL_law_482 rfl rfl ?_
  refine fr_iconst 484 dL_law_483 rfl ?_
  refine fr_iadd 485 dL_law_484 rfl ?_
  refine fr_sld 486 dL_law_485 rfl ⟨by omega, by omega⟩ ?_
  refine fr_callVi 489 (M2 := mX6_split) [_, _] dL_law_486 rfl fs_mL_61 fs_oX6_split fs_iX6_split fs_l26 rfl rfl (lw_rm (d := 3) (by decide)) (Nat.le_of_ble_eq_true rfl) rfl ?_
  refine (wK_split hIC hwf (rgx _) (rgx _)).mono ?_
  rintro _ τ ⟨rfl, ic1, f1⟩
  have im1 := hIM.lo hwf f1
  refine ⟨_, rfl, ?_⟩
  refine fr_aload_n 490 dL_law_489 rfl rfl ?_
  refine fr_aload_n 491 dL_law_490 rfl rfl ?_
  refine fr_iload_n 492 dL_law_491 rfl rfl ?_
  refine fr_iconst 493 dL_law_492 rfl ?_
  refine fr_iadd 494 dL_law_493 rfl ?_
  refine fr_sld 495 dL_law_494 rfl ⟨by omega, by omega⟩ ?_
  refine fr_aload_n 496 dL_law_495 rfl rfl ?_
  refine fr_iload_n 497 dL_law_496 rfl rfl ?_
  refine fr_iconst 498 dL_law_497 rfl ?_
  refine fr_iadd 499 dL_law_498 rfl ?_
  refine fr_sld 500 dL_law_499 rfl ⟨by omega, by omega⟩ ?_
  refine fr_callVi 503 (M2 := mX7_split) [_, _] dL_law_500 rfl fs_mL_64 fs_oX7_split fs_iX7_split fs_l0 rfl rfl (lw_rm (d := 4) (by decide)) (Nat.le_of_ble_eq_true rfl) rfl ?_
  refine (wM_split im1 hwf (rgx _) (rgx _)).mono ?_
  rintro _ υ ⟨rfl, im2, f2⟩
  have ic2 := ic1.hi f2
  refine ⟨_, rfl, ?_⟩
  refine fr_icmp_same 845 dL_law_503 rfl ?_
  exact hk υ _ ic2 im2 hwf
set_option maxRecDepth 100000 in
set_option maxHeartbeats 3000000 in
theorem lw_c12 {L : Nat} {xs : Nat → Int32} {i : Int} {σ : fs_S} {A : ab} (hi : 0 ≤ i ∧ i + 6 ≤ (L : Int)) (hL : L ≤ 3072) (hIC : IC σ A) (hIM : IM σ A) (hwf : awf A) (hk : ∀ (τ : fs_S) (B : ab), IC τ B → IM τ B → awf B → fs_W (lwΓ L xs) mL_law 845 [some (.inr 2000), some (.inr 26), some (.inr 0), some (.inl i)] [] τ) : fs_W (lwΓ L xs) mL_law 508 [some (.inr 2000), some (.inr 26), some (.inr 0), some (.inl i)] [] σ := by
  have hrg : i < 4000 := by omega
  refine fr_aload_n 509 dL_law_508 rfl rfl ?_
  refine fr_aload_n 510 dL_law_509 rfl rfl ?_
  refine fr_iload_n 511 dL_law_510 rfl rfl ?_
  refine fr_iconst 512 dL_law_511 rfl ?_
  refine fr_iadd 513 dL_law_512 rfl ?_
  refine fr_sld 514 dL_law_513 rfl ⟨by omega, by omega⟩ ?_
  refine fr_aload_n 515 dL_law_514 rfl rfl ?_
  refine fr_iload_n 516 dL_law_515 rfl rfl ?_
  refine fr_iconst 517 dL_law_516 rfl ?_
  refine fr_iadd 518 dL_law_517 rfl ?_
  refine fr_sld 519 dL_law_518 rfl ⟨by omega, by omega⟩ ?_
  refine fr_aload_n 520 dL_law_519 rfl rfl ?_
  refine fr_iload_n 521 dL_law_520 rfl rfl ?_
  refine fr_iconst 522 dL_law_521 rfl ?_
  refine fr_iadd 523 dL_law_522 rfl ?_
  refine fr_sld 524 dL_law_523 rfl ⟨by omega, by omega⟩ ?_
  refine fr_aload_n 525 dL_law_524 rfl rfl ?_
  refine fr_iload_n 526 dL_law_525 rfl rfl ?_
  refine fr_iconst 527 dL_law_526 rfl ?_
  refine fr_iadd 528 dL_law_527 rfl ?_
  refine fr_sld 529 dL_law_528 rfl ⟨by omega, by omega⟩ ?_
  refine fr_callVi 532 (M2 := mX6_prefix) [_, _, _, _] dL_law_529 rfl fs_mL_65 fs_oX6_prefix fs_iX6_prefix fs_l26 rfl rfl (lw_rm (d := 2) (by decide)) (Nat.le_of_ble_eq_true rfl) rfl ?_
  refine (wK_prefix hIC hwf (rgx _) (rgx _) (rgx _) (rgx _)).mono ?_
  rintro _ τ ⟨rfl, ic1, f1⟩
  have im1 := hIM.lo hwf f1
  refine ⟨_, rfl, ?_⟩
  refine fr_aload_n 533 dL_law_532 rfl rfl ?_
  refine fr_aload_n 534 dL_law_533 rfl rfl ?_
  refine fr_iload_n 535 dL_law_534 rfl rfl ?_
  refine fr_iconst 536 dL_law_535 rfl ?_
  refine fr_iadd 537 dL_law_536 rfl ?_
  refine fr_sld 538 dL_law_537 rfl ⟨by omega, by omega⟩ ?_
  refine fr_aload_n 539 dL_law_538 rfl rfl ?_
  refine fr_iload_n 540 dL_law_539 rfl rfl ?_
  refine fr_iconst 541 dL_law_540 rfl ?_
  refine fr_iadd 542 dL_law_541 rfl ?_
  refine fr_sld 543 dL_law_542 rfl ⟨by omega, by omega⟩ ?_
  refine fr_aload_n 544 dL_law_543 rfl rfl ?_
  refine fr_iload_n 545 dL_law_544 rfl rfl ?_
  refine fr_iconst 546 dL_law_545 rfl ?_
  refine fr_iadd 547 dL_law_546 rfl ?_
  refine fr_sld 548 dL_law_547 rfl ⟨by omega, by omega⟩ ?_
  refine fr_aload_n 549 dL_law_548 rfl rfl ?_
  refine fr_iload_n 550 dL_law_549 rfl rfl ?_
  refine fr_iconst 551 dL_law_550 rfl ?_
  refine fr_iadd 552 dL_law_551 rfl ?_
  refine fr_sld 553 dL_law_552 rfl ⟨by omega, by omega⟩ ?_
  refine fr_callVi 556 (M2 := mX7_prefix) [_, _, _, _] dL_law_553 rfl fs_mL_68 fs_oX7_prefix fs_iX7_prefix fs_l0 rfl rfl (lw_rm (d := 3) (by decide)) (Nat.le_of_ble_eq_true rfl) rfl ?_
  refine (wM_prefix im1 hwf (rgx _) (rgx _) (rgx _) (rgx _)).mono ?_
  rintro _ υ ⟨rfl, im2, f2⟩
  have ic2 := ic1.hi f2
  refine ⟨_, rfl, ?_⟩
  refine fr_icmp_same 845 dL_law_556 rfl ?_
  exact hk υ _ ic2 im2 hwf
set_option maxRecDepth 100000 in
set_option maxHeartbeats 3000000 in
theorem lw_c13 {L : Nat} {xs : Nat → Int32} {i : Int} {σ : fs_S} {A : ab} (hi : 0 ≤ i ∧ i + 6 ≤ (L : Int)) (hL : L ≤ 3072) (hIC : IC σ A) (hIM : IM σ A) (hwf : awf A) (hk : ∀ (τ : fs_S) (B : ab), IC τ B → IM τ B → awf B → fs_W (lwΓ L xs) mL_law 845 [some (.inr 2000), some (.inr 26), some (.inr 0), some (.inl i)] [] τ) : fs_W (lwΓ L xs) mL_law 561 [some (.inr 2000), some (.inr 26), some (.inr 0), some (.inl i)] [] σ := by
  have hrg : i < 4000 := by omega
  refine fr_aload_n 562 dL_law_561 rfl rfl ?_
  refine fr_aload_n 563 dL_law_562 rfl rfl ?_
  refine fr_iload_n 564 dL_law_563 rfl rfl ?_
  refine fr_iconst 565 dL_law_564 rfl ?_
  refine fr_iadd 566 dL_law_565 rfl ?_
  refine fr_sld 567 dL_law_566 rfl ⟨by omega, by omega⟩ ?_
  refine fr_aload_n 568 dL_law_567 rfl rfl ?_
  refine fr_iload_n 569 dL_law_568 rfl rfl ?_
  refine fr_iconst 570 dL_law_569 rfl ?_
  refine fr_iadd 571 dL_law_570 rfl ?_
  refine fr_sld 572 dL_law_571 rfl ⟨by omega, by omega⟩ ?_
  refine fr_callVi 575 (M2 := mX6_tuple) [_, _] dL_law_572 rfl fs_mL_69 fs_oX6_tuple fs_iX6_tuple fs_l26 rfl rfl (lw_rm (d := 9) (by decide)) (Nat.le_of_ble_eq_true rfl) rfl ?_
  refine (wK_tuple hIC hwf (rgx _) (rgx _)).mono ?_
  rintro _ τ ⟨rfl, ic1, f1⟩
  have im1 := hIM.lo hwf f1
  refine ⟨_, rfl, ?_⟩
  refine fr_aload_n 576 dL_law_575 rfl rfl ?_
  refine fr_aload_n 577 dL_law_576 rfl rfl ?_
  refine fr_iload_n 578 dL_law_577 rfl rfl ?_
  refine fr_iconst 579 dL_law_578 rfl ?_
  refine fr_iadd 580 dL_law_579 rfl ?_
  refine fr_sld 581 dL_law_580 rfl ⟨by omega, by omega⟩ ?_
  refine fr_aload_n 582 dL_law_581 rfl rfl ?_
  refine fr_iload_n 583 dL_law_582 rfl rfl ?_
  refine fr_iconst 584 dL_law_583 rfl ?_
  refine fr_iadd 585 dL_law_584 rfl ?_
  refine fr_sld 586 dL_law_585 rfl ⟨by omega, by omega⟩ ?_
  refine fr_callVi 589 (M2 := mX7_tuple) [_, _] dL_law_586 rfl fs_mL_72 fs_oX7_tuple fs_iX7_tuple fs_l0 rfl rfl (lw_rm (d := 4) (by decide)) (Nat.le_of_ble_eq_true rfl) rfl ?_
  refine (wM_tuple im1 hwf (rgx _) (rgx _)).mono ?_
  rintro _ υ ⟨rfl, im2, f2⟩
  have ic2 := ic1.hi f2
  refine ⟨_, rfl, ?_⟩
  refine fr_icmp_same 845 dL_law_589 rfl ?_
  exact hk υ _ ic2 im2 hwf
set_option maxRecDepth 100000 in
set_option maxHeartbeats 3000000 in
theorem lw_c14 {L : Nat} {xs : Nat → Int32} {i : Int} {σ : fs_S} {A : ab} (hi : 0 ≤ i ∧ i + 6 ≤ (L : Int)) (hL : L ≤ 3072) (hIC : IC σ A) (hIM : IM σ A) (hwf : awf A) (hk : ∀ (τ : fs_S) (B : ab), IC τ B → IM τ B → awf B → fs_W (lwΓ L xs) mL_law 845 [some (.inr 2000), some (.inr 26), some (.inr 0), some (.inl i)] [] τ) : fs_W (lwΓ L xs) mL_law 594 [some (.inr 2000), some (.inr 26), some (.inr 0), some (.inl i)] [] σ := by
  have hrg : i < 4000 := by omega
  refine fr_aload_n 595 dL_law_594 rfl rfl ?_
  refine fr_aload_n 596 dL_law_595 rfl rfl ?_
  refine fr_iload_n 597 dL_law_596 rfl rfl ?_
  refine fr_iconst 598 dL_law_597 rfl ?_
  refine fr_iadd 599 dL_law_598 rfl ?_
  refine fr_sld 600 dL_law_599 rfl ⟨by omega, by omega⟩ ?_
  refine fr_aload_n 601 dL_law_600 rfl rfl ?_
  refine fr_iload_n 602 dL_law_601 rfl rfl ?_
  refine fr_iconst 603 dL_law_602 rfl ?_
  refine fr_iadd 604 dL_law_603 rfl ?_
  refine fr_sld 605 dL_law_604 rfl ⟨by omega, by omega⟩ ?_
  refine fr_aload_n 606 dL_law_605 rfl rfl ?_
  refine fr_iload_n 607 dL_law_606 rfl rfl ?_
  refine fr_iconst 608 dL_law_607 rfl ?_
  refine fr_iadd 609 dL_law_608 rfl ?_
  refine fr_sld 610 dL_law_609 rfl ⟨by omega, by omega⟩ ?_
  refine fr_aload_n 611 dL_law_610 rfl rfl ?_
  refine fr_iload_n 612 dL_law_611 rfl rfl ?_
  refine fr_iconst 613 dL_law_612 rfl ?_
  refine fr_iadd 614 dL_law_613 rfl ?_
  refine fr_sld 615 dL_law_614 rfl ⟨by omega, by omega⟩ ?_
  refine fr_aload_n 616 dL_law_615 rfl rfl ?_
  refine fr_iload_n 617 dL_law_616 rfl rfl ?_
  refine fr_iconst 618 dL_law_617 rfl ?_
  refine fr_iadd 619 dL_law_618 rfl ?_
  refine fr_sld 620 dL_law_619 rfl ⟨by omega, by omega⟩ ?_
  refine fr_callVi 623 (M2 := mX6_probe) [_, _, _, _, _] dL_law_620 rfl fs_mL_73 fs_oX6_probe fs_iX6_probe fs_l26 rfl rfl (lw_rm (d := 9) (by decide)) (Nat.le_of_ble_eq_true rfl) rfl ?_
  refine (wK_probe hIC hwf (rgx _) (rgx _) (rgx _) (rgx _) (rgx _)).mono ?_
  rintro _ τ ⟨rfl, ic1, f1⟩
  have im1 := hIM.lo hwf f1
  refine ⟨_, rfl, ?_⟩
  refine fr_aload_n 624 dL_law_623 rfl rfl ?_
  refine fr_aload_n 625 dL_law_624 rfl rfl ?_
  refine fr_iload_n 626 dL_law_625 rfl rfl ?_
  refine fr_iconst 627 dL_law_626 rfl ?_
  refine fr_iadd 628 dL_law_627 rfl ?_
  refine fr_sld 629 dL_law_628 rfl ⟨by omega, by omega⟩ ?_
  refine fr_aload_n 630 dL_law_629 rfl rfl ?_
  refine fr_iload_n 631 dL_law_630 rfl rfl ?_
  refine fr_iconst 632 dL_law_631 rfl ?_
  refine fr_iadd 633 dL_law_632 rfl ?_
  refine fr_sld 634 dL_law_633 rfl ⟨by omega, by omega⟩ ?_
  refine fr_aload_n 635 dL_law_634 rfl rfl ?_
  refine fr_iload_n 636 dL_law_635 rfl rfl ?_
  refine fr_iconst 637 dL_law_636 rfl ?_
  refine fr_iadd 638 dL_law_637 rfl ?_
  refine fr_sld 639 dL_law_638 rfl ⟨by omega, by omega⟩ ?_
  refine fr_aload_n 640 dL_law_639 rfl rfl ?_
  refine fr_iload_n 641 dL_law_640 rfl rfl ?_
  refine fr_iconst 642 dL_law_641 rfl ?_
  refine fr_iadd 643 dL_law_642 rfl ?_
  refine fr_sld 644 dL_law_643 rfl ⟨by omega, by omega⟩ ?_
  refine fr_aload_n 645 dL_law_644 rfl rfl ?_
  refine fr_iload_n 646 dL_law_645 rfl rfl ?_
  refine fr_iconst 647 dL_law_646 rfl ?_
  refine fr_iadd 648 dL_law_647 rfl ?_
  refine fr_sld 649 dL_law_648 rfl ⟨by omega, by omega⟩ ?_
  refine fr_callVi 652 (M2 := mX7_probe) [_, _, _, _, _] dL_law_649 rfl fs_mL_77 fs_oX7_probe fs_iX7_probe fs_l0 rfl rfl (lw_rm (d := 4) (by decide)) (Nat.le_of_ble_eq_true rfl) rfl ?_
  refine (wM_probe im1 hwf (rgx _) (rgx _) (rgx _) (rgx _) (rgx _)).mono ?_
  rintro _ υ ⟨rfl, im2, f2⟩
  have ic2 := ic1.hi f2
  refine ⟨_, rfl, ?_⟩
  refine fr_icmp_same 845 dL_law_652 rfl ?_
  exact hk υ _ ic2 im2 hwf
set_option maxRecDepth 100000 in
set_option maxHeartbeats 3000000 in
theorem lw_c15 {L : Nat} {xs : Nat → Int32} {i : Int} {σ : fs_S} {A : ab} (hi : 0 ≤ i ∧ i + 6 ≤ (L : Int)) (hL : L ≤ 3072) (hIC : IC σ A) (hIM : IM σ A) (hwf : awf A) (hk : ∀ (τ : fs_S) (B : ab), IC τ B → IM τ B → awf B → fs_W (lwΓ L xs) mL_law 845 [some (.inr 2000), some (.inr 26), some (.inr 0), some (.inl i)] [] τ) : fs_W (lwΓ L xs) mL_law 657 [some (.inr 2000), some (.inr 26), some (.inr 0), some (.inl i)] [] σ := by
  have hrg : i < 4000 := by omega
  refine fr_aload_n 658 dL_law_657 rfl rfl ?_
  refine fr_aload_n 659 dL_law_658 rfl rfl ?_
  refine fr_iload_n 660 dL_law_659 rfl rfl ?_
  refine fr_iconst 661 dL_law_660 rfl ?_
  refine fr_iadd 662 dL_law_661 rfl ?_
  refine fr_sld 663 dL_law_662 rfl ⟨by omega, by omega⟩ ?_
  refine fr_aload_n 664 dL_law_663 rfl rfl ?_
  refine fr_iload_n 665 dL_law_664 rfl rfl ?_
  refine fr_iconst 666 dL_law_665 rfl ?_
  refine fr_iadd 667 dL_law_666 rfl ?_
  refine fr_sld 668 dL_law_667 rfl ⟨by omega, by omega⟩ ?_
  refine fr_callVi 671 (M2 := mX6_grow) [_, _] dL_law_668 rfl fs_mL_78 fs_oX6_grow fs_iX6_grow fs_l26 rfl rfl (lw_rm (d := 0) (by decide)) (Nat.le_of_ble_eq_true rfl) rfl ?_
  refine (wK_grow hIC hwf (rgx _) (rgx _)).mono ?_
  rintro _ τ ⟨rfl, ic1, f1⟩
  have im1 := hIM.lo hwf f1
  refine ⟨_, rfl, ?_⟩
  refine fr_aload_n 672 dL_law_671 rfl rfl ?_
  refine fr_aload_n 673 dL_law_672 rfl rfl ?_
  refine fr_iload_n 674 dL_law_673 rfl rfl ?_
  refine fr_iconst 675 dL_law_674 rfl ?_
  refine fr_iadd 676 dL_law_675 rfl ?_
  refine fr_sld 677 dL_law_676 rfl ⟨by omega, by omega⟩ ?_
  refine fr_aload_n 678 dL_law_677 rfl rfl ?_
  refine fr_iload_n 679 dL_law_678 rfl rfl ?_
  refine fr_iconst 680 dL_law_679 rfl ?_
  refine fr_iadd 681 dL_law_680 rfl ?_
  refine fr_sld 682 dL_law_681 rfl ⟨by omega, by omega⟩ ?_
  refine fr_callVi 685 (M2 := mX7_grow) [_, _] dL_law_682 rfl fs_mL_81 fs_oX7_grow fs_iX7_grow fs_l0 rfl rfl (lw_rm (d := 1) (by decide)) (Nat.le_of_ble_eq_true rfl) rfl ?_
  refine (wM_grow im1 hwf (rgx _) (rgx _)).mono ?_
  rintro _ υ ⟨rfl, im2, f2⟩
  have ic2 := ic1.hi f2
  refine ⟨_, rfl, ?_⟩
  refine fr_icmp_same 845 dL_law_685 rfl ?_
  exact hk υ _ ic2 im2 (sGrow_wf hwf _ _)
set_option maxRecDepth 100000 in
set_option maxHeartbeats 3000000 in
theorem lw_c16 {L : Nat} {xs : Nat → Int32} {i : Int} {σ : fs_S} {A : ab} (hi : 0 ≤ i ∧ i + 6 ≤ (L : Int)) (hL : L ≤ 3072) (hIC : IC σ A) (hIM : IM σ A) (hwf : awf A) (hk : ∀ (τ : fs_S) (B : ab), IC τ B → IM τ B → awf B → fs_W (lwΓ L xs) mL_law 845 [some (.inr 2000), some (.inr 26), some (.inr 0), some (.inl i)] [] τ) : fs_W (lwΓ L xs) mL_law 690 [some (.inr 2000), some (.inr 26), some (.inr 0), some (.inl i)] [] σ := by
  have hrg : i < 4000 := by omega
  refine fr_aload_n 691 dL_law_690 rfl rfl ?_
  refine fr_aload_n 692 dL_law_691 rfl rfl ?_
  refine fr_iload_n 693 dL_law_692 rfl rfl ?_
  refine fr_iconst 694 dL_law_693 rfl ?_
  refine fr_iadd 695 dL_law_694 rfl ?_
  refine fr_sld 696 dL_law_695 rfl ⟨by omega, by omega⟩ ?_
  refine fr_callVi 699 (M2 := mX6_tree) [_] dL_law_696 rfl fs_mL_82 fs_oX6_tree fs_iX6_tree fs_l26 rfl rfl (lw_rm (d := 14) (by decide)) (Nat.le_of_ble_eq_true rfl) rfl ?_
  refine (wK_tree hIC hwf (rgx _)).mono ?_
  rintro _ τ ⟨rfl, ic1, f1⟩
  have im1 := hIM.lo hwf f1
  refine ⟨_, rfl, ?_⟩
  refine fr_aload_n 700 dL_law_699 rfl rfl ?_
  refine fr_aload_n 701 dL_law_700 rfl rfl ?_
  refine fr_iload_n 702 dL_law_701 rfl rfl ?_
  refine fr_iconst 703 dL_law_702 rfl ?_
  refine fr_iadd 704 dL_law_703 rfl ?_
  refine fr_sld 705 dL_law_704 rfl ⟨by omega, by omega⟩ ?_
  refine fr_callVi 708 (M2 := mX7_tree) [_] dL_law_705 rfl fs_mL_85 fs_oX7_tree fs_iX7_tree fs_l0 rfl rfl (lw_rm (d := 4) (by decide)) (Nat.le_of_ble_eq_true rfl) rfl ?_
  refine (wM_tree im1 hwf (rgx _)).mono ?_
  rintro _ υ ⟨rfl, im2, f2⟩
  have ic2 := ic1.hi f2
  refine ⟨_, rfl, ?_⟩
  refine fr_icmp_same 845 dL_law_708 rfl ?_
  exact hk υ _ ic2 im2 hwf
set_option maxRecDepth 100000 in
set_option maxHeartbeats 3000000 in
theorem lw_c17 {L : Nat} {xs : Nat → Int32} {i : Int} {σ : fs_S} {A : ab} (hi : 0 ≤ i ∧ i + 6 ≤ (L : Int)) (hL : L ≤ 3072) (hIC : IC σ A) (hIM : IM σ A) (hwf : awf A) (hk : ∀ (τ : fs_S) (B : ab), IC τ B → IM τ B → awf B → fs_W (lwΓ L xs) mL_law 845 [some (.inr 2000), some (.inr 26), some (.inr 0), some (.inl i)] [] τ) : fs_W (lwΓ L xs) mL_law 713 [some (.inr 2000), some (.inr 26), some (.inr 0), some (.inl i)] [] σ := by
  have hrg : i < 4000 := by omega
  refine fr_aload_n 714 dL_law_713 rfl rfl ?_
  refine fr_aload_n 715 dL_law_714 rfl rfl ?_
  refine fr_iload_n 716 dL_law_715 rfl rfl ?_
  refine fr_iconst 717 dL_law_716 rfl ?_
  refine fr_iadd 718 dL_law_717 rfl ?_
  refine fr_sld 719 dL_law_718 rfl ⟨by omega, by omega⟩ ?_
  refine fr_aload_n 720 dL_law_719 rfl rfl ?_
  refine fr_iload_n 721 dL_law_720 rfl rfl ?_
  refine fr_iconst 722 dL_law_721 rfl ?_
  refine fr_iadd 723 dL_law_722 rfl ?_
  refine fr_sld 724 dL_law_723 rfl ⟨by omega, by omega⟩ ?_
  refine fr_aload_n 725 dL_law_724 rfl rfl ?_
  refine fr_iload_n 726 dL_law_725 rfl rfl ?_
  refine fr_iconst 727 dL_law_726 rfl ?_
  refine fr_iadd 728 dL_law_727 rfl ?_
  refine fr_sld 729 dL_law_728 rfl ⟨by omega, by omega⟩ ?_
  refine fr_aload_n 730 dL_law_729 rfl rfl ?_
  refine fr_iload_n 731 dL_law_730 rfl rfl ?_
  refine fr_iconst 732 dL_law_731 rfl ?_
  refine fr_iadd 733 dL_law_732 rfl ?_
  refine fr_sld 734 dL_law_733 rfl ⟨by omega, by omega⟩ ?_
  refine fr_aload_n 735 dL_law_734 rfl rfl ?_
  refine fr_iload_n 736 dL_law_735 rfl rfl ?_
  refine fr_iconst 737 dL_law_736 rfl ?_
  refine fr_iadd 738 dL_law_737 rfl ?_
  refine fr_sld 739 dL_law_738 rfl ⟨by omega, by omega⟩ ?_
  refine fr_callVi 742 (M2 := mX6_walk) [_, _, _, _, _] dL_law_739 rfl fs_mL_86 fs_oX6_walk fs_iX6_walk fs_l26 rfl rfl (lw_rm (d := 3) (by decide)) (Nat.le_of_ble_eq_true rfl) rfl ?_
  refine (wK_walk hIC hwf (rgx _) (rgx _) (rgx _) (rgx _) (rgx _)).mono ?_
  rintro _ τ ⟨rfl, ic1, f1⟩
  have im1 := hIM.lo hwf f1
  refine ⟨_, rfl, ?_⟩
  refine fr_aload_n 743 dL_law_742 rfl rfl ?_
  refine fr_aload_n 744 dL_law_743 rfl rfl ?_
  refine fr_iload_n 745 dL_law_744 rfl rfl ?_
  refine fr_iconst 746 dL_law_745 rfl ?_
  refine fr_iadd 747 dL_law_746 rfl ?_
  refine fr_sld 748 dL_law_747 rfl ⟨by omega, by omega⟩ ?_
  refine fr_aload_n 749 dL_law_748 rfl rfl ?_
  refine fr_iload_n 750 dL_law_749 rfl rfl ?_
  refine fr_iconst 751 dL_law_750 rfl ?_
  refine fr_iadd 752 dL_law_751 rfl ?_
  refine fr_sld 753 dL_law_752 rfl ⟨by omega, by omega⟩ ?_
  refine fr_aload_n 754 dL_law_753 rfl rfl ?_
  refine fr_iload_n 755 dL_law_754 rfl rfl ?_
  refine fr_iconst 756 dL_law_755 rfl ?_
  refine fr_iadd 757 dL_law_756 rfl ?_
  refine fr_sld 758 dL_law_757 rfl ⟨by omega, by omega⟩ ?_
  refine fr_aload_n 759 dL_law_758 rfl rfl ?_
  refine fr_iload_n 760 dL_law_759 rfl rfl ?_
  refine fr_iconst 761 dL_law_760 rfl ?_
  refine fr_iadd 762 dL_law_761 rfl ?_
  refine fr_sld 763 dL_law_762 rfl ⟨by omega, by omega⟩ ?_
  refine fr_aload_n 764 dL_law_763 rfl rfl ?_
  refine fr_iload_n 765 dL_law_764 rfl rfl ?_
  refine fr_iconst 766 dL_law_765 rfl ?_
  refine fr_iadd 767 dL_law_766 rfl ?_
  refine fr_sld 768 dL_law_767 rfl ⟨by omega, by omega⟩ ?_
  refine fr_callVi 771 (M2 := mX7_walk) [_, _, _, _, _] dL_law_768 rfl fs_mL_89 fs_oX7_walk fs_iX7_walk fs_l0 rfl rfl (lw_rm (d := 4) (by decide)) (Nat.le_of_ble_eq_true rfl) rfl ?_
  refine (wM_walk im1 hwf (rgx _) (rgx _) (rgx _) (rgx _) (rgx _)).mono ?_
  rintro _ υ ⟨rfl, im2, f2⟩
  have ic2 := ic1.hi f2
  refine ⟨_, rfl, ?_⟩
  refine fr_icmp_same 845 dL_law_771 rfl ?_
  exact hk υ _ ic2 im2 hwf
set_option maxRecDepth 100000 in
set_option maxHeartbeats 3000000 in
theorem lw_c18 {L : Nat} {xs : Nat → Int32} {i : Int} {σ : fs_S} {A : ab} (hi : 0 ≤ i ∧ i + 6 ≤ (L : Int)) (hL : L ≤ 3072) (hIC : IC σ A) (hIM : IM σ A) (hwf : awf A) (hk : ∀ (τ : fs_S) (B : ab), IC τ B → IM τ B → awf B → fs_W (lwΓ L xs) mL_law 845 [some (.inr 2000), some (.inr 26), some (.inr 0), some (.inl i)] [] τ) : fs_W (lwΓ L xs) mL_law 776 [some (.inr 2000), some (.inr 26), some (.inr 0), some (.inl i)] [] σ := by
  have hrg : i < 4000 := by omega
  refine fr_aload_n 777 dL_law_776 rfl rfl ?_
  refine fr_aload_n 778 dL_law_777 rfl rfl ?_
  refine fr_iload_n 779 dL_law_778 rfl rfl ?_
  refine fr_iconst 780 dL_law_779 rfl ?_
  refine fr_iadd 781 dL_law_780 rfl ?_
  refine fr_sld 782 dL_law_781 rfl ⟨by omega, by omega⟩ ?_
  refine fr_callVi 785 (M2 := mX6_image) [_] dL_law_782 rfl fs_mL_90 fs_oX6_image fs_iX6_image fs_l26 rfl rfl (lw_rm (d := 2) (by decide)) (Nat.le_of_ble_eq_true rfl) rfl ?_
  refine (wK_image hIC hwf (rgx _)).mono ?_
  rintro _ τ ⟨rfl, ic1, f1⟩
  have im1 := hIM.lo hwf f1
  refine ⟨_, rfl, ?_⟩
  refine fr_aload_n 786 dL_law_785 rfl rfl ?_
  refine fr_aload_n 787 dL_law_786 rfl rfl ?_
  refine fr_iload_n 788 dL_law_787 rfl rfl ?_
  refine fr_iconst 789 dL_law_788 rfl ?_
  refine fr_iadd 790 dL_law_789 rfl ?_
  refine fr_sld 791 dL_law_790 rfl ⟨by omega, by omega⟩ ?_
  refine fr_callVi 794 (M2 := mX7_image) [_] dL_law_791 rfl fs_mL_93 fs_oX7_image fs_iX7_image fs_l0 rfl rfl (lw_rm (d := 1) (by decide)) (Nat.le_of_ble_eq_true rfl) rfl ?_
  refine (wM_image im1 hwf (rgx _)).mono ?_
  rintro _ υ ⟨rfl, im2, f2⟩
  have ic2 := ic1.hi f2
  refine ⟨_, rfl, ?_⟩
  refine fr_icmp_same 845 dL_law_794 rfl ?_
  exact hk υ _ ic2 im2 (sImage_wf hwf _)
set_option maxRecDepth 100000 in
set_option maxHeartbeats 3000000 in
theorem lw_c19 {L : Nat} {xs : Nat → Int32} {i : Int} {σ : fs_S} {A : ab} (hi : 0 ≤ i ∧ i + 6 ≤ (L : Int)) (hL : L ≤ 3072) (hIC : IC σ A) (hIM : IM σ A) (hwf : awf A) (hk : ∀ (τ : fs_S) (B : ab), IC τ B → IM τ B → awf B → fs_W (lwΓ L xs) mL_law 845 [some (.inr 2000), some (.inr 26), some (.inr 0), some (.inl i)] [] τ) : fs_W (lwΓ L xs) mL_law 799 [some (.inr 2000), some (.inr 26), some (.inr 0), some (.inl i)] [] σ := by
  have hrg : i < 4000 := by omega
  refine fr_aload_n 800 dL_law_799 rfl rfl ?_
  refine fr_aload_n 801 dL_law_800 rfl rfl ?_
  refine fr_iload_n 802 dL_law_801 rfl rfl ?_
  refine fr_iconst 803 dL_law_802 rfl ?_
  refine fr_iadd 804 dL_law_803 rfl ?_
  refine fr_sld 805 dL_law_804 rfl ⟨by omega, by omega⟩ ?_
  refine fr_callVi 808 (M2 := mX6_restore) [_] dL_law_805 rfl fs_mL_94 fs_oX6_restore fs_iX6_restore fs_l26 rfl rfl (lw_rm (d := 3) (by decide)) (Nat.le_of_ble_eq_true rfl) rfl ?_
  refine (wK_restore hIC hwf (rgx _)).mono ?_
  rintro _ τ ⟨rfl, ic1, f1⟩
  have im1 := hIM.lo hwf f1
  refine ⟨_, rfl, ?_⟩
  refine fr_aload_n 809 dL_law_808 rfl rfl ?_
  refine fr_aload_n 810 dL_law_809 rfl rfl ?_
  refine fr_iload_n 811 dL_law_810 rfl rfl ?_
  refine fr_iconst 812 dL_law_811 rfl ?_
  refine fr_iadd 813 dL_law_812 rfl ?_
  refine fr_sld 814 dL_law_813 rfl ⟨by omega, by omega⟩ ?_
  refine fr_callVi 817 (M2 := mX7_restore) [_] dL_law_814 rfl fs_mL_97 fs_oX7_restore fs_iX7_restore fs_l0 rfl rfl (lw_rm (d := 1) (by decide)) (Nat.le_of_ble_eq_true rfl) rfl ?_
  refine (wM_restore im1 hwf (rgx _)).mono ?_
  rintro _ υ ⟨rfl, im2, f2⟩
  have ic2 := ic1.hi f2
  refine ⟨_, rfl, ?_⟩
  refine fr_icmp_same 845 dL_law_817 rfl ?_
  exact hk υ _ ic2 im2 (sRestore_wf hwf _)
set_option maxRecDepth 100000 in
set_option maxHeartbeats 3000000 in
theorem lw_c20 {L : Nat} {xs : Nat → Int32} {i : Int} {σ : fs_S} {A : ab} (hi : 0 ≤ i ∧ i + 6 ≤ (L : Int)) (hL : L ≤ 3072) (hIC : IC σ A) (hIM : IM σ A) (hwf : awf A) (hk : ∀ (τ : fs_S) (B : ab), IC τ B → IM τ B → awf B → fs_W (lwΓ L xs) mL_law 845 [some (.inr 2000), some (.inr 26), some (.inr 0), some (.inl i)] [] τ) : fs_W (lwΓ L xs) mL_law 822 [some (.inr 2000), some (.inr 26), some (.inr 0), some (.inl i)] [] σ := by
  have hrg : i < 4000 := by omega
  refine fr_aload_n 823 dL_law_822 rfl rfl ?_
  refine fr_aload_n 824 dL_law_823 rfl rfl ?_
  refine fr_iload_n 825 dL_law_824 rfl rfl ?_
  refine fr_iconst 826 dL_law_825 rfl ?_
  refine fr_iadd 827 dL_law_826 rfl ?_
  refine fr_sld 828 dL_law_827 rfl ⟨by omega, by omega⟩ ?_
  refine fr_callVi 831 (M2 := mX6_count) [_] dL_law_828 rfl fs_mL_98 fs_oX6_count fs_iX6_count fs_l26 rfl rfl (lw_rm (d := 12) (by decide)) (Nat.le_of_ble_eq_true rfl) rfl ?_
  refine (wK_count hIC hwf (rgx _)).mono ?_
  rintro _ τ ⟨rfl, ic1, f1⟩
  have im1 := hIM.lo hwf f1
  refine ⟨_, rfl, ?_⟩
  refine fr_aload_n 832 dL_law_831 rfl rfl ?_
  refine fr_aload_n 833 dL_law_832 rfl rfl ?_
  refine fr_iload_n 834 dL_law_833 rfl rfl ?_
  refine fr_iconst 835 dL_law_834 rfl ?_
  refine fr_iadd 836 dL_law_835 rfl ?_
  refine fr_sld 837 dL_law_836 rfl ⟨by omega, by omega⟩ ?_
  refine fr_callVi 840 (M2 := mX7_count) [_] dL_law_837 rfl fs_mL_101 fs_oX7_count fs_iX7_count fs_l0 rfl rfl (lw_rm (d := 5) (by decide)) (Nat.le_of_ble_eq_true rfl) rfl ?_
  refine (cM_count im1 hwf (rgx _)).mono ?_
  rintro _ υ ⟨rfl, im2, f2⟩
  have ic2 := ic1.hi f2
  refine ⟨_, rfl, ?_⟩
  refine fr_icmp_same 845 dL_law_840 rfl ?_
  exact hk υ _ ic2 im2 hwf
theorem fi_and_r (a b : Int) : rg (fi_and a b) := rgx _
set_option maxRecDepth 100000 in
set_option maxHeartbeats 3000000 in
theorem lw_loop {L : Nat} {xs : Nat → Int32} (hL : L ≤ 3072) : ∀ (m : Nat) (i : Int) (σ : fs_S) (A : ab), 0 ≤ i → (L : Int) - i < (m : Int) → i ≤ 4000 → IC σ A → IM σ A → awf A → fs_W (lwΓ L xs) mL_law 18 [some (.inr 2000), some (.inr 26), some (.inr 0), some (.inl i)] [] σ := by
  intro m
  induction m with
  | zero =>
    intro i σ A h0 h1 h2 hIC hIM hwf
    refine fr_iload_n 19 dL_law_18 rfl rfl ?_
    refine fr_aload_n 20 dL_law_19 rfl rfl ?_
    refine fr_slen 21 dL_law_20 rfl ?_
    refine fr_bipush 23 dL_law_21 rfl (by decide) ?_
    refine fr_isub 24 dL_law_23 rfl ?_
    refine fr_icmp_gt 851 27 dL_law_24 rfl rfl (by omega) (by omega) (fun h => ?_) (fun h => by omega)
    refine fr_iconst 852 dL_law_851 rfl ?_
    exact fr_lret dL_law_852
  | succ m ih =>
    intro i σ A h0 h1 h2 hIC hIM hwf
    refine fr_iload_n 19 dL_law_18 rfl rfl ?_
    refine fr_aload_n 20 dL_law_19 rfl rfl ?_
    refine fr_slen 21 dL_law_20 rfl ?_
    refine fr_bipush 23 dL_law_21 rfl (by decide) ?_
    refine fr_isub 24 dL_law_23 rfl ?_
    refine fr_icmp_gt 851 27 dL_law_24 rfl rfl (by omega) (by omega) (fun h => ?_) (fun h => ?_)
    · refine fr_iconst 852 dL_law_851 rfl ?_
      exact fr_lret dL_law_852
    have hi : 0 ≤ i ∧ i + 6 ≤ (L : Int) := by omega
    have hk : ∀ (τ : fs_S) (B : ab), IC τ B → IM τ B → awf B → fs_W (lwΓ L xs) mL_law 845 [some (.inr 2000), some (.inr 26), some (.inr 0), some (.inl i)] [] τ := by
      intro τ B h3 h4 h5
      refine fr_iinc 848 [_, _, _, _] dL_law_845 rfl rfl rfl ?_
      refine fr_goto 18 dL_law_848 rfl ?_
      exact ih (i + 6) τ B (by omega) (by omega) (by omega) h3 h4 h5
    refine fr_aload_n 28 dL_law_27 rfl rfl ?_
    refine fr_iload_n 29 dL_law_28 rfl rfl ?_
    refine fr_sld 30 dL_law_29 rfl ⟨by omega, by omega⟩ ?_
    refine fr_bipush 32 dL_law_30 rfl (by decide) ?_
    refine fr_iand 33 dL_law_32 rfl ?_
    have hv := fi_and_r (xs i.toNat).toInt 31
    generalize fi_and (xs i.toNat).toInt 31 = v at hv ⊢
    rcases (by omega : (v = 0 ∨ v = 1 ∨ v = 2 ∨ v = 3 ∨ v = 4 ∨ v = 5 ∨ v = 6 ∨ v = 7 ∨ v = 8 ∨ v = 9 ∨ v = 10 ∨ v = 11 ∨ v = 12 ∨ v = 13 ∨ v = 14 ∨ v = 15 ∨ v = 16 ∨ v = 17 ∨ v = 18 ∨ v = 19 ∨ v = 20) ∨ (v ≠ 0 ∧ v ≠ 1 ∧ v ≠ 2 ∧ v ≠ 3 ∧ v ≠ 4 ∧ v ≠ 5 ∧ v ≠ 6 ∧ v ≠ 7 ∧ v ≠ 8 ∧ v ≠ 9 ∧ v ≠ 10 ∧ v ≠ 11 ∧ v ≠ 12 ∧ v ≠ 13 ∧ v ≠ 14 ∧ v ≠ 15 ∧ v ≠ 16 ∧ v ≠ 17 ∧ v ≠ 18 ∧ v ≠ 19 ∧ v ≠ 20)) with (rfl | rfl | rfl | rfl | rfl | rfl | rfl | rfl | rfl | rfl | rfl | rfl | rfl | rfl | rfl | rfl | rfl | rfl | rfl | rfl | rfl) | hd
    · refine fr_tblIn 132 dL_law_33 (by decide) (by decide) (by decide) rfl rfl ?_
      exact lw_c0 hi hL hIC hIM hwf hk
    · refine fr_tblIn 175 dL_law_33 (by decide) (by decide) (by decide) rfl rfl ?_
      exact lw_c1 hi hL hIC hIM hwf hk
    · refine fr_tblIn 208 dL_law_33 (by decide) (by decide) (by decide) rfl rfl ?_
      exact lw_c2 hi hL hIC hIM hwf hk
    · refine fr_tblIn 231 dL_law_33 (by decide) (by decide) (by decide) rfl rfl ?_
      exact lw_c3 hi hL hIC hIM hwf hk
    · refine fr_tblIn 264 dL_law_33 (by decide) (by decide) (by decide) rfl rfl ?_
      exact lw_c4 hi hL hIC hIM hwf hk
    · refine fr_tblIn 297 dL_law_33 (by decide) (by decide) (by decide) rfl rfl ?_
      exact lw_c5 hi hL hIC hIM hwf hk
    · refine fr_tblIn 350 dL_law_33 (by decide) (by decide) (by decide) rfl rfl ?_
      exact lw_c6 hi hL hIC hIM hwf hk
    · refine fr_tblIn 373 dL_law_33 (by decide) (by decide) (by decide) rfl rfl ?_
      exact lw_c7 hi hL hIC hIM hwf hk
    · refine fr_tblIn 406 dL_law_33 (by decide) (by decide) (by decide) rfl rfl ?_
      exact lw_c8 hi hL hIC hIM hwf hk
    · refine fr_tblIn 429 dL_law_33 (by decide) (by decide) (by decide) rfl rfl ?_
      exact lw_c9 hi hL hIC hIM hwf hk
    · refine fr_tblIn 452 dL_law_33 (by decide) (by decide) (by decide) rfl rfl ?_
      exact lw_c10 hi hL hIC hIM hwf hk
    · refine fr_tblIn 475 dL_law_33 (by decide) (by decide) (by decide) rfl rfl ?_
      exact lw_c11 hi hL hIC hIM hwf hk
    · refine fr_tblIn 508 dL_law_33 (by decide) (by decide) (by decide) rfl rfl ?_
      exact lw_c12 hi hL hIC hIM hwf hk
    · refine fr_tblIn 561 dL_law_33 (by decide) (by decide) (by decide) rfl rfl ?_
      exact lw_c13 hi hL hIC hIM hwf hk
    · refine fr_tblIn 594 dL_law_33 (by decide) (by decide) (by decide) rfl rfl ?_
      exact lw_c14 hi hL hIC hIM hwf hk
    · refine fr_tblIn 657 dL_law_33 (by decide) (by decide) (by decide) rfl rfl ?_
      exact lw_c15 hi hL hIC hIM hwf hk
    · refine fr_tblIn 690 dL_law_33 (by decide) (by decide) (by decide) rfl rfl ?_
      exact lw_c16 hi hL hIC hIM hwf hk
    · refine fr_tblIn 713 dL_law_33 (by decide) (by decide) (by decide) rfl rfl ?_
      exact lw_c17 hi hL hIC hIM hwf hk
    · refine fr_tblIn 776 dL_law_33 (by decide) (by decide) (by decide) rfl rfl ?_
      exact lw_c18 hi hL hIC hIM hwf hk
    · refine fr_tblIn 799 dL_law_33 (by decide) (by decide) (by decide) rfl rfl ?_
      exact lw_c19 hi hL hIC hIM hwf hk
    · refine fr_tblIn 822 dL_law_33 (by decide) (by decide) (by decide) rfl rfl ?_
      exact lw_c20 hi hL hIC hIM hwf hk
    · refine fr_tblOut 845 dL_law_33 hv (by omega) rfl ?_
      exact hk σ A hIC hIM hwf
