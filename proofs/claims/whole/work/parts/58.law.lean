/-! ===== the law: one call ===== -/
/-- both hold one kitchen -/
def LI (σ : Sto) : Prop := ∃ A, RC A σ ∧ RM A σ ∧ tOk A
set_option maxRecDepth 100000 in
theorem c_type {S : Scr} (i : Nat) (hi : i + 4 ≤ S.1) (hL : S.1 ≤ 2048) (σ : Sto) (h : LI σ) {Q : Option Value → Sto → Prop} (K : ∀ ρ, LI ρ → Ev S RL cL_law 4 (some .boolean) 8 734 [.ref 132, .ref 0, .ref 117, .int (nI i)] [] ρ (Q)) : Ev S RL cL_law 4 (some .boolean) 8 148 [.ref 132, .ref 0, .ref 117, .int (nI i)] [] σ (Q) := by
  obtain ⟨A, hC, hM, hT⟩ := h
  obtain ⟨dc, dm, R, hdc, hdm, h1, h2⟩ := bc_type (S := S) hC hT (S.2 (nI (i + 1)).toNatClampNeg)
  refine ev_aload_n_1 (pc := 148) dL_law_148 ?_
  refine ev_aload_n_0 (pc := 149) dL_law_149 ?_
  refine ev_iload_n_3 (pc := 150) dL_law_150 ?_
  refine ev_iconst (pc := 151) (v := 1) dL_law_151 (by decide) ?_
  refine ev_iaddc (pc := 152) (v := nI (i + 1)) dL_law_152 (nI_add i 1) ?_
  refine ev_scrld (pc := 153) dL_law_153 (vp_in_nI (by omega) (by omega)) ?_
  refine ev_callV (pc := 154) dL_law_154 ml_L_13 (h1) (by decide) ⟨_, rfl, rfl⟩ rfl hdc rfl (Nat.le_of_ble_eq_true rfl) ?_
  rintro r τ ⟨v, A', rfl, hR, hC', hF⟩
  obtain ⟨h3, hT'⟩ := h2 τ v A' hR hC'.1 (hM.fc hF)
  refine ev_aload_n_2 (pc := 157) dL_law_157 ?_
  refine ev_aload_n_0 (pc := 158) dL_law_158 ?_
  refine ev_iload_n_3 (pc := 159) dL_law_159 ?_
  refine ev_iconst (pc := 160) (v := 1) dL_law_160 (by decide) ?_
  refine ev_iaddc (pc := 161) (v := nI (i + 1)) dL_law_161 (nI_add i 1) ?_
  refine ev_scrld (pc := 162) dL_law_162 (vp_in_nI (by omega) (by omega)) ?_
  refine ev_callV (pc := 163) dL_law_163 ml_L_17 (h3) (by decide) ⟨_, rfl, rfl⟩ rfl hdm rfl (Nat.le_of_ble_eq_true rfl) ?_
  rintro r ρ ⟨rfl, hM', hG⟩
  refine ev_icmp_eq (pc := 166) (tgt := 734) dL_law_166 (by decide) (fun h166 => ?_) (fun h166 => by exact absurd rfl h166)
  exact K ρ ⟨A', hC'.fm hG, hM', hT'⟩
set_option maxRecDepth 100000 in
theorem c_clear {S : Scr} (i : Nat) (hi : i + 4 ≤ S.1) (hL : S.1 ≤ 2048) (σ : Sto) (h : LI σ) {Q : Option Value → Sto → Prop} (K : ∀ ρ, LI ρ → Ev S RL cL_law 4 (some .boolean) 8 734 [.ref 132, .ref 0, .ref 117, .int (nI i)] [] ρ (Q)) : Ev S RL cL_law 4 (some .boolean) 8 171 [.ref 132, .ref 0, .ref 117, .int (nI i)] [] σ (Q) := by
  obtain ⟨A, hC, hM, hT⟩ := h
  obtain ⟨dc, dm, R, hdc, hdm, h1, h2⟩ := bc_clear (S := S) hC hT 
  refine ev_aload_n_1 (pc := 171) dL_law_171 ?_
  refine ev_callV (pc := 172) dL_law_172 ml_L_18 (h1) (by decide) ⟨_, rfl, rfl⟩ rfl hdc rfl (Nat.le_of_ble_eq_true rfl) ?_
  rintro r τ ⟨v, A', rfl, hR, hC', hF⟩
  obtain ⟨h3, hT'⟩ := h2 τ v A' hR hC'.1 (hM.fc hF)
  refine ev_aload_n_2 (pc := 175) dL_law_175 ?_
  refine ev_callV (pc := 176) dL_law_176 ml_L_22 (h3) (by decide) ⟨_, rfl, rfl⟩ rfl hdm rfl (Nat.le_of_ble_eq_true rfl) ?_
  rintro r ρ ⟨rfl, hM', hG⟩
  refine ev_icmp_eq (pc := 179) (tgt := 734) dL_law_179 (by decide) (fun h179 => ?_) (fun h179 => by exact absurd rfl h179)
  exact K ρ ⟨A', hC'.fm hG, hM', hT'⟩
set_option maxRecDepth 100000 in
theorem c_kitchen {S : Scr} (i : Nat) (hi : i + 4 ≤ S.1) (hL : S.1 ≤ 2048) (σ : Sto) (h : LI σ) {Q : Option Value → Sto → Prop} (K : ∀ ρ, LI ρ → Ev S RL cL_law 4 (some .boolean) 8 734 [.ref 132, .ref 0, .ref 117, .int (nI i)] [] ρ (Q)) : Ev S RL cL_law 4 (some .boolean) 8 184 [.ref 132, .ref 0, .ref 117, .int (nI i)] [] σ (Q) := by
  obtain ⟨A, hC, hM, hT⟩ := h
  obtain ⟨dc, dm, R, hdc, hdm, h1, h2⟩ := bc_kitchen (S := S) hC hT 
  refine ev_aload_n_1 (pc := 184) dL_law_184 ?_
  refine ev_callV (pc := 185) dL_law_185 ml_L_23 (h1) (by decide) ⟨_, rfl, rfl⟩ rfl hdc rfl (Nat.le_of_ble_eq_true rfl) ?_
  rintro r τ ⟨v, A', rfl, hR, hC', hF⟩
  obtain ⟨h3, hT'⟩ := h2 τ v A' hR hC'.1 (hM.fc hF)
  refine ev_aload_n_2 (pc := 188) dL_law_188 ?_
  refine ev_callV (pc := 189) dL_law_189 ml_L_26 (h3) (by decide) ⟨_, rfl, rfl⟩ rfl hdm rfl (Nat.le_of_ble_eq_true rfl) ?_
  rintro r ρ ⟨rfl, hM', hG⟩
  refine ev_icmp_eq (pc := 192) (tgt := 734) dL_law_192 (by decide) (fun h192 => ?_) (fun h192 => by exact absurd rfl h192)
  exact K ρ ⟨A', hC'.fm hG, hM', hT'⟩
set_option maxRecDepth 100000 in
theorem c_pot {S : Scr} (i : Nat) (hi : i + 4 ≤ S.1) (hL : S.1 ≤ 2048) (σ : Sto) (h : LI σ) {Q : Option Value → Sto → Prop} (K : ∀ ρ, LI ρ → Ev S RL cL_law 4 (some .boolean) 8 734 [.ref 132, .ref 0, .ref 117, .int (nI i)] [] ρ (Q)) : Ev S RL cL_law 4 (some .boolean) 8 197 [.ref 132, .ref 0, .ref 117, .int (nI i)] [] σ (Q) := by
  obtain ⟨A, hC, hM, hT⟩ := h
  obtain ⟨dc, dm, R, hdc, hdm, h1, h2⟩ := bc_pot (S := S) hC hT (S.2 (nI (i + 1)).toNatClampNeg)
  refine ev_aload_n_1 (pc := 197) dL_law_197 ?_
  refine ev_aload_n_0 (pc := 198) dL_law_198 ?_
  refine ev_iload_n_3 (pc := 199) dL_law_199 ?_
  refine ev_iconst (pc := 200) (v := 1) dL_law_200 (by decide) ?_
  refine ev_iaddc (pc := 201) (v := nI (i + 1)) dL_law_201 (nI_add i 1) ?_
  refine ev_scrld (pc := 202) dL_law_202 (vp_in_nI (by omega) (by omega)) ?_
  refine ev_callV (pc := 203) dL_law_203 ml_L_27 (h1) (by decide) ⟨_, rfl, rfl⟩ rfl hdc rfl (Nat.le_of_ble_eq_true rfl) ?_
  rintro r τ ⟨v, A', rfl, hR, hC', hF⟩
  obtain ⟨h3, hT'⟩ := h2 τ v A' hR hC'.1 (hM.fc hF)
  refine ev_aload_n_2 (pc := 206) dL_law_206 ?_
  refine ev_aload_n_0 (pc := 207) dL_law_207 ?_
  refine ev_iload_n_3 (pc := 208) dL_law_208 ?_
  refine ev_iconst (pc := 209) (v := 1) dL_law_209 (by decide) ?_
  refine ev_iaddc (pc := 210) (v := nI (i + 1)) dL_law_210 (nI_add i 1) ?_
  refine ev_scrld (pc := 211) dL_law_211 (vp_in_nI (by omega) (by omega)) ?_
  refine ev_callV (pc := 212) dL_law_212 ml_L_30 (h3) (by decide) ⟨_, rfl, rfl⟩ rfl hdm rfl (Nat.le_of_ble_eq_true rfl) ?_
  rintro r ρ ⟨rfl, hM', hG⟩
  refine ev_icmp_eq (pc := 215) (tgt := 734) dL_law_215 (by decide) (fun h215 => ?_) (fun h215 => by exact absurd rfl h215)
  exact K ρ ⟨A', hC'.fm hG, hM', hT'⟩
set_option maxRecDepth 100000 in
theorem c_brother {S : Scr} (i : Nat) (hi : i + 4 ≤ S.1) (hL : S.1 ≤ 2048) (σ : Sto) (h : LI σ) {Q : Option Value → Sto → Prop} (K : ∀ ρ, LI ρ → Ev S RL cL_law 4 (some .boolean) 8 734 [.ref 132, .ref 0, .ref 117, .int (nI i)] [] ρ (Q)) : Ev S RL cL_law 4 (some .boolean) 8 220 [.ref 132, .ref 0, .ref 117, .int (nI i)] [] σ (Q) := by
  obtain ⟨A, hC, hM, hT⟩ := h
  obtain ⟨dc, dm, R, hdc, hdm, h1, h2⟩ := bc_brother (S := S) hC hT (S.2 (nI (i + 1)).toNatClampNeg) (S.2 (nI (i + 2)).toNatClampNeg)
  refine ev_aload_n_1 (pc := 220) dL_law_220 ?_
  refine ev_aload_n_0 (pc := 221) dL_law_221 ?_
  refine ev_iload_n_3 (pc := 222) dL_law_222 ?_
  refine ev_iconst (pc := 223) (v := 1) dL_law_223 (by decide) ?_
  refine ev_iaddc (pc := 224) (v := nI (i + 1)) dL_law_224 (nI_add i 1) ?_
  refine ev_scrld (pc := 225) dL_law_225 (vp_in_nI (by omega) (by omega)) ?_
  refine ev_aload_n_0 (pc := 226) dL_law_226 ?_
  refine ev_iload_n_3 (pc := 227) dL_law_227 ?_
  refine ev_iconst (pc := 228) (v := 2) dL_law_228 (by decide) ?_
  refine ev_iaddc (pc := 229) (v := nI (i + 2)) dL_law_229 (nI_add i 2) ?_
  refine ev_scrld (pc := 230) dL_law_230 (vp_in_nI (by omega) (by omega)) ?_
  refine ev_callV (pc := 231) dL_law_231 ml_L_31 (h1) (by decide) ⟨_, rfl, rfl⟩ rfl hdc rfl (Nat.le_of_ble_eq_true rfl) ?_
  rintro r τ ⟨v, A', rfl, hR, hC', hF⟩
  obtain ⟨h3, hT'⟩ := h2 τ v A' hR hC'.1 (hM.fc hF)
  refine ev_aload_n_2 (pc := 234) dL_law_234 ?_
  refine ev_aload_n_0 (pc := 235) dL_law_235 ?_
  refine ev_iload_n_3 (pc := 236) dL_law_236 ?_
  refine ev_iconst (pc := 237) (v := 1) dL_law_237 (by decide) ?_
  refine ev_iaddc (pc := 238) (v := nI (i + 1)) dL_law_238 (nI_add i 1) ?_
  refine ev_scrld (pc := 239) dL_law_239 (vp_in_nI (by omega) (by omega)) ?_
  refine ev_aload_n_0 (pc := 240) dL_law_240 ?_
  refine ev_iload_n_3 (pc := 241) dL_law_241 ?_
  refine ev_iconst (pc := 242) (v := 2) dL_law_242 (by decide) ?_
  refine ev_iaddc (pc := 243) (v := nI (i + 2)) dL_law_243 (nI_add i 2) ?_
  refine ev_scrld (pc := 244) dL_law_244 (vp_in_nI (by omega) (by omega)) ?_
  refine ev_callV (pc := 245) dL_law_245 ml_L_35 (h3) (by decide) ⟨_, rfl, rfl⟩ rfl hdm rfl (Nat.le_of_ble_eq_true rfl) ?_
  rintro r ρ ⟨rfl, hM', hG⟩
  refine ev_icmp_eq (pc := 248) (tgt := 734) dL_law_248 (by decide) (fun h248 => ?_) (fun h248 => by exact absurd rfl h248)
  exact K ρ ⟨A', hC'.fm hG, hM', hT'⟩
set_option maxRecDepth 100000 in
theorem c_off {S : Scr} (i : Nat) (hi : i + 4 ≤ S.1) (hL : S.1 ≤ 2048) (σ : Sto) (h : LI σ) {Q : Option Value → Sto → Prop} (K : ∀ ρ, LI ρ → Ev S RL cL_law 4 (some .boolean) 8 734 [.ref 132, .ref 0, .ref 117, .int (nI i)] [] ρ (Q)) : Ev S RL cL_law 4 (some .boolean) 8 253 [.ref 132, .ref 0, .ref 117, .int (nI i)] [] σ (Q) := by
  obtain ⟨A, hC, hM, hT⟩ := h
  obtain ⟨dc, dm, R, hdc, hdm, h1, h2⟩ := bc_off (S := S) hC hT (S.2 (nI (i + 1)).toNatClampNeg) (S.2 (nI (i + 2)).toNatClampNeg)
  refine ev_aload_n_1 (pc := 253) dL_law_253 ?_
  refine ev_aload_n_0 (pc := 254) dL_law_254 ?_
  refine ev_iload_n_3 (pc := 255) dL_law_255 ?_
  refine ev_iconst (pc := 256) (v := 1) dL_law_256 (by decide) ?_
  refine ev_iaddc (pc := 257) (v := nI (i + 1)) dL_law_257 (nI_add i 1) ?_
  refine ev_scrld (pc := 258) dL_law_258 (vp_in_nI (by omega) (by omega)) ?_
  refine ev_aload_n_0 (pc := 259) dL_law_259 ?_
  refine ev_iload_n_3 (pc := 260) dL_law_260 ?_
  refine ev_iconst (pc := 261) (v := 2) dL_law_261 (by decide) ?_
  refine ev_iaddc (pc := 262) (v := nI (i + 2)) dL_law_262 (nI_add i 2) ?_
  refine ev_scrld (pc := 263) dL_law_263 (vp_in_nI (by omega) (by omega)) ?_
  refine ev_callV (pc := 264) dL_law_264 ml_L_36 (h1) (by decide) ⟨_, rfl, rfl⟩ rfl hdc rfl (Nat.le_of_ble_eq_true rfl) ?_
  rintro r τ ⟨v, A', rfl, hR, hC', hF⟩
  obtain ⟨h3, hT'⟩ := h2 τ v A' hR hC'.1 (hM.fc hF)
  refine ev_aload_n_2 (pc := 267) dL_law_267 ?_
  refine ev_aload_n_0 (pc := 268) dL_law_268 ?_
  refine ev_iload_n_3 (pc := 269) dL_law_269 ?_
  refine ev_iconst (pc := 270) (v := 1) dL_law_270 (by decide) ?_
  refine ev_iaddc (pc := 271) (v := nI (i + 1)) dL_law_271 (nI_add i 1) ?_
  refine ev_scrld (pc := 272) dL_law_272 (vp_in_nI (by omega) (by omega)) ?_
  refine ev_aload_n_0 (pc := 273) dL_law_273 ?_
  refine ev_iload_n_3 (pc := 274) dL_law_274 ?_
  refine ev_iconst (pc := 275) (v := 2) dL_law_275 (by decide) ?_
  refine ev_iaddc (pc := 276) (v := nI (i + 2)) dL_law_276 (nI_add i 2) ?_
  refine ev_scrld (pc := 277) dL_law_277 (vp_in_nI (by omega) (by omega)) ?_
  refine ev_callV (pc := 278) dL_law_278 ml_L_39 (h3) (by decide) ⟨_, rfl, rfl⟩ rfl hdm rfl (Nat.le_of_ble_eq_true rfl) ?_
  rintro r ρ ⟨rfl, hM', hG⟩
  refine ev_icmp_eq (pc := 281) (tgt := 734) dL_law_281 (by decide) (fun h281 => ?_) (fun h281 => by exact absurd rfl h281)
  exact K ρ ⟨A', hC'.fm hG, hM', hT'⟩
set_option maxRecDepth 100000 in
theorem c_now {S : Scr} (i : Nat) (hi : i + 4 ≤ S.1) (hL : S.1 ≤ 2048) (σ : Sto) (h : LI σ) {Q : Option Value → Sto → Prop} (K : ∀ ρ, LI ρ → Ev S RL cL_law 4 (some .boolean) 8 734 [.ref 132, .ref 0, .ref 117, .int (nI i)] [] ρ (Q)) : Ev S RL cL_law 4 (some .boolean) 8 286 [.ref 132, .ref 0, .ref 117, .int (nI i)] [] σ (Q) := by
  obtain ⟨A, hC, hM, hT⟩ := h
  obtain ⟨dc, dm, R, hdc, hdm, h1, h2⟩ := bc_now (S := S) hC hT (S.2 (nI (i + 1)).toNatClampNeg)
  refine ev_aload_n_1 (pc := 286) dL_law_286 ?_
  refine ev_aload_n_0 (pc := 287) dL_law_287 ?_
  refine ev_iload_n_3 (pc := 288) dL_law_288 ?_
  refine ev_iconst (pc := 289) (v := 1) dL_law_289 (by decide) ?_
  refine ev_iaddc (pc := 290) (v := nI (i + 1)) dL_law_290 (nI_add i 1) ?_
  refine ev_scrld (pc := 291) dL_law_291 (vp_in_nI (by omega) (by omega)) ?_
  refine ev_callV (pc := 292) dL_law_292 ml_L_40 (h1) (by decide) ⟨_, rfl, rfl⟩ rfl hdc rfl (Nat.le_of_ble_eq_true rfl) ?_
  rintro r τ ⟨v, A', rfl, hR, hC', hF⟩
  obtain ⟨h3, hT'⟩ := h2 τ v A' hR hC'.1 (hM.fc hF)
  refine ev_aload_n_2 (pc := 295) dL_law_295 ?_
  refine ev_aload_n_0 (pc := 296) dL_law_296 ?_
  refine ev_iload_n_3 (pc := 297) dL_law_297 ?_
  refine ev_iconst (pc := 298) (v := 1) dL_law_298 (by decide) ?_
  refine ev_iaddc (pc := 299) (v := nI (i + 1)) dL_law_299 (nI_add i 1) ?_
  refine ev_scrld (pc := 300) dL_law_300 (vp_in_nI (by omega) (by omega)) ?_
  refine ev_callV (pc := 301) dL_law_301 ml_L_43 (h3) (by decide) ⟨_, rfl, rfl⟩ rfl hdm rfl (Nat.le_of_ble_eq_true rfl) ?_
  rintro r ρ ⟨rfl, hM', hG⟩
  refine ev_icmp_eq (pc := 304) (tgt := 734) dL_law_304 (by decide) (fun h304 => ?_) (fun h304 => by exact absurd rfl h304)
  exact K ρ ⟨A', hC'.fm hG, hM', hT'⟩
set_option maxRecDepth 100000 in
theorem c_adds {S : Scr} (i : Nat) (hi : i + 4 ≤ S.1) (hL : S.1 ≤ 2048) (σ : Sto) (h : LI σ) {Q : Option Value → Sto → Prop} (K : ∀ ρ, LI ρ → Ev S RL cL_law 4 (some .boolean) 8 734 [.ref 132, .ref 0, .ref 117, .int (nI i)] [] ρ (Q)) : Ev S RL cL_law 4 (some .boolean) 8 309 [.ref 132, .ref 0, .ref 117, .int (nI i)] [] σ (Q) := by
  obtain ⟨A, hC, hM, hT⟩ := h
  obtain ⟨dc, dm, R, hdc, hdm, h1, h2⟩ := bc_adds (S := S) hC hT (S.2 (nI (i + 1)).toNatClampNeg)
  refine ev_aload_n_1 (pc := 309) dL_law_309 ?_
  refine ev_aload_n_0 (pc := 310) dL_law_310 ?_
  refine ev_iload_n_3 (pc := 311) dL_law_311 ?_
  refine ev_iconst (pc := 312) (v := 1) dL_law_312 (by decide) ?_
  refine ev_iaddc (pc := 313) (v := nI (i + 1)) dL_law_313 (nI_add i 1) ?_
  refine ev_scrld (pc := 314) dL_law_314 (vp_in_nI (by omega) (by omega)) ?_
  refine ev_callV (pc := 315) dL_law_315 ml_L_44 (h1) (by decide) ⟨_, rfl, rfl⟩ rfl hdc rfl (Nat.le_of_ble_eq_true rfl) ?_
  rintro r τ ⟨v, A', rfl, hR, hC', hF⟩
  obtain ⟨h3, hT'⟩ := h2 τ v A' hR hC'.1 (hM.fc hF)
  refine ev_aload_n_2 (pc := 318) dL_law_318 ?_
  refine ev_aload_n_0 (pc := 319) dL_law_319 ?_
  refine ev_iload_n_3 (pc := 320) dL_law_320 ?_
  refine ev_iconst (pc := 321) (v := 1) dL_law_321 (by decide) ?_
  refine ev_iaddc (pc := 322) (v := nI (i + 1)) dL_law_322 (nI_add i 1) ?_
  refine ev_scrld (pc := 323) dL_law_323 (vp_in_nI (by omega) (by omega)) ?_
  refine ev_callV (pc := 324) dL_law_324 ml_L_47 (h3) (by decide) ⟨_, rfl, rfl⟩ rfl hdm rfl (Nat.le_of_ble_eq_true rfl) ?_
  rintro r ρ ⟨rfl, hM', hG⟩
  refine ev_icmp_eq (pc := 327) (tgt := 734) dL_law_327 (by decide) (fun h327 => ?_) (fun h327 => by exact absurd rfl h327)
  exact K ρ ⟨A', hC'.fm hG, hM', hT'⟩
set_option maxRecDepth 100000 in
theorem c_waters {S : Scr} (i : Nat) (hi : i + 4 ≤ S.1) (hL : S.1 ≤ 2048) (σ : Sto) (h : LI σ) {Q : Option Value → Sto → Prop} (K : ∀ ρ, LI ρ → Ev S RL cL_law 4 (some .boolean) 8 734 [.ref 132, .ref 0, .ref 117, .int (nI i)] [] ρ (Q)) : Ev S RL cL_law 4 (some .boolean) 8 332 [.ref 132, .ref 0, .ref 117, .int (nI i)] [] σ (Q) := by
  obtain ⟨A, hC, hM, hT⟩ := h
  obtain ⟨dc, dm, R, hdc, hdm, h1, h2⟩ := bc_waters (S := S) hC hT 
  refine ev_aload_n_1 (pc := 332) dL_law_332 ?_
  refine ev_callV (pc := 333) dL_law_333 ml_L_48 (h1) (by decide) ⟨_, rfl, rfl⟩ rfl hdc rfl (Nat.le_of_ble_eq_true rfl) ?_
  rintro r τ ⟨v, A', rfl, hR, hC', hF⟩
  obtain ⟨h3, hT'⟩ := h2 τ v A' hR hC'.1 (hM.fc hF)
  refine ev_aload_n_2 (pc := 336) dL_law_336 ?_
  refine ev_callV (pc := 337) dL_law_337 ml_L_51 (h3) (by decide) ⟨_, rfl, rfl⟩ rfl hdm rfl (Nat.le_of_ble_eq_true rfl) ?_
  rintro r ρ ⟨rfl, hM', hG⟩
  refine ev_icmp_eq (pc := 340) (tgt := 734) dL_law_340 (by decide) (fun h340 => ?_) (fun h340 => by exact absurd rfl h340)
  exact K ρ ⟨A', hC'.fm hG, hM', hT'⟩
set_option maxRecDepth 100000 in
theorem c_sends {S : Scr} (i : Nat) (hi : i + 4 ≤ S.1) (hL : S.1 ≤ 2048) (σ : Sto) (h : LI σ) {Q : Option Value → Sto → Prop} (K : ∀ ρ, LI ρ → Ev S RL cL_law 4 (some .boolean) 8 734 [.ref 132, .ref 0, .ref 117, .int (nI i)] [] ρ (Q)) : Ev S RL cL_law 4 (some .boolean) 8 345 [.ref 132, .ref 0, .ref 117, .int (nI i)] [] σ (Q) := by
  obtain ⟨A, hC, hM, hT⟩ := h
  obtain ⟨dc, dm, R, hdc, hdm, h1, h2⟩ := bc_sends (S := S) hC hT (S.2 (nI (i + 1)).toNatClampNeg)
  refine ev_aload_n_1 (pc := 345) dL_law_345 ?_
  refine ev_aload_n_0 (pc := 346) dL_law_346 ?_
  refine ev_iload_n_3 (pc := 347) dL_law_347 ?_
  refine ev_iconst (pc := 348) (v := 1) dL_law_348 (by decide) ?_
  refine ev_iaddc (pc := 349) (v := nI (i + 1)) dL_law_349 (nI_add i 1) ?_
  refine ev_scrld (pc := 350) dL_law_350 (vp_in_nI (by omega) (by omega)) ?_
  refine ev_callV (pc := 351) dL_law_351 ml_L_52 (h1) (by decide) ⟨_, rfl, rfl⟩ rfl hdc rfl (Nat.le_of_ble_eq_true rfl) ?_
  rintro r τ ⟨v, A', rfl, hR, hC', hF⟩
  obtain ⟨h3, hT'⟩ := h2 τ v A' hR hC'.1 (hM.fc hF)
  refine ev_aload_n_2 (pc := 354) dL_law_354 ?_
  refine ev_aload_n_0 (pc := 355) dL_law_355 ?_
  refine ev_iload_n_3 (pc := 356) dL_law_356 ?_
  refine ev_iconst (pc := 357) (v := 1) dL_law_357 (by decide) ?_
  refine ev_iaddc (pc := 358) (v := nI (i + 1)) dL_law_358 (nI_add i 1) ?_
  refine ev_scrld (pc := 359) dL_law_359 (vp_in_nI (by omega) (by omega)) ?_
  refine ev_callV (pc := 360) dL_law_360 ml_L_55 (h3) (by decide) ⟨_, rfl, rfl⟩ rfl hdm rfl (Nat.le_of_ble_eq_true rfl) ?_
  rintro r ρ ⟨rfl, hM', hG⟩
  refine ev_icmp_eq (pc := 363) (tgt := 734) dL_law_363 (by decide) (fun h363 => ?_) (fun h363 => by exact absurd rfl h363)
  exact K ρ ⟨A', hC'.fm hG, hM', hT'⟩
set_option maxRecDepth 100000 in
theorem c_colds {S : Scr} (i : Nat) (hi : i + 4 ≤ S.1) (hL : S.1 ≤ 2048) (σ : Sto) (h : LI σ) {Q : Option Value → Sto → Prop} (K : ∀ ρ, LI ρ → Ev S RL cL_law 4 (some .boolean) 8 734 [.ref 132, .ref 0, .ref 117, .int (nI i)] [] ρ (Q)) : Ev S RL cL_law 4 (some .boolean) 8 368 [.ref 132, .ref 0, .ref 117, .int (nI i)] [] σ (Q) := by
  obtain ⟨A, hC, hM, hT⟩ := h
  obtain ⟨dc, dm, R, hdc, hdm, h1, h2⟩ := bc_colds (S := S) hC hT (S.2 (nI (i + 1)).toNatClampNeg) (S.2 (nI (i + 2)).toNatClampNeg)
  refine ev_aload_n_1 (pc := 368) dL_law_368 ?_
  refine ev_aload_n_0 (pc := 369) dL_law_369 ?_
  refine ev_iload_n_3 (pc := 370) dL_law_370 ?_
  refine ev_iconst (pc := 371) (v := 1) dL_law_371 (by decide) ?_
  refine ev_iaddc (pc := 372) (v := nI (i + 1)) dL_law_372 (nI_add i 1) ?_
  refine ev_scrld (pc := 373) dL_law_373 (vp_in_nI (by omega) (by omega)) ?_
  refine ev_aload_n_0 (pc := 374) dL_law_374 ?_
  refine ev_iload_n_3 (pc := 375) dL_law_375 ?_
  refine ev_iconst (pc := 376) (v := 2) dL_law_376 (by decide) ?_
  refine ev_iaddc (pc := 377) (v := nI (i + 2)) dL_law_377 (nI_add i 2) ?_
  refine ev_scrld (pc := 378) dL_law_378 (vp_in_nI (by omega) (by omega)) ?_
  refine ev_callV (pc := 379) dL_law_379 ml_L_56 (h1) (by decide) ⟨_, rfl, rfl⟩ rfl hdc rfl (Nat.le_of_ble_eq_true rfl) ?_
  rintro r τ ⟨v, A', rfl, hR, hC', hF⟩
  obtain ⟨h3, hT'⟩ := h2 τ v A' hR hC'.1 (hM.fc hF)
  refine ev_aload_n_2 (pc := 382) dL_law_382 ?_
  refine ev_aload_n_0 (pc := 383) dL_law_383 ?_
  refine ev_iload_n_3 (pc := 384) dL_law_384 ?_
  refine ev_iconst (pc := 385) (v := 1) dL_law_385 (by decide) ?_
  refine ev_iaddc (pc := 386) (v := nI (i + 1)) dL_law_386 (nI_add i 1) ?_
  refine ev_scrld (pc := 387) dL_law_387 (vp_in_nI (by omega) (by omega)) ?_
  refine ev_aload_n_0 (pc := 388) dL_law_388 ?_
  refine ev_iload_n_3 (pc := 389) dL_law_389 ?_
  refine ev_iconst (pc := 390) (v := 2) dL_law_390 (by decide) ?_
  refine ev_iaddc (pc := 391) (v := nI (i + 2)) dL_law_391 (nI_add i 2) ?_
  refine ev_scrld (pc := 392) dL_law_392 (vp_in_nI (by omega) (by omega)) ?_
  refine ev_callV (pc := 393) dL_law_393 ml_L_59 (h3) (by decide) ⟨_, rfl, rfl⟩ rfl hdm rfl (Nat.le_of_ble_eq_true rfl) ?_
  rintro r ρ ⟨rfl, hM', hG⟩
  refine ev_icmp_eq (pc := 396) (tgt := 734) dL_law_396 (by decide) (fun h396 => ?_) (fun h396 => by exact absurd rfl h396)
  exact K ρ ⟨A', hC'.fm hG, hM', hT'⟩
set_option maxRecDepth 100000 in
theorem c_undo {S : Scr} (i : Nat) (hi : i + 4 ≤ S.1) (hL : S.1 ≤ 2048) (σ : Sto) (h : LI σ) {Q : Option Value → Sto → Prop} (K : ∀ ρ, LI ρ → Ev S RL cL_law 4 (some .boolean) 8 734 [.ref 132, .ref 0, .ref 117, .int (nI i)] [] ρ (Q)) : Ev S RL cL_law 4 (some .boolean) 8 401 [.ref 132, .ref 0, .ref 117, .int (nI i)] [] σ (Q) := by
  obtain ⟨A, hC, hM, hT⟩ := h
  obtain ⟨dc, dm, R, hdc, hdm, h1, h2⟩ := bc_undo (S := S) hC hT 
  refine ev_aload_n_1 (pc := 401) dL_law_401 ?_
  refine ev_callV (pc := 402) dL_law_402 ml_L_60 (h1) (by decide) ⟨_, rfl, rfl⟩ rfl hdc rfl (Nat.le_of_ble_eq_true rfl) ?_
  rintro r τ ⟨v, A', rfl, hR, hC', hF⟩
  obtain ⟨h3, hT'⟩ := h2 τ v A' hR hC'.1 (hM.fc hF)
  refine ev_aload_n_2 (pc := 405) dL_law_405 ?_
  refine ev_callV (pc := 406) dL_law_406 ml_L_63 (h3) (by decide) ⟨_, rfl, rfl⟩ rfl hdm rfl (Nat.le_of_ble_eq_true rfl) ?_
  rintro r ρ ⟨rfl, hM', hG⟩
  refine ev_icmp_eq (pc := 409) (tgt := 734) dL_law_409 (by decide) (fun h409 => ?_) (fun h409 => by exact absurd rfl h409)
  exact K ρ ⟨A', hC'.fm hG, hM', hT'⟩
set_option maxRecDepth 100000 in
theorem c_plan {S : Scr} (i : Nat) (hi : i + 4 ≤ S.1) (hL : S.1 ≤ 2048) (σ : Sto) (h : LI σ) {Q : Option Value → Sto → Prop} (K : ∀ ρ, LI ρ → Ev S RL cL_law 4 (some .boolean) 8 734 [.ref 132, .ref 0, .ref 117, .int (nI i)] [] ρ (Q)) : Ev S RL cL_law 4 (some .boolean) 8 414 [.ref 132, .ref 0, .ref 117, .int (nI i)] [] σ (Q) := by
  obtain ⟨A, hC, hM, hT⟩ := h
  obtain ⟨dc, dm, R, hdc, hdm, h1, h2⟩ := bc_plan (S := S) hC hT (S.2 (nI (i + 1)).toNatClampNeg) (S.2 (nI (i + 2)).toNatClampNeg)
  refine ev_aload_n_1 (pc := 414) dL_law_414 ?_
  refine ev_aload_n_0 (pc := 415) dL_law_415 ?_
  refine ev_iload_n_3 (pc := 416) dL_law_416 ?_
  refine ev_iconst (pc := 417) (v := 1) dL_law_417 (by decide) ?_
  refine ev_iaddc (pc := 418) (v := nI (i + 1)) dL_law_418 (nI_add i 1) ?_
  refine ev_scrld (pc := 419) dL_law_419 (vp_in_nI (by omega) (by omega)) ?_
  refine ev_aload_n_0 (pc := 420) dL_law_420 ?_
  refine ev_iload_n_3 (pc := 421) dL_law_421 ?_
  refine ev_iconst (pc := 422) (v := 2) dL_law_422 (by decide) ?_
  refine ev_iaddc (pc := 423) (v := nI (i + 2)) dL_law_423 (nI_add i 2) ?_
  refine ev_scrld (pc := 424) dL_law_424 (vp_in_nI (by omega) (by omega)) ?_
  refine ev_callV (pc := 425) dL_law_425 ml_L_64 (h1) (by decide) ⟨_, rfl, rfl⟩ rfl hdc rfl (Nat.le_of_ble_eq_true rfl) ?_
  rintro r τ ⟨v, A', rfl, hR, hC', hF⟩
  obtain ⟨h3, hT'⟩ := h2 τ v A' hR hC'.1 (hM.fc hF)
  refine ev_aload_n_2 (pc := 428) dL_law_428 ?_
  refine ev_aload_n_0 (pc := 429) dL_law_429 ?_
  refine ev_iload_n_3 (pc := 430) dL_law_430 ?_
  refine ev_iconst (pc := 431) (v := 1) dL_law_431 (by decide) ?_
  refine ev_iaddc (pc := 432) (v := nI (i + 1)) dL_law_432 (nI_add i 1) ?_
  refine ev_scrld (pc := 433) dL_law_433 (vp_in_nI (by omega) (by omega)) ?_
  refine ev_aload_n_0 (pc := 434) dL_law_434 ?_
  refine ev_iload_n_3 (pc := 435) dL_law_435 ?_
  refine ev_iconst (pc := 436) (v := 2) dL_law_436 (by decide) ?_
  refine ev_iaddc (pc := 437) (v := nI (i + 2)) dL_law_437 (nI_add i 2) ?_
  refine ev_scrld (pc := 438) dL_law_438 (vp_in_nI (by omega) (by omega)) ?_
  refine ev_callV (pc := 439) dL_law_439 ml_L_67 (h3) (by decide) ⟨_, rfl, rfl⟩ rfl hdm rfl (Nat.le_of_ble_eq_true rfl) ?_
  rintro r ρ ⟨rfl, hM', hG⟩
  refine ev_icmp_eq (pc := 442) (tgt := 734) dL_law_442 (by decide) (fun h442 => ?_) (fun h442 => by exact absurd rfl h442)
  exact K ρ ⟨A', hC'.fm hG, hM', hT'⟩
set_option maxRecDepth 100000 in
theorem c_middle {S : Scr} (i : Nat) (hi : i + 4 ≤ S.1) (hL : S.1 ≤ 2048) (σ : Sto) (h : LI σ) {Q : Option Value → Sto → Prop} (K : ∀ ρ, LI ρ → Ev S RL cL_law 4 (some .boolean) 8 734 [.ref 132, .ref 0, .ref 117, .int (nI i)] [] ρ (Q)) : Ev S RL cL_law 4 (some .boolean) 8 447 [.ref 132, .ref 0, .ref 117, .int (nI i)] [] σ (Q) := by
  obtain ⟨A, hC, hM, hT⟩ := h
  obtain ⟨dc, dm, R, hdc, hdm, h1, h2⟩ := bc_middle (S := S) hC hT (S.2 (nI (i + 1)).toNatClampNeg)
  refine ev_aload_n_1 (pc := 447) dL_law_447 ?_
  refine ev_aload_n_0 (pc := 448) dL_law_448 ?_
  refine ev_iload_n_3 (pc := 449) dL_law_449 ?_
  refine ev_iconst (pc := 450) (v := 1) dL_law_450 (by decide) ?_
  refine ev_iaddc (pc := 451) (v := nI (i + 1)) dL_law_451 (nI_add i 1) ?_
  refine ev_scrld (pc := 452) dL_law_452 (vp_in_nI (by omega) (by omega)) ?_
  refine ev_callV (pc := 453) dL_law_453 ml_L_68 (h1) (by decide) ⟨_, rfl, rfl⟩ rfl hdc rfl (Nat.le_of_ble_eq_true rfl) ?_
  rintro r τ ⟨v, A', rfl, hR, hC', hF⟩
  obtain ⟨h3, hT'⟩ := h2 τ v A' hR hC'.1 (hM.fc hF)
  refine ev_aload_n_2 (pc := 456) dL_law_456 ?_
  refine ev_aload_n_0 (pc := 457) dL_law_457 ?_
  refine ev_iload_n_3 (pc := 458) dL_law_458 ?_
  refine ev_iconst (pc := 459) (v := 1) dL_law_459 (by decide) ?_
  refine ev_iaddc (pc := 460) (v := nI (i + 1)) dL_law_460 (nI_add i 1) ?_
  refine ev_scrld (pc := 461) dL_law_461 (vp_in_nI (by omega) (by omega)) ?_
  refine ev_callV (pc := 462) dL_law_462 ml_L_71 (h3) (by decide) ⟨_, rfl, rfl⟩ rfl hdm rfl (Nat.le_of_ble_eq_true rfl) ?_
  rintro r ρ ⟨rfl, hM', hG⟩
  refine ev_icmp_eq (pc := 465) (tgt := 734) dL_law_465 (by decide) (fun h465 => ?_) (fun h465 => by exact absurd rfl h465)
  exact K ρ ⟨A', hC'.fm hG, hM', hT'⟩
set_option maxRecDepth 100000 in
theorem c_parted {S : Scr} (i : Nat) (hi : i + 4 ≤ S.1) (hL : S.1 ≤ 2048) (σ : Sto) (h : LI σ) {Q : Option Value → Sto → Prop} (K : ∀ ρ, LI ρ → Ev S RL cL_law 4 (some .boolean) 8 734 [.ref 132, .ref 0, .ref 117, .int (nI i)] [] ρ (Q)) : Ev S RL cL_law 4 (some .boolean) 8 470 [.ref 132, .ref 0, .ref 117, .int (nI i)] [] σ (Q) := by
  obtain ⟨A, hC, hM, hT⟩ := h
  obtain ⟨dc, dm, R, hdc, hdm, h1, h2⟩ := bc_parted (S := S) hC hT (S.2 (nI (i + 1)).toNatClampNeg)
  refine ev_aload_n_1 (pc := 470) dL_law_470 ?_
  refine ev_aload_n_0 (pc := 471) dL_law_471 ?_
  refine ev_iload_n_3 (pc := 472) dL_law_472 ?_
  refine ev_iconst (pc := 473) (v := 1) dL_law_473 (by decide) ?_
  refine ev_iaddc (pc := 474) (v := nI (i + 1)) dL_law_474 (nI_add i 1) ?_
  refine ev_scrld (pc := 475) dL_law_475 (vp_in_nI (by omega) (by omega)) ?_
  refine ev_callV (pc := 476) dL_law_476 ml_L_72 (h1) (by decide) ⟨_, rfl, rfl⟩ rfl hdc rfl (Nat.le_of_ble_eq_true rfl) ?_
  rintro r τ ⟨v, A', rfl, hR, hC', hF⟩
  obtain ⟨h3, hT'⟩ := h2 τ v A' hR hC'.1 (hM.fc hF)
  refine ev_aload_n_2 (pc := 479) dL_law_479 ?_
  refine ev_aload_n_0 (pc := 480) dL_law_480 ?_
  refine ev_iload_n_3 (pc := 481) dL_law_481 ?_
  refine ev_iconst (pc := 482) (v := 1) dL_law_482 (by decide) ?_
  refine ev_iaddc (pc := 483) (v := nI (i + 1)) dL_law_483 (nI_add i 1) ?_
  refine ev_scrld (pc := 484) dL_law_484 (vp_in_nI (by omega) (by omega)) ?_
  refine ev_callV (pc := 485) dL_law_485 ml_L_75 (h3) (by decide) ⟨_, rfl, rfl⟩ rfl hdm rfl (Nat.le_of_ble_eq_true rfl) ?_
  rintro r ρ ⟨rfl, hM', hG⟩
  refine ev_icmp_eq (pc := 488) (tgt := 734) dL_law_488 (by decide) (fun h488 => ?_) (fun h488 => by exact absurd rfl h488)
  exact K ρ ⟨A', hC'.fm hG, hM', hT'⟩
set_option maxRecDepth 100000 in
theorem c_odds {S : Scr} (i : Nat) (hi : i + 4 ≤ S.1) (hL : S.1 ≤ 2048) (σ : Sto) (h : LI σ) {Q : Option Value → Sto → Prop} (K : ∀ ρ, LI ρ → Ev S RL cL_law 4 (some .boolean) 8 734 [.ref 132, .ref 0, .ref 117, .int (nI i)] [] ρ (Q)) : Ev S RL cL_law 4 (some .boolean) 8 493 [.ref 132, .ref 0, .ref 117, .int (nI i)] [] σ (Q) := by
  obtain ⟨A, hC, hM, hT⟩ := h
  obtain ⟨dc, dm, R, hdc, hdm, h1, h2⟩ := bc_odds (S := S) hC hT (S.2 (nI (i + 1)).toNatClampNeg) (S.2 (nI (i + 2)).toNatClampNeg) (S.2 (nI (i + 3)).toNatClampNeg)
  refine ev_aload_n_1 (pc := 493) dL_law_493 ?_
  refine ev_aload_n_0 (pc := 494) dL_law_494 ?_
  refine ev_iload_n_3 (pc := 495) dL_law_495 ?_
  refine ev_iconst (pc := 496) (v := 1) dL_law_496 (by decide) ?_
  refine ev_iaddc (pc := 497) (v := nI (i + 1)) dL_law_497 (nI_add i 1) ?_
  refine ev_scrld (pc := 498) dL_law_498 (vp_in_nI (by omega) (by omega)) ?_
  refine ev_aload_n_0 (pc := 499) dL_law_499 ?_
  refine ev_iload_n_3 (pc := 500) dL_law_500 ?_
  refine ev_iconst (pc := 501) (v := 2) dL_law_501 (by decide) ?_
  refine ev_iaddc (pc := 502) (v := nI (i + 2)) dL_law_502 (nI_add i 2) ?_
  refine ev_scrld (pc := 503) dL_law_503 (vp_in_nI (by omega) (by omega)) ?_
  refine ev_aload_n_0 (pc := 504) dL_law_504 ?_
  refine ev_iload_n_3 (pc := 505) dL_law_505 ?_
  refine ev_iconst (pc := 506) (v := 3) dL_law_506 (by decide) ?_
  refine ev_iaddc (pc := 507) (v := nI (i + 3)) dL_law_507 (nI_add i 3) ?_
  refine ev_scrld (pc := 508) dL_law_508 (vp_in_nI (by omega) (by omega)) ?_
  refine ev_callV (pc := 509) dL_law_509 ml_L_76 (h1) (by decide) ⟨_, rfl, rfl⟩ rfl hdc rfl (Nat.le_of_ble_eq_true rfl) ?_
  rintro r τ ⟨v, A', rfl, hR, hC', hF⟩
  obtain ⟨h3, hT'⟩ := h2 τ v A' hR hC'.1 (hM.fc hF)
  refine ev_aload_n_2 (pc := 512) dL_law_512 ?_
  refine ev_aload_n_0 (pc := 513) dL_law_513 ?_
  refine ev_iload_n_3 (pc := 514) dL_law_514 ?_
  refine ev_iconst (pc := 515) (v := 1) dL_law_515 (by decide) ?_
  refine ev_iaddc (pc := 516) (v := nI (i + 1)) dL_law_516 (nI_add i 1) ?_
  refine ev_scrld (pc := 517) dL_law_517 (vp_in_nI (by omega) (by omega)) ?_
  refine ev_aload_n_0 (pc := 518) dL_law_518 ?_
  refine ev_iload_n_3 (pc := 519) dL_law_519 ?_
  refine ev_iconst (pc := 520) (v := 2) dL_law_520 (by decide) ?_
  refine ev_iaddc (pc := 521) (v := nI (i + 2)) dL_law_521 (nI_add i 2) ?_
  refine ev_scrld (pc := 522) dL_law_522 (vp_in_nI (by omega) (by omega)) ?_
  refine ev_aload_n_0 (pc := 523) dL_law_523 ?_
  refine ev_iload_n_3 (pc := 524) dL_law_524 ?_
  refine ev_iconst (pc := 525) (v := 3) dL_law_525 (by decide) ?_
  refine ev_iaddc (pc := 526) (v := nI (i + 3)) dL_law_526 (nI_add i 3) ?_
  refine ev_scrld (pc := 527) dL_law_527 (vp_in_nI (by omega) (by omega)) ?_
  refine ev_callV (pc := 528) dL_law_528 ml_L_80 (h3) (by decide) ⟨_, rfl, rfl⟩ rfl hdm rfl (Nat.le_of_ble_eq_true rfl) ?_
  rintro r ρ ⟨rfl, hM', hG⟩
  refine ev_icmp_eq (pc := 531) (tgt := 734) dL_law_531 (by decide) (fun h531 => ?_) (fun h531 => by exact absurd rfl h531)
  exact K ρ ⟨A', hC'.fm hG, hM', hT'⟩
set_option maxRecDepth 100000 in
theorem c_sees {S : Scr} (i : Nat) (hi : i + 4 ≤ S.1) (hL : S.1 ≤ 2048) (σ : Sto) (h : LI σ) {Q : Option Value → Sto → Prop} (K : ∀ ρ, LI ρ → Ev S RL cL_law 4 (some .boolean) 8 734 [.ref 132, .ref 0, .ref 117, .int (nI i)] [] ρ (Q)) : Ev S RL cL_law 4 (some .boolean) 8 536 [.ref 132, .ref 0, .ref 117, .int (nI i)] [] σ (Q) := by
  obtain ⟨A, hC, hM, hT⟩ := h
  obtain ⟨dc, dm, R, hdc, hdm, h1, h2⟩ := bc_sees (S := S) hC hT (S.2 (nI (i + 1)).toNatClampNeg)
  refine ev_aload_n_1 (pc := 536) dL_law_536 ?_
  refine ev_aload_n_0 (pc := 537) dL_law_537 ?_
  refine ev_iload_n_3 (pc := 538) dL_law_538 ?_
  refine ev_iconst (pc := 539) (v := 1) dL_law_539 (by decide) ?_
  refine ev_iaddc (pc := 540) (v := nI (i + 1)) dL_law_540 (nI_add i 1) ?_
  refine ev_scrld (pc := 541) dL_law_541 (vp_in_nI (by omega) (by omega)) ?_
  refine ev_callV (pc := 542) dL_law_542 ml_L_81 (h1) (by decide) ⟨_, rfl, rfl⟩ rfl hdc rfl (Nat.le_of_ble_eq_true rfl) ?_
  rintro r τ ⟨v, A', rfl, hR, hC', hF⟩
  obtain ⟨h3, hT'⟩ := h2 τ v A' hR hC'.1 (hM.fc hF)
  refine ev_aload_n_2 (pc := 545) dL_law_545 ?_
  refine ev_aload_n_0 (pc := 546) dL_law_546 ?_
  refine ev_iload_n_3 (pc := 547) dL_law_547 ?_
  refine ev_iconst (pc := 548) (v := 1) dL_law_548 (by decide) ?_
  refine ev_iaddc (pc := 549) (v := nI (i + 1)) dL_law_549 (nI_add i 1) ?_
  refine ev_scrld (pc := 550) dL_law_550 (vp_in_nI (by omega) (by omega)) ?_
  refine ev_callV (pc := 551) dL_law_551 ml_L_84 (h3) (by decide) ⟨_, rfl, rfl⟩ rfl hdm rfl (Nat.le_of_ble_eq_true rfl) ?_
  rintro r ρ ⟨rfl, hM', hG⟩
  refine ev_icmp_eq (pc := 554) (tgt := 734) dL_law_554 (by decide) (fun h554 => ?_) (fun h554 => by exact absurd rfl h554)
  exact K ρ ⟨A', hC'.fm hG, hM', hT'⟩
set_option maxRecDepth 100000 in
theorem c_forget {S : Scr} (i : Nat) (hi : i + 4 ≤ S.1) (hL : S.1 ≤ 2048) (σ : Sto) (h : LI σ) {Q : Option Value → Sto → Prop} (K : ∀ ρ, LI ρ → Ev S RL cL_law 4 (some .boolean) 8 734 [.ref 132, .ref 0, .ref 117, .int (nI i)] [] ρ (Q)) : Ev S RL cL_law 4 (some .boolean) 8 559 [.ref 132, .ref 0, .ref 117, .int (nI i)] [] σ (Q) := by
  obtain ⟨A, hC, hM, hT⟩ := h
  obtain ⟨dc, dm, R, hdc, hdm, h1, h2⟩ := bc_forget (S := S) hC hT 
  refine ev_aload_n_1 (pc := 559) dL_law_559 ?_
  refine ev_callV (pc := 560) dL_law_560 ml_L_85 (h1) (by decide) ⟨_, rfl, rfl⟩ rfl hdc rfl (Nat.le_of_ble_eq_true rfl) ?_
  rintro r τ ⟨v, A', rfl, hR, hC', hF⟩
  obtain ⟨h3, hT'⟩ := h2 τ v A' hR hC'.1 (hM.fc hF)
  refine ev_aload_n_2 (pc := 563) dL_law_563 ?_
  refine ev_callV (pc := 564) dL_law_564 ml_L_88 (h3) (by decide) ⟨_, rfl, rfl⟩ rfl hdm rfl (Nat.le_of_ble_eq_true rfl) ?_
  rintro r ρ ⟨rfl, hM', hG⟩
  refine ev_icmp_eq (pc := 567) (tgt := 734) dL_law_567 (by decide) (fun h567 => ?_) (fun h567 => by exact absurd rfl h567)
  exact K ρ ⟨A', hC'.fm hG, hM', hT'⟩
set_option maxRecDepth 100000 in
theorem c_likings {S : Scr} (i : Nat) (hi : i + 4 ≤ S.1) (hL : S.1 ≤ 2048) (σ : Sto) (h : LI σ) {Q : Option Value → Sto → Prop} (K : ∀ ρ, LI ρ → Ev S RL cL_law 4 (some .boolean) 8 734 [.ref 132, .ref 0, .ref 117, .int (nI i)] [] ρ (Q)) : Ev S RL cL_law 4 (some .boolean) 8 572 [.ref 132, .ref 0, .ref 117, .int (nI i)] [] σ (Q) := by
  obtain ⟨A, hC, hM, hT⟩ := h
  obtain ⟨dc, dm, R, hdc, hdm, h1, h2⟩ := bc_likings (S := S) hC hT (S.2 (nI (i + 1)).toNatClampNeg) (S.2 (nI (i + 2)).toNatClampNeg)
  refine ev_aload_n_1 (pc := 572) dL_law_572 ?_
  refine ev_aload_n_0 (pc := 573) dL_law_573 ?_
  refine ev_iload_n_3 (pc := 574) dL_law_574 ?_
  refine ev_iconst (pc := 575) (v := 1) dL_law_575 (by decide) ?_
  refine ev_iaddc (pc := 576) (v := nI (i + 1)) dL_law_576 (nI_add i 1) ?_
  refine ev_scrld (pc := 577) dL_law_577 (vp_in_nI (by omega) (by omega)) ?_
  refine ev_aload_n_0 (pc := 578) dL_law_578 ?_
  refine ev_iload_n_3 (pc := 579) dL_law_579 ?_
  refine ev_iconst (pc := 580) (v := 2) dL_law_580 (by decide) ?_
  refine ev_iaddc (pc := 581) (v := nI (i + 2)) dL_law_581 (nI_add i 2) ?_
  refine ev_scrld (pc := 582) dL_law_582 (vp_in_nI (by omega) (by omega)) ?_
  refine ev_callV (pc := 583) dL_law_583 ml_L_89 (h1) (by decide) ⟨_, rfl, rfl⟩ rfl hdc rfl (Nat.le_of_ble_eq_true rfl) ?_
  rintro r τ ⟨v, A', rfl, hR, hC', hF⟩
  obtain ⟨h3, hT'⟩ := h2 τ v A' hR hC'.1 (hM.fc hF)
  refine ev_aload_n_2 (pc := 586) dL_law_586 ?_
  refine ev_aload_n_0 (pc := 587) dL_law_587 ?_
  refine ev_iload_n_3 (pc := 588) dL_law_588 ?_
  refine ev_iconst (pc := 589) (v := 1) dL_law_589 (by decide) ?_
  refine ev_iaddc (pc := 590) (v := nI (i + 1)) dL_law_590 (nI_add i 1) ?_
  refine ev_scrld (pc := 591) dL_law_591 (vp_in_nI (by omega) (by omega)) ?_
  refine ev_aload_n_0 (pc := 592) dL_law_592 ?_
  refine ev_iload_n_3 (pc := 593) dL_law_593 ?_
  refine ev_iconst (pc := 594) (v := 2) dL_law_594 (by decide) ?_
  refine ev_iaddc (pc := 595) (v := nI (i + 2)) dL_law_595 (nI_add i 2) ?_
  refine ev_scrld (pc := 596) dL_law_596 (vp_in_nI (by omega) (by omega)) ?_
  refine ev_callV (pc := 597) dL_law_597 ml_L_92 (h3) (by decide) ⟨_, rfl, rfl⟩ rfl hdm rfl (Nat.le_of_ble_eq_true rfl) ?_
  rintro r ρ ⟨rfl, hM', hG⟩
  refine ev_icmp_eq (pc := 600) (tgt := 734) dL_law_600 (by decide) (fun h600 => ?_) (fun h600 => by exact absurd rfl h600)
  exact K ρ ⟨A', hC'.fm hG, hM', hT'⟩
set_option maxRecDepth 100000 in
theorem c_ask {S : Scr} (i : Nat) (hi : i + 4 ≤ S.1) (hL : S.1 ≤ 2048) (σ : Sto) (h : LI σ) {Q : Option Value → Sto → Prop} (K : ∀ ρ, LI ρ → Ev S RL cL_law 4 (some .boolean) 8 734 [.ref 132, .ref 0, .ref 117, .int (nI i)] [] ρ (Q)) : Ev S RL cL_law 4 (some .boolean) 8 605 [.ref 132, .ref 0, .ref 117, .int (nI i)] [] σ (Q) := by
  obtain ⟨A, hC, hM, hT⟩ := h
  obtain ⟨dc, dm, R, hdc, hdm, h1, h2⟩ := bc_ask (S := S) hC hT 
  refine ev_aload_n_1 (pc := 605) dL_law_605 ?_
  refine ev_callV (pc := 606) dL_law_606 ml_L_93 (h1) (by decide) ⟨_, rfl, rfl⟩ rfl hdc rfl (Nat.le_of_ble_eq_true rfl) ?_
  rintro r τ ⟨v, A', rfl, hR, hC', hF⟩
  obtain ⟨h3, hT'⟩ := h2 τ v A' hR hC'.1 (hM.fc hF)
  refine ev_aload_n_2 (pc := 609) dL_law_609 ?_
  refine ev_callV (pc := 610) dL_law_610 ml_L_96 (h3) (by decide) ⟨_, rfl, rfl⟩ rfl hdm rfl (Nat.le_of_ble_eq_true rfl) ?_
  rintro r ρ ⟨rfl, hM', hG⟩
  refine ev_icmp_eq (pc := 613) (tgt := 734) dL_law_613 (by decide) (fun h613 => ?_) (fun h613 => by exact absurd rfl h613)
  exact K ρ ⟨A', hC'.fm hG, hM', hT'⟩
set_option maxRecDepth 100000 in
theorem c_rate {S : Scr} (i : Nat) (hi : i + 4 ≤ S.1) (hL : S.1 ≤ 2048) (σ : Sto) (h : LI σ) {Q : Option Value → Sto → Prop} (K : ∀ ρ, LI ρ → Ev S RL cL_law 4 (some .boolean) 8 734 [.ref 132, .ref 0, .ref 117, .int (nI i)] [] ρ (Q)) : Ev S RL cL_law 4 (some .boolean) 8 618 [.ref 132, .ref 0, .ref 117, .int (nI i)] [] σ (Q) := by
  obtain ⟨A, hC, hM, hT⟩ := h
  obtain ⟨dc, dm, R, hdc, hdm, h1, h2⟩ := bc_rate (S := S) hC hT (S.2 (nI (i + 1)).toNatClampNeg) (S.2 (nI (i + 2)).toNatClampNeg)
  refine ev_aload_n_1 (pc := 618) dL_law_618 ?_
  refine ev_aload_n_0 (pc := 619) dL_law_619 ?_
  refine ev_iload_n_3 (pc := 620) dL_law_620 ?_
  refine ev_iconst (pc := 621) (v := 1) dL_law_621 (by decide) ?_
  refine ev_iaddc (pc := 622) (v := nI (i + 1)) dL_law_622 (nI_add i 1) ?_
  refine ev_scrld (pc := 623) dL_law_623 (vp_in_nI (by omega) (by omega)) ?_
  refine ev_aload_n_0 (pc := 624) dL_law_624 ?_
  refine ev_iload_n_3 (pc := 625) dL_law_625 ?_
  refine ev_iconst (pc := 626) (v := 2) dL_law_626 (by decide) ?_
  refine ev_iaddc (pc := 627) (v := nI (i + 2)) dL_law_627 (nI_add i 2) ?_
  refine ev_scrld (pc := 628) dL_law_628 (vp_in_nI (by omega) (by omega)) ?_
  refine ev_callV (pc := 629) dL_law_629 ml_L_97 (h1) (by decide) ⟨_, rfl, rfl⟩ rfl hdc rfl (Nat.le_of_ble_eq_true rfl) ?_
  rintro r τ ⟨v, A', rfl, hR, hC', hF⟩
  obtain ⟨h3, hT'⟩ := h2 τ v A' hR hC'.1 (hM.fc hF)
  refine ev_aload_n_2 (pc := 632) dL_law_632 ?_
  refine ev_aload_n_0 (pc := 633) dL_law_633 ?_
  refine ev_iload_n_3 (pc := 634) dL_law_634 ?_
  refine ev_iconst (pc := 635) (v := 1) dL_law_635 (by decide) ?_
  refine ev_iaddc (pc := 636) (v := nI (i + 1)) dL_law_636 (nI_add i 1) ?_
  refine ev_scrld (pc := 637) dL_law_637 (vp_in_nI (by omega) (by omega)) ?_
  refine ev_aload_n_0 (pc := 638) dL_law_638 ?_
  refine ev_iload_n_3 (pc := 639) dL_law_639 ?_
  refine ev_iconst (pc := 640) (v := 2) dL_law_640 (by decide) ?_
  refine ev_iaddc (pc := 641) (v := nI (i + 2)) dL_law_641 (nI_add i 2) ?_
  refine ev_scrld (pc := 642) dL_law_642 (vp_in_nI (by omega) (by omega)) ?_
  refine ev_callV (pc := 643) dL_law_643 ml_L_100 (h3) (by decide) ⟨_, rfl, rfl⟩ rfl hdm rfl (Nat.le_of_ble_eq_true rfl) ?_
  rintro r ρ ⟨rfl, hM', hG⟩
  refine ev_icmp_eq (pc := 646) (tgt := 734) dL_law_646 (by decide) (fun h646 => ?_) (fun h646 => by exact absurd rfl h646)
  exact K ρ ⟨A', hC'.fm hG, hM', hT'⟩
set_option maxRecDepth 100000 in
theorem c_keep {S : Scr} (i : Nat) (hi : i + 4 ≤ S.1) (hL : S.1 ≤ 2048) (σ : Sto) (h : LI σ) {Q : Option Value → Sto → Prop} (K : ∀ ρ, LI ρ → Ev S RL cL_law 4 (some .boolean) 8 734 [.ref 132, .ref 0, .ref 117, .int (nI i)] [] ρ (Q)) : Ev S RL cL_law 4 (some .boolean) 8 651 [.ref 132, .ref 0, .ref 117, .int (nI i)] [] σ (Q) := by
  obtain ⟨A, hC, hM, hT⟩ := h
  obtain ⟨dc, dm, R, hdc, hdm, h1, h2⟩ := bc_keep (S := S) hC hT (S.2 (nI (i + 1)).toNatClampNeg)
  refine ev_aload_n_1 (pc := 651) dL_law_651 ?_
  refine ev_aload_n_0 (pc := 652) dL_law_652 ?_
  refine ev_iload_n_3 (pc := 653) dL_law_653 ?_
  refine ev_iconst (pc := 654) (v := 1) dL_law_654 (by decide) ?_
  refine ev_iaddc (pc := 655) (v := nI (i + 1)) dL_law_655 (nI_add i 1) ?_
  refine ev_scrld (pc := 656) dL_law_656 (vp_in_nI (by omega) (by omega)) ?_
  refine ev_callV (pc := 657) dL_law_657 ml_L_101 (h1) (by decide) ⟨_, rfl, rfl⟩ rfl hdc rfl (Nat.le_of_ble_eq_true rfl) ?_
  rintro r τ ⟨v, A', rfl, hR, hC', hF⟩
  obtain ⟨h3, hT'⟩ := h2 τ v A' hR hC'.1 (hM.fc hF)
  refine ev_aload_n_2 (pc := 660) dL_law_660 ?_
  refine ev_aload_n_0 (pc := 661) dL_law_661 ?_
  refine ev_iload_n_3 (pc := 662) dL_law_662 ?_
  refine ev_iconst (pc := 663) (v := 1) dL_law_663 (by decide) ?_
  refine ev_iaddc (pc := 664) (v := nI (i + 1)) dL_law_664 (nI_add i 1) ?_
  refine ev_scrld (pc := 665) dL_law_665 (vp_in_nI (by omega) (by omega)) ?_
  refine ev_callV (pc := 666) dL_law_666 ml_L_104 (h3) (by decide) ⟨_, rfl, rfl⟩ rfl hdm rfl (Nat.le_of_ble_eq_true rfl) ?_
  rintro r ρ ⟨rfl, hM', hG⟩
  refine ev_icmp_eq (pc := 669) (tgt := 734) dL_law_669 (by decide) (fun h669 => ?_) (fun h669 => by exact absurd rfl h669)
  exact K ρ ⟨A', hC'.fm hG, hM', hT'⟩
set_option maxRecDepth 100000 in
theorem c_back {S : Scr} (i : Nat) (hi : i + 4 ≤ S.1) (hL : S.1 ≤ 2048) (σ : Sto) (h : LI σ) {Q : Option Value → Sto → Prop} (K : ∀ ρ, LI ρ → Ev S RL cL_law 4 (some .boolean) 8 734 [.ref 132, .ref 0, .ref 117, .int (nI i)] [] ρ (Q)) : Ev S RL cL_law 4 (some .boolean) 8 674 [.ref 132, .ref 0, .ref 117, .int (nI i)] [] σ (Q) := by
  obtain ⟨A, hC, hM, hT⟩ := h
  obtain ⟨dc, dm, R, hdc, hdm, h1, h2⟩ := bc_back (S := S) hC hT (S.2 (nI (i + 1)).toNatClampNeg)
  refine ev_aload_n_1 (pc := 674) dL_law_674 ?_
  refine ev_aload_n_0 (pc := 675) dL_law_675 ?_
  refine ev_iload_n_3 (pc := 676) dL_law_676 ?_
  refine ev_iconst (pc := 677) (v := 1) dL_law_677 (by decide) ?_
  refine ev_iaddc (pc := 678) (v := nI (i + 1)) dL_law_678 (nI_add i 1) ?_
  refine ev_scrld (pc := 679) dL_law_679 (vp_in_nI (by omega) (by omega)) ?_
  refine ev_callV (pc := 680) dL_law_680 ml_L_105 (h1) (by decide) ⟨_, rfl, rfl⟩ rfl hdc rfl (Nat.le_of_ble_eq_true rfl) ?_
  rintro r τ ⟨v, A', rfl, hR, hC', hF⟩
  obtain ⟨h3, hT'⟩ := h2 τ v A' hR hC'.1 (hM.fc hF)
  refine ev_aload_n_2 (pc := 683) dL_law_683 ?_
  refine ev_aload_n_0 (pc := 684) dL_law_684 ?_
  refine ev_iload_n_3 (pc := 685) dL_law_685 ?_
  refine ev_iconst (pc := 686) (v := 1) dL_law_686 (by decide) ?_
  refine ev_iaddc (pc := 687) (v := nI (i + 1)) dL_law_687 (nI_add i 1) ?_
  refine ev_scrld (pc := 688) dL_law_688 (vp_in_nI (by omega) (by omega)) ?_
  refine ev_callV (pc := 689) dL_law_689 ml_L_108 (h3) (by decide) ⟨_, rfl, rfl⟩ rfl hdm rfl (Nat.le_of_ble_eq_true rfl) ?_
  rintro r ρ ⟨rfl, hM', hG⟩
  refine ev_icmp_eq (pc := 692) (tgt := 734) dL_law_692 (by decide) (fun h692 => ?_) (fun h692 => by exact absurd rfl h692)
  exact K ρ ⟨A', hC'.fm hG, hM', hT'⟩
set_option maxRecDepth 100000 in
theorem c_count {S : Scr} (i : Nat) (hi : i + 4 ≤ S.1) (hL : S.1 ≤ 2048) (σ : Sto) (h : LI σ) {Q : Option Value → Sto → Prop} (K : ∀ ρ, LI ρ → Ev S RL cL_law 4 (some .boolean) 8 734 [.ref 132, .ref 0, .ref 117, .int (nI i)] [] ρ (Q)) : Ev S RL cL_law 4 (some .boolean) 8 697 [.ref 132, .ref 0, .ref 117, .int (nI i)] [] σ (Q) := by
  obtain ⟨A, hC, hM, hT⟩ := h
  obtain ⟨dc, dm, R, hdc, hdm, h1, h2⟩ := bc_count (S := S) hC hT (S.2 (nI (i + 1)).toNatClampNeg)
  refine ev_aload_n_1 (pc := 697) dL_law_697 ?_
  refine ev_aload_n_0 (pc := 698) dL_law_698 ?_
  refine ev_iload_n_3 (pc := 699) dL_law_699 ?_
  refine ev_iconst (pc := 700) (v := 1) dL_law_700 (by decide) ?_
  refine ev_iaddc (pc := 701) (v := nI (i + 1)) dL_law_701 (nI_add i 1) ?_
  refine ev_scrld (pc := 702) dL_law_702 (vp_in_nI (by omega) (by omega)) ?_
  refine ev_callV (pc := 703) dL_law_703 ml_L_109 (h1) (by decide) ⟨_, rfl, rfl⟩ rfl hdc rfl (Nat.le_of_ble_eq_true rfl) ?_
  rintro r τ ⟨v, A', rfl, hR, hC', hF⟩
  obtain ⟨h3, hT'⟩ := h2 τ v A' hR hC'.1 (hM.fc hF)
  refine ev_aload_n_2 (pc := 706) dL_law_706 ?_
  refine ev_aload_n_0 (pc := 707) dL_law_707 ?_
  refine ev_iload_n_3 (pc := 708) dL_law_708 ?_
  refine ev_iconst (pc := 709) (v := 1) dL_law_709 (by decide) ?_
  refine ev_iaddc (pc := 710) (v := nI (i + 1)) dL_law_710 (nI_add i 1) ?_
  refine ev_scrld (pc := 711) dL_law_711 (vp_in_nI (by omega) (by omega)) ?_
  refine ev_callV (pc := 712) dL_law_712 ml_L_112 (h3) (by decide) ⟨_, rfl, rfl⟩ rfl hdm rfl (Nat.le_of_ble_eq_true rfl) ?_
  rintro r ρ ⟨rfl, hM', hG⟩
  refine ev_icmp_eq (pc := 715) (tgt := 734) dL_law_715 (by decide) (fun h715 => ?_) (fun h715 => by exact absurd rfl h715)
  exact K ρ ⟨A', hC'.fm hG, hM', hT'⟩
theorem lg_self (x : Int64) : lg_cmp x x = 0 := by
  unfold lg_cmp
  simp
set_option maxRecDepth 100000 in
theorem c_trace {S : Scr} (i : Nat) (hi : i + 4 ≤ S.1) (hL : S.1 ≤ 2048) (σ : Sto) (h : LI σ) {Q : Option Value → Sto → Prop} (K : ∀ ρ, LI ρ → Ev S RL cL_law 4 (some .boolean) 8 734 [.ref 132, .ref 0, .ref 117, .int (nI i)] [] ρ (Q)) : Ev S RL cL_law 4 (some .boolean) 8 720 [.ref 132, .ref 0, .ref 117, .int (nI i)] [] σ (Q) := by
  obtain ⟨A, hC, hM, hT⟩ := h
  refine ev_aload_n_1 (pc := 720) dL_law_720 ?_
  refine ev_callV (pc := 721) dL_law_721 ml_L_113 (m_X7_trace σ hC) (by decide) ⟨_, rfl, rfl⟩ rfl (by decide) rfl (Nat.le_of_ble_eq_true rfl) ?_
  rintro r τ ⟨rfl, hC', hF⟩
  refine ev_aload_n_2 (pc := 724) dL_law_724 ?_
  refine ev_callV (pc := 725) dL_law_725 ml_L_117 (m_X8_trace τ (hM.fc hF)) (by decide) ⟨_, rfl, rfl⟩ rfl (by decide) rfl (Nat.le_of_ble_eq_true rfl) ?_
  rintro r ρ ⟨rfl, hM', hG⟩
  refine ev_lcmp (pc := 728) dL_law_728 ?_
  rw [lg_self]
  refine ev_if_eq (pc := 729) (tgt := 734) dL_law_729 (by decide) (fun h729 => ?_) (fun h729 => by exact absurd rfl h729)
  exact K ρ ⟨A, hC'.fm hG, hM', hT⟩
/-! ===== the law: its loop ===== -/
theorem sub4 {L i : Nat} (hL : L ≤ 2048) (hi : i ≤ 2048) : nI L - 4 < nI i ↔ L < i + 4 := by
  rcases Nat.lt_or_ge L 4 with z | z
  · have e : (nI L - 4).toInt < 0 := by
      rcases (show L = 0 ∨ L = 1 ∨ L = 2 ∨ L = 3 by omega) with rfl | rfl | rfl | rfl <;> decide
    rw [tI_lt, nI_toInt (by omega)]
    constructor
    · intro _; omega
    · intro _; omega
  · rw [show nI L - 4 = nI (L - 4) from nI_sub (b := 4) z (by omega), tI_lt, nI_toInt (by omega), nI_toInt (by omega)]
    omega
set_option maxRecDepth 100000 in
theorem b_law {S : Scr} (i : Nat) (hi : i + 4 ≤ S.1) (hL : S.1 ≤ 2048) (σ : Sto) (h : LI σ) {Q : Option Value → Sto → Prop} (K : ∀ ρ, LI ρ → Ev S RL cL_law 4 (some .boolean) 8 734 [.ref 132, .ref 0, .ref 117, .int (nI i)] [] ρ (Q)) : Ev S RL cL_law 4 (some .boolean) 8 18 [.ref 132, .ref 0, .ref 117, .int (nI i)] [] σ (Q) := by
  refine ev_iload_n_3 (pc := 18) dL_law_18 ?_
  refine ev_aload_n_0 (pc := 19) dL_law_19 ?_
  refine ev_scrlen (pc := 20) dL_law_20 ?_
  refine ev_iconst (pc := 21) (v := 4) dL_law_21 (by decide) ?_
  refine ev_isub (pc := 22) dL_law_22 ?_
  rw [show Int32.ofNat S.1 = nI S.1 from rfl]
  refine ev_icmp_gt (pc := 23) (tgt := 740) dL_law_23 (by decide) (fun h23 => by exact absurd ((sub4 hL (by omega)).mp h23) (by omega)) (fun h23 => ?_)
  refine ev_aload_n_0 (pc := 26) dL_law_26 ?_
  refine ev_iload_n_3 (pc := 27) dL_law_27 ?_
  refine ev_scrld (pc := 28) dL_law_28 (vp_in_nI (by omega) (by omega)) ?_
  refine ev_bipush (pc := 29) (v := 31) dL_law_29 (by decide) ?_
  refine ev_iand (pc := 31) dL_law_31 ?_
  by_cases hs32_0 : (S.2 (nI i).toNatClampNeg &&& 31) = 0
  · refine ev_tableIn (off := 116) (tgt := 148) dL_law_32 (by rw [hs32_0]; decide) (by rw [hs32_0]; decide) (by rw [hs32_0]; decide) (by decide) ?_
    exact c_type i hi hL σ h K
  by_cases hs32_1 : (S.2 (nI i).toNatClampNeg &&& 31) = 1
  · refine ev_tableIn (off := 139) (tgt := 171) dL_law_32 (by rw [hs32_1]; decide) (by rw [hs32_1]; decide) (by rw [hs32_1]; decide) (by decide) ?_
    exact c_clear i hi hL σ h K
  by_cases hs32_2 : (S.2 (nI i).toNatClampNeg &&& 31) = 2
  · refine ev_tableIn (off := 152) (tgt := 184) dL_law_32 (by rw [hs32_2]; decide) (by rw [hs32_2]; decide) (by rw [hs32_2]; decide) (by decide) ?_
    exact c_kitchen i hi hL σ h K
  by_cases hs32_3 : (S.2 (nI i).toNatClampNeg &&& 31) = 3
  · refine ev_tableIn (off := 165) (tgt := 197) dL_law_32 (by rw [hs32_3]; decide) (by rw [hs32_3]; decide) (by rw [hs32_3]; decide) (by decide) ?_
    exact c_pot i hi hL σ h K
  by_cases hs32_4 : (S.2 (nI i).toNatClampNeg &&& 31) = 4
  · refine ev_tableIn (off := 188) (tgt := 220) dL_law_32 (by rw [hs32_4]; decide) (by rw [hs32_4]; decide) (by rw [hs32_4]; decide) (by decide) ?_
    exact c_brother i hi hL σ h K
  by_cases hs32_5 : (S.2 (nI i).toNatClampNeg &&& 31) = 5
  · refine ev_tableIn (off := 221) (tgt := 253) dL_law_32 (by rw [hs32_5]; decide) (by rw [hs32_5]; decide) (by rw [hs32_5]; decide) (by decide) ?_
    exact c_off i hi hL σ h K
  by_cases hs32_6 : (S.2 (nI i).toNatClampNeg &&& 31) = 6
  · refine ev_tableIn (off := 254) (tgt := 286) dL_law_32 (by rw [hs32_6]; decide) (by rw [hs32_6]; decide) (by rw [hs32_6]; decide) (by decide) ?_
    exact c_now i hi hL σ h K
  by_cases hs32_7 : (S.2 (nI i).toNatClampNeg &&& 31) = 7
  · refine ev_tableIn (off := 277) (tgt := 309) dL_law_32 (by rw [hs32_7]; decide) (by rw [hs32_7]; decide) (by rw [hs32_7]; decide) (by decide) ?_
    exact c_adds i hi hL σ h K
  by_cases hs32_8 : (S.2 (nI i).toNatClampNeg &&& 31) = 8
  · refine ev_tableIn (off := 300) (tgt := 332) dL_law_32 (by rw [hs32_8]; decide) (by rw [hs32_8]; decide) (by rw [hs32_8]; decide) (by decide) ?_
    exact c_waters i hi hL σ h K
  by_cases hs32_9 : (S.2 (nI i).toNatClampNeg &&& 31) = 9
  · refine ev_tableIn (off := 313) (tgt := 345) dL_law_32 (by rw [hs32_9]; decide) (by rw [hs32_9]; decide) (by rw [hs32_9]; decide) (by decide) ?_
    exact c_sends i hi hL σ h K
  by_cases hs32_10 : (S.2 (nI i).toNatClampNeg &&& 31) = 10
  · refine ev_tableIn (off := 336) (tgt := 368) dL_law_32 (by rw [hs32_10]; decide) (by rw [hs32_10]; decide) (by rw [hs32_10]; decide) (by decide) ?_
    exact c_colds i hi hL σ h K
  by_cases hs32_11 : (S.2 (nI i).toNatClampNeg &&& 31) = 11
  · refine ev_tableIn (off := 369) (tgt := 401) dL_law_32 (by rw [hs32_11]; decide) (by rw [hs32_11]; decide) (by rw [hs32_11]; decide) (by decide) ?_
    exact c_undo i hi hL σ h K
  by_cases hs32_12 : (S.2 (nI i).toNatClampNeg &&& 31) = 12
  · refine ev_tableIn (off := 382) (tgt := 414) dL_law_32 (by rw [hs32_12]; decide) (by rw [hs32_12]; decide) (by rw [hs32_12]; decide) (by decide) ?_
    exact c_plan i hi hL σ h K
  by_cases hs32_13 : (S.2 (nI i).toNatClampNeg &&& 31) = 13
  · refine ev_tableIn (off := 415) (tgt := 447) dL_law_32 (by rw [hs32_13]; decide) (by rw [hs32_13]; decide) (by rw [hs32_13]; decide) (by decide) ?_
    exact c_middle i hi hL σ h K
  by_cases hs32_14 : (S.2 (nI i).toNatClampNeg &&& 31) = 14
  · refine ev_tableIn (off := 438) (tgt := 470) dL_law_32 (by rw [hs32_14]; decide) (by rw [hs32_14]; decide) (by rw [hs32_14]; decide) (by decide) ?_
    exact c_parted i hi hL σ h K
  by_cases hs32_15 : (S.2 (nI i).toNatClampNeg &&& 31) = 15
  · refine ev_tableIn (off := 461) (tgt := 493) dL_law_32 (by rw [hs32_15]; decide) (by rw [hs32_15]; decide) (by rw [hs32_15]; decide) (by decide) ?_
    exact c_odds i hi hL σ h K
  by_cases hs32_16 : (S.2 (nI i).toNatClampNeg &&& 31) = 16
  · refine ev_tableIn (off := 504) (tgt := 536) dL_law_32 (by rw [hs32_16]; decide) (by rw [hs32_16]; decide) (by rw [hs32_16]; decide) (by decide) ?_
    exact c_sees i hi hL σ h K
  by_cases hs32_17 : (S.2 (nI i).toNatClampNeg &&& 31) = 17
  · refine ev_tableIn (off := 527) (tgt := 559) dL_law_32 (by rw [hs32_17]; decide) (by rw [hs32_17]; decide) (by rw [hs32_17]; decide) (by decide) ?_
    exact c_forget i hi hL σ h K
  by_cases hs32_18 : (S.2 (nI i).toNatClampNeg &&& 31) = 18
  · refine ev_tableIn (off := 540) (tgt := 572) dL_law_32 (by rw [hs32_18]; decide) (by rw [hs32_18]; decide) (by rw [hs32_18]; decide) (by decide) ?_
    exact c_likings i hi hL σ h K
  by_cases hs32_19 : (S.2 (nI i).toNatClampNeg &&& 31) = 19
  · refine ev_tableIn (off := 573) (tgt := 605) dL_law_32 (by rw [hs32_19]; decide) (by rw [hs32_19]; decide) (by rw [hs32_19]; decide) (by decide) ?_
    exact c_ask i hi hL σ h K
  by_cases hs32_20 : (S.2 (nI i).toNatClampNeg &&& 31) = 20
  · refine ev_tableIn (off := 586) (tgt := 618) dL_law_32 (by rw [hs32_20]; decide) (by rw [hs32_20]; decide) (by rw [hs32_20]; decide) (by decide) ?_
    exact c_rate i hi hL σ h K
  by_cases hs32_21 : (S.2 (nI i).toNatClampNeg &&& 31) = 21
  · refine ev_tableIn (off := 619) (tgt := 651) dL_law_32 (by rw [hs32_21]; decide) (by rw [hs32_21]; decide) (by rw [hs32_21]; decide) (by decide) ?_
    exact c_keep i hi hL σ h K
  by_cases hs32_22 : (S.2 (nI i).toNatClampNeg &&& 31) = 22
  · refine ev_tableIn (off := 642) (tgt := 674) dL_law_32 (by rw [hs32_22]; decide) (by rw [hs32_22]; decide) (by rw [hs32_22]; decide) (by decide) ?_
    exact c_back i hi hL σ h K
  by_cases hs32_23 : (S.2 (nI i).toNatClampNeg &&& 31) = 23
  · refine ev_tableIn (off := 665) (tgt := 697) dL_law_32 (by rw [hs32_23]; decide) (by rw [hs32_23]; decide) (by rw [hs32_23]; decide) (by decide) ?_
    exact c_count i hi hL σ h K
  by_cases hs32_24 : (S.2 (nI i).toNatClampNeg &&& 31) = 24
  · refine ev_tableIn (off := 688) (tgt := 720) dL_law_32 (by rw [hs32_24]; decide) (by rw [hs32_24]; decide) (by rw [hs32_24]; decide) (by decide) ?_
    exact c_trace i hi hL σ h K
  refine ev_tableOut (pc := 32) (tgt := 734) dL_law_32 (by have a0 := lv_neT hs32_0 (show ((0 : Int32)).toInt = 0 from rfl); have a1 := lv_neT hs32_1 (show ((1 : Int32)).toInt = 1 from rfl); have a2 := lv_neT hs32_2 (show ((2 : Int32)).toInt = 2 from rfl); have a3 := lv_neT hs32_3 (show ((3 : Int32)).toInt = 3 from rfl); have a4 := lv_neT hs32_4 (show ((4 : Int32)).toInt = 4 from rfl); have a5 := lv_neT hs32_5 (show ((5 : Int32)).toInt = 5 from rfl); have a6 := lv_neT hs32_6 (show ((6 : Int32)).toInt = 6 from rfl); have a7 := lv_neT hs32_7 (show ((7 : Int32)).toInt = 7 from rfl); have a8 := lv_neT hs32_8 (show ((8 : Int32)).toInt = 8 from rfl); have a9 := lv_neT hs32_9 (show ((9 : Int32)).toInt = 9 from rfl); have a10 := lv_neT hs32_10 (show ((10 : Int32)).toInt = 10 from rfl); have a11 := lv_neT hs32_11 (show ((11 : Int32)).toInt = 11 from rfl); have a12 := lv_neT hs32_12 (show ((12 : Int32)).toInt = 12 from rfl); have a13 := lv_neT hs32_13 (show ((13 : Int32)).toInt = 13 from rfl); have a14 := lv_neT hs32_14 (show ((14 : Int32)).toInt = 14 from rfl); have a15 := lv_neT hs32_15 (show ((15 : Int32)).toInt = 15 from rfl); have a16 := lv_neT hs32_16 (show ((16 : Int32)).toInt = 16 from rfl); have a17 := lv_neT hs32_17 (show ((17 : Int32)).toInt = 17 from rfl); have a18 := lv_neT hs32_18 (show ((18 : Int32)).toInt = 18 from rfl); have a19 := lv_neT hs32_19 (show ((19 : Int32)).toInt = 19 from rfl); have a20 := lv_neT hs32_20 (show ((20 : Int32)).toInt = 20 from rfl); have a21 := lv_neT hs32_21 (show ((21 : Int32)).toInt = 21 from rfl); have a22 := lv_neT hs32_22 (show ((22 : Int32)).toInt = 22 from rfl); have a23 := lv_neT hs32_23 (show ((23 : Int32)).toInt = 23 from rfl); have a24 := lv_neT hs32_24 (show ((24 : Int32)).toInt = 24 from rfl); omega) (by decide) ?_
  exact K σ h
set_option maxRecDepth 100000 in
theorem e_law {S : Scr} (i : Nat) (hi : S.1 < i + 4) (hi2 : i ≤ 2048) (hL : S.1 ≤ 2048) (σ : Sto) {Q : Option Value → Sto → Prop} (K : ∀ ρ, Q (some (.int 1)) ρ) : Ev S RL cL_law 4 (some .boolean) 8 18 [.ref 132, .ref 0, .ref 117, .int (nI i)] [] σ (Q) := by
  refine ev_iload_n_3 (pc := 18) dL_law_18 ?_
  refine ev_aload_n_0 (pc := 19) dL_law_19 ?_
  refine ev_scrlen (pc := 20) dL_law_20 ?_
  refine ev_iconst (pc := 21) (v := 4) dL_law_21 (by decide) ?_
  refine ev_isub (pc := 22) dL_law_22 ?_
  rw [show Int32.ofNat S.1 = nI S.1 from rfl]
  refine ev_icmp_gt (pc := 23) (tgt := 740) dL_law_23 (by decide) (fun h23 => ?_) (fun h23 => by exact absurd ((sub4 hL hi2).mpr hi) h23)
  refine ev_iconst (pc := 740) (v := 1) dL_law_740 (by decide) ?_
  exact ev_ireturn (pc := 741) dL_law_741 rfl rfl (K _)
set_option maxRecDepth 100000 in
theorem i_law {S : Scr} (i : Nat) (σ : Sto) {Q : Option Value → Sto → Prop} (K : Ev S RL cL_law 4 (some .boolean) 8 18 [.ref 132, .ref 0, .ref 117, .int (nI (i + 4))] [] σ (Q)) : Ev S RL cL_law 4 (some .boolean) 8 734 [.ref 132, .ref 0, .ref 117, .int (nI i)] [] σ (Q) := by
  refine ev_iinc_3 (pc := 734) (v := nI (i + 4)) dL_law_734 (show nI i + Int32.ofInt 4 = nI (i + 4) from nI_add i 4) (by decide) ?_
  refine ev_goto (pc := 737) (tgt := 18) dL_law_737 (by decide) ?_
  exact K
theorem l_law {S : Scr} (hL : S.1 ≤ 2048) {Q : Option Value → Sto → Prop} (K : ∀ ρ, Q (some (.int 1)) ρ) : ∀ k i, S.1 < i + 4 * k + 4 → i ≤ S.1 → ∀ σ, LI σ → Ev S RL cL_law 4 (some .boolean) 8 18 [.ref 132, .ref 0, .ref 117, .int (nI i)] [] σ (Q) := by
  intro k
  induction k with
  | zero => intro i h1 h2 σ h; exact e_law i (by omega) (by omega) hL σ K
  | succ k ih =>
    intro i h1 h2 σ h
    rcases Nat.lt_or_ge S.1 (i + 4) with z | z
    · exact e_law i z (by omega) hL σ K
    · exact b_law i z hL σ h (fun ρ hρ => i_law i ρ (ih (i + 4) (by omega) z ρ hρ))
