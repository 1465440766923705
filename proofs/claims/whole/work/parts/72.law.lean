/-! the law, call by call -/
abbrev mL_law : xM := (yL_law, cL_law, 4, ret)
theorem y_18 : Jvm.FP.Core.val32 1040187392 = .fin false 8388608 (-26) := by decide
theorem y_script (x : Int32) : vf_n32 (FP.fmul (FP.i2f x) 1040187392) := y_fmul _ _ (by
  show Jvm.FP.Core.val32 (Jvm.FP.Core.i2f x) ≠ .nan
  rw [Jvm.FP.Core.val32_i2f]
  exact y_rnd _ _ (fun z => by cases z)) y_18 (by decide)
/-- the locals of the loop -/
abbrev xlq (k : Nat) : List (Option xV) := [some (xR (some (99, 0))), some (xR (some (8, 0))), some (xR (some (9, 0))), some (xI (nI (6 * k)))]
/-- behind a call: what follows, with the budgets that are left -/
def xaft (M : Nat) (xs : Nat → Int32) (Q : Option xV → xS → Prop) (k cb sb : Nat) : Prop := ∀ (S : xS) (cb2 sb2 : Nat), vInv S → cb ≤ cb2 + 10 → sb ≤ sb2 + 46 → Ex mL_law 8 cb2 sb2 (M + 1, xs) Q 1121 (xlq k) [] S
theorem y_idx {M k j : Nat} (hM : M ≤ 3072) (hk : 6 * k + 6 ≤ M) (hj : j < 6) : vp_in (nI (6 * k) + nI j) M := by
  rw [nI_addI]
  exact vp_in_nI (by omega) (by omega)
section Law
variable {M k cb sb : Nat} {xs : Nat → Int32} {Q : Option xV → xS → Prop} {S : xS}
theorem l_law_pool (hM : M ≤ 3072) (hk : 6 * k + 6 ≤ M) (hI : vInv S) (hc : 10 ≤ cb) (hs : 46 ≤ sb) (hn : xaft M xs Q k cb sb) : Ex mL_law 8 cb sb (M + 1, xs) Q 164 (xlq k) [] S := by
  obtain ⟨n, T, C, nP, h⟩ := hI
  have i1 : vp_in (nI (6 * k) + 1) M := y_idx (j := 1) hM hk (by omega)
  have i2 : vp_in (nI (6 * k) + 2) M := y_idx (j := 2) hM hk (by omega)
  have i3 : vp_in (nI (6 * k) + 3) M := y_idx (j := 3) hM hk (by omega)
  have i4 : vp_in (nI (6 * k) + 4) M := y_idx (j := 4) hM hk (by omega)
  have i5 : vp_in (nI (6 * k) + 5) M := y_idx (j := 5) hM hk (by omega)
  refine E_aload_n dL_law_164 rfl rfl ?_
  refine E_aload_n dL_law_165 rfl rfl ?_
  refine E_iload_n dL_law_166 rfl rfl ?_
  refine E_iconst (v := 1) dL_law_167 (by decide) ?_
  refine E_iadd dL_law_168 ?_
  refine E_sld dL_law_169 i1 rfl ?_
  refine E_aload_n dL_law_170 rfl rfl ?_
  refine E_iload_n dL_law_171 rfl rfl ?_
  refine E_iconst (v := 2) dL_law_172 (by decide) ?_
  refine E_iadd dL_law_173 ?_
  refine E_sld dL_law_174 i2 rfl ?_
  refine E_aload_n dL_law_175 rfl rfl ?_
  refine E_iload_n dL_law_176 rfl rfl ?_
  refine E_iconst (v := 3) dL_law_177 (by decide) ?_
  refine E_iadd dL_law_178 ?_
  refine E_sld dL_law_179 i3 rfl ?_
  refine E_aload_n dL_law_180 rfl rfl ?_
  refine E_iload_n dL_law_181 rfl rfl ?_
  refine E_iconst (v := 4) dL_law_182 (by decide) ?_
  refine E_iadd dL_law_183 ?_
  refine E_sld dL_law_184 i4 rfl ?_
  refine E_callV (m2 := mX8_pool) dL_law_185 kL_13 mzX8_pool (a_pool h _ _ _ _) rfl ⟨_, _, rfl⟩ rfl rfl (by decide) (xs8 (Nat.le_of_ble_eq_true rfl)) (by first | exact Nat.le_of_ble_eq_true rfl | omega) (by first | exact Nat.le_of_ble_eq_true rfl | omega) ?_
  rintro _ S1 ⟨⟨a, rfl⟩, hr⟩
  refine E_aload_n dL_law_188 rfl rfl ?_
  refine E_aload_n dL_law_189 rfl rfl ?_
  refine E_iload_n dL_law_190 rfl rfl ?_
  refine E_iconst (v := 1) dL_law_191 (by decide) ?_
  refine E_iadd dL_law_192 ?_
  refine E_sld dL_law_193 i1 rfl ?_
  refine E_aload_n dL_law_194 rfl rfl ?_
  refine E_iload_n dL_law_195 rfl rfl ?_
  refine E_iconst (v := 2) dL_law_196 (by decide) ?_
  refine E_iadd dL_law_197 ?_
  refine E_sld dL_law_198 i2 rfl ?_
  refine E_aload_n dL_law_199 rfl rfl ?_
  refine E_iload_n dL_law_200 rfl rfl ?_
  refine E_iconst (v := 3) dL_law_201 (by decide) ?_
  refine E_iadd dL_law_202 ?_
  refine E_sld dL_law_203 i3 rfl ?_
  refine E_aload_n dL_law_204 rfl rfl ?_
  refine E_iload_n dL_law_205 rfl rfl ?_
  refine E_iconst (v := 4) dL_law_206 (by decide) ?_
  refine E_iadd dL_law_207 ?_
  refine E_sld dL_law_208 i4 rfl ?_
  refine E_callV (m2 := mX9_pool) dL_law_209 kL_17 mzX9_pool hr rfl ⟨_, _, rfl⟩ rfl rfl (by decide) (xs8 (Nat.le_of_ble_eq_true rfl)) (by first | exact Nat.le_of_ble_eq_true rfl | omega) (by first | exact Nat.le_of_ble_eq_true rfl | omega) ?_
  rintro _ S2 ⟨rfl, hI2⟩
  refine E_icmp_eq (tgt := 1121) dL_law_212 (by decide) (fun h212 => ?_) (fun h212 => absurd h212 (fun z => z rfl))
  exact hn _ _ _ hI2 (by omega) (by omega)
theorem l_law_go (hM : M ≤ 3072) (hk : 6 * k + 6 ≤ M) (hI : vInv S) (hc : 10 ≤ cb) (hs : 46 ≤ sb) (hn : xaft M xs Q k cb sb) : Ex mL_law 8 cb sb (M + 1, xs) Q 217 (xlq k) [] S := by
  obtain ⟨n, T, C, nP, h⟩ := hI
  have i1 : vp_in (nI (6 * k) + 1) M := y_idx (j := 1) hM hk (by omega)
  have i2 : vp_in (nI (6 * k) + 2) M := y_idx (j := 2) hM hk (by omega)
  have i3 : vp_in (nI (6 * k) + 3) M := y_idx (j := 3) hM hk (by omega)
  have i4 : vp_in (nI (6 * k) + 4) M := y_idx (j := 4) hM hk (by omega)
  have i5 : vp_in (nI (6 * k) + 5) M := y_idx (j := 5) hM hk (by omega)
  refine E_aload_n dL_law_217 rfl rfl ?_
  refine E_aload_n dL_law_218 rfl rfl ?_
  refine E_iload_n dL_law_219 rfl rfl ?_
  refine E_iconst (v := 1) dL_law_220 (by decide) ?_
  refine E_iadd dL_law_221 ?_
  refine E_sld dL_law_222 i1 rfl ?_
  refine E_callV (m2 := mX8_go) dL_law_223 kL_18 mzX8_go (a_go h _) rfl ⟨_, _, rfl⟩ rfl rfl (by decide) (xs8 (Nat.le_of_ble_eq_true rfl)) (by first | exact Nat.le_of_ble_eq_true rfl | omega) (by first | exact Nat.le_of_ble_eq_true rfl | omega) ?_
  rintro _ S1 ⟨⟨a, rfl⟩, hr⟩
  refine E_aload_n dL_law_226 rfl rfl ?_
  refine E_aload_n dL_law_227 rfl rfl ?_
  refine E_iload_n dL_law_228 rfl rfl ?_
  refine E_iconst (v := 1) dL_law_229 (by decide) ?_
  refine E_iadd dL_law_230 ?_
  refine E_sld dL_law_231 i1 rfl ?_
  refine E_callV (m2 := mX9_go) dL_law_232 kL_22 mzX9_go hr rfl ⟨_, _, rfl⟩ rfl rfl (by decide) (xs8 (Nat.le_of_ble_eq_true rfl)) (by first | exact Nat.le_of_ble_eq_true rfl | omega) (by first | exact Nat.le_of_ble_eq_true rfl | omega) ?_
  rintro _ S2 ⟨rfl, hI2⟩
  refine E_icmp_eq (tgt := 1121) dL_law_235 (by decide) (fun h235 => ?_) (fun h235 => absurd h235 (fun z => z rfl))
  exact hn _ _ _ hI2 (by omega) (by omega)
theorem l_law_ticket_t (hM : M ≤ 3072) (hk : 6 * k + 6 ≤ M) (hI : vInv S) (hc : 10 ≤ cb) (hs : 46 ≤ sb) (hn : xaft M xs Q k cb sb) (hb : xs (nI (6 * k) + 4).toNatClampNeg = 0) : Ex mL_law 8 cb sb (M + 1, xs) Q 240 (xlq k) [] S := by
  obtain ⟨n, T, C, nP, h⟩ := hI
  have i1 : vp_in (nI (6 * k) + 1) M := y_idx (j := 1) hM hk (by omega)
  have i2 : vp_in (nI (6 * k) + 2) M := y_idx (j := 2) hM hk (by omega)
  have i3 : vp_in (nI (6 * k) + 3) M := y_idx (j := 3) hM hk (by omega)
  have i4 : vp_in (nI (6 * k) + 4) M := y_idx (j := 4) hM hk (by omega)
  have i5 : vp_in (nI (6 * k) + 5) M := y_idx (j := 5) hM hk (by omega)
  refine E_aload_n dL_law_240 rfl rfl ?_
  refine E_aload_n dL_law_241 rfl rfl ?_
  refine E_iload_n dL_law_242 rfl rfl ?_
  refine E_iconst (v := 1) dL_law_243 (by decide) ?_
  refine E_iadd dL_law_244 ?_
  refine E_sld dL_law_245 i1 rfl ?_
  refine E_aload_n dL_law_246 rfl rfl ?_
  refine E_iload_n dL_law_247 rfl rfl ?_
  refine E_iconst (v := 2) dL_law_248 (by decide) ?_
  refine E_iadd dL_law_249 ?_
  refine E_sld dL_law_250 i2 rfl ?_
  refine E_aload_n dL_law_251 rfl rfl ?_
  refine E_iload_n dL_law_252 rfl rfl ?_
  refine E_iconst (v := 3) dL_law_253 (by decide) ?_
  refine E_iadd dL_law_254 ?_
  refine E_sld dL_law_255 i3 rfl ?_
  refine E_aload_n dL_law_256 rfl rfl ?_
  refine E_iload_n dL_law_257 rfl rfl ?_
  refine E_iconst (v := 4) dL_law_258 (by decide) ?_
  refine E_iadd dL_law_259 ?_
  refine E_sld dL_law_260 i4 rfl ?_
  refine E_if_eq (tgt := 268) dL_law_261 (by decide) (fun h261 => ?_) (fun h261 => absurd h261 (fun z => z hb))
  refine E_iconst (v := 0) dL_law_268 (by decide) ?_
  refine E_callV (m2 := mX8_ticket) dL_law_269 kL_23 mzX8_ticket (a_ticket h _ _ _ _ xB_0) rfl ⟨_, _, rfl⟩ rfl rfl (by decide) (xs8 (Nat.le_of_ble_eq_true rfl)) (by first | exact Nat.le_of_ble_eq_true rfl | omega) (by first | exact Nat.le_of_ble_eq_true rfl | omega) ?_
  rintro _ S1 ⟨⟨a, rfl⟩, hr⟩
  refine E_aload_n dL_law_272 rfl rfl ?_
  refine E_aload_n dL_law_273 rfl rfl ?_
  refine E_iload_n dL_law_274 rfl rfl ?_
  refine E_iconst (v := 1) dL_law_275 (by decide) ?_
  refine E_iadd dL_law_276 ?_
  refine E_sld dL_law_277 i1 rfl ?_
  refine E_aload_n dL_law_278 rfl rfl ?_
  refine E_iload_n dL_law_279 rfl rfl ?_
  refine E_iconst (v := 2) dL_law_280 (by decide) ?_
  refine E_iadd dL_law_281 ?_
  refine E_sld dL_law_282 i2 rfl ?_
  refine E_aload_n dL_law_283 rfl rfl ?_
  refine E_iload_n dL_law_284 rfl rfl ?_
  refine E_iconst (v := 3) dL_law_285 (by decide) ?_
  refine E_iadd dL_law_286 ?_
  refine E_sld dL_law_287 i3 rfl ?_
  refine E_aload_n dL_law_288 rfl rfl ?_
  refine E_iload_n dL_law_289 rfl rfl ?_
  refine E_iconst (v := 4) dL_law_290 (by decide) ?_
  refine E_iadd dL_law_291 ?_
  refine E_sld dL_law_292 i4 rfl ?_
  refine E_if_eq (tgt := 300) dL_law_293 (by decide) (fun h293 => ?_) (fun h293 => absurd h293 (fun z => z hb))
  refine E_iconst (v := 0) dL_law_300 (by decide) ?_
  refine E_callV (m2 := mX9_ticket) dL_law_301 kL_27 mzX9_ticket hr rfl ⟨_, _, rfl⟩ rfl rfl (by decide) (xs8 (Nat.le_of_ble_eq_true rfl)) (by first | exact Nat.le_of_ble_eq_true rfl | omega) (by first | exact Nat.le_of_ble_eq_true rfl | omega) ?_
  rintro _ S2 ⟨rfl, hI2⟩
  refine E_icmp_eq (tgt := 1121) dL_law_304 (by decide) (fun h304 => ?_) (fun h304 => absurd h304 (fun z => z rfl))
  exact hn _ _ _ hI2 (by omega) (by omega)
theorem l_law_ticket_f (hM : M ≤ 3072) (hk : 6 * k + 6 ≤ M) (hI : vInv S) (hc : 10 ≤ cb) (hs : 46 ≤ sb) (hn : xaft M xs Q k cb sb) (hb : ¬ xs (nI (6 * k) + 4).toNatClampNeg = 0) : Ex mL_law 8 cb sb (M + 1, xs) Q 240 (xlq k) [] S := by
  obtain ⟨n, T, C, nP, h⟩ := hI
  have i1 : vp_in (nI (6 * k) + 1) M := y_idx (j := 1) hM hk (by omega)
  have i2 : vp_in (nI (6 * k) + 2) M := y_idx (j := 2) hM hk (by omega)
  have i3 : vp_in (nI (6 * k) + 3) M := y_idx (j := 3) hM hk (by omega)
  have i4 : vp_in (nI (6 * k) + 4) M := y_idx (j := 4) hM hk (by omega)
  have i5 : vp_in (nI (6 * k) + 5) M := y_idx (j := 5) hM hk (by omega)
  refine E_aload_n dL_law_240 rfl rfl ?_
  refine E_aload_n dL_law_241 rfl rfl ?_
  refine E_iload_n dL_law_242 rfl rfl ?_
  refine E_iconst (v := 1) dL_law_243 (by decide) ?_
  refine E_iadd dL_law_244 ?_
  refine E_sld dL_law_245 i1 rfl ?_
  refine E_aload_n dL_law_246 rfl rfl ?_
  refine E_iload_n dL_law_247 rfl rfl ?_
  refine E_iconst (v := 2) dL_law_248 (by decide) ?_
  refine E_iadd dL_law_249 ?_
  refine E_sld dL_law_250 i2 rfl ?_
  refine E_aload_n dL_law_251 rfl rfl ?_
  refine E_iload_n dL_law_252 rfl rfl ?_
  refine E_iconst (v := 3) dL_law_253 (by decide) ?_
  refine E_iadd dL_law_254 ?_
  refine E_sld dL_law_255 i3 rfl ?_
  refine E_aload_n dL_law_256 rfl rfl ?_
  refine E_iload_n dL_law_257 rfl rfl ?_
  refine E_iconst (v := 4) dL_law_258 (by decide) ?_
  refine E_iadd dL_law_259 ?_
  refine E_sld dL_law_260 i4 rfl ?_
  refine E_if_eq (tgt := 268) dL_law_261 (by decide) (fun h261 => absurd h261 (hb)) (fun h261 => ?_)
  refine E_iconst (v := 1) dL_law_264 (by decide) ?_
  refine E_goto (tgt := 269) dL_law_265 (by decide) ?_
  refine E_callV (m2 := mX8_ticket) dL_law_269 kL_23 mzX8_ticket (a_ticket h _ _ _ _ xB_1) rfl ⟨_, _, rfl⟩ rfl rfl (by decide) (xs8 (Nat.le_of_ble_eq_true rfl)) (by first | exact Nat.le_of_ble_eq_true rfl | omega) (by first | exact Nat.le_of_ble_eq_true rfl | omega) ?_
  rintro _ S1 ⟨⟨a, rfl⟩, hr⟩
  refine E_aload_n dL_law_272 rfl rfl ?_
  refine E_aload_n dL_law_273 rfl rfl ?_
  refine E_iload_n dL_law_274 rfl rfl ?_
  refine E_iconst (v := 1) dL_law_275 (by decide) ?_
  refine E_iadd dL_law_276 ?_
  refine E_sld dL_law_277 i1 rfl ?_
  refine E_aload_n dL_law_278 rfl rfl ?_
  refine E_iload_n dL_law_279 rfl rfl ?_
  refine E_iconst (v := 2) dL_law_280 (by decide) ?_
  refine E_iadd dL_law_281 ?_
  refine E_sld dL_law_282 i2 rfl ?_
  refine E_aload_n dL_law_283 rfl rfl ?_
  refine E_iload_n dL_law_284 rfl rfl ?_
  refine E_iconst (v := 3) dL_law_285 (by decide) ?_
  refine E_iadd dL_law_286 ?_
  refine E_sld dL_law_287 i3 rfl ?_
  refine E_aload_n dL_law_288 rfl rfl ?_
  refine E_iload_n dL_law_289 rfl rfl ?_
  refine E_iconst (v := 4) dL_law_290 (by decide) ?_
  refine E_iadd dL_law_291 ?_
  refine E_sld dL_law_292 i4 rfl ?_
  refine E_if_eq (tgt := 300) dL_law_293 (by decide) (fun h293 => absurd h293 (hb)) (fun h293 => ?_)
  refine E_iconst (v := 1) dL_law_296 (by decide) ?_
  refine E_goto (tgt := 301) dL_law_297 (by decide) ?_
  refine E_callV (m2 := mX9_ticket) dL_law_301 kL_27 mzX9_ticket hr rfl ⟨_, _, rfl⟩ rfl rfl (by decide) (xs8 (Nat.le_of_ble_eq_true rfl)) (by first | exact Nat.le_of_ble_eq_true rfl | omega) (by first | exact Nat.le_of_ble_eq_true rfl | omega) ?_
  rintro _ S2 ⟨rfl, hI2⟩
  refine E_icmp_eq (tgt := 1121) dL_law_304 (by decide) (fun h304 => ?_) (fun h304 => absurd h304 (fun z => z rfl))
  exact hn _ _ _ hI2 (by omega) (by omega)
theorem l_law_club (hM : M ≤ 3072) (hk : 6 * k + 6 ≤ M) (hI : vInv S) (hc : 10 ≤ cb) (hs : 46 ≤ sb) (hn : xaft M xs Q k cb sb) : Ex mL_law 8 cb sb (M + 1, xs) Q 309 (xlq k) [] S := by
  obtain ⟨n, T, C, nP, h⟩ := hI
  have i1 : vp_in (nI (6 * k) + 1) M := y_idx (j := 1) hM hk (by omega)
  have i2 : vp_in (nI (6 * k) + 2) M := y_idx (j := 2) hM hk (by omega)
  have i3 : vp_in (nI (6 * k) + 3) M := y_idx (j := 3) hM hk (by omega)
  have i4 : vp_in (nI (6 * k) + 4) M := y_idx (j := 4) hM hk (by omega)
  have i5 : vp_in (nI (6 * k) + 5) M := y_idx (j := 5) hM hk (by omega)
  refine E_aload_n dL_law_309 rfl rfl ?_
  refine E_aload_n dL_law_310 rfl rfl ?_
  refine E_iload_n dL_law_311 rfl rfl ?_
  refine E_iconst (v := 1) dL_law_312 (by decide) ?_
  refine E_iadd dL_law_313 ?_
  refine E_sld dL_law_314 i1 rfl ?_
  refine E_aload_n dL_law_315 rfl rfl ?_
  refine E_iload_n dL_law_316 rfl rfl ?_
  refine E_iconst (v := 2) dL_law_317 (by decide) ?_
  refine E_iadd dL_law_318 ?_
  refine E_sld dL_law_319 i2 rfl ?_
  refine E_aload_n dL_law_320 rfl rfl ?_
  refine E_iload_n dL_law_321 rfl rfl ?_
  refine E_iconst (v := 3) dL_law_322 (by decide) ?_
  refine E_iadd dL_law_323 ?_
  refine E_sld dL_law_324 i3 rfl ?_
  refine E_aload_n dL_law_325 rfl rfl ?_
  refine E_iload_n dL_law_326 rfl rfl ?_
  refine E_iconst (v := 4) dL_law_327 (by decide) ?_
  refine E_iadd dL_law_328 ?_
  refine E_sld dL_law_329 i4 rfl ?_
  refine E_aload_n dL_law_330 rfl rfl ?_
  refine E_iload_n dL_law_331 rfl rfl ?_
  refine E_iconst (v := 5) dL_law_332 (by decide) ?_
  refine E_iadd dL_law_333 ?_
  refine E_sld dL_law_334 i5 rfl ?_
  refine E_callV (m2 := mX8_club) dL_law_335 kL_28 mzX8_club (a_club h _ _ _ _ _) rfl ⟨_, _, rfl⟩ rfl rfl (by decide) (xs8 (Nat.le_of_ble_eq_true rfl)) (by first | exact Nat.le_of_ble_eq_true rfl | omega) (by first | exact Nat.le_of_ble_eq_true rfl | omega) ?_
  rintro _ S1 ⟨⟨a, rfl⟩, hr⟩
  refine E_aload_n dL_law_338 rfl rfl ?_
  refine E_aload_n dL_law_339 rfl rfl ?_
  refine E_iload_n dL_law_340 rfl rfl ?_
  refine E_iconst (v := 1) dL_law_341 (by decide) ?_
  refine E_iadd dL_law_342 ?_
  refine E_sld dL_law_343 i1 rfl ?_
  refine E_aload_n dL_law_344 rfl rfl ?_
  refine E_iload_n dL_law_345 rfl rfl ?_
  refine E_iconst (v := 2) dL_law_346 (by decide) ?_
  refine E_iadd dL_law_347 ?_
  refine E_sld dL_law_348 i2 rfl ?_
  refine E_aload_n dL_law_349 rfl rfl ?_
  refine E_iload_n dL_law_350 rfl rfl ?_
  refine E_iconst (v := 3) dL_law_351 (by decide) ?_
  refine E_iadd dL_law_352 ?_
  refine E_sld dL_law_353 i3 rfl ?_
  refine E_aload_n dL_law_354 rfl rfl ?_
  refine E_iload_n dL_law_355 rfl rfl ?_
  refine E_iconst (v := 4) dL_law_356 (by decide) ?_
  refine E_iadd dL_law_357 ?_
  refine E_sld dL_law_358 i4 rfl ?_
  refine E_aload_n dL_law_359 rfl rfl ?_
  refine E_iload_n dL_law_360 rfl rfl ?_
  refine E_iconst (v := 5) dL_law_361 (by decide) ?_
  refine E_iadd dL_law_362 ?_
  refine E_sld dL_law_363 i5 rfl ?_
  refine E_callV (m2 := mX9_club) dL_law_364 kL_32 mzX9_club hr rfl ⟨_, _, rfl⟩ rfl rfl (by decide) (xs8 (Nat.le_of_ble_eq_true rfl)) (by first | exact Nat.le_of_ble_eq_true rfl | omega) (by first | exact Nat.le_of_ble_eq_true rfl | omega) ?_
  rintro _ S2 ⟨rfl, hI2⟩
  refine E_icmp_eq (tgt := 1121) dL_law_367 (by decide) (fun h367 => ?_) (fun h367 => absurd h367 (fun z => z rfl))
  exact hn _ _ _ hI2 (by omega) (by omega)
theorem l_law_clash (hM : M ≤ 3072) (hk : 6 * k + 6 ≤ M) (hI : vInv S) (hc : 10 ≤ cb) (hs : 46 ≤ sb) (hn : xaft M xs Q k cb sb) : Ex mL_law 8 cb sb (M + 1, xs) Q 372 (xlq k) [] S := by
  obtain ⟨n, T, C, nP, h⟩ := hI
  have i1 : vp_in (nI (6 * k) + 1) M := y_idx (j := 1) hM hk (by omega)
  have i2 : vp_in (nI (6 * k) + 2) M := y_idx (j := 2) hM hk (by omega)
  have i3 : vp_in (nI (6 * k) + 3) M := y_idx (j := 3) hM hk (by omega)
  have i4 : vp_in (nI (6 * k) + 4) M := y_idx (j := 4) hM hk (by omega)
  have i5 : vp_in (nI (6 * k) + 5) M := y_idx (j := 5) hM hk (by omega)
  refine E_aload_n dL_law_372 rfl rfl ?_
  refine E_callV (m2 := mX8_clash) dL_law_373 kL_33 mzX8_clash (a_clash h ) rfl ⟨_, _, rfl⟩ rfl rfl (by decide) (xs8 (Nat.le_of_ble_eq_true rfl)) (by first | exact Nat.le_of_ble_eq_true rfl | omega) (by first | exact Nat.le_of_ble_eq_true rfl | omega) ?_
  rintro _ S1 ⟨⟨a, rfl⟩, hr⟩
  refine E_aload_n dL_law_376 rfl rfl ?_
  refine E_callV (m2 := mX9_clash) dL_law_377 kL_37 mzX9_clash hr rfl ⟨_, _, rfl⟩ rfl rfl (by decide) (xs8 (Nat.le_of_ble_eq_true rfl)) (by first | exact Nat.le_of_ble_eq_true rfl | omega) (by first | exact Nat.le_of_ble_eq_true rfl | omega) ?_
  rintro _ S2 ⟨rfl, hI2⟩
  refine E_icmp_eq (tgt := 1121) dL_law_380 (by decide) (fun h380 => ?_) (fun h380 => absurd h380 (fun z => z rfl))
  exact hn _ _ _ hI2 (by omega) (by omega)
theorem l_law_leave (hM : M ≤ 3072) (hk : 6 * k + 6 ≤ M) (hI : vInv S) (hc : 10 ≤ cb) (hs : 46 ≤ sb) (hn : xaft M xs Q k cb sb) : Ex mL_law 8 cb sb (M + 1, xs) Q 385 (xlq k) [] S := by
  obtain ⟨n, T, C, nP, h⟩ := hI
  have i1 : vp_in (nI (6 * k) + 1) M := y_idx (j := 1) hM hk (by omega)
  have i2 : vp_in (nI (6 * k) + 2) M := y_idx (j := 2) hM hk (by omega)
  have i3 : vp_in (nI (6 * k) + 3) M := y_idx (j := 3) hM hk (by omega)
  have i4 : vp_in (nI (6 * k) + 4) M := y_idx (j := 4) hM hk (by omega)
  have i5 : vp_in (nI (6 * k) + 5) M := y_idx (j := 5) hM hk (by omega)
  refine E_aload_n dL_law_385 rfl rfl ?_
  refine E_aload_n dL_law_386 rfl rfl ?_
  refine E_iload_n dL_law_387 rfl rfl ?_
  refine E_iconst (v := 1) dL_law_388 (by decide) ?_
  refine E_iadd dL_law_389 ?_
  refine E_sld dL_law_390 i1 rfl ?_
  refine E_callV (m2 := mX8_leave) dL_law_391 kL_38 mzX8_leave (a_leave h _) rfl ⟨_, _, rfl⟩ rfl rfl (by decide) (xs8 (Nat.le_of_ble_eq_true rfl)) (by first | exact Nat.le_of_ble_eq_true rfl | omega) (by first | exact Nat.le_of_ble_eq_true rfl | omega) ?_
  rintro _ S1 ⟨⟨a, rfl⟩, hr⟩
  refine E_aload_n dL_law_394 rfl rfl ?_
  refine E_aload_n dL_law_395 rfl rfl ?_
  refine E_iload_n dL_law_396 rfl rfl ?_
  refine E_iconst (v := 1) dL_law_397 (by decide) ?_
  refine E_iadd dL_law_398 ?_
  refine E_sld dL_law_399 i1 rfl ?_
  refine E_callV (m2 := mX9_leave) dL_law_400 kL_42 mzX9_leave hr rfl ⟨_, _, rfl⟩ rfl rfl (by decide) (xs8 (Nat.le_of_ble_eq_true rfl)) (by first | exact Nat.le_of_ble_eq_true rfl | omega) (by first | exact Nat.le_of_ble_eq_true rfl | omega) ?_
  rintro _ S2 ⟨rfl, hI2⟩
  refine E_icmp_eq (tgt := 1121) dL_law_403 (by decide) (fun h403 => ?_) (fun h403 => absurd h403 (fun z => z rfl))
  exact hn _ _ _ hI2 (by omega) (by omega)
theorem l_law_may (hM : M ≤ 3072) (hk : 6 * k + 6 ≤ M) (hI : vInv S) (hc : 10 ≤ cb) (hs : 46 ≤ sb) (hn : xaft M xs Q k cb sb) : Ex mL_law 8 cb sb (M + 1, xs) Q 408 (xlq k) [] S := by
  obtain ⟨n, T, C, nP, h⟩ := hI
  have i1 : vp_in (nI (6 * k) + 1) M := y_idx (j := 1) hM hk (by omega)
  have i2 : vp_in (nI (6 * k) + 2) M := y_idx (j := 2) hM hk (by omega)
  have i3 : vp_in (nI (6 * k) + 3) M := y_idx (j := 3) hM hk (by omega)
  have i4 : vp_in (nI (6 * k) + 4) M := y_idx (j := 4) hM hk (by omega)
  have i5 : vp_in (nI (6 * k) + 5) M := y_idx (j := 5) hM hk (by omega)
  refine E_aload_n dL_law_408 rfl rfl ?_
  refine E_aload_n dL_law_409 rfl rfl ?_
  refine E_iload_n dL_law_410 rfl rfl ?_
  refine E_iconst (v := 1) dL_law_411 (by decide) ?_
  refine E_iadd dL_law_412 ?_
  refine E_sld dL_law_413 i1 rfl ?_
  refine E_callV (m2 := mX8_may) dL_law_414 kL_43 mzX8_may (a_may h _) rfl ⟨_, _, rfl⟩ rfl rfl (by decide) (xs8 (Nat.le_of_ble_eq_true rfl)) (by first | exact Nat.le_of_ble_eq_true rfl | omega) (by first | exact Nat.le_of_ble_eq_true rfl | omega) ?_
  rintro _ S1 ⟨⟨a, rfl⟩, hr⟩
  refine E_aload_n dL_law_417 rfl rfl ?_
  refine E_aload_n dL_law_418 rfl rfl ?_
  refine E_iload_n dL_law_419 rfl rfl ?_
  refine E_iconst (v := 1) dL_law_420 (by decide) ?_
  refine E_iadd dL_law_421 ?_
  refine E_sld dL_law_422 i1 rfl ?_
  refine E_callV (m2 := mX9_may) dL_law_423 kL_46 mzX9_may hr rfl ⟨_, _, rfl⟩ rfl rfl (by decide) (xs8 (Nat.le_of_ble_eq_true rfl)) (by first | exact Nat.le_of_ble_eq_true rfl | omega) (by first | exact Nat.le_of_ble_eq_true rfl | omega) ?_
  rintro _ S2 ⟨rfl, hI2⟩
  refine E_icmp_eq (tgt := 1121) dL_law_426 (by decide) (fun h426 => ?_) (fun h426 => absurd h426 (fun z => z rfl))
  exact hn _ _ _ hI2 (by omega) (by omega)
theorem l_law_in (hM : M ≤ 3072) (hk : 6 * k + 6 ≤ M) (hI : vInv S) (hc : 10 ≤ cb) (hs : 46 ≤ sb) (hn : xaft M xs Q k cb sb) : Ex mL_law 8 cb sb (M + 1, xs) Q 431 (xlq k) [] S := by
  obtain ⟨n, T, C, nP, h⟩ := hI
  have i1 : vp_in (nI (6 * k) + 1) M := y_idx (j := 1) hM hk (by omega)
  have i2 : vp_in (nI (6 * k) + 2) M := y_idx (j := 2) hM hk (by omega)
  have i3 : vp_in (nI (6 * k) + 3) M := y_idx (j := 3) hM hk (by omega)
  have i4 : vp_in (nI (6 * k) + 4) M := y_idx (j := 4) hM hk (by omega)
  have i5 : vp_in (nI (6 * k) + 5) M := y_idx (j := 5) hM hk (by omega)
  refine E_aload_n dL_law_431 rfl rfl ?_
  refine E_aload_n dL_law_432 rfl rfl ?_
  refine E_iload_n dL_law_433 rfl rfl ?_
  refine E_iconst (v := 1) dL_law_434 (by decide) ?_
  refine E_iadd dL_law_435 ?_
  refine E_sld dL_law_436 i1 rfl ?_
  refine E_callV (m2 := mX8_in) dL_law_437 kL_47 mzX8_in (a_in h _) rfl ⟨_, _, rfl⟩ rfl rfl (by decide) (xs8 (Nat.le_of_ble_eq_true rfl)) (by first | exact Nat.le_of_ble_eq_true rfl | omega) (by first | exact Nat.le_of_ble_eq_true rfl | omega) ?_
  rintro _ S1 ⟨⟨a, rfl⟩, hr⟩
  refine E_aload_n dL_law_440 rfl rfl ?_
  refine E_aload_n dL_law_441 rfl rfl ?_
  refine E_iload_n dL_law_442 rfl rfl ?_
  refine E_iconst (v := 1) dL_law_443 (by decide) ?_
  refine E_iadd dL_law_444 ?_
  refine E_sld dL_law_445 i1 rfl ?_
  refine E_callV (m2 := mX9_in_) dL_law_446 kL_50 mzX9_in_ hr rfl ⟨_, _, rfl⟩ rfl rfl (by decide) (xs8 (Nat.le_of_ble_eq_true rfl)) (by first | exact Nat.le_of_ble_eq_true rfl | omega) (by first | exact Nat.le_of_ble_eq_true rfl | omega) ?_
  rintro _ S2 ⟨rfl, hI2⟩
  refine E_icmp_eq (tgt := 1121) dL_law_449 (by decide) (fun h449 => ?_) (fun h449 => absurd h449 (fun z => z rfl))
  exact hn _ _ _ hI2 (by omega) (by omega)
theorem l_law_out (hM : M ≤ 3072) (hk : 6 * k + 6 ≤ M) (hI : vInv S) (hc : 10 ≤ cb) (hs : 46 ≤ sb) (hn : xaft M xs Q k cb sb) : Ex mL_law 8 cb sb (M + 1, xs) Q 454 (xlq k) [] S := by
  obtain ⟨n, T, C, nP, h⟩ := hI
  have i1 : vp_in (nI (6 * k) + 1) M := y_idx (j := 1) hM hk (by omega)
  have i2 : vp_in (nI (6 * k) + 2) M := y_idx (j := 2) hM hk (by omega)
  have i3 : vp_in (nI (6 * k) + 3) M := y_idx (j := 3) hM hk (by omega)
  have i4 : vp_in (nI (6 * k) + 4) M := y_idx (j := 4) hM hk (by omega)
  have i5 : vp_in (nI (6 * k) + 5) M := y_idx (j := 5) hM hk (by omega)
  refine E_aload_n dL_law_454 rfl rfl ?_
  refine E_aload_n dL_law_455 rfl rfl ?_
  refine E_iload_n dL_law_456 rfl rfl ?_
  refine E_iconst (v := 1) dL_law_457 (by decide) ?_
  refine E_iadd dL_law_458 ?_
  refine E_sld dL_law_459 i1 rfl ?_
  refine E_callV (m2 := mX8_out) dL_law_460 kL_51 mzX8_out (a_out h _) rfl ⟨_, _, rfl⟩ rfl rfl (by decide) (xs8 (Nat.le_of_ble_eq_true rfl)) (by first | exact Nat.le_of_ble_eq_true rfl | omega) (by first | exact Nat.le_of_ble_eq_true rfl | omega) ?_
  rintro _ S1 ⟨⟨a, rfl⟩, hr⟩
  refine E_aload_n dL_law_463 rfl rfl ?_
  refine E_aload_n dL_law_464 rfl rfl ?_
  refine E_iload_n dL_law_465 rfl rfl ?_
  refine E_iconst (v := 1) dL_law_466 (by decide) ?_
  refine E_iadd dL_law_467 ?_
  refine E_sld dL_law_468 i1 rfl ?_
  refine E_callV (m2 := mX9_out) dL_law_469 kL_54 mzX9_out hr rfl ⟨_, _, rfl⟩ rfl rfl (by decide) (xs8 (Nat.le_of_ble_eq_true rfl)) (by first | exact Nat.le_of_ble_eq_true rfl | omega) (by first | exact Nat.le_of_ble_eq_true rfl | omega) ?_
  rintro _ S2 ⟨rfl, hI2⟩
  refine E_icmp_eq (tgt := 1121) dL_law_472 (by decide) (fun h472 => ?_) (fun h472 => absurd h472 (fun z => z rfl))
  exact hn _ _ _ hI2 (by omega) (by omega)
theorem l_law_eye_t (hM : M ≤ 3072) (hk : 6 * k + 6 ≤ M) (hI : vInv S) (hc : 10 ≤ cb) (hs : 46 ≤ sb) (hn : xaft M xs Q k cb sb) (hb : xs (nI (6 * k) + 2).toNatClampNeg = 0) : Ex mL_law 8 cb sb (M + 1, xs) Q 477 (xlq k) [] S := by
  obtain ⟨n, T, C, nP, h⟩ := hI
  have i1 : vp_in (nI (6 * k) + 1) M := y_idx (j := 1) hM hk (by omega)
  have i2 : vp_in (nI (6 * k) + 2) M := y_idx (j := 2) hM hk (by omega)
  have i3 : vp_in (nI (6 * k) + 3) M := y_idx (j := 3) hM hk (by omega)
  have i4 : vp_in (nI (6 * k) + 4) M := y_idx (j := 4) hM hk (by omega)
  have i5 : vp_in (nI (6 * k) + 5) M := y_idx (j := 5) hM hk (by omega)
  refine E_aload_n dL_law_477 rfl rfl ?_
  refine E_aload_n dL_law_478 rfl rfl ?_
  refine E_iload_n dL_law_479 rfl rfl ?_
  refine E_iconst (v := 1) dL_law_480 (by decide) ?_
  refine E_iadd dL_law_481 ?_
  refine E_sld dL_law_482 i1 rfl ?_
  refine E_aload_n dL_law_483 rfl rfl ?_
  refine E_iload_n dL_law_484 rfl rfl ?_
  refine E_iconst (v := 2) dL_law_485 (by decide) ?_
  refine E_iadd dL_law_486 ?_
  refine E_sld dL_law_487 i2 rfl ?_
  refine E_if_eq (tgt := 495) dL_law_488 (by decide) (fun h488 => ?_) (fun h488 => absurd h488 (fun z => z hb))
  refine E_iconst (v := 0) dL_law_495 (by decide) ?_
  refine E_callV (m2 := mX8_eye) dL_law_496 kL_55 mzX8_eye (a_eye h _ _ xB_0) rfl ⟨_, _, rfl⟩ rfl rfl (by decide) (xs8 (Nat.le_of_ble_eq_true rfl)) (by first | exact Nat.le_of_ble_eq_true rfl | omega) (by first | exact Nat.le_of_ble_eq_true rfl | omega) ?_
  rintro _ S1 ⟨⟨a, rfl⟩, hr⟩
  refine E_aload_n dL_law_499 rfl rfl ?_
  refine E_aload_n dL_law_500 rfl rfl ?_
  refine E_iload_n dL_law_501 rfl rfl ?_
  refine E_iconst (v := 1) dL_law_502 (by decide) ?_
  refine E_iadd dL_law_503 ?_
  refine E_sld dL_law_504 i1 rfl ?_
  refine E_aload_n dL_law_505 rfl rfl ?_
  refine E_iload_n dL_law_506 rfl rfl ?_
  refine E_iconst (v := 2) dL_law_507 (by decide) ?_
  refine E_iadd dL_law_508 ?_
  refine E_sld dL_law_509 i2 rfl ?_
  refine E_if_eq (tgt := 517) dL_law_510 (by decide) (fun h510 => ?_) (fun h510 => absurd h510 (fun z => z hb))
  refine E_iconst (v := 0) dL_law_517 (by decide) ?_
  refine E_callV (m2 := mX9_eye) dL_law_518 kL_59 mzX9_eye hr rfl ⟨_, _, rfl⟩ rfl rfl (by decide) (xs8 (Nat.le_of_ble_eq_true rfl)) (by first | exact Nat.le_of_ble_eq_true rfl | omega) (by first | exact Nat.le_of_ble_eq_true rfl | omega) ?_
  rintro _ S2 ⟨rfl, hI2⟩
  refine E_icmp_eq (tgt := 1121) dL_law_521 (by decide) (fun h521 => ?_) (fun h521 => absurd h521 (fun z => z rfl))
  exact hn _ _ _ hI2 (by omega) (by omega)
theorem l_law_eye_f (hM : M ≤ 3072) (hk : 6 * k + 6 ≤ M) (hI : vInv S) (hc : 10 ≤ cb) (hs : 46 ≤ sb) (hn : xaft M xs Q k cb sb) (hb : ¬ xs (nI (6 * k) + 2).toNatClampNeg = 0) : Ex mL_law 8 cb sb (M + 1, xs) Q 477 (xlq k) [] S := by
  obtain ⟨n, T, C, nP, h⟩ := hI
  have i1 : vp_in (nI (6 * k) + 1) M := y_idx (j := 1) hM hk (by omega)
  have i2 : vp_in (nI (6 * k) + 2) M := y_idx (j := 2) hM hk (by omega)
  have i3 : vp_in (nI (6 * k) + 3) M := y_idx (j := 3) hM hk (by omega)
  have i4 : vp_in (nI (6 * k) + 4) M := y_idx (j := 4) hM hk (by omega)
  have i5 : vp_in (nI (6 * k) + 5) M := y_idx (j := 5) hM hk (by omega)
  refine E_aload_n dL_law_477 rfl rfl ?_
  refine E_aload_n dL_law_478 rfl rfl ?_
  refine E_iload_n dL_law_479 rfl rfl ?_
  refine E_iconst (v := 1) dL_law_480 (by decide) ?_
  refine E_iadd dL_law_481 ?_
  refine E_sld dL_law_482 i1 rfl ?_
  refine E_aload_n dL_law_483 rfl rfl ?_
  refine E_iload_n dL_law_484 rfl rfl ?_
  refine E_iconst (v := 2) dL_law_485 (by decide) ?_
  refine E_iadd dL_law_486 ?_
  refine E_sld dL_law_487 i2 rfl ?_
  refine E_if_eq (tgt := 495) dL_law_488 (by decide) (fun h488 => absurd h488 (hb)) (fun h488 => ?_)
  refine E_iconst (v := 1) dL_law_491 (by decide) ?_
  refine E_goto (tgt := 496) dL_law_492 (by decide) ?_
  refine E_callV (m2 := mX8_eye) dL_law_496 kL_55 mzX8_eye (a_eye h _ _ xB_1) rfl ⟨_, _, rfl⟩ rfl rfl (by decide) (xs8 (Nat.le_of_ble_eq_true rfl)) (by first | exact Nat.le_of_ble_eq_true rfl | omega) (by first | exact Nat.le_of_ble_eq_true rfl | omega) ?_
  rintro _ S1 ⟨⟨a, rfl⟩, hr⟩
  refine E_aload_n dL_law_499 rfl rfl ?_
  refine E_aload_n dL_law_500 rfl rfl ?_
  refine E_iload_n dL_law_501 rfl rfl ?_
  refine E_iconst (v := 1) dL_law_502 (by decide) ?_
  refine E_iadd dL_law_503 ?_
  refine E_sld dL_law_504 i1 rfl ?_
  refine E_aload_n dL_law_505 rfl rfl ?_
  refine E_iload_n dL_law_506 rfl rfl ?_
  refine E_iconst (v := 2) dL_law_507 (by decide) ?_
  refine E_iadd dL_law_508 ?_
  refine E_sld dL_law_509 i2 rfl ?_
  refine E_if_eq (tgt := 517) dL_law_510 (by decide) (fun h510 => absurd h510 (hb)) (fun h510 => ?_)
  refine E_iconst (v := 1) dL_law_513 (by decide) ?_
  refine E_goto (tgt := 518) dL_law_514 (by decide) ?_
  refine E_callV (m2 := mX9_eye) dL_law_518 kL_59 mzX9_eye hr rfl ⟨_, _, rfl⟩ rfl rfl (by decide) (xs8 (Nat.le_of_ble_eq_true rfl)) (by first | exact Nat.le_of_ble_eq_true rfl | omega) (by first | exact Nat.le_of_ble_eq_true rfl | omega) ?_
  rintro _ S2 ⟨rfl, hI2⟩
  refine E_icmp_eq (tgt := 1121) dL_law_521 (by decide) (fun h521 => ?_) (fun h521 => absurd h521 (fun z => z rfl))
  exact hn _ _ _ hI2 (by omega) (by omega)
theorem l_law_hand (hM : M ≤ 3072) (hk : 6 * k + 6 ≤ M) (hI : vInv S) (hc : 10 ≤ cb) (hs : 46 ≤ sb) (hn : xaft M xs Q k cb sb) : Ex mL_law 8 cb sb (M + 1, xs) Q 526 (xlq k) [] S := by
  obtain ⟨n, T, C, nP, h⟩ := hI
  have i1 : vp_in (nI (6 * k) + 1) M := y_idx (j := 1) hM hk (by omega)
  have i2 : vp_in (nI (6 * k) + 2) M := y_idx (j := 2) hM hk (by omega)
  have i3 : vp_in (nI (6 * k) + 3) M := y_idx (j := 3) hM hk (by omega)
  have i4 : vp_in (nI (6 * k) + 4) M := y_idx (j := 4) hM hk (by omega)
  have i5 : vp_in (nI (6 * k) + 5) M := y_idx (j := 5) hM hk (by omega)
  refine E_aload_n dL_law_526 rfl rfl ?_
  refine E_aload_n dL_law_527 rfl rfl ?_
  refine E_iload_n dL_law_528 rfl rfl ?_
  refine E_iconst (v := 1) dL_law_529 (by decide) ?_
  refine E_iadd dL_law_530 ?_
  refine E_sld dL_law_531 i1 rfl ?_
  refine E_callV (m2 := mX8_hand) dL_law_532 kL_60 mzX8_hand (a_hand h _) rfl ⟨_, _, rfl⟩ rfl rfl (by decide) (xs8 (Nat.le_of_ble_eq_true rfl)) (by first | exact Nat.le_of_ble_eq_true rfl | omega) (by first | exact Nat.le_of_ble_eq_true rfl | omega) ?_
  rintro _ S1 ⟨⟨a, rfl⟩, hr⟩
  refine E_aload_n dL_law_535 rfl rfl ?_
  refine E_aload_n dL_law_536 rfl rfl ?_
  refine E_iload_n dL_law_537 rfl rfl ?_
  refine E_iconst (v := 1) dL_law_538 (by decide) ?_
  refine E_iadd dL_law_539 ?_
  refine E_sld dL_law_540 i1 rfl ?_
  refine E_callV (m2 := mX9_hand) dL_law_541 kL_63 mzX9_hand hr rfl ⟨_, _, rfl⟩ rfl rfl (by decide) (xs8 (Nat.le_of_ble_eq_true rfl)) (by first | exact Nat.le_of_ble_eq_true rfl | omega) (by first | exact Nat.le_of_ble_eq_true rfl | omega) ?_
  rintro _ S2 ⟨rfl, hI2⟩
  refine E_icmp_eq (tgt := 1121) dL_law_544 (by decide) (fun h544 => ?_) (fun h544 => absurd h544 (fun z => z rfl))
  exact hn _ _ _ hI2 (by omega) (by omega)
theorem l_law_count (hM : M ≤ 3072) (hk : 6 * k + 6 ≤ M) (hI : vInv S) (hc : 10 ≤ cb) (hs : 46 ≤ sb) (hn : xaft M xs Q k cb sb) : Ex mL_law 8 cb sb (M + 1, xs) Q 549 (xlq k) [] S := by
  obtain ⟨n, T, C, nP, h⟩ := hI
  have i1 : vp_in (nI (6 * k) + 1) M := y_idx (j := 1) hM hk (by omega)
  have i2 : vp_in (nI (6 * k) + 2) M := y_idx (j := 2) hM hk (by omega)
  have i3 : vp_in (nI (6 * k) + 3) M := y_idx (j := 3) hM hk (by omega)
  have i4 : vp_in (nI (6 * k) + 4) M := y_idx (j := 4) hM hk (by omega)
  have i5 : vp_in (nI (6 * k) + 5) M := y_idx (j := 5) hM hk (by omega)
  refine E_aload_n dL_law_549 rfl rfl ?_
  refine E_aload_n dL_law_550 rfl rfl ?_
  refine E_iload_n dL_law_551 rfl rfl ?_
  refine E_iconst (v := 1) dL_law_552 (by decide) ?_
  refine E_iadd dL_law_553 ?_
  refine E_sld dL_law_554 i1 rfl ?_
  refine E_aload_n dL_law_555 rfl rfl ?_
  refine E_iload_n dL_law_556 rfl rfl ?_
  refine E_iconst (v := 2) dL_law_557 (by decide) ?_
  refine E_iadd dL_law_558 ?_
  refine E_sld dL_law_559 i2 rfl ?_
  refine E_callV (m2 := mX8_count) dL_law_560 kL_64 mzX8_count (a_count h _ _) rfl ⟨_, _, rfl⟩ rfl rfl (by decide) (xs8 (Nat.le_of_ble_eq_true rfl)) (by first | exact Nat.le_of_ble_eq_true rfl | omega) (by first | exact Nat.le_of_ble_eq_true rfl | omega) ?_
  rintro _ S1 ⟨⟨a, rfl⟩, hr⟩
  refine E_aload_n dL_law_563 rfl rfl ?_
  refine E_aload_n dL_law_564 rfl rfl ?_
  refine E_iload_n dL_law_565 rfl rfl ?_
  refine E_iconst (v := 1) dL_law_566 (by decide) ?_
  refine E_iadd dL_law_567 ?_
  refine E_sld dL_law_568 i1 rfl ?_
  refine E_aload_n dL_law_569 rfl rfl ?_
  refine E_iload_n dL_law_570 rfl rfl ?_
  refine E_iconst (v := 2) dL_law_571 (by decide) ?_
  refine E_iadd dL_law_572 ?_
  refine E_sld dL_law_573 i2 rfl ?_
  refine E_callV (m2 := mX9_count) dL_law_574 kL_68 mzX9_count hr rfl ⟨_, _, rfl⟩ rfl rfl (by decide) (xs8 (Nat.le_of_ble_eq_true rfl)) (by first | exact Nat.le_of_ble_eq_true rfl | omega) (by first | exact Nat.le_of_ble_eq_true rfl | omega) ?_
  rintro _ S2 ⟨rfl, hI2⟩
  refine E_icmp_eq (tgt := 1121) dL_law_577 (by decide) (fun h577 => ?_) (fun h577 => absurd h577 (fun z => z rfl))
  exact hn _ _ _ hI2 (by omega) (by omega)
theorem l_law_bounds (hM : M ≤ 3072) (hk : 6 * k + 6 ≤ M) (hI : vInv S) (hc : 10 ≤ cb) (hs : 46 ≤ sb) (hn : xaft M xs Q k cb sb) : Ex mL_law 8 cb sb (M + 1, xs) Q 582 (xlq k) [] S := by
  obtain ⟨n, T, C, nP, h⟩ := hI
  have i1 : vp_in (nI (6 * k) + 1) M := y_idx (j := 1) hM hk (by omega)
  have i2 : vp_in (nI (6 * k) + 2) M := y_idx (j := 2) hM hk (by omega)
  have i3 : vp_in (nI (6 * k) + 3) M := y_idx (j := 3) hM hk (by omega)
  have i4 : vp_in (nI (6 * k) + 4) M := y_idx (j := 4) hM hk (by omega)
  have i5 : vp_in (nI (6 * k) + 5) M := y_idx (j := 5) hM hk (by omega)
  refine E_aload_n dL_law_582 rfl rfl ?_
  refine E_aload_n dL_law_583 rfl rfl ?_
  refine E_iload_n dL_law_584 rfl rfl ?_
  refine E_iconst (v := 1) dL_law_585 (by decide) ?_
  refine E_iadd dL_law_586 ?_
  refine E_sld dL_law_587 i1 rfl ?_
  refine E_aload_n dL_law_588 rfl rfl ?_
  refine E_iload_n dL_law_589 rfl rfl ?_
  refine E_iconst (v := 2) dL_law_590 (by decide) ?_
  refine E_iadd dL_law_591 ?_
  refine E_sld dL_law_592 i2 rfl ?_
  refine E_aload_n dL_law_593 rfl rfl ?_
  refine E_iload_n dL_law_594 rfl rfl ?_
  refine E_iconst (v := 3) dL_law_595 (by decide) ?_
  refine E_iadd dL_law_596 ?_
  refine E_sld dL_law_597 i3 rfl ?_
  refine E_aload_n dL_law_598 rfl rfl ?_
  refine E_iload_n dL_law_599 rfl rfl ?_
  refine E_iconst (v := 4) dL_law_600 (by decide) ?_
  refine E_iadd dL_law_601 ?_
  refine E_sld dL_law_602 i4 rfl ?_
  refine E_callV (m2 := mX8_bounds) dL_law_603 kL_69 mzX8_bounds (a_bounds h _ _ _ _) rfl ⟨_, _, rfl⟩ rfl rfl (by decide) (xs8 (Nat.le_of_ble_eq_true rfl)) (by first | exact Nat.le_of_ble_eq_true rfl | omega) (by first | exact Nat.le_of_ble_eq_true rfl | omega) ?_
  rintro _ S1 ⟨⟨a, rfl⟩, hr⟩
  refine E_aload_n dL_law_606 rfl rfl ?_
  refine E_aload_n dL_law_607 rfl rfl ?_
  refine E_iload_n dL_law_608 rfl rfl ?_
  refine E_iconst (v := 1) dL_law_609 (by decide) ?_
  refine E_iadd dL_law_610 ?_
  refine E_sld dL_law_611 i1 rfl ?_
  refine E_aload_n dL_law_612 rfl rfl ?_
  refine E_iload_n dL_law_613 rfl rfl ?_
  refine E_iconst (v := 2) dL_law_614 (by decide) ?_
  refine E_iadd dL_law_615 ?_
  refine E_sld dL_law_616 i2 rfl ?_
  refine E_aload_n dL_law_617 rfl rfl ?_
  refine E_iload_n dL_law_618 rfl rfl ?_
  refine E_iconst (v := 3) dL_law_619 (by decide) ?_
  refine E_iadd dL_law_620 ?_
  refine E_sld dL_law_621 i3 rfl ?_
  refine E_aload_n dL_law_622 rfl rfl ?_
  refine E_iload_n dL_law_623 rfl rfl ?_
  refine E_iconst (v := 4) dL_law_624 (by decide) ?_
  refine E_iadd dL_law_625 ?_
  refine E_sld dL_law_626 i4 rfl ?_
  refine E_callV (m2 := mX9_bounds) dL_law_627 kL_72 mzX9_bounds hr rfl ⟨_, _, rfl⟩ rfl rfl (by decide) (xs8 (Nat.le_of_ble_eq_true rfl)) (by first | exact Nat.le_of_ble_eq_true rfl | omega) (by first | exact Nat.le_of_ble_eq_true rfl | omega) ?_
  rintro _ S2 ⟨rfl, hI2⟩
  refine E_icmp_eq (tgt := 1121) dL_law_630 (by decide) (fun h630 => ?_) (fun h630 => absurd h630 (fun z => z rfl))
  exact hn _ _ _ hI2 (by omega) (by omega)
theorem l_law_measure (hM : M ≤ 3072) (hk : 6 * k + 6 ≤ M) (hI : vInv S) (hc : 10 ≤ cb) (hs : 46 ≤ sb) (hn : xaft M xs Q k cb sb) : Ex mL_law 8 cb sb (M + 1, xs) Q 635 (xlq k) [] S := by
  obtain ⟨n, T, C, nP, h⟩ := hI
  have i1 : vp_in (nI (6 * k) + 1) M := y_idx (j := 1) hM hk (by omega)
  have i2 : vp_in (nI (6 * k) + 2) M := y_idx (j := 2) hM hk (by omega)
  have i3 : vp_in (nI (6 * k) + 3) M := y_idx (j := 3) hM hk (by omega)
  have i4 : vp_in (nI (6 * k) + 4) M := y_idx (j := 4) hM hk (by omega)
  have i5 : vp_in (nI (6 * k) + 5) M := y_idx (j := 5) hM hk (by omega)
  refine E_aload_n dL_law_635 rfl rfl ?_
  refine E_aload_n dL_law_636 rfl rfl ?_
  refine E_iload_n dL_law_637 rfl rfl ?_
  refine E_iconst (v := 1) dL_law_638 (by decide) ?_
  refine E_iadd dL_law_639 ?_
  refine E_sld dL_law_640 i1 rfl ?_
  refine E_aload_n dL_law_641 rfl rfl ?_
  refine E_iload_n dL_law_642 rfl rfl ?_
  refine E_iconst (v := 2) dL_law_643 (by decide) ?_
  refine E_iadd dL_law_644 ?_
  refine E_sld dL_law_645 i2 rfl ?_
  refine E_aload_n dL_law_646 rfl rfl ?_
  refine E_iload_n dL_law_647 rfl rfl ?_
  refine E_iconst (v := 3) dL_law_648 (by decide) ?_
  refine E_iadd dL_law_649 ?_
  refine E_sld dL_law_650 i3 rfl ?_
  refine E_i2f dL_law_651 ?_
  refine E_ldcf dL_law_652 oL_73 ?_
  refine E_fmul dL_law_654 (y_script _) ?_
  refine E_callV (m2 := mX8_measure) dL_law_655 kL_74 mzX8_measure (a_measure h _ _ _) rfl ⟨_, _, rfl⟩ rfl rfl (by decide) (xs8 (Nat.le_of_ble_eq_true rfl)) (by first | exact Nat.le_of_ble_eq_true rfl | omega) (by first | exact Nat.le_of_ble_eq_true rfl | omega) ?_
  rintro _ S1 ⟨⟨a, rfl⟩, hr⟩
  refine E_aload_n dL_law_658 rfl rfl ?_
  refine E_aload_n dL_law_659 rfl rfl ?_
  refine E_iload_n dL_law_660 rfl rfl ?_
  refine E_iconst (v := 1) dL_law_661 (by decide) ?_
  refine E_iadd dL_law_662 ?_
  refine E_sld dL_law_663 i1 rfl ?_
  refine E_aload_n dL_law_664 rfl rfl ?_
  refine E_iload_n dL_law_665 rfl rfl ?_
  refine E_iconst (v := 2) dL_law_666 (by decide) ?_
  refine E_iadd dL_law_667 ?_
  refine E_sld dL_law_668 i2 rfl ?_
  refine E_aload_n dL_law_669 rfl rfl ?_
  refine E_iload_n dL_law_670 rfl rfl ?_
  refine E_iconst (v := 3) dL_law_671 (by decide) ?_
  refine E_iadd dL_law_672 ?_
  refine E_sld dL_law_673 i3 rfl ?_
  refine E_i2f dL_law_674 ?_
  refine E_ldcf dL_law_675 oL_73 ?_
  refine E_fmul dL_law_677 (y_script _) ?_
  refine E_callV (m2 := mX9_measure) dL_law_678 kL_78 mzX9_measure hr rfl ⟨_, _, rfl⟩ rfl rfl (by decide) (xs8 (Nat.le_of_ble_eq_true rfl)) (by first | exact Nat.le_of_ble_eq_true rfl | omega) (by first | exact Nat.le_of_ble_eq_true rfl | omega) ?_
  rintro _ S2 ⟨rfl, hI2⟩
  refine E_icmp_eq (tgt := 1121) dL_law_681 (by decide) (fun h681 => ?_) (fun h681 => absurd h681 (fun z => z rfl))
  exact hn _ _ _ hI2 (by omega) (by omega)
theorem l_law_put (hM : M ≤ 3072) (hk : 6 * k + 6 ≤ M) (hI : vInv S) (hc : 10 ≤ cb) (hs : 46 ≤ sb) (hn : xaft M xs Q k cb sb) : Ex mL_law 8 cb sb (M + 1, xs) Q 686 (xlq k) [] S := by
  obtain ⟨n, T, C, nP, h⟩ := hI
  have i1 : vp_in (nI (6 * k) + 1) M := y_idx (j := 1) hM hk (by omega)
  have i2 : vp_in (nI (6 * k) + 2) M := y_idx (j := 2) hM hk (by omega)
  have i3 : vp_in (nI (6 * k) + 3) M := y_idx (j := 3) hM hk (by omega)
  have i4 : vp_in (nI (6 * k) + 4) M := y_idx (j := 4) hM hk (by omega)
  have i5 : vp_in (nI (6 * k) + 5) M := y_idx (j := 5) hM hk (by omega)
  refine E_aload_n dL_law_686 rfl rfl ?_
  refine E_aload_n dL_law_687 rfl rfl ?_
  refine E_iload_n dL_law_688 rfl rfl ?_
  refine E_iconst (v := 1) dL_law_689 (by decide) ?_
  refine E_iadd dL_law_690 ?_
  refine E_sld dL_law_691 i1 rfl ?_
  refine E_aload_n dL_law_692 rfl rfl ?_
  refine E_iload_n dL_law_693 rfl rfl ?_
  refine E_iconst (v := 2) dL_law_694 (by decide) ?_
  refine E_iadd dL_law_695 ?_
  refine E_sld dL_law_696 i2 rfl ?_
  refine E_callV (m2 := mX8_put) dL_law_697 kL_79 mzX8_put (a_put h _ _) rfl ⟨_, _, rfl⟩ rfl rfl (by decide) (xs8 (Nat.le_of_ble_eq_true rfl)) (by first | exact Nat.le_of_ble_eq_true rfl | omega) (by first | exact Nat.le_of_ble_eq_true rfl | omega) ?_
  rintro _ S1 ⟨⟨a, rfl⟩, hr⟩
  refine E_aload_n dL_law_700 rfl rfl ?_
  refine E_aload_n dL_law_701 rfl rfl ?_
  refine E_iload_n dL_law_702 rfl rfl ?_
  refine E_iconst (v := 1) dL_law_703 (by decide) ?_
  refine E_iadd dL_law_704 ?_
  refine E_sld dL_law_705 i1 rfl ?_
  refine E_aload_n dL_law_706 rfl rfl ?_
  refine E_iload_n dL_law_707 rfl rfl ?_
  refine E_iconst (v := 2) dL_law_708 (by decide) ?_
  refine E_iadd dL_law_709 ?_
  refine E_sld dL_law_710 i2 rfl ?_
  refine E_callV (m2 := mX9_put) dL_law_711 kL_83 mzX9_put hr rfl ⟨_, _, rfl⟩ rfl rfl (by decide) (xs8 (Nat.le_of_ble_eq_true rfl)) (by first | exact Nat.le_of_ble_eq_true rfl | omega) (by first | exact Nat.le_of_ble_eq_true rfl | omega) ?_
  rintro _ S2 ⟨rfl, hI2⟩
  refine E_icmp_eq (tgt := 1121) dL_law_714 (by decide) (fun h714 => ?_) (fun h714 => absurd h714 (fun z => z rfl))
  exact hn _ _ _ hI2 (by omega) (by omega)
theorem l_law_shut (hM : M ≤ 3072) (hk : 6 * k + 6 ≤ M) (hI : vInv S) (hc : 10 ≤ cb) (hs : 46 ≤ sb) (hn : xaft M xs Q k cb sb) : Ex mL_law 8 cb sb (M + 1, xs) Q 719 (xlq k) [] S := by
  obtain ⟨n, T, C, nP, h⟩ := hI
  have i1 : vp_in (nI (6 * k) + 1) M := y_idx (j := 1) hM hk (by omega)
  have i2 : vp_in (nI (6 * k) + 2) M := y_idx (j := 2) hM hk (by omega)
  have i3 : vp_in (nI (6 * k) + 3) M := y_idx (j := 3) hM hk (by omega)
  have i4 : vp_in (nI (6 * k) + 4) M := y_idx (j := 4) hM hk (by omega)
  have i5 : vp_in (nI (6 * k) + 5) M := y_idx (j := 5) hM hk (by omega)
  refine E_aload_n dL_law_719 rfl rfl ?_
  refine E_aload_n dL_law_720 rfl rfl ?_
  refine E_iload_n dL_law_721 rfl rfl ?_
  refine E_iconst (v := 1) dL_law_722 (by decide) ?_
  refine E_iadd dL_law_723 ?_
  refine E_sld dL_law_724 i1 rfl ?_
  refine E_callV (m2 := mX8_shut) dL_law_725 kL_84 mzX8_shut (a_shut h _) rfl ⟨_, _, rfl⟩ rfl rfl (by decide) (xs8 (Nat.le_of_ble_eq_true rfl)) (by first | exact Nat.le_of_ble_eq_true rfl | omega) (by first | exact Nat.le_of_ble_eq_true rfl | omega) ?_
  rintro _ S1 ⟨⟨a, rfl⟩, hr⟩
  refine E_aload_n dL_law_728 rfl rfl ?_
  refine E_aload_n dL_law_729 rfl rfl ?_
  refine E_iload_n dL_law_730 rfl rfl ?_
  refine E_iconst (v := 1) dL_law_731 (by decide) ?_
  refine E_iadd dL_law_732 ?_
  refine E_sld dL_law_733 i1 rfl ?_
  refine E_callV (m2 := mX9_shut) dL_law_734 kL_87 mzX9_shut hr rfl ⟨_, _, rfl⟩ rfl rfl (by decide) (xs8 (Nat.le_of_ble_eq_true rfl)) (by first | exact Nat.le_of_ble_eq_true rfl | omega) (by first | exact Nat.le_of_ble_eq_true rfl | omega) ?_
  rintro _ S2 ⟨rfl, hI2⟩
  refine E_icmp_eq (tgt := 1121) dL_law_737 (by decide) (fun h737 => ?_) (fun h737 => absurd h737 (fun z => z rfl))
  exact hn _ _ _ hI2 (by omega) (by omega)
theorem l_law_minutes (hM : M ≤ 3072) (hk : 6 * k + 6 ≤ M) (hI : vInv S) (hc : 10 ≤ cb) (hs : 46 ≤ sb) (hn : xaft M xs Q k cb sb) : Ex mL_law 8 cb sb (M + 1, xs) Q 742 (xlq k) [] S := by
  obtain ⟨n, T, C, nP, h⟩ := hI
  have i1 : vp_in (nI (6 * k) + 1) M := y_idx (j := 1) hM hk (by omega)
  have i2 : vp_in (nI (6 * k) + 2) M := y_idx (j := 2) hM hk (by omega)
  have i3 : vp_in (nI (6 * k) + 3) M := y_idx (j := 3) hM hk (by omega)
  have i4 : vp_in (nI (6 * k) + 4) M := y_idx (j := 4) hM hk (by omega)
  have i5 : vp_in (nI (6 * k) + 5) M := y_idx (j := 5) hM hk (by omega)
  refine E_aload_n dL_law_742 rfl rfl ?_
  refine E_aload_n dL_law_743 rfl rfl ?_
  refine E_iload_n dL_law_744 rfl rfl ?_
  refine E_iconst (v := 1) dL_law_745 (by decide) ?_
  refine E_iadd dL_law_746 ?_
  refine E_sld dL_law_747 i1 rfl ?_
  refine E_callV (m2 := mX8_minutes) dL_law_748 kL_88 mzX8_minutes (a_minutes h _) rfl ⟨_, _, rfl⟩ rfl rfl (by decide) (xs8 (Nat.le_of_ble_eq_true rfl)) (by first | exact Nat.le_of_ble_eq_true rfl | omega) (by first | exact Nat.le_of_ble_eq_true rfl | omega) ?_
  rintro _ S1 ⟨⟨a, rfl⟩, hr⟩
  refine E_aload_n dL_law_751 rfl rfl ?_
  refine E_aload_n dL_law_752 rfl rfl ?_
  refine E_iload_n dL_law_753 rfl rfl ?_
  refine E_iconst (v := 1) dL_law_754 (by decide) ?_
  refine E_iadd dL_law_755 ?_
  refine E_sld dL_law_756 i1 rfl ?_
  refine E_callV (m2 := mX9_minutes) dL_law_757 kL_91 mzX9_minutes hr rfl ⟨_, _, rfl⟩ rfl rfl (by decide) (xs8 (Nat.le_of_ble_eq_true rfl)) (by first | exact Nat.le_of_ble_eq_true rfl | omega) (by first | exact Nat.le_of_ble_eq_true rfl | omega) ?_
  rintro _ S2 ⟨rfl, hI2⟩
  refine E_icmp_eq (tgt := 1121) dL_law_760 (by decide) (fun h760 => ?_) (fun h760 => absurd h760 (fun z => z rfl))
  exact hn _ _ _ hI2 (by omega) (by omega)
theorem l_law_post (hM : M ≤ 3072) (hk : 6 * k + 6 ≤ M) (hI : vInv S) (hc : 10 ≤ cb) (hs : 46 ≤ sb) (hn : xaft M xs Q k cb sb) : Ex mL_law 8 cb sb (M + 1, xs) Q 765 (xlq k) [] S := by
  obtain ⟨n, T, C, nP, h⟩ := hI
  have i1 : vp_in (nI (6 * k) + 1) M := y_idx (j := 1) hM hk (by omega)
  have i2 : vp_in (nI (6 * k) + 2) M := y_idx (j := 2) hM hk (by omega)
  have i3 : vp_in (nI (6 * k) + 3) M := y_idx (j := 3) hM hk (by omega)
  have i4 : vp_in (nI (6 * k) + 4) M := y_idx (j := 4) hM hk (by omega)
  have i5 : vp_in (nI (6 * k) + 5) M := y_idx (j := 5) hM hk (by omega)
  refine E_aload_n dL_law_765 rfl rfl ?_
  refine E_aload_n dL_law_766 rfl rfl ?_
  refine E_iload_n dL_law_767 rfl rfl ?_
  refine E_iconst (v := 1) dL_law_768 (by decide) ?_
  refine E_iadd dL_law_769 ?_
  refine E_sld dL_law_770 i1 rfl ?_
  refine E_aload_n dL_law_771 rfl rfl ?_
  refine E_iload_n dL_law_772 rfl rfl ?_
  refine E_iconst (v := 2) dL_law_773 (by decide) ?_
  refine E_iadd dL_law_774 ?_
  refine E_sld dL_law_775 i2 rfl ?_
  refine E_aload_n dL_law_776 rfl rfl ?_
  refine E_iload_n dL_law_777 rfl rfl ?_
  refine E_iconst (v := 3) dL_law_778 (by decide) ?_
  refine E_iadd dL_law_779 ?_
  refine E_sld dL_law_780 i3 rfl ?_
  refine E_callV (m2 := mX8_post) dL_law_781 kL_92 mzX8_post (a_post h _ _ _) rfl ⟨_, _, rfl⟩ rfl rfl (by decide) (xs8 (Nat.le_of_ble_eq_true rfl)) (by first | exact Nat.le_of_ble_eq_true rfl | omega) (by first | exact Nat.le_of_ble_eq_true rfl | omega) ?_
  rintro _ S1 ⟨⟨a, rfl⟩, hr⟩
  refine E_aload_n dL_law_784 rfl rfl ?_
  refine E_aload_n dL_law_785 rfl rfl ?_
  refine E_iload_n dL_law_786 rfl rfl ?_
  refine E_iconst (v := 1) dL_law_787 (by decide) ?_
  refine E_iadd dL_law_788 ?_
  refine E_sld dL_law_789 i1 rfl ?_
  refine E_aload_n dL_law_790 rfl rfl ?_
  refine E_iload_n dL_law_791 rfl rfl ?_
  refine E_iconst (v := 2) dL_law_792 (by decide) ?_
  refine E_iadd dL_law_793 ?_
  refine E_sld dL_law_794 i2 rfl ?_
  refine E_aload_n dL_law_795 rfl rfl ?_
  refine E_iload_n dL_law_796 rfl rfl ?_
  refine E_iconst (v := 3) dL_law_797 (by decide) ?_
  refine E_iadd dL_law_798 ?_
  refine E_sld dL_law_799 i3 rfl ?_
  refine E_callV (m2 := mX9_post) dL_law_800 kL_96 mzX9_post hr rfl ⟨_, _, rfl⟩ rfl rfl (by decide) (xs8 (Nat.le_of_ble_eq_true rfl)) (by first | exact Nat.le_of_ble_eq_true rfl | omega) (by first | exact Nat.le_of_ble_eq_true rfl | omega) ?_
  rintro _ S2 ⟨rfl, hI2⟩
  refine E_icmp_eq (tgt := 1121) dL_law_803 (by decide) (fun h803 => ?_) (fun h803 => absurd h803 (fun z => z rfl))
  exact hn _ _ _ hI2 (by omega) (by omega)
theorem l_law_watcher (hM : M ≤ 3072) (hk : 6 * k + 6 ≤ M) (hI : vInv S) (hc : 10 ≤ cb) (hs : 46 ≤ sb) (hn : xaft M xs Q k cb sb) : Ex mL_law 8 cb sb (M + 1, xs) Q 808 (xlq k) [] S := by
  obtain ⟨n, T, C, nP, h⟩ := hI
  have i1 : vp_in (nI (6 * k) + 1) M := y_idx (j := 1) hM hk (by omega)
  have i2 : vp_in (nI (6 * k) + 2) M := y_idx (j := 2) hM hk (by omega)
  have i3 : vp_in (nI (6 * k) + 3) M := y_idx (j := 3) hM hk (by omega)
  have i4 : vp_in (nI (6 * k) + 4) M := y_idx (j := 4) hM hk (by omega)
  have i5 : vp_in (nI (6 * k) + 5) M := y_idx (j := 5) hM hk (by omega)
  refine E_aload_n dL_law_808 rfl rfl ?_
  refine E_aload_n dL_law_809 rfl rfl ?_
  refine E_iload_n dL_law_810 rfl rfl ?_
  refine E_iconst (v := 1) dL_law_811 (by decide) ?_
  refine E_iadd dL_law_812 ?_
  refine E_sld dL_law_813 i1 rfl ?_
  refine E_aload_n dL_law_814 rfl rfl ?_
  refine E_iload_n dL_law_815 rfl rfl ?_
  refine E_iconst (v := 2) dL_law_816 (by decide) ?_
  refine E_iadd dL_law_817 ?_
  refine E_sld dL_law_818 i2 rfl ?_
  refine E_callV (m2 := mX8_watcher) dL_law_819 kL_97 mzX8_watcher (a_watcher h _ _) rfl ⟨_, _, rfl⟩ rfl rfl (by decide) (xs8 (Nat.le_of_ble_eq_true rfl)) (by first | exact Nat.le_of_ble_eq_true rfl | omega) (by first | exact Nat.le_of_ble_eq_true rfl | omega) ?_
  rintro _ S1 ⟨⟨a, rfl⟩, hr⟩
  refine E_aload_n dL_law_822 rfl rfl ?_
  refine E_aload_n dL_law_823 rfl rfl ?_
  refine E_iload_n dL_law_824 rfl rfl ?_
  refine E_iconst (v := 1) dL_law_825 (by decide) ?_
  refine E_iadd dL_law_826 ?_
  refine E_sld dL_law_827 i1 rfl ?_
  refine E_aload_n dL_law_828 rfl rfl ?_
  refine E_iload_n dL_law_829 rfl rfl ?_
  refine E_iconst (v := 2) dL_law_830 (by decide) ?_
  refine E_iadd dL_law_831 ?_
  refine E_sld dL_law_832 i2 rfl ?_
  refine E_callV (m2 := mX9_watcher) dL_law_833 kL_100 mzX9_watcher hr rfl ⟨_, _, rfl⟩ rfl rfl (by decide) (xs8 (Nat.le_of_ble_eq_true rfl)) (by first | exact Nat.le_of_ble_eq_true rfl | omega) (by first | exact Nat.le_of_ble_eq_true rfl | omega) ?_
  rintro _ S2 ⟨rfl, hI2⟩
  refine E_icmp_eq (tgt := 1121) dL_law_836 (by decide) (fun h836 => ?_) (fun h836 => absurd h836 (fun z => z rfl))
  exact hn _ _ _ hI2 (by omega) (by omega)
theorem l_law_key (hM : M ≤ 3072) (hk : 6 * k + 6 ≤ M) (hI : vInv S) (hc : 10 ≤ cb) (hs : 46 ≤ sb) (hn : xaft M xs Q k cb sb) : Ex mL_law 8 cb sb (M + 1, xs) Q 841 (xlq k) [] S := by
  obtain ⟨n, T, C, nP, h⟩ := hI
  have i1 : vp_in (nI (6 * k) + 1) M := y_idx (j := 1) hM hk (by omega)
  have i2 : vp_in (nI (6 * k) + 2) M := y_idx (j := 2) hM hk (by omega)
  have i3 : vp_in (nI (6 * k) + 3) M := y_idx (j := 3) hM hk (by omega)
  have i4 : vp_in (nI (6 * k) + 4) M := y_idx (j := 4) hM hk (by omega)
  have i5 : vp_in (nI (6 * k) + 5) M := y_idx (j := 5) hM hk (by omega)
  refine E_aload_n dL_law_841 rfl rfl ?_
  refine E_aload_n dL_law_842 rfl rfl ?_
  refine E_iload_n dL_law_843 rfl rfl ?_
  refine E_iconst (v := 1) dL_law_844 (by decide) ?_
  refine E_iadd dL_law_845 ?_
  refine E_sld dL_law_846 i1 rfl ?_
  refine E_callV (m2 := mX8_key) dL_law_847 kL_101 mzX8_key (a_key h _) rfl ⟨_, _, rfl⟩ rfl rfl (by decide) (xs8 (Nat.le_of_ble_eq_true rfl)) (by first | exact Nat.le_of_ble_eq_true rfl | omega) (by first | exact Nat.le_of_ble_eq_true rfl | omega) ?_
  rintro _ S1 ⟨⟨a, rfl⟩, hr⟩
  refine E_aload_n dL_law_850 rfl rfl ?_
  refine E_aload_n dL_law_851 rfl rfl ?_
  refine E_iload_n dL_law_852 rfl rfl ?_
  refine E_iconst (v := 1) dL_law_853 (by decide) ?_
  refine E_iadd dL_law_854 ?_
  refine E_sld dL_law_855 i1 rfl ?_
  refine E_callV (m2 := mX9_key) dL_law_856 kL_104 mzX9_key hr rfl ⟨_, _, rfl⟩ rfl rfl (by decide) (xs8 (Nat.le_of_ble_eq_true rfl)) (by first | exact Nat.le_of_ble_eq_true rfl | omega) (by first | exact Nat.le_of_ble_eq_true rfl | omega) ?_
  rintro _ S2 ⟨rfl, hI2⟩
  refine E_icmp_eq (tgt := 1121) dL_law_859 (by decide) (fun h859 => ?_) (fun h859 => absurd h859 (fun z => z rfl))
  exact hn _ _ _ hI2 (by omega) (by omega)
theorem l_law_give (hM : M ≤ 3072) (hk : 6 * k + 6 ≤ M) (hI : vInv S) (hc : 10 ≤ cb) (hs : 46 ≤ sb) (hn : xaft M xs Q k cb sb) : Ex mL_law 8 cb sb (M + 1, xs) Q 864 (xlq k) [] S := by
  obtain ⟨n, T, C, nP, h⟩ := hI
  have i1 : vp_in (nI (6 * k) + 1) M := y_idx (j := 1) hM hk (by omega)
  have i2 : vp_in (nI (6 * k) + 2) M := y_idx (j := 2) hM hk (by omega)
  have i3 : vp_in (nI (6 * k) + 3) M := y_idx (j := 3) hM hk (by omega)
  have i4 : vp_in (nI (6 * k) + 4) M := y_idx (j := 4) hM hk (by omega)
  have i5 : vp_in (nI (6 * k) + 5) M := y_idx (j := 5) hM hk (by omega)
  refine E_aload_n dL_law_864 rfl rfl ?_
  refine E_aload_n dL_law_865 rfl rfl ?_
  refine E_iload_n dL_law_866 rfl rfl ?_
  refine E_iconst (v := 1) dL_law_867 (by decide) ?_
  refine E_iadd dL_law_868 ?_
  refine E_sld dL_law_869 i1 rfl ?_
  refine E_callV (m2 := mX8_give) dL_law_870 kL_105 mzX8_give (a_give h _) rfl ⟨_, _, rfl⟩ rfl rfl (by decide) (xs8 (Nat.le_of_ble_eq_true rfl)) (by first | exact Nat.le_of_ble_eq_true rfl | omega) (by first | exact Nat.le_of_ble_eq_true rfl | omega) ?_
  rintro _ S1 ⟨⟨a, rfl⟩, hr⟩
  refine E_aload_n dL_law_873 rfl rfl ?_
  refine E_aload_n dL_law_874 rfl rfl ?_
  refine E_iload_n dL_law_875 rfl rfl ?_
  refine E_iconst (v := 1) dL_law_876 (by decide) ?_
  refine E_iadd dL_law_877 ?_
  refine E_sld dL_law_878 i1 rfl ?_
  refine E_callV (m2 := mX9_give) dL_law_879 kL_108 mzX9_give hr rfl ⟨_, _, rfl⟩ rfl rfl (by decide) (xs8 (Nat.le_of_ble_eq_true rfl)) (by first | exact Nat.le_of_ble_eq_true rfl | omega) (by first | exact Nat.le_of_ble_eq_true rfl | omega) ?_
  rintro _ S2 ⟨rfl, hI2⟩
  refine E_icmp_eq (tgt := 1121) dL_law_882 (by decide) (fun h882 => ?_) (fun h882 => absurd h882 (fun z => z rfl))
  exact hn _ _ _ hI2 (by omega) (by omega)
theorem l_law_mend (hM : M ≤ 3072) (hk : 6 * k + 6 ≤ M) (hI : vInv S) (hc : 10 ≤ cb) (hs : 46 ≤ sb) (hn : xaft M xs Q k cb sb) : Ex mL_law 8 cb sb (M + 1, xs) Q 887 (xlq k) [] S := by
  obtain ⟨n, T, C, nP, h⟩ := hI
  have i1 : vp_in (nI (6 * k) + 1) M := y_idx (j := 1) hM hk (by omega)
  have i2 : vp_in (nI (6 * k) + 2) M := y_idx (j := 2) hM hk (by omega)
  have i3 : vp_in (nI (6 * k) + 3) M := y_idx (j := 3) hM hk (by omega)
  have i4 : vp_in (nI (6 * k) + 4) M := y_idx (j := 4) hM hk (by omega)
  have i5 : vp_in (nI (6 * k) + 5) M := y_idx (j := 5) hM hk (by omega)
  refine E_aload_n dL_law_887 rfl rfl ?_
  refine E_aload_n dL_law_888 rfl rfl ?_
  refine E_iload_n dL_law_889 rfl rfl ?_
  refine E_iconst (v := 1) dL_law_890 (by decide) ?_
  refine E_iadd dL_law_891 ?_
  refine E_sld dL_law_892 i1 rfl ?_
  refine E_callV (m2 := mX8_mend) dL_law_893 kL_109 mzX8_mend (a_mend h _) rfl ⟨_, _, rfl⟩ rfl rfl (by decide) (xs8 (Nat.le_of_ble_eq_true rfl)) (by first | exact Nat.le_of_ble_eq_true rfl | omega) (by first | exact Nat.le_of_ble_eq_true rfl | omega) ?_
  rintro _ S1 ⟨⟨a, rfl⟩, hr⟩
  refine E_aload_n dL_law_896 rfl rfl ?_
  refine E_aload_n dL_law_897 rfl rfl ?_
  refine E_iload_n dL_law_898 rfl rfl ?_
  refine E_iconst (v := 1) dL_law_899 (by decide) ?_
  refine E_iadd dL_law_900 ?_
  refine E_sld dL_law_901 i1 rfl ?_
  refine E_callV (m2 := mX9_mend) dL_law_902 kL_112 mzX9_mend hr rfl ⟨_, _, rfl⟩ rfl rfl (by decide) (xs8 (Nat.le_of_ble_eq_true rfl)) (by first | exact Nat.le_of_ble_eq_true rfl | omega) (by first | exact Nat.le_of_ble_eq_true rfl | omega) ?_
  rintro _ S2 ⟨rfl, hI2⟩
  refine E_icmp_eq (tgt := 1121) dL_law_905 (by decide) (fun h905 => ?_) (fun h905 => absurd h905 (fun z => z rfl))
  exact hn _ _ _ hI2 (by omega) (by omega)
theorem l_law_locker (hM : M ≤ 3072) (hk : 6 * k + 6 ≤ M) (hI : vInv S) (hc : 10 ≤ cb) (hs : 46 ≤ sb) (hn : xaft M xs Q k cb sb) : Ex mL_law 8 cb sb (M + 1, xs) Q 910 (xlq k) [] S := by
  obtain ⟨n, T, C, nP, h⟩ := hI
  have i1 : vp_in (nI (6 * k) + 1) M := y_idx (j := 1) hM hk (by omega)
  have i2 : vp_in (nI (6 * k) + 2) M := y_idx (j := 2) hM hk (by omega)
  have i3 : vp_in (nI (6 * k) + 3) M := y_idx (j := 3) hM hk (by omega)
  have i4 : vp_in (nI (6 * k) + 4) M := y_idx (j := 4) hM hk (by omega)
  have i5 : vp_in (nI (6 * k) + 5) M := y_idx (j := 5) hM hk (by omega)
  refine E_aload_n dL_law_910 rfl rfl ?_
  refine E_aload_n dL_law_911 rfl rfl ?_
  refine E_iload_n dL_law_912 rfl rfl ?_
  refine E_iconst (v := 1) dL_law_913 (by decide) ?_
  refine E_iadd dL_law_914 ?_
  refine E_sld dL_law_915 i1 rfl ?_
  refine E_callV (m2 := mX8_locker) dL_law_916 kL_113 mzX8_locker (a_locker h _) rfl ⟨_, _, rfl⟩ rfl rfl (by decide) (xs8 (Nat.le_of_ble_eq_true rfl)) (by first | exact Nat.le_of_ble_eq_true rfl | omega) (by first | exact Nat.le_of_ble_eq_true rfl | omega) ?_
  rintro _ S1 ⟨⟨a, rfl⟩, hr⟩
  refine E_aload_n dL_law_919 rfl rfl ?_
  refine E_aload_n dL_law_920 rfl rfl ?_
  refine E_iload_n dL_law_921 rfl rfl ?_
  refine E_iconst (v := 1) dL_law_922 (by decide) ?_
  refine E_iadd dL_law_923 ?_
  refine E_sld dL_law_924 i1 rfl ?_
  refine E_callV (m2 := mX9_locker) dL_law_925 kL_116 mzX9_locker hr rfl ⟨_, _, rfl⟩ rfl rfl (by decide) (xs8 (Nat.le_of_ble_eq_true rfl)) (by first | exact Nat.le_of_ble_eq_true rfl | omega) (by first | exact Nat.le_of_ble_eq_true rfl | omega) ?_
  rintro _ S2 ⟨rfl, hI2⟩
  refine E_icmp_eq (tgt := 1121) dL_law_928 (by decide) (fun h928 => ?_) (fun h928 => absurd h928 (fun z => z rfl))
  exact hn _ _ _ hI2 (by omega) (by omega)
theorem l_law_told (hM : M ≤ 3072) (hk : 6 * k + 6 ≤ M) (hI : vInv S) (hc : 10 ≤ cb) (hs : 46 ≤ sb) (hn : xaft M xs Q k cb sb) : Ex mL_law 8 cb sb (M + 1, xs) Q 933 (xlq k) [] S := by
  obtain ⟨n, T, C, nP, h⟩ := hI
  have i1 : vp_in (nI (6 * k) + 1) M := y_idx (j := 1) hM hk (by omega)
  have i2 : vp_in (nI (6 * k) + 2) M := y_idx (j := 2) hM hk (by omega)
  have i3 : vp_in (nI (6 * k) + 3) M := y_idx (j := 3) hM hk (by omega)
  have i4 : vp_in (nI (6 * k) + 4) M := y_idx (j := 4) hM hk (by omega)
  have i5 : vp_in (nI (6 * k) + 5) M := y_idx (j := 5) hM hk (by omega)
  refine E_aload_n dL_law_933 rfl rfl ?_
  refine E_aload_n dL_law_934 rfl rfl ?_
  refine E_iload_n dL_law_935 rfl rfl ?_
  refine E_iconst (v := 1) dL_law_936 (by decide) ?_
  refine E_iadd dL_law_937 ?_
  refine E_sld dL_law_938 i1 rfl ?_
  refine E_aload_n dL_law_939 rfl rfl ?_
  refine E_iload_n dL_law_940 rfl rfl ?_
  refine E_iconst (v := 2) dL_law_941 (by decide) ?_
  refine E_iadd dL_law_942 ?_
  refine E_sld dL_law_943 i2 rfl ?_
  refine E_callV (m2 := mX8_told) dL_law_944 kL_117 mzX8_told (a_told h _ _) rfl ⟨_, _, rfl⟩ rfl rfl (by decide) (xs8 (Nat.le_of_ble_eq_true rfl)) (by first | exact Nat.le_of_ble_eq_true rfl | omega) (by first | exact Nat.le_of_ble_eq_true rfl | omega) ?_
  rintro _ S1 ⟨⟨a, rfl⟩, hr⟩
  refine E_aload_n dL_law_947 rfl rfl ?_
  refine E_aload_n dL_law_948 rfl rfl ?_
  refine E_iload_n dL_law_949 rfl rfl ?_
  refine E_iconst (v := 1) dL_law_950 (by decide) ?_
  refine E_iadd dL_law_951 ?_
  refine E_sld dL_law_952 i1 rfl ?_
  refine E_aload_n dL_law_953 rfl rfl ?_
  refine E_iload_n dL_law_954 rfl rfl ?_
  refine E_iconst (v := 2) dL_law_955 (by decide) ?_
  refine E_iadd dL_law_956 ?_
  refine E_sld dL_law_957 i2 rfl ?_
  refine E_callV (m2 := mX9_told) dL_law_958 kL_120 mzX9_told hr rfl ⟨_, _, rfl⟩ rfl rfl (by decide) (xs8 (Nat.le_of_ble_eq_true rfl)) (by first | exact Nat.le_of_ble_eq_true rfl | omega) (by first | exact Nat.le_of_ble_eq_true rfl | omega) ?_
  rintro _ S2 ⟨rfl, hI2⟩
  refine E_icmp_eq (tgt := 1121) dL_law_961 (by decide) (fun h961 => ?_) (fun h961 => absurd h961 (fun z => z rfl))
  exact hn _ _ _ hI2 (by omega) (by omega)
theorem l_law_pump (hM : M ≤ 3072) (hk : 6 * k + 6 ≤ M) (hI : vInv S) (hc : 10 ≤ cb) (hs : 46 ≤ sb) (hn : xaft M xs Q k cb sb) : Ex mL_law 8 cb sb (M + 1, xs) Q 966 (xlq k) [] S := by
  obtain ⟨n, T, C, nP, h⟩ := hI
  have i1 : vp_in (nI (6 * k) + 1) M := y_idx (j := 1) hM hk (by omega)
  have i2 : vp_in (nI (6 * k) + 2) M := y_idx (j := 2) hM hk (by omega)
  have i3 : vp_in (nI (6 * k) + 3) M := y_idx (j := 3) hM hk (by omega)
  have i4 : vp_in (nI (6 * k) + 4) M := y_idx (j := 4) hM hk (by omega)
  have i5 : vp_in (nI (6 * k) + 5) M := y_idx (j := 5) hM hk (by omega)
  refine E_aload_n dL_law_966 rfl rfl ?_
  refine E_aload_n dL_law_967 rfl rfl ?_
  refine E_iload_n dL_law_968 rfl rfl ?_
  refine E_iconst (v := 1) dL_law_969 (by decide) ?_
  refine E_iadd dL_law_970 ?_
  refine E_sld dL_law_971 i1 rfl ?_
  refine E_aload_n dL_law_972 rfl rfl ?_
  refine E_iload_n dL_law_973 rfl rfl ?_
  refine E_iconst (v := 2) dL_law_974 (by decide) ?_
  refine E_iadd dL_law_975 ?_
  refine E_sld dL_law_976 i2 rfl ?_
  refine E_aload_n dL_law_977 rfl rfl ?_
  refine E_iload_n dL_law_978 rfl rfl ?_
  refine E_iconst (v := 3) dL_law_979 (by decide) ?_
  refine E_iadd dL_law_980 ?_
  refine E_sld dL_law_981 i3 rfl ?_
  refine E_callV (m2 := mX8_pump) dL_law_982 kL_121 mzX8_pump (a_pump h _ _ _) rfl ⟨_, _, rfl⟩ rfl rfl (by decide) (xs8 (Nat.le_of_ble_eq_true rfl)) (by first | exact Nat.le_of_ble_eq_true rfl | omega) (by first | exact Nat.le_of_ble_eq_true rfl | omega) ?_
  rintro _ S1 ⟨⟨a, rfl⟩, hr⟩
  refine E_aload_n dL_law_985 rfl rfl ?_
  refine E_aload_n dL_law_986 rfl rfl ?_
  refine E_iload_n dL_law_987 rfl rfl ?_
  refine E_iconst (v := 1) dL_law_988 (by decide) ?_
  refine E_iadd dL_law_989 ?_
  refine E_sld dL_law_990 i1 rfl ?_
  refine E_aload_n dL_law_991 rfl rfl ?_
  refine E_iload_n dL_law_992 rfl rfl ?_
  refine E_iconst (v := 2) dL_law_993 (by decide) ?_
  refine E_iadd dL_law_994 ?_
  refine E_sld dL_law_995 i2 rfl ?_
  refine E_aload_n dL_law_996 rfl rfl ?_
  refine E_iload_n dL_law_997 rfl rfl ?_
  refine E_iconst (v := 3) dL_law_998 (by decide) ?_
  refine E_iadd dL_law_999 ?_
  refine E_sld dL_law_1000 i3 rfl ?_
  refine E_callV (m2 := mX9_pump) dL_law_1001 kL_125 mzX9_pump hr rfl ⟨_, _, rfl⟩ rfl rfl (by decide) (xs8 (Nat.le_of_ble_eq_true rfl)) (by first | exact Nat.le_of_ble_eq_true rfl | omega) (by first | exact Nat.le_of_ble_eq_true rfl | omega) ?_
  rintro _ S2 ⟨rfl, hI2⟩
  refine E_icmp_eq (tgt := 1121) dL_law_1004 (by decide) (fun h1004 => ?_) (fun h1004 => absurd h1004 (fun z => z rfl))
  exact hn _ _ _ hI2 (by omega) (by omega)
theorem l_law_price (hM : M ≤ 3072) (hk : 6 * k + 6 ≤ M) (hI : vInv S) (hc : 10 ≤ cb) (hs : 46 ≤ sb) (hn : xaft M xs Q k cb sb) : Ex mL_law 8 cb sb (M + 1, xs) Q 1009 (xlq k) [] S := by
  obtain ⟨n, T, C, nP, h⟩ := hI
  have i1 : vp_in (nI (6 * k) + 1) M := y_idx (j := 1) hM hk (by omega)
  have i2 : vp_in (nI (6 * k) + 2) M := y_idx (j := 2) hM hk (by omega)
  have i3 : vp_in (nI (6 * k) + 3) M := y_idx (j := 3) hM hk (by omega)
  have i4 : vp_in (nI (6 * k) + 4) M := y_idx (j := 4) hM hk (by omega)
  have i5 : vp_in (nI (6 * k) + 5) M := y_idx (j := 5) hM hk (by omega)
  refine E_aload_n dL_law_1009 rfl rfl ?_
  refine E_aload_n dL_law_1010 rfl rfl ?_
  refine E_iload_n dL_law_1011 rfl rfl ?_
  refine E_iconst (v := 1) dL_law_1012 (by decide) ?_
  refine E_iadd dL_law_1013 ?_
  refine E_sld dL_law_1014 i1 rfl ?_
  refine E_aload_n dL_law_1015 rfl rfl ?_
  refine E_iload_n dL_law_1016 rfl rfl ?_
  refine E_iconst (v := 2) dL_law_1017 (by decide) ?_
  refine E_iadd dL_law_1018 ?_
  refine E_sld dL_law_1019 i2 rfl ?_
  refine E_callV (m2 := mX8_price) dL_law_1020 kL_126 mzX8_price (a_price h _ _) rfl ⟨_, _, rfl⟩ rfl rfl (by decide) (xs8 (Nat.le_of_ble_eq_true rfl)) (by first | exact Nat.le_of_ble_eq_true rfl | omega) (by first | exact Nat.le_of_ble_eq_true rfl | omega) ?_
  rintro _ S1 ⟨⟨a, rfl⟩, hr⟩
  refine E_aload_n dL_law_1023 rfl rfl ?_
  refine E_aload_n dL_law_1024 rfl rfl ?_
  refine E_iload_n dL_law_1025 rfl rfl ?_
  refine E_iconst (v := 1) dL_law_1026 (by decide) ?_
  refine E_iadd dL_law_1027 ?_
  refine E_sld dL_law_1028 i1 rfl ?_
  refine E_aload_n dL_law_1029 rfl rfl ?_
  refine E_iload_n dL_law_1030 rfl rfl ?_
  refine E_iconst (v := 2) dL_law_1031 (by decide) ?_
  refine E_iadd dL_law_1032 ?_
  refine E_sld dL_law_1033 i2 rfl ?_
  refine E_callV (m2 := mX9_price) dL_law_1034 kL_129 mzX9_price hr rfl ⟨_, _, rfl⟩ rfl rfl (by decide) (xs8 (Nat.le_of_ble_eq_true rfl)) (by first | exact Nat.le_of_ble_eq_true rfl | omega) (by first | exact Nat.le_of_ble_eq_true rfl | omega) ?_
  rintro _ S2 ⟨rfl, hI2⟩
  refine E_icmp_eq (tgt := 1121) dL_law_1037 (by decide) (fun h1037 => ?_) (fun h1037 => absurd h1037 (fun z => z rfl))
  exact hn _ _ _ hI2 (by omega) (by omega)
theorem l_law_turn (hM : M ≤ 3072) (hk : 6 * k + 6 ≤ M) (hI : vInv S) (hc : 10 ≤ cb) (hs : 46 ≤ sb) (hn : xaft M xs Q k cb sb) : Ex mL_law 8 cb sb (M + 1, xs) Q 1042 (xlq k) [] S := by
  obtain ⟨n, T, C, nP, h⟩ := hI
  have i1 : vp_in (nI (6 * k) + 1) M := y_idx (j := 1) hM hk (by omega)
  have i2 : vp_in (nI (6 * k) + 2) M := y_idx (j := 2) hM hk (by omega)
  have i3 : vp_in (nI (6 * k) + 3) M := y_idx (j := 3) hM hk (by omega)
  have i4 : vp_in (nI (6 * k) + 4) M := y_idx (j := 4) hM hk (by omega)
  have i5 : vp_in (nI (6 * k) + 5) M := y_idx (j := 5) hM hk (by omega)
  refine E_aload_n dL_law_1042 rfl rfl ?_
  refine E_aload_n dL_law_1043 rfl rfl ?_
  refine E_iload_n dL_law_1044 rfl rfl ?_
  refine E_iconst (v := 1) dL_law_1045 (by decide) ?_
  refine E_iadd dL_law_1046 ?_
  refine E_sld dL_law_1047 i1 rfl ?_
  refine E_aload_n dL_law_1048 rfl rfl ?_
  refine E_iload_n dL_law_1049 rfl rfl ?_
  refine E_iconst (v := 2) dL_law_1050 (by decide) ?_
  refine E_iadd dL_law_1051 ?_
  refine E_sld dL_law_1052 i2 rfl ?_
  refine E_callV (m2 := mX8_turn) dL_law_1053 kL_130 mzX8_turn (a_turn h _ _) rfl ⟨_, _, rfl⟩ rfl rfl (by decide) (xs8 (Nat.le_of_ble_eq_true rfl)) (by first | exact Nat.le_of_ble_eq_true rfl | omega) (by first | exact Nat.le_of_ble_eq_true rfl | omega) ?_
  rintro _ S1 ⟨⟨a, rfl⟩, hr⟩
  refine E_aload_n dL_law_1056 rfl rfl ?_
  refine E_aload_n dL_law_1057 rfl rfl ?_
  refine E_iload_n dL_law_1058 rfl rfl ?_
  refine E_iconst (v := 1) dL_law_1059 (by decide) ?_
  refine E_iadd dL_law_1060 ?_
  refine E_sld dL_law_1061 i1 rfl ?_
  refine E_aload_n dL_law_1062 rfl rfl ?_
  refine E_iload_n dL_law_1063 rfl rfl ?_
  refine E_iconst (v := 2) dL_law_1064 (by decide) ?_
  refine E_iadd dL_law_1065 ?_
  refine E_sld dL_law_1066 i2 rfl ?_
  refine E_callV (m2 := mX9_turn) dL_law_1067 kL_133 mzX9_turn hr rfl ⟨_, _, rfl⟩ rfl rfl (by decide) (xs8 (Nat.le_of_ble_eq_true rfl)) (by first | exact Nat.le_of_ble_eq_true rfl | omega) (by first | exact Nat.le_of_ble_eq_true rfl | omega) ?_
  rintro _ S2 ⟨rfl, hI2⟩
  refine E_icmp_eq (tgt := 1121) dL_law_1070 (by decide) (fun h1070 => ?_) (fun h1070 => absurd h1070 (fun z => z rfl))
  exact hn _ _ _ hI2 (by omega) (by omega)
theorem l_law_hour (hM : M ≤ 3072) (hk : 6 * k + 6 ≤ M) (hI : vInv S) (hc : 10 ≤ cb) (hs : 46 ≤ sb) (hn : xaft M xs Q k cb sb) : Ex mL_law 8 cb sb (M + 1, xs) Q 1075 (xlq k) [] S := by
  obtain ⟨n, T, C, nP, h⟩ := hI
  have i1 : vp_in (nI (6 * k) + 1) M := y_idx (j := 1) hM hk (by omega)
  have i2 : vp_in (nI (6 * k) + 2) M := y_idx (j := 2) hM hk (by omega)
  have i3 : vp_in (nI (6 * k) + 3) M := y_idx (j := 3) hM hk (by omega)
  have i4 : vp_in (nI (6 * k) + 4) M := y_idx (j := 4) hM hk (by omega)
  have i5 : vp_in (nI (6 * k) + 5) M := y_idx (j := 5) hM hk (by omega)
  refine E_aload_n dL_law_1075 rfl rfl ?_
  refine E_aload_n dL_law_1076 rfl rfl ?_
  refine E_iload_n dL_law_1077 rfl rfl ?_
  refine E_iconst (v := 1) dL_law_1078 (by decide) ?_
  refine E_iadd dL_law_1079 ?_
  refine E_sld dL_law_1080 i1 rfl ?_
  refine E_callV (m2 := mX8_hour) dL_law_1081 kL_134 mzX8_hour (a_hour h _) rfl ⟨_, _, rfl⟩ rfl rfl (by decide) (xs8 (Nat.le_of_ble_eq_true rfl)) (by first | exact Nat.le_of_ble_eq_true rfl | omega) (by first | exact Nat.le_of_ble_eq_true rfl | omega) ?_
  rintro _ S1 ⟨⟨a, rfl⟩, hr⟩
  refine E_aload_n dL_law_1084 rfl rfl ?_
  refine E_aload_n dL_law_1085 rfl rfl ?_
  refine E_iload_n dL_law_1086 rfl rfl ?_
  refine E_iconst (v := 1) dL_law_1087 (by decide) ?_
  refine E_iadd dL_law_1088 ?_
  refine E_sld dL_law_1089 i1 rfl ?_
  refine E_callV (m2 := mX9_hour) dL_law_1090 kL_137 mzX9_hour hr rfl ⟨_, _, rfl⟩ rfl rfl (by decide) (xs8 (Nat.le_of_ble_eq_true rfl)) (by first | exact Nat.le_of_ble_eq_true rfl | omega) (by first | exact Nat.le_of_ble_eq_true rfl | omega) ?_
  rintro _ S2 ⟨rfl, hI2⟩
  refine E_icmp_eq (tgt := 1121) dL_law_1093 (by decide) (fun h1093 => ?_) (fun h1093 => absurd h1093 (fun z => z rfl))
  exact hn _ _ _ hI2 (by omega) (by omega)
theorem l_law_all (hM : M ≤ 3072) (hk : 6 * k + 6 ≤ M) (hI : vInv S) (hc : 10 ≤ cb) (hs : 46 ≤ sb) (hn : xaft M xs Q k cb sb) : Ex mL_law 8 cb sb (M + 1, xs) Q 1098 (xlq k) [] S := by
  obtain ⟨n, T, C, nP, h⟩ := hI
  have i1 : vp_in (nI (6 * k) + 1) M := y_idx (j := 1) hM hk (by omega)
  have i2 : vp_in (nI (6 * k) + 2) M := y_idx (j := 2) hM hk (by omega)
  have i3 : vp_in (nI (6 * k) + 3) M := y_idx (j := 3) hM hk (by omega)
  have i4 : vp_in (nI (6 * k) + 4) M := y_idx (j := 4) hM hk (by omega)
  have i5 : vp_in (nI (6 * k) + 5) M := y_idx (j := 5) hM hk (by omega)
  refine E_aload_n dL_law_1098 rfl rfl ?_
  refine E_aload_n dL_law_1099 rfl rfl ?_
  refine E_iload_n dL_law_1100 rfl rfl ?_
  refine E_iconst (v := 1) dL_law_1101 (by decide) ?_
  refine E_iadd dL_law_1102 ?_
  refine E_sld dL_law_1103 i1 rfl ?_
  refine E_callV (m2 := mX8_all) dL_law_1104 kL_138 mzX8_all (a_all h _) rfl ⟨_, _, rfl⟩ rfl rfl (by decide) (xs8 (Nat.le_of_ble_eq_true rfl)) (by first | exact Nat.le_of_ble_eq_true rfl | omega) (by first | exact Nat.le_of_ble_eq_true rfl | omega) ?_
  rintro _ S1 ⟨⟨a, rfl⟩, hr⟩
  refine E_aload_n dL_law_1107 rfl rfl ?_
  refine E_aload_n dL_law_1108 rfl rfl ?_
  refine E_iload_n dL_law_1109 rfl rfl ?_
  refine E_iconst (v := 1) dL_law_1110 (by decide) ?_
  refine E_iadd dL_law_1111 ?_
  refine E_sld dL_law_1112 i1 rfl ?_
  refine E_callV (m2 := mX9_all) dL_law_1113 kL_141 mzX9_all hr rfl ⟨_, _, rfl⟩ rfl rfl (by decide) (xs8 (Nat.le_of_ble_eq_true rfl)) (by first | exact Nat.le_of_ble_eq_true rfl | omega) (by first | exact Nat.le_of_ble_eq_true rfl | omega) ?_
  rintro _ S2 ⟨rfl, hI2⟩
  refine E_icmp_eq (tgt := 1121) dL_law_1116 (by decide) (fun h1116 => ?_) (fun h1116 => absurd h1116 (fun z => z rfl))
  exact hn _ _ _ hI2 (by omega) (by omega)
end Law
