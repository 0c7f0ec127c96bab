/-! the law's cases: both calls, equal answers -/
abbrev lwE (L : Nat) (xs : Nat → Int32) : ax_Et := fun s g => va_X g.2.1 L xs s s.heap ∧ g.2.1 < s.heap.size ∧ g.1 = s.heap.size
abbrev lwL (u : UInt32) (i : Nat) : List (Nat × Value) := [(0, .float u), (1, .ref 0), (2, .ref 36), (3, .int (nI i))]
/-- behind a call the law goes on with the two still alike -/
def lwN (L : Nat) (xs : Nat → Int32) (Z : ax_Zt) (u : UInt32) (i : Nat) : Prop := ∀ (A : Nat → List Int32) (I : Nat → Nat → Int32) (J : Nat → List Int64) (U : Nat → Nat → Int64) (T : town) (np : Nat) (PD : Nat → Nat) (km : Nat) (TI : Nat → town), ci T np PD km TI A I J → mi T np PD km TI A I J → AW m_W_law room_1 (lwE L xs) Z (HH A I J U) 48 730 976 (lwL u i) []
theorem cmp_self (x : Int64) : lg_cmp x x = 0 := by
  unfold lg_cmp
  rw [if_neg (show ¬ x > x from Int64.lt_irrefl), if_pos rfl]
section CASES
variable {M : ax_M} {R : Room} {E : ax_Et} {Z : ax_Zt} {h : ax_H} {kc ks pc : Nat} {ls : List (Nat × Value)} {st : List Value}
theorem aw_nz {x : Int32} (h1 : decode M.2.1 pc = .ok (.ifCond .eq 7, 3)) (h2 : decode M.2.1 (pc + 3) = .ok (.iconst 1, 1)) (h3 : decode M.2.1 (pc + 4) = .ok (.goto 4, 3)) (h4 : decode M.2.1 (pc + 7) = .ok (.iconst 0, 1)) (k : AW M R E Z h kc ks (pc + 8) ls (.int (b2 (¬ x = 0)) :: st)) : AW M R E Z h kc ks pc ls (.int x :: st) := by
  refine aw_if_eq (tgt := pc + 7) h1 (by omega) (fun hx => ?_) (fun hx => ?_)
  · refine aw_iconst (v := 0) h4 (by decide) ?_
    refine aw_top (y := b2 (¬ x = 0)) (b2_0 (fun z => z hx)).symm ?_
    exact k
  · refine aw_iconst (v := 1) h2 (by decide) ?_
    refine aw_goto (tgt := pc + 8) h3 (by omega) ?_
    refine aw_top (y := b2 (¬ x = 0)) (b2_1 hx).symm ?_
    exact k
end CASES
section LAWROWS
variable {A : Nat → List Int32} {I : Nat → Nat → Int32} {J : Nat → List Int64} {U : Nat → Nat → Int64} {T : town} {np : Nat} {PD : Nat → Nat} {km : Nat} {TI : Nat → town} {L i : Nat} {xs : Nat → Int32} {Z : ax_Zt} {u : UInt32}
set_option maxHeartbeats 1000000 in
set_option maxRecDepth 20000 in
theorem lw_house (hi : i + 6 ≤ L) (hL : L ≤ 3072) (hc : ci T np PD km TI A I J) (hm : mi T np PD km TI A I J) (nx : lwN L xs Z u i) : AW m_W_law room_1 (lwE L xs) Z (HH A I J U) 48 730 156 (lwL u i) [] := by
  refine aw_aload_n (pc := 156) d_W_law_156 rfl rfl ?_
  refine aw_aload_s (pc := 157) d_W_law_157 rfl rfl ?_
  refine aw_iload_n (pc := 158) d_W_law_158 rfl rfl ?_
  refine aw_iconst (pc := 159) (v := 1) d_W_law_159 (by decide) ?_
  refine aw_iadd (pc := 160) d_W_law_160 ?_
  refine aw_sld (pc := 161) (j := i + 1) d_W_law_161 (fun _ _ h => h) (nI_add i 1) (by omega) (by omega) ?_
  refine aw_aload_s (pc := 162) d_W_law_162 rfl rfl ?_
  refine aw_iload_n (pc := 163) d_W_law_163 rfl rfl ?_
  refine aw_iconst (pc := 164) (v := 2) d_W_law_164 (by decide) ?_
  refine aw_iadd (pc := 165) d_W_law_165 ?_
  refine aw_sld (pc := 166) (j := i + 2) d_W_law_166 (fun _ _ h => h) (nI_add i 2) (by omega) (by omega) ?_
  refine aw_nz (pc := 167) d_W_law_167 d_W_law_170 d_W_law_171 d_W_law_174 ?_
  refine aw_aload_s (pc := 175) d_W_law_175 rfl rfl ?_
  refine aw_iload_n (pc := 176) d_W_law_176 rfl rfl ?_
  refine aw_iconst (pc := 177) (v := 3) d_W_law_177 (by decide) ?_
  refine aw_iadd (pc := 178) d_W_law_178 ?_
  refine aw_sld (pc := 179) (j := i + 3) d_W_law_179 (fun _ _ h => h) (nI_add i 3) (by omega) (by omega) ?_
  refine aw_nz (pc := 180) d_W_law_180 d_W_law_183 d_W_law_184 d_W_law_187 ?_
  refine aw_aload_s (pc := 188) d_W_law_188 rfl rfl ?_
  refine aw_iload_n (pc := 189) d_W_law_189 rfl rfl ?_
  refine aw_iconst (pc := 190) (v := 4) d_W_law_190 (by decide) ?_
  refine aw_iadd (pc := 191) d_W_law_191 ?_
  refine aw_sld (pc := 192) (j := i + 4) d_W_law_192 (fun _ _ h => h) (nI_add i 4) (by omega) (by omega) ?_
  refine aw_callVq (pc := 193) (v_house hc _ _ (p := ¬ xs (i + 2) = 0) (q := ¬ xs (i + 3) = 0)) ok_V_house d_W_law_193 lm_W_13 hg_0 rfl rfl ⟨by decide, by decide⟩ (Nat.le_of_ble_eq_true rfl) rfl rfl ⟨by decide, by decide⟩ (fun rr h2 hq => ?_)
  obtain ⟨rfl, A1, I1, J1, U1, rfl, hc1, hh⟩ := hq
  refine aw_aload_n (pc := 196) d_W_law_196 rfl rfl ?_
  refine aw_aload_s (pc := 197) d_W_law_197 rfl rfl ?_
  refine aw_iload_n (pc := 198) d_W_law_198 rfl rfl ?_
  refine aw_iconst (pc := 199) (v := 1) d_W_law_199 (by decide) ?_
  refine aw_iadd (pc := 200) d_W_law_200 ?_
  refine aw_sld (pc := 201) (j := i + 1) d_W_law_201 (fun _ _ h => h) (nI_add i 1) (by omega) (by omega) ?_
  refine aw_aload_s (pc := 202) d_W_law_202 rfl rfl ?_
  refine aw_iload_n (pc := 203) d_W_law_203 rfl rfl ?_
  refine aw_iconst (pc := 204) (v := 2) d_W_law_204 (by decide) ?_
  refine aw_iadd (pc := 205) d_W_law_205 ?_
  refine aw_sld (pc := 206) (j := i + 2) d_W_law_206 (fun _ _ h => h) (nI_add i 2) (by omega) (by omega) ?_
  refine aw_nz (pc := 207) d_W_law_207 d_W_law_210 d_W_law_211 d_W_law_214 ?_
  refine aw_aload_s (pc := 215) d_W_law_215 rfl rfl ?_
  refine aw_iload_n (pc := 216) d_W_law_216 rfl rfl ?_
  refine aw_iconst (pc := 217) (v := 3) d_W_law_217 (by decide) ?_
  refine aw_iadd (pc := 218) d_W_law_218 ?_
  refine aw_sld (pc := 219) (j := i + 3) d_W_law_219 (fun _ _ h => h) (nI_add i 3) (by omega) (by omega) ?_
  refine aw_nz (pc := 220) d_W_law_220 d_W_law_223 d_W_law_224 d_W_law_227 ?_
  refine aw_aload_s (pc := 228) d_W_law_228 rfl rfl ?_
  refine aw_iload_n (pc := 229) d_W_law_229 rfl rfl ?_
  refine aw_iconst (pc := 230) (v := 4) d_W_law_230 (by decide) ?_
  refine aw_iadd (pc := 231) d_W_law_231 ?_
  refine aw_sld (pc := 232) (j := i + 4) d_W_law_232 (fun _ _ h => h) (nI_add i 4) (by omega) (by omega) ?_
  refine aw_callVq (pc := 233) (n_house (mi_hi hm hh) _ _ (p := ¬ xs (i + 2) = 0) (q := ¬ xs (i + 3) = 0)) ok_M_house d_W_law_233 lm_W_17 hg_36 rfl rfl ⟨by decide, by decide⟩ (Nat.le_of_ble_eq_true rfl) rfl rfl ⟨by decide, by decide⟩ (fun rr h2 hq => ?_)
  obtain ⟨rfl, A2, I2, J2, U2, rfl, hm2, hl⟩ := hq
  refine aw_icmp_eq (pc := 236) (tgt := 976) d_W_law_236 (by decide) (fun _ => ?_) (fun z => absurd rfl z)
  exact nx _ _ _ _ _ _ _ _ _ (ci_lo hc1 hl) hm2
set_option maxHeartbeats 1000000 in
set_option maxRecDepth 20000 in
theorem lw_wall (hi : i + 6 ≤ L) (hL : L ≤ 3072) (hc : ci T np PD km TI A I J) (hm : mi T np PD km TI A I J) (nx : lwN L xs Z u i) : AW m_W_law room_1 (lwE L xs) Z (HH A I J U) 48 730 241 (lwL u i) [] := by
  refine aw_aload_n (pc := 241) d_W_law_241 rfl rfl ?_
  refine aw_aload_s (pc := 242) d_W_law_242 rfl rfl ?_
  refine aw_iload_n (pc := 243) d_W_law_243 rfl rfl ?_
  refine aw_iconst (pc := 244) (v := 1) d_W_law_244 (by decide) ?_
  refine aw_iadd (pc := 245) d_W_law_245 ?_
  refine aw_sld (pc := 246) (j := i + 1) d_W_law_246 (fun _ _ h => h) (nI_add i 1) (by omega) (by omega) ?_
  refine aw_aload_s (pc := 247) d_W_law_247 rfl rfl ?_
  refine aw_iload_n (pc := 248) d_W_law_248 rfl rfl ?_
  refine aw_iconst (pc := 249) (v := 2) d_W_law_249 (by decide) ?_
  refine aw_iadd (pc := 250) d_W_law_250 ?_
  refine aw_sld (pc := 251) (j := i + 2) d_W_law_251 (fun _ _ h => h) (nI_add i 2) (by omega) (by omega) ?_
  refine aw_callVq (pc := 252) (v_wall hc _ _) ok_V_wall d_W_law_252 lm_W_18 hg_0 rfl rfl ⟨by decide, by decide⟩ (Nat.le_of_ble_eq_true rfl) rfl rfl ⟨by decide, by decide⟩ (fun rr h2 hq => ?_)
  obtain ⟨rfl, A1, I1, J1, U1, rfl, hc1, hh⟩ := hq
  refine aw_aload_n (pc := 255) d_W_law_255 rfl rfl ?_
  refine aw_aload_s (pc := 256) d_W_law_256 rfl rfl ?_
  refine aw_iload_n (pc := 257) d_W_law_257 rfl rfl ?_
  refine aw_iconst (pc := 258) (v := 1) d_W_law_258 (by decide) ?_
  refine aw_iadd (pc := 259) d_W_law_259 ?_
  refine aw_sld (pc := 260) (j := i + 1) d_W_law_260 (fun _ _ h => h) (nI_add i 1) (by omega) (by omega) ?_
  refine aw_aload_s (pc := 261) d_W_law_261 rfl rfl ?_
  refine aw_iload_n (pc := 262) d_W_law_262 rfl rfl ?_
  refine aw_iconst (pc := 263) (v := 2) d_W_law_263 (by decide) ?_
  refine aw_iadd (pc := 264) d_W_law_264 ?_
  refine aw_sld (pc := 265) (j := i + 2) d_W_law_265 (fun _ _ h => h) (nI_add i 2) (by omega) (by omega) ?_
  refine aw_callVq (pc := 266) (n_wall (mi_hi hm hh) _ _) ok_M_wall d_W_law_266 lm_W_22 hg_36 rfl rfl ⟨by decide, by decide⟩ (Nat.le_of_ble_eq_true rfl) rfl rfl ⟨by decide, by decide⟩ (fun rr h2 hq => ?_)
  obtain ⟨rfl, A2, I2, J2, U2, rfl, hm2, hl⟩ := hq
  refine aw_icmp_eq (pc := 269) (tgt := 976) d_W_law_269 (by decide) (fun _ => ?_) (fun z => absurd rfl z)
  exact nx _ _ _ _ _ _ _ _ _ (ci_lo hc1 hl) hm2
set_option maxHeartbeats 1000000 in
set_option maxRecDepth 20000 in
theorem lw_set (hi : i + 6 ≤ L) (hL : L ≤ 3072) (hc : ci T np PD km TI A I J) (hm : mi T np PD km TI A I J) (nx : lwN L xs Z u i) : AW m_W_law room_1 (lwE L xs) Z (HH A I J U) 48 730 274 (lwL u i) [] := by
  refine aw_aload_n (pc := 274) d_W_law_274 rfl rfl ?_
  refine aw_aload_s (pc := 275) d_W_law_275 rfl rfl ?_
  refine aw_iload_n (pc := 276) d_W_law_276 rfl rfl ?_
  refine aw_iconst (pc := 277) (v := 1) d_W_law_277 (by decide) ?_
  refine aw_iadd (pc := 278) d_W_law_278 ?_
  refine aw_sld (pc := 279) (j := i + 1) d_W_law_279 (fun _ _ h => h) (nI_add i 1) (by omega) (by omega) ?_
  refine aw_aload_s (pc := 280) d_W_law_280 rfl rfl ?_
  refine aw_iload_n (pc := 281) d_W_law_281 rfl rfl ?_
  refine aw_iconst (pc := 282) (v := 2) d_W_law_282 (by decide) ?_
  refine aw_iadd (pc := 283) d_W_law_283 ?_
  refine aw_sld (pc := 284) (j := i + 2) d_W_law_284 (fun _ _ h => h) (nI_add i 2) (by omega) (by omega) ?_
  refine aw_callVq (pc := 285) (v_set hc _ _) ok_V_set d_W_law_285 lm_W_23 hg_0 rfl rfl ⟨by decide, by decide⟩ (Nat.le_of_ble_eq_true rfl) rfl rfl ⟨by decide, by decide⟩ (fun rr h2 hq => ?_)
  obtain ⟨rfl, A1, I1, J1, U1, rfl, hc1, hh⟩ := hq
  refine aw_aload_n (pc := 288) d_W_law_288 rfl rfl ?_
  refine aw_aload_s (pc := 289) d_W_law_289 rfl rfl ?_
  refine aw_iload_n (pc := 290) d_W_law_290 rfl rfl ?_
  refine aw_iconst (pc := 291) (v := 1) d_W_law_291 (by decide) ?_
  refine aw_iadd (pc := 292) d_W_law_292 ?_
  refine aw_sld (pc := 293) (j := i + 1) d_W_law_293 (fun _ _ h => h) (nI_add i 1) (by omega) (by omega) ?_
  refine aw_aload_s (pc := 294) d_W_law_294 rfl rfl ?_
  refine aw_iload_n (pc := 295) d_W_law_295 rfl rfl ?_
  refine aw_iconst (pc := 296) (v := 2) d_W_law_296 (by decide) ?_
  refine aw_iadd (pc := 297) d_W_law_297 ?_
  refine aw_sld (pc := 298) (j := i + 2) d_W_law_298 (fun _ _ h => h) (nI_add i 2) (by omega) (by omega) ?_
  refine aw_callVq (pc := 299) (n_set (mi_hi hm hh) _ _) ok_M_set d_W_law_299 lm_W_26 hg_36 rfl rfl ⟨by decide, by decide⟩ (Nat.le_of_ble_eq_true rfl) rfl rfl ⟨by decide, by decide⟩ (fun rr h2 hq => ?_)
  obtain ⟨rfl, A2, I2, J2, U2, rfl, hm2, hl⟩ := hq
  refine aw_icmp_eq (pc := 302) (tgt := 976) d_W_law_302 (by decide) (fun _ => ?_) (fun z => absurd rfl z)
  exact nx _ _ _ _ _ _ _ _ _ (ci_lo hc1 hl) hm2
set_option maxHeartbeats 1000000 in
set_option maxRecDepth 20000 in
theorem lw_letter (hi : i + 6 ≤ L) (hL : L ≤ 3072) (hc : ci T np PD km TI A I J) (hm : mi T np PD km TI A I J) (nx : lwN L xs Z u i) : AW m_W_law room_1 (lwE L xs) Z (HH A I J U) 48 730 307 (lwL u i) [] := by
  refine aw_aload_n (pc := 307) d_W_law_307 rfl rfl ?_
  refine aw_aload_s (pc := 308) d_W_law_308 rfl rfl ?_
  refine aw_iload_n (pc := 309) d_W_law_309 rfl rfl ?_
  refine aw_iconst (pc := 310) (v := 1) d_W_law_310 (by decide) ?_
  refine aw_iadd (pc := 311) d_W_law_311 ?_
  refine aw_sld (pc := 312) (j := i + 1) d_W_law_312 (fun _ _ h => h) (nI_add i 1) (by omega) (by omega) ?_
  refine aw_aload_s (pc := 313) d_W_law_313 rfl rfl ?_
  refine aw_iload_n (pc := 314) d_W_law_314 rfl rfl ?_
  refine aw_iconst (pc := 315) (v := 2) d_W_law_315 (by decide) ?_
  refine aw_iadd (pc := 316) d_W_law_316 ?_
  refine aw_sld (pc := 317) (j := i + 2) d_W_law_317 (fun _ _ h => h) (nI_add i 2) (by omega) (by omega) ?_
  refine aw_aload_s (pc := 318) d_W_law_318 rfl rfl ?_
  refine aw_iload_n (pc := 319) d_W_law_319 rfl rfl ?_
  refine aw_iconst (pc := 320) (v := 3) d_W_law_320 (by decide) ?_
  refine aw_iadd (pc := 321) d_W_law_321 ?_
  refine aw_sld (pc := 322) (j := i + 3) d_W_law_322 (fun _ _ h => h) (nI_add i 3) (by omega) (by omega) ?_
  refine aw_aload_s (pc := 323) d_W_law_323 rfl rfl ?_
  refine aw_iload_n (pc := 324) d_W_law_324 rfl rfl ?_
  refine aw_iconst (pc := 325) (v := 4) d_W_law_325 (by decide) ?_
  refine aw_iadd (pc := 326) d_W_law_326 ?_
  refine aw_sld (pc := 327) (j := i + 4) d_W_law_327 (fun _ _ h => h) (nI_add i 4) (by omega) (by omega) ?_
  refine aw_aload_s (pc := 328) d_W_law_328 rfl rfl ?_
  refine aw_iload_n (pc := 329) d_W_law_329 rfl rfl ?_
  refine aw_iconst (pc := 330) (v := 5) d_W_law_330 (by decide) ?_
  refine aw_iadd (pc := 331) d_W_law_331 ?_
  refine aw_sld (pc := 332) (j := i + 5) d_W_law_332 (fun _ _ h => h) (nI_add i 5) (by omega) (by omega) ?_
  refine aw_callVq (pc := 333) (v_letter hc _ _ _ _ _) ok_V_letter d_W_law_333 lm_W_27 hg_0 rfl rfl ⟨by decide, by decide⟩ (Nat.le_of_ble_eq_true rfl) rfl rfl ⟨by decide, by decide⟩ (fun rr h2 hq => ?_)
  obtain ⟨rfl, A1, I1, J1, U1, rfl, hc1, hh⟩ := hq
  refine aw_aload_n (pc := 336) d_W_law_336 rfl rfl ?_
  refine aw_aload_s (pc := 337) d_W_law_337 rfl rfl ?_
  refine aw_iload_n (pc := 338) d_W_law_338 rfl rfl ?_
  refine aw_iconst (pc := 339) (v := 1) d_W_law_339 (by decide) ?_
  refine aw_iadd (pc := 340) d_W_law_340 ?_
  refine aw_sld (pc := 341) (j := i + 1) d_W_law_341 (fun _ _ h => h) (nI_add i 1) (by omega) (by omega) ?_
  refine aw_aload_s (pc := 342) d_W_law_342 rfl rfl ?_
  refine aw_iload_n (pc := 343) d_W_law_343 rfl rfl ?_
  refine aw_iconst (pc := 344) (v := 2) d_W_law_344 (by decide) ?_
  refine aw_iadd (pc := 345) d_W_law_345 ?_
  refine aw_sld (pc := 346) (j := i + 2) d_W_law_346 (fun _ _ h => h) (nI_add i 2) (by omega) (by omega) ?_
  refine aw_aload_s (pc := 347) d_W_law_347 rfl rfl ?_
  refine aw_iload_n (pc := 348) d_W_law_348 rfl rfl ?_
  refine aw_iconst (pc := 349) (v := 3) d_W_law_349 (by decide) ?_
  refine aw_iadd (pc := 350) d_W_law_350 ?_
  refine aw_sld (pc := 351) (j := i + 3) d_W_law_351 (fun _ _ h => h) (nI_add i 3) (by omega) (by omega) ?_
  refine aw_aload_s (pc := 352) d_W_law_352 rfl rfl ?_
  refine aw_iload_n (pc := 353) d_W_law_353 rfl rfl ?_
  refine aw_iconst (pc := 354) (v := 4) d_W_law_354 (by decide) ?_
  refine aw_iadd (pc := 355) d_W_law_355 ?_
  refine aw_sld (pc := 356) (j := i + 4) d_W_law_356 (fun _ _ h => h) (nI_add i 4) (by omega) (by omega) ?_
  refine aw_aload_s (pc := 357) d_W_law_357 rfl rfl ?_
  refine aw_iload_n (pc := 358) d_W_law_358 rfl rfl ?_
  refine aw_iconst (pc := 359) (v := 5) d_W_law_359 (by decide) ?_
  refine aw_iadd (pc := 360) d_W_law_360 ?_
  refine aw_sld (pc := 361) (j := i + 5) d_W_law_361 (fun _ _ h => h) (nI_add i 5) (by omega) (by omega) ?_
  refine aw_callVq (pc := 362) (n_letter (mi_hi hm hh) _ _ _ _ _) ok_M_letter d_W_law_362 lm_W_31 hg_36 rfl rfl ⟨by decide, by decide⟩ (Nat.le_of_ble_eq_true rfl) rfl rfl ⟨by decide, by decide⟩ (fun rr h2 hq => ?_)
  obtain ⟨rfl, A2, I2, J2, U2, rfl, hm2, hl⟩ := hq
  refine aw_icmp_eq (pc := 365) (tgt := 976) d_W_law_365 (by decide) (fun _ => ?_) (fun z => absurd rfl z)
  exact nx _ _ _ _ _ _ _ _ _ (ci_lo hc1 hl) hm2
set_option maxHeartbeats 1000000 in
set_option maxRecDepth 20000 in
theorem lw_say (hi : i + 6 ≤ L) (hL : L ≤ 3072) (hc : ci T np PD km TI A I J) (hm : mi T np PD km TI A I J) (nx : lwN L xs Z u i) : AW m_W_law room_1 (lwE L xs) Z (HH A I J U) 48 730 370 (lwL u i) [] := by
  refine aw_aload_n (pc := 370) d_W_law_370 rfl rfl ?_
  refine aw_aload_s (pc := 371) d_W_law_371 rfl rfl ?_
  refine aw_iload_n (pc := 372) d_W_law_372 rfl rfl ?_
  refine aw_iconst (pc := 373) (v := 1) d_W_law_373 (by decide) ?_
  refine aw_iadd (pc := 374) d_W_law_374 ?_
  refine aw_sld (pc := 375) (j := i + 1) d_W_law_375 (fun _ _ h => h) (nI_add i 1) (by omega) (by omega) ?_
  refine aw_callVq (pc := 376) (v_say hc _) ok_V_say d_W_law_376 lm_W_32 hg_0 rfl rfl ⟨by decide, by decide⟩ (Nat.le_of_ble_eq_true rfl) rfl rfl ⟨by decide, by decide⟩ (fun rr h2 hq => ?_)
  obtain ⟨rfl, A1, I1, J1, U1, rfl, hc1, hh⟩ := hq
  refine aw_aload_n (pc := 379) d_W_law_379 rfl rfl ?_
  refine aw_aload_s (pc := 380) d_W_law_380 rfl rfl ?_
  refine aw_iload_n (pc := 381) d_W_law_381 rfl rfl ?_
  refine aw_iconst (pc := 382) (v := 1) d_W_law_382 (by decide) ?_
  refine aw_iadd (pc := 383) d_W_law_383 ?_
  refine aw_sld (pc := 384) (j := i + 1) d_W_law_384 (fun _ _ h => h) (nI_add i 1) (by omega) (by omega) ?_
  refine aw_callVq (pc := 385) (n_say (mi_hi hm hh) _) ok_M_say d_W_law_385 lm_W_36 hg_36 rfl rfl ⟨by decide, by decide⟩ (Nat.le_of_ble_eq_true rfl) rfl rfl ⟨by decide, by decide⟩ (fun rr h2 hq => ?_)
  obtain ⟨rfl, A2, I2, J2, U2, rfl, hm2, hl⟩ := hq
  refine aw_icmp_eq (pc := 388) (tgt := 976) d_W_law_388 (by decide) (fun _ => ?_) (fun z => absurd rfl z)
  exact nx _ _ _ _ _ _ _ _ _ (ci_lo hc1 hl) hm2
set_option maxHeartbeats 1000000 in
set_option maxRecDepth 20000 in
theorem lw_wipe (hi : i + 6 ≤ L) (hL : L ≤ 3072) (hc : ci T np PD km TI A I J) (hm : mi T np PD km TI A I J) (nx : lwN L xs Z u i) : AW m_W_law room_1 (lwE L xs) Z (HH A I J U) 48 730 393 (lwL u i) [] := by
  refine aw_aload_n (pc := 393) d_W_law_393 rfl rfl ?_
  refine aw_callVq (pc := 394) (v_wipe hc) ok_V_wipe d_W_law_394 lm_W_37 hg_0 rfl rfl ⟨by decide, by decide⟩ (Nat.le_of_ble_eq_true rfl) rfl rfl ⟨by decide, by decide⟩ (fun rr h2 hq => ?_)
  obtain ⟨rfl, A1, I1, J1, U1, rfl, hc1, hh⟩ := hq
  refine aw_aload_n (pc := 397) d_W_law_397 rfl rfl ?_
  refine aw_callVq (pc := 398) (n_wipe (mi_hi hm hh)) ok_M_wipe d_W_law_398 lm_W_41 hg_36 rfl rfl ⟨by decide, by decide⟩ (Nat.le_of_ble_eq_true rfl) rfl rfl ⟨by decide, by decide⟩ (fun rr h2 hq => ?_)
  obtain ⟨rfl, A2, I2, J2, U2, rfl, hm2, hl⟩ := hq
  refine aw_icmp_eq (pc := 401) (tgt := 976) d_W_law_401 (by decide) (fun _ => ?_) (fun z => absurd rfl z)
  exact nx _ _ _ _ _ _ _ _ _ (ci_lo hc1 hl) hm2
set_option maxHeartbeats 1000000 in
set_option maxRecDepth 20000 in
theorem lw_fault (hi : i + 6 ≤ L) (hL : L ≤ 3072) (hc : ci T np PD km TI A I J) (hm : mi T np PD km TI A I J) (nx : lwN L xs Z u i) : AW m_W_law room_1 (lwE L xs) Z (HH A I J U) 48 730 406 (lwL u i) [] := by
  refine aw_aload_n (pc := 406) d_W_law_406 rfl rfl ?_
  refine aw_callVq (pc := 407) (v_fault hc) ok_V_fault d_W_law_407 lm_W_42 hg_0 rfl rfl ⟨by decide, by decide⟩ (Nat.le_of_ble_eq_true rfl) rfl rfl ⟨by decide, by decide⟩ (fun rr h2 hq => ?_)
  obtain ⟨rfl, A1, I1, J1, U1, rfl, hc1, hh⟩ := hq
  refine aw_aload_n (pc := 410) d_W_law_410 rfl rfl ?_
  refine aw_callVq (pc := 411) (n_fault (mi_hi hm hh)) ok_M_fault d_W_law_411 lm_W_45 hg_36 rfl rfl ⟨by decide, by decide⟩ (Nat.le_of_ble_eq_true rfl) rfl rfl ⟨by decide, by decide⟩ (fun rr h2 hq => ?_)
  obtain ⟨rfl, A2, I2, J2, U2, rfl, hm2, hl⟩ := hq
  refine aw_icmp_eq (pc := 414) (tgt := 976) d_W_law_414 (by decide) (fun _ => ?_) (fun z => absurd rfl z)
  exact nx _ _ _ _ _ _ _ _ _ (ci_lo hc1 hl) hm2
set_option maxHeartbeats 1000000 in
set_option maxRecDepth 20000 in
theorem lw_judge (hi : i + 6 ≤ L) (hL : L ≤ 3072) (hc : ci T np PD km TI A I J) (hm : mi T np PD km TI A I J) (nx : lwN L xs Z u i) : AW m_W_law room_1 (lwE L xs) Z (HH A I J U) 48 730 419 (lwL u i) [] := by
  refine aw_aload_n (pc := 419) d_W_law_419 rfl rfl ?_
  refine aw_aload_s (pc := 420) d_W_law_420 rfl rfl ?_
  refine aw_iload_n (pc := 421) d_W_law_421 rfl rfl ?_
  refine aw_iconst (pc := 422) (v := 1) d_W_law_422 (by decide) ?_
  refine aw_iadd (pc := 423) d_W_law_423 ?_
  refine aw_sld (pc := 424) (j := i + 1) d_W_law_424 (fun _ _ h => h) (nI_add i 1) (by omega) (by omega) ?_
  refine aw_callVq (pc := 425) (v_judge hc _) ok_V_judge d_W_law_425 lm_W_46 hg_0 rfl rfl ⟨by decide, by decide⟩ (Nat.le_of_ble_eq_true rfl) rfl rfl ⟨by decide, by decide⟩ (fun rr h2 hq => ?_)
  obtain ⟨rfl, A1, I1, J1, U1, rfl, hc1, hh⟩ := hq
  refine aw_aload_n (pc := 428) d_W_law_428 rfl rfl ?_
  refine aw_aload_s (pc := 429) d_W_law_429 rfl rfl ?_
  refine aw_iload_n (pc := 430) d_W_law_430 rfl rfl ?_
  refine aw_iconst (pc := 431) (v := 1) d_W_law_431 (by decide) ?_
  refine aw_iadd (pc := 432) d_W_law_432 ?_
  refine aw_sld (pc := 433) (j := i + 1) d_W_law_433 (fun _ _ h => h) (nI_add i 1) (by omega) (by omega) ?_
  refine aw_callVq (pc := 434) (n_judge (mi_hi hm hh) _) ok_M_judge d_W_law_434 lm_W_49 hg_36 rfl rfl ⟨by decide, by decide⟩ (Nat.le_of_ble_eq_true rfl) rfl rfl ⟨by decide, by decide⟩ (fun rr h2 hq => ?_)
  obtain ⟨rfl, A2, I2, J2, U2, rfl, hm2, hl⟩ := hq
  refine aw_icmp_eq (pc := 437) (tgt := 976) d_W_law_437 (by decide) (fun _ => ?_) (fun z => absurd rfl z)
  exact nx _ _ _ _ _ _ _ _ _ (ci_lo hc1 hl) hm2
set_option maxHeartbeats 1000000 in
set_option maxRecDepth 20000 in
theorem lw_done (hi : i + 6 ≤ L) (hL : L ≤ 3072) (hc : ci T np PD km TI A I J) (hm : mi T np PD km TI A I J) (nx : lwN L xs Z u i) : AW m_W_law room_1 (lwE L xs) Z (HH A I J U) 48 730 442 (lwL u i) [] := by
  refine aw_aload_n (pc := 442) d_W_law_442 rfl rfl ?_
  refine aw_callVq (pc := 443) (v_done hc) ok_V_done d_W_law_443 lm_W_50 hg_0 rfl rfl ⟨by decide, by decide⟩ (Nat.le_of_ble_eq_true rfl) rfl rfl ⟨by decide, by decide⟩ (fun rr h2 hq => ?_)
  obtain ⟨rfl, A1, I1, J1, U1, rfl, hc1, hh⟩ := hq
  refine aw_aload_n (pc := 446) d_W_law_446 rfl rfl ?_
  refine aw_callVq (pc := 447) (n_done (mi_hi hm hh)) ok_M_done d_W_law_447 lm_W_53 hg_36 rfl rfl ⟨by decide, by decide⟩ (Nat.le_of_ble_eq_true rfl) rfl rfl ⟨by decide, by decide⟩ (fun rr h2 hq => ?_)
  obtain ⟨rfl, A2, I2, J2, U2, rfl, hm2, hl⟩ := hq
  refine aw_icmp_eq (pc := 450) (tgt := 976) d_W_law_450 (by decide) (fun _ => ?_) (fun z => absurd rfl z)
  exact nx _ _ _ _ _ _ _ _ _ (ci_lo hc1 hl) hm2
set_option maxHeartbeats 1000000 in
set_option maxRecDepth 20000 in
theorem lw_knows (hi : i + 6 ≤ L) (hL : L ≤ 3072) (hc : ci T np PD km TI A I J) (hm : mi T np PD km TI A I J) (nx : lwN L xs Z u i) : AW m_W_law room_1 (lwE L xs) Z (HH A I J U) 48 730 455 (lwL u i) [] := by
  refine aw_aload_n (pc := 455) d_W_law_455 rfl rfl ?_
  refine aw_aload_s (pc := 456) d_W_law_456 rfl rfl ?_
  refine aw_iload_n (pc := 457) d_W_law_457 rfl rfl ?_
  refine aw_iconst (pc := 458) (v := 1) d_W_law_458 (by decide) ?_
  refine aw_iadd (pc := 459) d_W_law_459 ?_
  refine aw_sld (pc := 460) (j := i + 1) d_W_law_460 (fun _ _ h => h) (nI_add i 1) (by omega) (by omega) ?_
  refine aw_callVq (pc := 461) (v_knows hc _) ok_V_knows d_W_law_461 lm_W_54 hg_0 rfl rfl ⟨by decide, by decide⟩ (Nat.le_of_ble_eq_true rfl) rfl rfl ⟨by decide, by decide⟩ (fun rr h2 hq => ?_)
  obtain ⟨rfl, A1, I1, J1, U1, rfl, hc1, hh⟩ := hq
  refine aw_aload_n (pc := 464) d_W_law_464 rfl rfl ?_
  refine aw_aload_s (pc := 465) d_W_law_465 rfl rfl ?_
  refine aw_iload_n (pc := 466) d_W_law_466 rfl rfl ?_
  refine aw_iconst (pc := 467) (v := 1) d_W_law_467 (by decide) ?_
  refine aw_iadd (pc := 468) d_W_law_468 ?_
  refine aw_sld (pc := 469) (j := i + 1) d_W_law_469 (fun _ _ h => h) (nI_add i 1) (by omega) (by omega) ?_
  refine aw_callVq (pc := 470) (n_knows (mi_hi hm hh) _) ok_M_knows d_W_law_470 lm_W_57 hg_36 rfl rfl ⟨by decide, by decide⟩ (Nat.le_of_ble_eq_true rfl) rfl rfl ⟨by decide, by decide⟩ (fun rr h2 hq => ?_)
  obtain ⟨rfl, A2, I2, J2, U2, rfl, hm2, hl⟩ := hq
  refine aw_icmp_eq (pc := 473) (tgt := 976) d_W_law_473 (by decide) (fun _ => ?_) (fun z => absurd rfl z)
  exact nx _ _ _ _ _ _ _ _ _ (ci_lo hc1 hl) hm2
set_option maxHeartbeats 1000000 in
set_option maxRecDepth 20000 in
theorem lw_behind (hi : i + 6 ≤ L) (hL : L ≤ 3072) (hc : ci T np PD km TI A I J) (hm : mi T np PD km TI A I J) (nx : lwN L xs Z u i) : AW m_W_law room_1 (lwE L xs) Z (HH A I J U) 48 730 478 (lwL u i) [] := by
  refine aw_aload_n (pc := 478) d_W_law_478 rfl rfl ?_
  refine aw_aload_s (pc := 479) d_W_law_479 rfl rfl ?_
  refine aw_iload_n (pc := 480) d_W_law_480 rfl rfl ?_
  refine aw_iconst (pc := 481) (v := 1) d_W_law_481 (by decide) ?_
  refine aw_iadd (pc := 482) d_W_law_482 ?_
  refine aw_sld (pc := 483) (j := i + 1) d_W_law_483 (fun _ _ h => h) (nI_add i 1) (by omega) (by omega) ?_
  refine aw_callVq (pc := 484) (v_behind hc _) ok_V_behind d_W_law_484 lm_W_58 hg_0 rfl rfl ⟨by decide, by decide⟩ (Nat.le_of_ble_eq_true rfl) rfl rfl ⟨by decide, by decide⟩ (fun rr h2 hq => ?_)
  obtain ⟨rfl, A1, I1, J1, U1, rfl, hc1, hh⟩ := hq
  refine aw_aload_n (pc := 487) d_W_law_487 rfl rfl ?_
  refine aw_aload_s (pc := 488) d_W_law_488 rfl rfl ?_
  refine aw_iload_n (pc := 489) d_W_law_489 rfl rfl ?_
  refine aw_iconst (pc := 490) (v := 1) d_W_law_490 (by decide) ?_
  refine aw_iadd (pc := 491) d_W_law_491 ?_
  refine aw_sld (pc := 492) (j := i + 1) d_W_law_492 (fun _ _ h => h) (nI_add i 1) (by omega) (by omega) ?_
  refine aw_callVq (pc := 493) (n_behind (mi_hi hm hh) _) ok_M_behind d_W_law_493 lm_W_61 hg_36 rfl rfl ⟨by decide, by decide⟩ (Nat.le_of_ble_eq_true rfl) rfl rfl ⟨by decide, by decide⟩ (fun rr h2 hq => ?_)
  obtain ⟨rfl, A2, I2, J2, U2, rfl, hm2, hl⟩ := hq
  refine aw_icmp_eq (pc := 496) (tgt := 976) d_W_law_496 (by decide) (fun _ => ?_) (fun z => absurd rfl z)
  exact nx _ _ _ _ _ _ _ _ _ (ci_lo hc1 hl) hm2
set_option maxHeartbeats 1000000 in
set_option maxRecDepth 20000 in
theorem lw_who (hi : i + 6 ≤ L) (hL : L ≤ 3072) (hc : ci T np PD km TI A I J) (hm : mi T np PD km TI A I J) (nx : lwN L xs Z u i) : AW m_W_law room_1 (lwE L xs) Z (HH A I J U) 48 730 501 (lwL u i) [] := by
  refine aw_aload_n (pc := 501) d_W_law_501 rfl rfl ?_
  refine aw_aload_s (pc := 502) d_W_law_502 rfl rfl ?_
  refine aw_iload_n (pc := 503) d_W_law_503 rfl rfl ?_
  refine aw_iconst (pc := 504) (v := 1) d_W_law_504 (by decide) ?_
  refine aw_iadd (pc := 505) d_W_law_505 ?_
  refine aw_sld (pc := 506) (j := i + 1) d_W_law_506 (fun _ _ h => h) (nI_add i 1) (by omega) (by omega) ?_
  refine aw_callVq (pc := 507) (v_who hc _) ok_V_who d_W_law_507 lm_W_62 hg_0 rfl rfl ⟨by decide, by decide⟩ (Nat.le_of_ble_eq_true rfl) rfl rfl ⟨by decide, by decide⟩ (fun rr h2 hq => ?_)
  obtain ⟨rfl, A1, I1, J1, U1, rfl, hc1, hh⟩ := hq
  refine aw_aload_n (pc := 510) d_W_law_510 rfl rfl ?_
  refine aw_aload_s (pc := 511) d_W_law_511 rfl rfl ?_
  refine aw_iload_n (pc := 512) d_W_law_512 rfl rfl ?_
  refine aw_iconst (pc := 513) (v := 1) d_W_law_513 (by decide) ?_
  refine aw_iadd (pc := 514) d_W_law_514 ?_
  refine aw_sld (pc := 515) (j := i + 1) d_W_law_515 (fun _ _ h => h) (nI_add i 1) (by omega) (by omega) ?_
  refine aw_callVq (pc := 516) (n_who (mi_hi hm hh) _) ok_M_who d_W_law_516 lm_W_65 hg_36 rfl rfl ⟨by decide, by decide⟩ (Nat.le_of_ble_eq_true rfl) rfl rfl ⟨by decide, by decide⟩ (fun rr h2 hq => ?_)
  obtain ⟨rfl, A2, I2, J2, U2, rfl, hm2, hl⟩ := hq
  refine aw_icmp_eq (pc := 519) (tgt := 976) d_W_law_519 (by decide) (fun _ => ?_) (fun z => absurd rfl z)
  exact nx _ _ _ _ _ _ _ _ _ (ci_lo hc1 hl) hm2
set_option maxHeartbeats 1000000 in
set_option maxRecDepth 20000 in
theorem lw_loud (hi : i + 6 ≤ L) (hL : L ≤ 3072) (hc : ci T np PD km TI A I J) (hm : mi T np PD km TI A I J) (nx : lwN L xs Z u i) : AW m_W_law room_1 (lwE L xs) Z (HH A I J U) 48 730 524 (lwL u i) [] := by
  refine aw_aload_n (pc := 524) d_W_law_524 rfl rfl ?_
  refine aw_aload_s (pc := 525) d_W_law_525 rfl rfl ?_
  refine aw_iload_n (pc := 526) d_W_law_526 rfl rfl ?_
  refine aw_iconst (pc := 527) (v := 1) d_W_law_527 (by decide) ?_
  refine aw_iadd (pc := 528) d_W_law_528 ?_
  refine aw_sld (pc := 529) (j := i + 1) d_W_law_529 (fun _ _ h => h) (nI_add i 1) (by omega) (by omega) ?_
  refine aw_aload_s (pc := 530) d_W_law_530 rfl rfl ?_
  refine aw_iload_n (pc := 531) d_W_law_531 rfl rfl ?_
  refine aw_iconst (pc := 532) (v := 2) d_W_law_532 (by decide) ?_
  refine aw_iadd (pc := 533) d_W_law_533 ?_
  refine aw_sld (pc := 534) (j := i + 2) d_W_law_534 (fun _ _ h => h) (nI_add i 2) (by omega) (by omega) ?_
  refine aw_callVq (pc := 535) (v_loud hc _ _) ok_V_loud d_W_law_535 lm_W_66 hg_0 rfl rfl ⟨by decide, by decide⟩ (Nat.le_of_ble_eq_true rfl) rfl rfl ⟨by decide, by decide⟩ (fun rr h2 hq => ?_)
  obtain ⟨rfl, A1, I1, J1, U1, rfl, hc1, hh⟩ := hq
  refine aw_aload_n (pc := 538) d_W_law_538 rfl rfl ?_
  refine aw_aload_s (pc := 539) d_W_law_539 rfl rfl ?_
  refine aw_iload_n (pc := 540) d_W_law_540 rfl rfl ?_
  refine aw_iconst (pc := 541) (v := 1) d_W_law_541 (by decide) ?_
  refine aw_iadd (pc := 542) d_W_law_542 ?_
  refine aw_sld (pc := 543) (j := i + 1) d_W_law_543 (fun _ _ h => h) (nI_add i 1) (by omega) (by omega) ?_
  refine aw_aload_s (pc := 544) d_W_law_544 rfl rfl ?_
  refine aw_iload_n (pc := 545) d_W_law_545 rfl rfl ?_
  refine aw_iconst (pc := 546) (v := 2) d_W_law_546 (by decide) ?_
  refine aw_iadd (pc := 547) d_W_law_547 ?_
  refine aw_sld (pc := 548) (j := i + 2) d_W_law_548 (fun _ _ h => h) (nI_add i 2) (by omega) (by omega) ?_
  refine aw_callVq (pc := 549) (n_loud (mi_hi hm hh) _ _) ok_M_loud d_W_law_549 lm_W_69 hg_36 rfl rfl ⟨by decide, by decide⟩ (Nat.le_of_ble_eq_true rfl) rfl rfl ⟨by decide, by decide⟩ (fun rr h2 hq => ?_)
  obtain ⟨rfl, A2, I2, J2, U2, rfl, hm2, hl⟩ := hq
  refine aw_icmp_eq (pc := 552) (tgt := 976) d_W_law_552 (by decide) (fun _ => ?_) (fun z => absurd rfl z)
  exact nx _ _ _ _ _ _ _ _ _ (ci_lo hc1 hl) hm2
set_option maxHeartbeats 1000000 in
set_option maxRecDepth 20000 in
theorem lw_hears (hi : i + 6 ≤ L) (hL : L ≤ 3072) (hc : ci T np PD km TI A I J) (hm : mi T np PD km TI A I J) (nx : lwN L xs Z u i) : AW m_W_law room_1 (lwE L xs) Z (HH A I J U) 48 730 557 (lwL u i) [] := by
  refine aw_aload_n (pc := 557) d_W_law_557 rfl rfl ?_
  refine aw_aload_s (pc := 558) d_W_law_558 rfl rfl ?_
  refine aw_iload_n (pc := 559) d_W_law_559 rfl rfl ?_
  refine aw_iconst (pc := 560) (v := 1) d_W_law_560 (by decide) ?_
  refine aw_iadd (pc := 561) d_W_law_561 ?_
  refine aw_sld (pc := 562) (j := i + 1) d_W_law_562 (fun _ _ h => h) (nI_add i 1) (by omega) (by omega) ?_
  refine aw_callVq (pc := 563) (v_hears hc _) ok_V_hears d_W_law_563 lm_W_70 hg_0 rfl rfl ⟨by decide, by decide⟩ (Nat.le_of_ble_eq_true rfl) rfl rfl ⟨by decide, by decide⟩ (fun rr h2 hq => ?_)
  obtain ⟨rfl, A1, I1, J1, U1, rfl, hc1, hh⟩ := hq
  refine aw_aload_n (pc := 566) d_W_law_566 rfl rfl ?_
  refine aw_aload_s (pc := 567) d_W_law_567 rfl rfl ?_
  refine aw_iload_n (pc := 568) d_W_law_568 rfl rfl ?_
  refine aw_iconst (pc := 569) (v := 1) d_W_law_569 (by decide) ?_
  refine aw_iadd (pc := 570) d_W_law_570 ?_
  refine aw_sld (pc := 571) (j := i + 1) d_W_law_571 (fun _ _ h => h) (nI_add i 1) (by omega) (by omega) ?_
  refine aw_callVq (pc := 572) (n_hears (mi_hi hm hh) _) ok_M_hears d_W_law_572 lm_W_73 hg_36 rfl rfl ⟨by decide, by decide⟩ (Nat.le_of_ble_eq_true rfl) rfl rfl ⟨by decide, by decide⟩ (fun rr h2 hq => ?_)
  obtain ⟨rfl, A2, I2, J2, U2, rfl, hm2, hl⟩ := hq
  refine aw_icmp_eq (pc := 575) (tgt := 976) d_W_law_575 (by decide) (fun _ => ?_) (fun z => absurd rfl z)
  exact nx _ _ _ _ _ _ _ _ _ (ci_lo hc1 hl) hm2
set_option maxHeartbeats 1000000 in
set_option maxRecDepth 20000 in
theorem lw_best (hi : i + 6 ≤ L) (hL : L ≤ 3072) (hc : ci T np PD km TI A I J) (hm : mi T np PD km TI A I J) (nx : lwN L xs Z u i) : AW m_W_law room_1 (lwE L xs) Z (HH A I J U) 48 730 580 (lwL u i) [] := by
  refine aw_aload_n (pc := 580) d_W_law_580 rfl rfl ?_
  refine aw_aload_s (pc := 581) d_W_law_581 rfl rfl ?_
  refine aw_iload_n (pc := 582) d_W_law_582 rfl rfl ?_
  refine aw_iconst (pc := 583) (v := 1) d_W_law_583 (by decide) ?_
  refine aw_iadd (pc := 584) d_W_law_584 ?_
  refine aw_sld (pc := 585) (j := i + 1) d_W_law_585 (fun _ _ h => h) (nI_add i 1) (by omega) (by omega) ?_
  refine aw_aload_s (pc := 586) d_W_law_586 rfl rfl ?_
  refine aw_iload_n (pc := 587) d_W_law_587 rfl rfl ?_
  refine aw_iconst (pc := 588) (v := 2) d_W_law_588 (by decide) ?_
  refine aw_iadd (pc := 589) d_W_law_589 ?_
  refine aw_sld (pc := 590) (j := i + 2) d_W_law_590 (fun _ _ h => h) (nI_add i 2) (by omega) (by omega) ?_
  refine aw_callVq (pc := 591) (v_best hc _ _) ok_V_best d_W_law_591 lm_W_74 hg_0 rfl rfl ⟨by decide, by decide⟩ (Nat.le_of_ble_eq_true rfl) rfl rfl ⟨by decide, by decide⟩ (fun rr h2 hq => ?_)
  obtain ⟨rfl, A1, I1, J1, U1, rfl, hc1, hh⟩ := hq
  refine aw_aload_n (pc := 594) d_W_law_594 rfl rfl ?_
  refine aw_aload_s (pc := 595) d_W_law_595 rfl rfl ?_
  refine aw_iload_n (pc := 596) d_W_law_596 rfl rfl ?_
  refine aw_iconst (pc := 597) (v := 1) d_W_law_597 (by decide) ?_
  refine aw_iadd (pc := 598) d_W_law_598 ?_
  refine aw_sld (pc := 599) (j := i + 1) d_W_law_599 (fun _ _ h => h) (nI_add i 1) (by omega) (by omega) ?_
  refine aw_aload_s (pc := 600) d_W_law_600 rfl rfl ?_
  refine aw_iload_n (pc := 601) d_W_law_601 rfl rfl ?_
  refine aw_iconst (pc := 602) (v := 2) d_W_law_602 (by decide) ?_
  refine aw_iadd (pc := 603) d_W_law_603 ?_
  refine aw_sld (pc := 604) (j := i + 2) d_W_law_604 (fun _ _ h => h) (nI_add i 2) (by omega) (by omega) ?_
  refine aw_callVq (pc := 605) (n_best (mi_hi hm hh) _ _) ok_M_best d_W_law_605 lm_W_77 hg_36 rfl rfl ⟨by decide, by decide⟩ (Nat.le_of_ble_eq_true rfl) rfl rfl ⟨by decide, by decide⟩ (fun rr h2 hq => ?_)
  obtain ⟨rfl, A2, I2, J2, U2, rfl, hm2, hl⟩ := hq
  refine aw_icmp_eq (pc := 608) (tgt := 976) d_W_law_608 (by decide) (fun _ => ?_) (fun z => absurd rfl z)
  exact nx _ _ _ _ _ _ _ _ _ (ci_lo hc1 hl) hm2
set_option maxHeartbeats 1000000 in
set_option maxRecDepth 20000 in
theorem lw_thirds (hi : i + 6 ≤ L) (hL : L ≤ 3072) (hc : ci T np PD km TI A I J) (hm : mi T np PD km TI A I J) (nx : lwN L xs Z u i) : AW m_W_law room_1 (lwE L xs) Z (HH A I J U) 48 730 613 (lwL u i) [] := by
  refine aw_aload_n (pc := 613) d_W_law_613 rfl rfl ?_
  refine aw_aload_s (pc := 614) d_W_law_614 rfl rfl ?_
  refine aw_iload_n (pc := 615) d_W_law_615 rfl rfl ?_
  refine aw_iconst (pc := 616) (v := 1) d_W_law_616 (by decide) ?_
  refine aw_iadd (pc := 617) d_W_law_617 ?_
  refine aw_sld (pc := 618) (j := i + 1) d_W_law_618 (fun _ _ h => h) (nI_add i 1) (by omega) (by omega) ?_
  refine aw_aload_s (pc := 619) d_W_law_619 rfl rfl ?_
  refine aw_iload_n (pc := 620) d_W_law_620 rfl rfl ?_
  refine aw_iconst (pc := 621) (v := 2) d_W_law_621 (by decide) ?_
  refine aw_iadd (pc := 622) d_W_law_622 ?_
  refine aw_sld (pc := 623) (j := i + 2) d_W_law_623 (fun _ _ h => h) (nI_add i 2) (by omega) (by omega) ?_
  refine aw_callVq (pc := 624) (v_thirds hc _ _) ok_V_thirds d_W_law_624 lm_W_78 hg_0 rfl rfl ⟨by decide, by decide⟩ (Nat.le_of_ble_eq_true rfl) rfl rfl ⟨by decide, by decide⟩ (fun rr h2 hq => ?_)
  obtain ⟨rfl, A1, I1, J1, U1, rfl, hc1, hh⟩ := hq
  refine aw_aload_n (pc := 627) d_W_law_627 rfl rfl ?_
  refine aw_aload_s (pc := 628) d_W_law_628 rfl rfl ?_
  refine aw_iload_n (pc := 629) d_W_law_629 rfl rfl ?_
  refine aw_iconst (pc := 630) (v := 1) d_W_law_630 (by decide) ?_
  refine aw_iadd (pc := 631) d_W_law_631 ?_
  refine aw_sld (pc := 632) (j := i + 1) d_W_law_632 (fun _ _ h => h) (nI_add i 1) (by omega) (by omega) ?_
  refine aw_aload_s (pc := 633) d_W_law_633 rfl rfl ?_
  refine aw_iload_n (pc := 634) d_W_law_634 rfl rfl ?_
  refine aw_iconst (pc := 635) (v := 2) d_W_law_635 (by decide) ?_
  refine aw_iadd (pc := 636) d_W_law_636 ?_
  refine aw_sld (pc := 637) (j := i + 2) d_W_law_637 (fun _ _ h => h) (nI_add i 2) (by omega) (by omega) ?_
  refine aw_callVq (pc := 638) (n_thirds (mi_hi hm hh) _ _) ok_M_thirds d_W_law_638 lm_W_81 hg_36 rfl rfl ⟨by decide, by decide⟩ (Nat.le_of_ble_eq_true rfl) rfl rfl ⟨by decide, by decide⟩ (fun rr h2 hq => ?_)
  obtain ⟨rfl, A2, I2, J2, U2, rfl, hm2, hl⟩ := hq
  refine aw_icmp_eq (pc := 641) (tgt := 976) d_W_law_641 (by decide) (fun _ => ?_) (fun z => absurd rfl z)
  exact nx _ _ _ _ _ _ _ _ _ (ci_lo hc1 hl) hm2
set_option maxHeartbeats 1000000 in
set_option maxRecDepth 20000 in
theorem lw_round (hi : i + 6 ≤ L) (hL : L ≤ 3072) (hc : ci T np PD km TI A I J) (hm : mi T np PD km TI A I J) (nx : lwN L xs Z u i) : AW m_W_law room_1 (lwE L xs) Z (HH A I J U) 48 730 646 (lwL u i) [] := by
  refine aw_aload_n (pc := 646) d_W_law_646 rfl rfl ?_
  refine aw_aload_s (pc := 647) d_W_law_647 rfl rfl ?_
  refine aw_iload_n (pc := 648) d_W_law_648 rfl rfl ?_
  refine aw_iconst (pc := 649) (v := 1) d_W_law_649 (by decide) ?_
  refine aw_iadd (pc := 650) d_W_law_650 ?_
  refine aw_sld (pc := 651) (j := i + 1) d_W_law_651 (fun _ _ h => h) (nI_add i 1) (by omega) (by omega) ?_
  refine aw_aload_s (pc := 652) d_W_law_652 rfl rfl ?_
  refine aw_iload_n (pc := 653) d_W_law_653 rfl rfl ?_
  refine aw_iconst (pc := 654) (v := 2) d_W_law_654 (by decide) ?_
  refine aw_iadd (pc := 655) d_W_law_655 ?_
  refine aw_sld (pc := 656) (j := i + 2) d_W_law_656 (fun _ _ h => h) (nI_add i 2) (by omega) (by omega) ?_
  refine aw_callVq (pc := 657) (v_round hc _ _) ok_V_round d_W_law_657 lm_W_82 hg_0 rfl rfl ⟨by decide, by decide⟩ (Nat.le_of_ble_eq_true rfl) rfl rfl ⟨by decide, by decide⟩ (fun rr h2 hq => ?_)
  obtain ⟨rfl, A1, I1, J1, U1, rfl, hc1, hh⟩ := hq
  refine aw_aload_n (pc := 660) d_W_law_660 rfl rfl ?_
  refine aw_aload_s (pc := 661) d_W_law_661 rfl rfl ?_
  refine aw_iload_n (pc := 662) d_W_law_662 rfl rfl ?_
  refine aw_iconst (pc := 663) (v := 1) d_W_law_663 (by decide) ?_
  refine aw_iadd (pc := 664) d_W_law_664 ?_
  refine aw_sld (pc := 665) (j := i + 1) d_W_law_665 (fun _ _ h => h) (nI_add i 1) (by omega) (by omega) ?_
  refine aw_aload_s (pc := 666) d_W_law_666 rfl rfl ?_
  refine aw_iload_n (pc := 667) d_W_law_667 rfl rfl ?_
  refine aw_iconst (pc := 668) (v := 2) d_W_law_668 (by decide) ?_
  refine aw_iadd (pc := 669) d_W_law_669 ?_
  refine aw_sld (pc := 670) (j := i + 2) d_W_law_670 (fun _ _ h => h) (nI_add i 2) (by omega) (by omega) ?_
  refine aw_callVq (pc := 671) (n_round (mi_hi hm hh) _ _) ok_M_round d_W_law_671 lm_W_85 hg_36 rfl rfl ⟨by decide, by decide⟩ (Nat.le_of_ble_eq_true rfl) rfl rfl ⟨by decide, by decide⟩ (fun rr h2 hq => ?_)
  obtain ⟨rfl, A2, I2, J2, U2, rfl, hm2, hl⟩ := hq
  refine aw_icmp_eq (pc := 674) (tgt := 976) d_W_law_674 (by decide) (fun _ => ?_) (fun z => absurd rfl z)
  exact nx _ _ _ _ _ _ _ _ _ (ci_lo hc1 hl) hm2
set_option maxHeartbeats 1000000 in
set_option maxRecDepth 20000 in
theorem lw_seen (hi : i + 6 ≤ L) (hL : L ≤ 3072) (hc : ci T np PD km TI A I J) (hm : mi T np PD km TI A I J) (nx : lwN L xs Z u i) : AW m_W_law room_1 (lwE L xs) Z (HH A I J U) 48 730 679 (lwL u i) [] := by
  refine aw_aload_n (pc := 679) d_W_law_679 rfl rfl ?_
  refine aw_aload_s (pc := 680) d_W_law_680 rfl rfl ?_
  refine aw_iload_n (pc := 681) d_W_law_681 rfl rfl ?_
  refine aw_iconst (pc := 682) (v := 1) d_W_law_682 (by decide) ?_
  refine aw_iadd (pc := 683) d_W_law_683 ?_
  refine aw_sld (pc := 684) (j := i + 1) d_W_law_684 (fun _ _ h => h) (nI_add i 1) (by omega) (by omega) ?_
  refine aw_aload_s (pc := 685) d_W_law_685 rfl rfl ?_
  refine aw_iload_n (pc := 686) d_W_law_686 rfl rfl ?_
  refine aw_iconst (pc := 687) (v := 2) d_W_law_687 (by decide) ?_
  refine aw_iadd (pc := 688) d_W_law_688 ?_
  refine aw_sld (pc := 689) (j := i + 2) d_W_law_689 (fun _ _ h => h) (nI_add i 2) (by omega) (by omega) ?_
  refine aw_nz (pc := 690) d_W_law_690 d_W_law_693 d_W_law_694 d_W_law_697 ?_
  refine aw_callVq (pc := 698) (v_seen hc _ (p := ¬ xs (i + 2) = 0)) ok_V_seen d_W_law_698 lm_W_86 hg_0 rfl rfl ⟨by decide, by decide⟩ (Nat.le_of_ble_eq_true rfl) rfl rfl ⟨by decide, by decide⟩ (fun rr h2 hq => ?_)
  obtain ⟨rfl, A1, I1, J1, U1, rfl, hc1, hh⟩ := hq
  refine aw_aload_n (pc := 701) d_W_law_701 rfl rfl ?_
  refine aw_aload_s (pc := 702) d_W_law_702 rfl rfl ?_
  refine aw_iload_n (pc := 703) d_W_law_703 rfl rfl ?_
  refine aw_iconst (pc := 704) (v := 1) d_W_law_704 (by decide) ?_
  refine aw_iadd (pc := 705) d_W_law_705 ?_
  refine aw_sld (pc := 706) (j := i + 1) d_W_law_706 (fun _ _ h => h) (nI_add i 1) (by omega) (by omega) ?_
  refine aw_aload_s (pc := 707) d_W_law_707 rfl rfl ?_
  refine aw_iload_n (pc := 708) d_W_law_708 rfl rfl ?_
  refine aw_iconst (pc := 709) (v := 2) d_W_law_709 (by decide) ?_
  refine aw_iadd (pc := 710) d_W_law_710 ?_
  refine aw_sld (pc := 711) (j := i + 2) d_W_law_711 (fun _ _ h => h) (nI_add i 2) (by omega) (by omega) ?_
  refine aw_nz (pc := 712) d_W_law_712 d_W_law_715 d_W_law_716 d_W_law_719 ?_
  refine aw_callVq (pc := 720) (n_seen (mi_hi hm hh) _ (p := ¬ xs (i + 2) = 0)) ok_M_seen d_W_law_720 lm_W_90 hg_36 rfl rfl ⟨by decide, by decide⟩ (Nat.le_of_ble_eq_true rfl) rfl rfl ⟨by decide, by decide⟩ (fun rr h2 hq => ?_)
  obtain ⟨rfl, A2, I2, J2, U2, rfl, hm2, hl⟩ := hq
  refine aw_icmp_eq (pc := 723) (tgt := 976) d_W_law_723 (by decide) (fun _ => ?_) (fun z => absurd rfl z)
  exact nx _ _ _ _ _ _ _ _ _ (ci_lo hc1 hl) hm2
set_option maxHeartbeats 1000000 in
set_option maxRecDepth 20000 in
theorem lw_forget (hi : i + 6 ≤ L) (hL : L ≤ 3072) (hc : ci T np PD km TI A I J) (hm : mi T np PD km TI A I J) (nx : lwN L xs Z u i) : AW m_W_law room_1 (lwE L xs) Z (HH A I J U) 48 730 728 (lwL u i) [] := by
  refine aw_aload_n (pc := 728) d_W_law_728 rfl rfl ?_
  refine aw_callVq (pc := 729) (v_forget hc) ok_V_forget d_W_law_729 lm_W_91 hg_0 rfl rfl ⟨by decide, by decide⟩ (Nat.le_of_ble_eq_true rfl) rfl rfl ⟨by decide, by decide⟩ (fun rr h2 hq => ?_)
  obtain ⟨rfl, A1, I1, J1, U1, rfl, hc1, hh⟩ := hq
  refine aw_aload_n (pc := 732) d_W_law_732 rfl rfl ?_
  refine aw_callVq (pc := 733) (n_forget (mi_hi hm hh)) ok_M_forget d_W_law_733 lm_W_94 hg_36 rfl rfl ⟨by decide, by decide⟩ (Nat.le_of_ble_eq_true rfl) rfl rfl ⟨by decide, by decide⟩ (fun rr h2 hq => ?_)
  obtain ⟨rfl, A2, I2, J2, U2, rfl, hm2, hl⟩ := hq
  refine aw_icmp_eq (pc := 736) (tgt := 976) d_W_law_736 (by decide) (fun _ => ?_) (fun z => absurd rfl z)
  exact nx _ _ _ _ _ _ _ _ _ (ci_lo hc1 hl) hm2
set_option maxHeartbeats 1000000 in
set_option maxRecDepth 20000 in
theorem lw_at (hi : i + 6 ≤ L) (hL : L ≤ 3072) (hc : ci T np PD km TI A I J) (hm : mi T np PD km TI A I J) (nx : lwN L xs Z u i) : AW m_W_law room_1 (lwE L xs) Z (HH A I J U) 48 730 741 (lwL u i) [] := by
  refine aw_aload_n (pc := 741) d_W_law_741 rfl rfl ?_
  refine aw_callVq (pc := 742) (v_at hc) ok_V_at d_W_law_742 lm_W_95 hg_0 rfl rfl ⟨by decide, by decide⟩ (Nat.le_of_ble_eq_true rfl) rfl rfl ⟨by decide, by decide⟩ (fun rr h2 hq => ?_)
  obtain ⟨rfl, A1, I1, J1, U1, rfl, hc1, hh⟩ := hq
  refine aw_aload_n (pc := 745) d_W_law_745 rfl rfl ?_
  refine aw_callVq (pc := 746) (n_at (mi_hi hm hh)) ok_M_at d_W_law_746 lm_W_98 hg_36 rfl rfl ⟨by decide, by decide⟩ (Nat.le_of_ble_eq_true rfl) rfl rfl ⟨by decide, by decide⟩ (fun rr h2 hq => ?_)
  obtain ⟨rfl, A2, I2, J2, U2, rfl, hm2, hl⟩ := hq
  refine aw_icmp_eq (pc := 749) (tgt := 976) d_W_law_749 (by decide) (fun _ => ?_) (fun z => absurd rfl z)
  exact nx _ _ _ _ _ _ _ _ _ (ci_lo hc1 hl) hm2
set_option maxHeartbeats 1000000 in
set_option maxRecDepth 20000 in
theorem lw_ask (hi : i + 6 ≤ L) (hL : L ≤ 3072) (hc : ci T np PD km TI A I J) (hm : mi T np PD km TI A I J) (nx : lwN L xs Z u i) : AW m_W_law room_1 (lwE L xs) Z (HH A I J U) 48 730 754 (lwL u i) [] := by
  refine aw_aload_n (pc := 754) d_W_law_754 rfl rfl ?_
  refine aw_aload_s (pc := 755) d_W_law_755 rfl rfl ?_
  refine aw_iload_n (pc := 756) d_W_law_756 rfl rfl ?_
  refine aw_iconst (pc := 757) (v := 1) d_W_law_757 (by decide) ?_
  refine aw_iadd (pc := 758) d_W_law_758 ?_
  refine aw_sld (pc := 759) (j := i + 1) d_W_law_759 (fun _ _ h => h) (nI_add i 1) (by omega) (by omega) ?_
  refine aw_callVq (pc := 760) (v_ask hc _) ok_V_ask d_W_law_760 lm_W_99 hg_0 rfl rfl ⟨by decide, by decide⟩ (Nat.le_of_ble_eq_true rfl) rfl rfl ⟨by decide, by decide⟩ (fun rr h2 hq => ?_)
  obtain ⟨rfl, A1, I1, J1, U1, rfl, hc1, hh⟩ := hq
  refine aw_aload_n (pc := 763) d_W_law_763 rfl rfl ?_
  refine aw_aload_s (pc := 764) d_W_law_764 rfl rfl ?_
  refine aw_iload_n (pc := 765) d_W_law_765 rfl rfl ?_
  refine aw_iconst (pc := 766) (v := 1) d_W_law_766 (by decide) ?_
  refine aw_iadd (pc := 767) d_W_law_767 ?_
  refine aw_sld (pc := 768) (j := i + 1) d_W_law_768 (fun _ _ h => h) (nI_add i 1) (by omega) (by omega) ?_
  refine aw_callVq (pc := 769) (n_ask (mi_hi hm hh) _) ok_M_ask d_W_law_769 lm_W_102 hg_36 rfl rfl ⟨by decide, by decide⟩ (Nat.le_of_ble_eq_true rfl) rfl rfl ⟨by decide, by decide⟩ (fun rr h2 hq => ?_)
  obtain ⟨rfl, A2, I2, J2, U2, rfl, hm2, hl⟩ := hq
  refine aw_icmp_eq (pc := 772) (tgt := 976) d_W_law_772 (by decide) (fun _ => ?_) (fun z => absurd rfl z)
  exact nx _ _ _ _ _ _ _ _ _ (ci_lo hc1 hl) hm2
set_option maxHeartbeats 1000000 in
set_option maxRecDepth 20000 in
theorem lw_rumour (hi : i + 6 ≤ L) (hL : L ≤ 3072) (hc : ci T np PD km TI A I J) (hm : mi T np PD km TI A I J) (nx : lwN L xs Z u i) : AW m_W_law room_1 (lwE L xs) Z (HH A I J U) 48 730 777 (lwL u i) [] := by
  refine aw_aload_n (pc := 777) d_W_law_777 rfl rfl ?_
  refine aw_aload_s (pc := 778) d_W_law_778 rfl rfl ?_
  refine aw_iload_n (pc := 779) d_W_law_779 rfl rfl ?_
  refine aw_iconst (pc := 780) (v := 1) d_W_law_780 (by decide) ?_
  refine aw_iadd (pc := 781) d_W_law_781 ?_
  refine aw_sld (pc := 782) (j := i + 1) d_W_law_782 (fun _ _ h => h) (nI_add i 1) (by omega) (by omega) ?_
  refine aw_aload_s (pc := 783) d_W_law_783 rfl rfl ?_
  refine aw_iload_n (pc := 784) d_W_law_784 rfl rfl ?_
  refine aw_iconst (pc := 785) (v := 2) d_W_law_785 (by decide) ?_
  refine aw_iadd (pc := 786) d_W_law_786 ?_
  refine aw_sld (pc := 787) (j := i + 2) d_W_law_787 (fun _ _ h => h) (nI_add i 2) (by omega) (by omega) ?_
  refine aw_callVq (pc := 788) (v_rumour hc _ _) ok_V_rumour d_W_law_788 lm_W_103 hg_0 rfl rfl ⟨by decide, by decide⟩ (Nat.le_of_ble_eq_true rfl) rfl rfl ⟨by decide, by decide⟩ (fun rr h2 hq => ?_)
  obtain ⟨rfl, A1, I1, J1, U1, rfl, hc1, hh⟩ := hq
  refine aw_aload_n (pc := 791) d_W_law_791 rfl rfl ?_
  refine aw_aload_s (pc := 792) d_W_law_792 rfl rfl ?_
  refine aw_iload_n (pc := 793) d_W_law_793 rfl rfl ?_
  refine aw_iconst (pc := 794) (v := 1) d_W_law_794 (by decide) ?_
  refine aw_iadd (pc := 795) d_W_law_795 ?_
  refine aw_sld (pc := 796) (j := i + 1) d_W_law_796 (fun _ _ h => h) (nI_add i 1) (by omega) (by omega) ?_
  refine aw_aload_s (pc := 797) d_W_law_797 rfl rfl ?_
  refine aw_iload_n (pc := 798) d_W_law_798 rfl rfl ?_
  refine aw_iconst (pc := 799) (v := 2) d_W_law_799 (by decide) ?_
  refine aw_iadd (pc := 800) d_W_law_800 ?_
  refine aw_sld (pc := 801) (j := i + 2) d_W_law_801 (fun _ _ h => h) (nI_add i 2) (by omega) (by omega) ?_
  refine aw_callVq (pc := 802) (n_rumour (mi_hi hm hh) _ _) ok_M_rumour d_W_law_802 lm_W_106 hg_36 rfl rfl ⟨by decide, by decide⟩ (Nat.le_of_ble_eq_true rfl) rfl rfl ⟨by decide, by decide⟩ (fun rr h2 hq => ?_)
  obtain ⟨rfl, A2, I2, J2, U2, rfl, hm2, hl⟩ := hq
  refine aw_icmp_eq (pc := 805) (tgt := 976) d_W_law_805 (by decide) (fun _ => ?_) (fun z => absurd rfl z)
  exact nx _ _ _ _ _ _ _ _ _ (ci_lo hc1 hl) hm2
set_option maxHeartbeats 1000000 in
set_option maxRecDepth 20000 in
theorem lw_chance (hi : i + 6 ≤ L) (hL : L ≤ 3072) (hc : ci T np PD km TI A I J) (hm : mi T np PD km TI A I J) (nx : lwN L xs Z u i) : AW m_W_law room_1 (lwE L xs) Z (HH A I J U) 48 730 810 (lwL u i) [] := by
  refine aw_aload_n (pc := 810) d_W_law_810 rfl rfl ?_
  refine aw_aload_s (pc := 811) d_W_law_811 rfl rfl ?_
  refine aw_iload_n (pc := 812) d_W_law_812 rfl rfl ?_
  refine aw_iconst (pc := 813) (v := 1) d_W_law_813 (by decide) ?_
  refine aw_iadd (pc := 814) d_W_law_814 ?_
  refine aw_sld (pc := 815) (j := i + 1) d_W_law_815 (fun _ _ h => h) (nI_add i 1) (by omega) (by omega) ?_
  refine aw_aload_s (pc := 816) d_W_law_816 rfl rfl ?_
  refine aw_iload_n (pc := 817) d_W_law_817 rfl rfl ?_
  refine aw_iconst (pc := 818) (v := 2) d_W_law_818 (by decide) ?_
  refine aw_iadd (pc := 819) d_W_law_819 ?_
  refine aw_sld (pc := 820) (j := i + 2) d_W_law_820 (fun _ _ h => h) (nI_add i 2) (by omega) (by omega) ?_
  refine aw_aload_s (pc := 821) d_W_law_821 rfl rfl ?_
  refine aw_iload_n (pc := 822) d_W_law_822 rfl rfl ?_
  refine aw_iconst (pc := 823) (v := 3) d_W_law_823 (by decide) ?_
  refine aw_iadd (pc := 824) d_W_law_824 ?_
  refine aw_sld (pc := 825) (j := i + 3) d_W_law_825 (fun _ _ h => h) (nI_add i 3) (by omega) (by omega) ?_
  refine aw_aload_s (pc := 826) d_W_law_826 rfl rfl ?_
  refine aw_iload_n (pc := 827) d_W_law_827 rfl rfl ?_
  refine aw_iconst (pc := 828) (v := 4) d_W_law_828 (by decide) ?_
  refine aw_iadd (pc := 829) d_W_law_829 ?_
  refine aw_sld (pc := 830) (j := i + 4) d_W_law_830 (fun _ _ h => h) (nI_add i 4) (by omega) (by omega) ?_
  refine aw_callVq (pc := 831) (v_chance hc _ _ _ _) ok_V_chance d_W_law_831 lm_W_107 hg_0 rfl rfl ⟨by decide, by decide⟩ (Nat.le_of_ble_eq_true rfl) rfl rfl ⟨by decide, by decide⟩ (fun rr h2 hq => ?_)
  obtain ⟨rfl, A1, I1, J1, U1, rfl, hc1, hh⟩ := hq
  refine aw_aload_n (pc := 834) d_W_law_834 rfl rfl ?_
  refine aw_aload_s (pc := 835) d_W_law_835 rfl rfl ?_
  refine aw_iload_n (pc := 836) d_W_law_836 rfl rfl ?_
  refine aw_iconst (pc := 837) (v := 1) d_W_law_837 (by decide) ?_
  refine aw_iadd (pc := 838) d_W_law_838 ?_
  refine aw_sld (pc := 839) (j := i + 1) d_W_law_839 (fun _ _ h => h) (nI_add i 1) (by omega) (by omega) ?_
  refine aw_aload_s (pc := 840) d_W_law_840 rfl rfl ?_
  refine aw_iload_n (pc := 841) d_W_law_841 rfl rfl ?_
  refine aw_iconst (pc := 842) (v := 2) d_W_law_842 (by decide) ?_
  refine aw_iadd (pc := 843) d_W_law_843 ?_
  refine aw_sld (pc := 844) (j := i + 2) d_W_law_844 (fun _ _ h => h) (nI_add i 2) (by omega) (by omega) ?_
  refine aw_aload_s (pc := 845) d_W_law_845 rfl rfl ?_
  refine aw_iload_n (pc := 846) d_W_law_846 rfl rfl ?_
  refine aw_iconst (pc := 847) (v := 3) d_W_law_847 (by decide) ?_
  refine aw_iadd (pc := 848) d_W_law_848 ?_
  refine aw_sld (pc := 849) (j := i + 3) d_W_law_849 (fun _ _ h => h) (nI_add i 3) (by omega) (by omega) ?_
  refine aw_aload_s (pc := 850) d_W_law_850 rfl rfl ?_
  refine aw_iload_n (pc := 851) d_W_law_851 rfl rfl ?_
  refine aw_iconst (pc := 852) (v := 4) d_W_law_852 (by decide) ?_
  refine aw_iadd (pc := 853) d_W_law_853 ?_
  refine aw_sld (pc := 854) (j := i + 4) d_W_law_854 (fun _ _ h => h) (nI_add i 4) (by omega) (by omega) ?_
  refine aw_callVq (pc := 855) (n_chance (mi_hi hm hh) _ _ _ _) ok_M_chance d_W_law_855 lm_W_111 hg_36 rfl rfl ⟨by decide, by decide⟩ (Nat.le_of_ble_eq_true rfl) rfl rfl ⟨by decide, by decide⟩ (fun rr h2 hq => ?_)
  obtain ⟨rfl, A2, I2, J2, U2, rfl, hm2, hl⟩ := hq
  refine aw_lcmp (pc := 858) d_W_law_858 ?_
  refine aw_if_eq (pc := 859) (tgt := 976) d_W_law_859 (by decide) (fun _ => ?_) (fun z => absurd (cmp_self _) z)
  exact nx _ _ _ _ _ _ _ _ _ (ci_lo hc1 hl) hm2
set_option maxHeartbeats 1000000 in
set_option maxRecDepth 20000 in
theorem lw_year (hi : i + 6 ≤ L) (hL : L ≤ 3072) (hc : ci T np PD km TI A I J) (hm : mi T np PD km TI A I J) (nx : lwN L xs Z u i) : AW m_W_law room_1 (lwE L xs) Z (HH A I J U) 48 730 864 (lwL u i) [] := by
  refine aw_aload_n (pc := 864) d_W_law_864 rfl rfl ?_
  refine aw_aload_s (pc := 865) d_W_law_865 rfl rfl ?_
  refine aw_iload_n (pc := 866) d_W_law_866 rfl rfl ?_
  refine aw_iconst (pc := 867) (v := 1) d_W_law_867 (by decide) ?_
  refine aw_iadd (pc := 868) d_W_law_868 ?_
  refine aw_sld (pc := 869) (j := i + 1) d_W_law_869 (fun _ _ h => h) (nI_add i 1) (by omega) (by omega) ?_
  refine aw_aload_s (pc := 870) d_W_law_870 rfl rfl ?_
  refine aw_iload_n (pc := 871) d_W_law_871 rfl rfl ?_
  refine aw_iconst (pc := 872) (v := 2) d_W_law_872 (by decide) ?_
  refine aw_iadd (pc := 873) d_W_law_873 ?_
  refine aw_sld (pc := 874) (j := i + 2) d_W_law_874 (fun _ _ h => h) (nI_add i 2) (by omega) (by omega) ?_
  refine aw_aload_s (pc := 875) d_W_law_875 rfl rfl ?_
  refine aw_iload_n (pc := 876) d_W_law_876 rfl rfl ?_
  refine aw_iconst (pc := 877) (v := 3) d_W_law_877 (by decide) ?_
  refine aw_iadd (pc := 878) d_W_law_878 ?_
  refine aw_sld (pc := 879) (j := i + 3) d_W_law_879 (fun _ _ h => h) (nI_add i 3) (by omega) (by omega) ?_
  refine aw_callVq (pc := 880) (v_year hc _ _ _) ok_V_year d_W_law_880 lm_W_112 hg_0 rfl rfl ⟨by decide, by decide⟩ (Nat.le_of_ble_eq_true rfl) rfl rfl ⟨by decide, by decide⟩ (fun rr h2 hq => ?_)
  obtain ⟨rfl, A1, I1, J1, U1, rfl, hc1, hh⟩ := hq
  refine aw_aload_n (pc := 883) d_W_law_883 rfl rfl ?_
  refine aw_aload_s (pc := 884) d_W_law_884 rfl rfl ?_
  refine aw_iload_n (pc := 885) d_W_law_885 rfl rfl ?_
  refine aw_iconst (pc := 886) (v := 1) d_W_law_886 (by decide) ?_
  refine aw_iadd (pc := 887) d_W_law_887 ?_
  refine aw_sld (pc := 888) (j := i + 1) d_W_law_888 (fun _ _ h => h) (nI_add i 1) (by omega) (by omega) ?_
  refine aw_aload_s (pc := 889) d_W_law_889 rfl rfl ?_
  refine aw_iload_n (pc := 890) d_W_law_890 rfl rfl ?_
  refine aw_iconst (pc := 891) (v := 2) d_W_law_891 (by decide) ?_
  refine aw_iadd (pc := 892) d_W_law_892 ?_
  refine aw_sld (pc := 893) (j := i + 2) d_W_law_893 (fun _ _ h => h) (nI_add i 2) (by omega) (by omega) ?_
  refine aw_aload_s (pc := 894) d_W_law_894 rfl rfl ?_
  refine aw_iload_n (pc := 895) d_W_law_895 rfl rfl ?_
  refine aw_iconst (pc := 896) (v := 3) d_W_law_896 (by decide) ?_
  refine aw_iadd (pc := 897) d_W_law_897 ?_
  refine aw_sld (pc := 898) (j := i + 3) d_W_law_898 (fun _ _ h => h) (nI_add i 3) (by omega) (by omega) ?_
  refine aw_callVq (pc := 899) (n_year (mi_hi hm hh) _ _ _) ok_M_year d_W_law_899 lm_W_116 hg_36 rfl rfl ⟨by decide, by decide⟩ (Nat.le_of_ble_eq_true rfl) rfl rfl ⟨by decide, by decide⟩ (fun rr h2 hq => ?_)
  obtain ⟨rfl, A2, I2, J2, U2, rfl, hm2, hl⟩ := hq
  refine aw_icmp_eq (pc := 902) (tgt := 976) d_W_law_902 (by decide) (fun _ => ?_) (fun z => absurd rfl z)
  exact nx _ _ _ _ _ _ _ _ _ (ci_lo hc1 hl) hm2
set_option maxHeartbeats 1000000 in
set_option maxRecDepth 20000 in
theorem lw_image (hi : i + 6 ≤ L) (hL : L ≤ 3072) (hc : ci T np PD km TI A I J) (hm : mi T np PD km TI A I J) (nx : lwN L xs Z u i) : AW m_W_law room_1 (lwE L xs) Z (HH A I J U) 48 730 907 (lwL u i) [] := by
  refine aw_aload_n (pc := 907) d_W_law_907 rfl rfl ?_
  refine aw_aload_s (pc := 908) d_W_law_908 rfl rfl ?_
  refine aw_iload_n (pc := 909) d_W_law_909 rfl rfl ?_
  refine aw_iconst (pc := 910) (v := 1) d_W_law_910 (by decide) ?_
  refine aw_iadd (pc := 911) d_W_law_911 ?_
  refine aw_sld (pc := 912) (j := i + 1) d_W_law_912 (fun _ _ h => h) (nI_add i 1) (by omega) (by omega) ?_
  refine aw_callVq (pc := 913) (v_image hc _) ok_V_image d_W_law_913 lm_W_117 hg_0 rfl rfl ⟨by decide, by decide⟩ (Nat.le_of_ble_eq_true rfl) rfl rfl ⟨by decide, by decide⟩ (fun rr h2 hq => ?_)
  obtain ⟨rfl, A1, I1, J1, U1, rfl, hc1, hh⟩ := hq
  refine aw_aload_n (pc := 916) d_W_law_916 rfl rfl ?_
  refine aw_aload_s (pc := 917) d_W_law_917 rfl rfl ?_
  refine aw_iload_n (pc := 918) d_W_law_918 rfl rfl ?_
  refine aw_iconst (pc := 919) (v := 1) d_W_law_919 (by decide) ?_
  refine aw_iadd (pc := 920) d_W_law_920 ?_
  refine aw_sld (pc := 921) (j := i + 1) d_W_law_921 (fun _ _ h => h) (nI_add i 1) (by omega) (by omega) ?_
  refine aw_callVq (pc := 922) (n_image (mi_hi hm hh) _) ok_M_image d_W_law_922 lm_W_120 hg_36 rfl rfl ⟨by decide, by decide⟩ (Nat.le_of_ble_eq_true rfl) rfl rfl ⟨by decide, by decide⟩ (fun rr h2 hq => ?_)
  obtain ⟨rfl, A2, I2, J2, U2, rfl, hm2, hl⟩ := hq
  refine aw_icmp_eq (pc := 925) (tgt := 976) d_W_law_925 (by decide) (fun _ => ?_) (fun z => absurd rfl z)
  exact nx _ _ _ _ _ _ _ _ _ (ci_lo hc1 hl) hm2
set_option maxHeartbeats 1000000 in
set_option maxRecDepth 20000 in
theorem lw_restore (hi : i + 6 ≤ L) (hL : L ≤ 3072) (hc : ci T np PD km TI A I J) (hm : mi T np PD km TI A I J) (nx : lwN L xs Z u i) : AW m_W_law room_1 (lwE L xs) Z (HH A I J U) 48 730 930 (lwL u i) [] := by
  refine aw_aload_n (pc := 930) d_W_law_930 rfl rfl ?_
  refine aw_aload_s (pc := 931) d_W_law_931 rfl rfl ?_
  refine aw_iload_n (pc := 932) d_W_law_932 rfl rfl ?_
  refine aw_iconst (pc := 933) (v := 1) d_W_law_933 (by decide) ?_
  refine aw_iadd (pc := 934) d_W_law_934 ?_
  refine aw_sld (pc := 935) (j := i + 1) d_W_law_935 (fun _ _ h => h) (nI_add i 1) (by omega) (by omega) ?_
  refine aw_callVq (pc := 936) (v_restore hc _) ok_V_restore d_W_law_936 lm_W_121 hg_0 rfl rfl ⟨by decide, by decide⟩ (Nat.le_of_ble_eq_true rfl) rfl rfl ⟨by decide, by decide⟩ (fun rr h2 hq => ?_)
  obtain ⟨rfl, A1, I1, J1, U1, rfl, hc1, hh⟩ := hq
  refine aw_aload_n (pc := 939) d_W_law_939 rfl rfl ?_
  refine aw_aload_s (pc := 940) d_W_law_940 rfl rfl ?_
  refine aw_iload_n (pc := 941) d_W_law_941 rfl rfl ?_
  refine aw_iconst (pc := 942) (v := 1) d_W_law_942 (by decide) ?_
  refine aw_iadd (pc := 943) d_W_law_943 ?_
  refine aw_sld (pc := 944) (j := i + 1) d_W_law_944 (fun _ _ h => h) (nI_add i 1) (by omega) (by omega) ?_
  refine aw_callVq (pc := 945) (n_restore (mi_hi hm hh) hc.2.2.2.2.2.2.2.1 hc.2.2.2.2.2.2.2.2 _) ok_M_restore d_W_law_945 lm_W_124 hg_36 rfl rfl ⟨by decide, by decide⟩ (Nat.le_of_ble_eq_true rfl) rfl rfl ⟨by decide, by decide⟩ (fun rr h2 hq => ?_)
  obtain ⟨rfl, A2, I2, J2, U2, rfl, hm2, hl⟩ := hq
  refine aw_icmp_eq (pc := 948) (tgt := 976) d_W_law_948 (by decide) (fun _ => ?_) (fun z => absurd rfl z)
  exact nx _ _ _ _ _ _ _ _ _ (ci_lo hc1 hl) hm2
set_option maxHeartbeats 1000000 in
set_option maxRecDepth 20000 in
theorem lw_told (hi : i + 6 ≤ L) (hL : L ≤ 3072) (hc : ci T np PD km TI A I J) (hm : mi T np PD km TI A I J) (nx : lwN L xs Z u i) : AW m_W_law room_1 (lwE L xs) Z (HH A I J U) 48 730 953 (lwL u i) [] := by
  refine aw_aload_n (pc := 953) d_W_law_953 rfl rfl ?_
  refine aw_aload_s (pc := 954) d_W_law_954 rfl rfl ?_
  refine aw_iload_n (pc := 955) d_W_law_955 rfl rfl ?_
  refine aw_iconst (pc := 956) (v := 1) d_W_law_956 (by decide) ?_
  refine aw_iadd (pc := 957) d_W_law_957 ?_
  refine aw_sld (pc := 958) (j := i + 1) d_W_law_958 (fun _ _ h => h) (nI_add i 1) (by omega) (by omega) ?_
  refine aw_callVq (pc := 959) (v_told hc _) ok_V_told d_W_law_959 lm_W_125 hg_0 rfl rfl ⟨by decide, by decide⟩ (Nat.le_of_ble_eq_true rfl) rfl rfl ⟨by decide, by decide⟩ (fun rr h2 hq => ?_)
  obtain ⟨rfl, A1, I1, J1, U1, rfl, hc1, hh⟩ := hq
  refine aw_aload_n (pc := 962) d_W_law_962 rfl rfl ?_
  refine aw_aload_s (pc := 963) d_W_law_963 rfl rfl ?_
  refine aw_iload_n (pc := 964) d_W_law_964 rfl rfl ?_
  refine aw_iconst (pc := 965) (v := 1) d_W_law_965 (by decide) ?_
  refine aw_iadd (pc := 966) d_W_law_966 ?_
  refine aw_sld (pc := 967) (j := i + 1) d_W_law_967 (fun _ _ h => h) (nI_add i 1) (by omega) (by omega) ?_
  refine aw_callVq (pc := 968) (n_told (mi_hi hm hh) _) ok_M_told d_W_law_968 lm_W_128 hg_36 rfl rfl ⟨by decide, by decide⟩ (Nat.le_of_ble_eq_true rfl) rfl rfl ⟨by decide, by decide⟩ (fun rr h2 hq => ?_)
  obtain ⟨rfl, A2, I2, J2, U2, rfl, hm2, hl⟩ := hq
  refine aw_icmp_eq (pc := 971) (tgt := 976) d_W_law_971 (by decide) (fun _ => ?_) (fun z => absurd rfl z)
  exact nx _ _ _ _ _ _ _ _ _ (ci_lo hc1 hl) hm2
end LAWROWS
