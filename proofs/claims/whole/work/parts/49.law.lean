/-! THE LAW: its loop -/
theorem lim_toInt {L : Nat} (hL : L ≤ 320) : (nI L - nI 5).toInt = (L : Int) - 5 := by
  rw [Int32.toInt_sub, nI_toInt (by omega), nI_toInt (by omega)]
  exact Int.bmod_eq_of_le (by omega) (by omega)
theorem lim_t {L i : Nat} (hL : L ≤ 320) (hi : i ≤ 640) (q : L < i + 5) : nI L - nI 5 < nI i := by
  rw [Int32.lt_iff_toInt_lt, lim_toInt hL, nI_toInt (by omega)]
  omega
theorem lim_f {L i : Nat} (hL : L ≤ 320) (hi : i ≤ 640) (q : i + 5 ≤ L) : ¬ nI L - nI 5 < nI i := by
  rw [Int32.lt_iff_toInt_lt, lim_toInt hL, nI_toInt (by omega)]
  omega
theorem inc5 (i : Nat) : nI i + Int32.ofInt 5 = nI (i + 5) := nI_add i 5
theorem cmp_self (z : Int64) : lg_cmp z z = 0 := by
  unfold lg_cmp
  simp
section LW
variable {G : Gm} {l : Launch} {b L i : Nat} {xs : Nat → Int32} {μ : Mem} {σ : GS}
abbrev QL : Option Value → Mem → Prop := fun r _ => r = some (.int (nI 1))
abbrev loL (G : Gm) (b i : Nat) : List (Option Value) := [some (.ref b), some (.ref (G.2.2.1 0)), some (.ref (G.2.2.1 125)), some (.int (nI i))]
abbrev VLw (G : Gm) (l : Launch) (b i pc : Nat) (μ : Mem) : Prop := V G l RL cL_law 4 10 false (some .boolean) QL pc (loL G b i) [] μ
abbrev IH (G : Gm) (l : Launch) (b i : Nat) : Prop := ∀ (μ : Mem) (σ : GS), WF σ → CI μ σ → MI μ σ → VLw G l b i 976 μ
theorem law_write (hx : (b, L, xs) ∈ G.2.2.2) (hL : L ≤ 320) (hi : i + 5 ≤ L) (w : WF σ) (h : CI μ σ) (hm : MI μ σ) (ih : IH G l b i) : VLw G l b i 156 μ := by
  show V G l RL cL_law 4 10 false _ _ _ [some (.ref _), some (.ref _), some (.ref _), some (.int (nI i))] [] _
  refine R_aload_n (n := 157) dL_law_156 rfl rfl ?_
  refine R_aload_n (n := 158) dL_law_157 rfl rfl ?_
  refine R_iload_n (n := 159) dL_law_158 rfl rfl ?_
  refine R_iconst (v := nI 1) (n := 160) dL_law_159 rfl rfl ?_
  refine R_iadd_n (n := 161) dL_law_160 rfl ?_
  refine R_rld (n := 162) hx (by omega) (rfl) (by omega) dL_law_161 rfl ?_
  refine iv_L_13 (n := 165) (ct_X7_write h (xs (i + 1))) (by decide) dL_law_162 rfl (Nat.le_of_ble_eq_true rfl) (fun r μ' hq => ?_)
  obtain ⟨rfl, h1, s1⟩ := hq
  refine R_aload_n (n := 166) dL_law_165 rfl rfl ?_
  refine R_aload_n (n := 167) dL_law_166 rfl rfl ?_
  refine R_iload_n (n := 168) dL_law_167 rfl rfl ?_
  refine R_iconst (v := nI 1) (n := 169) dL_law_168 rfl rfl ?_
  refine R_iadd_n (n := 170) dL_law_169 rfl ?_
  refine R_rld (n := 171) hx (by omega) (rfl) (by omega) dL_law_170 rfl ?_
  refine iv_L_17 (n := 174) (ct_X8_write (hm.lo w s1) w (xs (i + 1))) (by decide) dL_law_171 rfl (Nat.le_of_ble_eq_true rfl) (fun r μ'' hq => ?_)
  obtain ⟨rfl, h2, s2⟩ := hq
  refine R_icmp_eq_t (tgt := 976) dL_law_174 rfl (rfl) ?_
  exact ih _ _ (wf_write w (xs (i + 1))) (h1.up s2) h2
theorem law_wipe (hx : (b, L, xs) ∈ G.2.2.2) (hL : L ≤ 320) (hi : i + 5 ≤ L) (w : WF σ) (h : CI μ σ) (hm : MI μ σ) (ih : IH G l b i) : VLw G l b i 179 μ := by
  show V G l RL cL_law 4 10 false _ _ _ [some (.ref _), some (.ref _), some (.ref _), some (.int (nI i))] [] _
  refine R_aload_n (n := 180) dL_law_179 rfl rfl ?_
  refine iv_L_18 (n := 183) (ct_X7_wipe h) (by decide) dL_law_180 rfl (Nat.le_of_ble_eq_true rfl) (fun r μ' hq => ?_)
  obtain ⟨rfl, h1, s1⟩ := hq
  refine R_aload_n (n := 184) dL_law_183 rfl rfl ?_
  refine iv_L_22 (n := 187) (ct_X8_wipe (hm.lo w s1) w) (by decide) dL_law_184 rfl (Nat.le_of_ble_eq_true rfl) (fun r μ'' hq => ?_)
  obtain ⟨rfl, h2, s2⟩ := hq
  refine R_icmp_eq_t (tgt := 976) dL_law_187 rfl (rfl) ?_
  exact ih _ _ (wf_wipe w) (h1.up s2) h2
theorem law_fault (hx : (b, L, xs) ∈ G.2.2.2) (hL : L ≤ 320) (hi : i + 5 ≤ L) (w : WF σ) (h : CI μ σ) (hm : MI μ σ) (ih : IH G l b i) : VLw G l b i 192 μ := by
  show V G l RL cL_law 4 10 false _ _ _ [some (.ref _), some (.ref _), some (.ref _), some (.int (nI i))] [] _
  refine R_aload_n (n := 193) dL_law_192 rfl rfl ?_
  refine iv_L_23 (n := 196) (ct_X7_fault h) (by decide) dL_law_193 rfl (Nat.le_of_ble_eq_true rfl) (fun r μ' hq => ?_)
  obtain ⟨rfl, s1⟩ := hq
  refine R_aload_n (n := 197) dL_law_196 rfl rfl ?_
  refine iv_L_26 (n := 200) (ct_X8_fault (hm.lo w (qry_C s1))) (by decide) dL_law_197 rfl (Nat.le_of_ble_eq_true rfl) (fun r μ'' hq => ?_)
  obtain ⟨rfl, s2⟩ := hq
  refine R_icmp_eq_t (tgt := 976) dL_law_200 rfl (rfl) ?_
  exact ih _ _ w ((h.kept s1).up (qrm_M s2)) ((hm.lo w (qry_C s1)).kept w s2)
theorem law_canal (hx : (b, L, xs) ∈ G.2.2.2) (hL : L ≤ 320) (hi : i + 5 ≤ L) (w : WF σ) (h : CI μ σ) (hm : MI μ σ) (ih : IH G l b i) : VLw G l b i 205 μ := by
  show V G l RL cL_law 4 10 false _ _ _ [some (.ref _), some (.ref _), some (.ref _), some (.int (nI i))] [] _
  refine R_aload_n (n := 206) dL_law_205 rfl rfl ?_
  refine iv_L_27 (n := 209) (ct_X7_canal h) (by decide) dL_law_206 rfl (Nat.le_of_ble_eq_true rfl) (fun r μ' hq => ?_)
  obtain ⟨rfl, h1, s1⟩ := hq
  refine R_aload_n (n := 210) dL_law_209 rfl rfl ?_
  refine iv_L_30 (n := 213) (ct_X8_canal (hm.lo w s1) w) (by decide) dL_law_210 rfl (Nat.le_of_ble_eq_true rfl) (fun r μ'' hq => ?_)
  obtain ⟨rfl, h2, s2⟩ := hq
  refine R_icmp_eq_t (tgt := 976) dL_law_213 rfl (rfl) ?_
  exact ih _ _ (wf_canal w ) (h1.up s2) h2
theorem law_barge (hx : (b, L, xs) ∈ G.2.2.2) (hL : L ≤ 320) (hi : i + 5 ≤ L) (w : WF σ) (h : CI μ σ) (hm : MI μ σ) (ih : IH G l b i) : VLw G l b i 218 μ := by
  show V G l RL cL_law 4 10 false _ _ _ [some (.ref _), some (.ref _), some (.ref _), some (.int (nI i))] [] _
  refine R_aload_n (n := 219) dL_law_218 rfl rfl ?_
  refine R_aload_n (n := 220) dL_law_219 rfl rfl ?_
  refine R_iload_n (n := 221) dL_law_220 rfl rfl ?_
  refine R_iconst (v := nI 1) (n := 222) dL_law_221 rfl rfl ?_
  refine R_iadd_n (n := 223) dL_law_222 rfl ?_
  refine R_rld (n := 224) hx (by omega) (rfl) (by omega) dL_law_223 rfl ?_
  refine R_aload_n (n := 225) dL_law_224 rfl rfl ?_
  refine R_iload_n (n := 226) dL_law_225 rfl rfl ?_
  refine R_iconst (v := nI 2) (n := 227) dL_law_226 rfl rfl ?_
  refine R_iadd_n (n := 228) dL_law_227 rfl ?_
  refine R_rld (n := 229) hx (by omega) (rfl) (by omega) dL_law_228 rfl ?_
  refine iv_L_31 (n := 232) (ct_X7_barge h w (xs (i + 1)) (xs (i + 2))) (by decide) dL_law_229 rfl (Nat.le_of_ble_eq_true rfl) (fun r μ' hq => ?_)
  obtain ⟨rfl, s1⟩ := hq
  refine R_aload_n (n := 233) dL_law_232 rfl rfl ?_
  refine R_aload_n (n := 234) dL_law_233 rfl rfl ?_
  refine R_iload_n (n := 235) dL_law_234 rfl rfl ?_
  refine R_iconst (v := nI 1) (n := 236) dL_law_235 rfl rfl ?_
  refine R_iadd_n (n := 237) dL_law_236 rfl ?_
  refine R_rld (n := 238) hx (by omega) (rfl) (by omega) dL_law_237 rfl ?_
  refine R_aload_n (n := 239) dL_law_238 rfl rfl ?_
  refine R_iload_n (n := 240) dL_law_239 rfl rfl ?_
  refine R_iconst (v := nI 2) (n := 241) dL_law_240 rfl rfl ?_
  refine R_iadd_n (n := 242) dL_law_241 rfl ?_
  refine R_rld (n := 243) hx (by omega) (rfl) (by omega) dL_law_242 rfl ?_
  refine iv_L_35 (n := 246) (ct_X8_barge (hm.lo w (qry_C s1)) w (xs (i + 1)) (xs (i + 2))) (by decide) dL_law_243 rfl (Nat.le_of_ble_eq_true rfl) (fun r μ'' hq => ?_)
  obtain ⟨rfl, s2⟩ := hq
  refine R_icmp_eq_t (tgt := 976) dL_law_246 rfl (rfl) ?_
  exact ih _ _ w ((h.kept s1).up (qrm_M s2)) ((hm.lo w (qry_C s1)).kept w s2)
theorem law_lock (hx : (b, L, xs) ∈ G.2.2.2) (hL : L ≤ 320) (hi : i + 5 ≤ L) (w : WF σ) (h : CI μ σ) (hm : MI μ σ) (ih : IH G l b i) : VLw G l b i 251 μ := by
  show V G l RL cL_law 4 10 false _ _ _ [some (.ref _), some (.ref _), some (.ref _), some (.int (nI i))] [] _
  refine R_aload_n (n := 252) dL_law_251 rfl rfl ?_
  refine R_aload_n (n := 253) dL_law_252 rfl rfl ?_
  refine R_iload_n (n := 254) dL_law_253 rfl rfl ?_
  refine R_iconst (v := nI 1) (n := 255) dL_law_254 rfl rfl ?_
  refine R_iadd_n (n := 256) dL_law_255 rfl ?_
  refine R_rld (n := 257) hx (by omega) (rfl) (by omega) dL_law_256 rfl ?_
  refine R_aload_n (n := 258) dL_law_257 rfl rfl ?_
  refine R_iload_n (n := 259) dL_law_258 rfl rfl ?_
  refine R_iconst (v := nI 2) (n := 260) dL_law_259 rfl rfl ?_
  refine R_iadd_n (n := 261) dL_law_260 rfl ?_
  refine R_rld (n := 262) hx (by omega) (rfl) (by omega) dL_law_261 rfl ?_
  refine iv_L_36 (n := 265) (ct_X7_lock h w (xs (i + 1)) (xs (i + 2))) (by decide) dL_law_262 rfl (Nat.le_of_ble_eq_true rfl) (fun r μ' hq => ?_)
  obtain ⟨rfl, s1⟩ := hq
  refine R_aload_n (n := 266) dL_law_265 rfl rfl ?_
  refine R_aload_n (n := 267) dL_law_266 rfl rfl ?_
  refine R_iload_n (n := 268) dL_law_267 rfl rfl ?_
  refine R_iconst (v := nI 1) (n := 269) dL_law_268 rfl rfl ?_
  refine R_iadd_n (n := 270) dL_law_269 rfl ?_
  refine R_rld (n := 271) hx (by omega) (rfl) (by omega) dL_law_270 rfl ?_
  refine R_aload_n (n := 272) dL_law_271 rfl rfl ?_
  refine R_iload_n (n := 273) dL_law_272 rfl rfl ?_
  refine R_iconst (v := nI 2) (n := 274) dL_law_273 rfl rfl ?_
  refine R_iadd_n (n := 275) dL_law_274 rfl ?_
  refine R_rld (n := 276) hx (by omega) (rfl) (by omega) dL_law_275 rfl ?_
  refine iv_L_39 (n := 279) (ct_X8_lock (hm.lo w (qry_C s1)) w (xs (i + 1)) (xs (i + 2))) (by decide) dL_law_276 rfl (Nat.le_of_ble_eq_true rfl) (fun r μ'' hq => ?_)
  obtain ⟨rfl, s2⟩ := hq
  refine R_icmp_eq_t (tgt := 976) dL_law_279 rfl (rfl) ?_
  exact ih _ _ w ((h.kept s1).up (qrm_M s2)) ((hm.lo w (qry_C s1)).kept w s2)
theorem law_pass (hx : (b, L, xs) ∈ G.2.2.2) (hL : L ≤ 320) (hi : i + 5 ≤ L) (w : WF σ) (h : CI μ σ) (hm : MI μ σ) (ih : IH G l b i) : VLw G l b i 284 μ := by
  show V G l RL cL_law 4 10 false _ _ _ [some (.ref _), some (.ref _), some (.ref _), some (.int (nI i))] [] _
  refine R_aload_n (n := 285) dL_law_284 rfl rfl ?_
  refine iv_L_40 (n := 288) (ct_X7_pass h w) (by decide) dL_law_285 rfl (Nat.le_of_ble_eq_true rfl) (fun r μ' hq => ?_)
  obtain ⟨rfl, h1, s1⟩ := hq
  refine R_aload_n (n := 289) dL_law_288 rfl rfl ?_
  refine iv_L_43 (n := 292) (ct_X8_pass (hm.lo w s1) w) (by decide) dL_law_289 rfl (Nat.le_of_ble_eq_true rfl) (fun r μ'' hq => ?_)
  obtain ⟨rfl, h2, s2⟩ := hq
  refine R_icmp_eq_t (tgt := 976) dL_law_292 rfl (rfl) ?_
  exact ih _ _ (wf_pass w ) (h1.up s2) h2
theorem law_give (hx : (b, L, xs) ∈ G.2.2.2) (hL : L ≤ 320) (hi : i + 5 ≤ L) (w : WF σ) (h : CI μ σ) (hm : MI μ σ) (ih : IH G l b i) : VLw G l b i 297 μ := by
  show V G l RL cL_law 4 10 false _ _ _ [some (.ref _), some (.ref _), some (.ref _), some (.int (nI i))] [] _
  refine R_aload_n (n := 298) dL_law_297 rfl rfl ?_
  refine R_aload_n (n := 299) dL_law_298 rfl rfl ?_
  refine R_iload_n (n := 300) dL_law_299 rfl rfl ?_
  refine R_iconst (v := nI 1) (n := 301) dL_law_300 rfl rfl ?_
  refine R_iadd_n (n := 302) dL_law_301 rfl ?_
  refine R_rld (n := 303) hx (by omega) (rfl) (by omega) dL_law_302 rfl ?_
  refine R_aload_n (n := 304) dL_law_303 rfl rfl ?_
  refine R_iload_n (n := 305) dL_law_304 rfl rfl ?_
  refine R_iconst (v := nI 2) (n := 306) dL_law_305 rfl rfl ?_
  refine R_iadd_n (n := 307) dL_law_306 rfl ?_
  refine R_rld (n := 308) hx (by omega) (rfl) (by omega) dL_law_307 rfl ?_
  refine iv_L_44 (n := 311) (ct_X7_give h w (xs (i + 1)) (xs (i + 2))) (by decide) dL_law_308 rfl (Nat.le_of_ble_eq_true rfl) (fun r μ' hq => ?_)
  obtain ⟨rfl, h1, s1⟩ := hq
  refine R_aload_n (n := 312) dL_law_311 rfl rfl ?_
  refine R_aload_n (n := 313) dL_law_312 rfl rfl ?_
  refine R_iload_n (n := 314) dL_law_313 rfl rfl ?_
  refine R_iconst (v := nI 1) (n := 315) dL_law_314 rfl rfl ?_
  refine R_iadd_n (n := 316) dL_law_315 rfl ?_
  refine R_rld (n := 317) hx (by omega) (rfl) (by omega) dL_law_316 rfl ?_
  refine R_aload_n (n := 318) dL_law_317 rfl rfl ?_
  refine R_iload_n (n := 319) dL_law_318 rfl rfl ?_
  refine R_iconst (v := nI 2) (n := 320) dL_law_319 rfl rfl ?_
  refine R_iadd_n (n := 321) dL_law_320 rfl ?_
  refine R_rld (n := 322) hx (by omega) (rfl) (by omega) dL_law_321 rfl ?_
  refine iv_L_47 (n := 325) (ct_X8_give (hm.lo w s1) w (xs (i + 1)) (xs (i + 2))) (by decide) dL_law_322 rfl (Nat.le_of_ble_eq_true rfl) (fun r μ'' hq => ?_)
  obtain ⟨rfl, h2, s2⟩ := hq
  refine R_icmp_eq_t (tgt := 976) dL_law_325 rfl (rfl) ?_
  exact ih _ _ (wf_give w (xs (i + 1)) (xs (i + 2))) (h1.up s2) h2
theorem law_letBy (hx : (b, L, xs) ∈ G.2.2.2) (hL : L ≤ 320) (hi : i + 5 ≤ L) (w : WF σ) (h : CI μ σ) (hm : MI μ σ) (ih : IH G l b i) : VLw G l b i 330 μ := by
  show V G l RL cL_law 4 10 false _ _ _ [some (.ref _), some (.ref _), some (.ref _), some (.int (nI i))] [] _
  refine R_aload_n (n := 331) dL_law_330 rfl rfl ?_
  refine R_aload_n (n := 332) dL_law_331 rfl rfl ?_
  refine R_iload_n (n := 333) dL_law_332 rfl rfl ?_
  refine R_iconst (v := nI 1) (n := 334) dL_law_333 rfl rfl ?_
  refine R_iadd_n (n := 335) dL_law_334 rfl ?_
  refine R_rld (n := 336) hx (by omega) (rfl) (by omega) dL_law_335 rfl ?_
  refine iv_L_48 (n := 339) (ct_X7_letBy h w (xs (i + 1))) (by decide) dL_law_336 rfl (Nat.le_of_ble_eq_true rfl) (fun r μ' hq => ?_)
  obtain ⟨rfl, h1, s1⟩ := hq
  refine R_aload_n (n := 340) dL_law_339 rfl rfl ?_
  refine R_aload_n (n := 341) dL_law_340 rfl rfl ?_
  refine R_iload_n (n := 342) dL_law_341 rfl rfl ?_
  refine R_iconst (v := nI 1) (n := 343) dL_law_342 rfl rfl ?_
  refine R_iadd_n (n := 344) dL_law_343 rfl ?_
  refine R_rld (n := 345) hx (by omega) (rfl) (by omega) dL_law_344 rfl ?_
  refine iv_L_51 (n := 348) (ct_X8_letBy (hm.lo w s1) w (xs (i + 1))) (by decide) dL_law_345 rfl (Nat.le_of_ble_eq_true rfl) (fun r μ'' hq => ?_)
  obtain ⟨rfl, h2, s2⟩ := hq
  refine R_icmp_eq_t (tgt := 976) dL_law_348 rfl (rfl) ?_
  exact ih _ _ (wf_letBy w (xs (i + 1))) (h1.up s2) h2
theorem law_learn (hx : (b, L, xs) ∈ G.2.2.2) (hL : L ≤ 320) (hi : i + 5 ≤ L) (w : WF σ) (h : CI μ σ) (hm : MI μ σ) (ih : IH G l b i) : VLw G l b i 353 μ := by
  show V G l RL cL_law 4 10 false _ _ _ [some (.ref _), some (.ref _), some (.ref _), some (.int (nI i))] [] _
  refine R_aload_n (n := 354) dL_law_353 rfl rfl ?_
  refine R_aload_n (n := 355) dL_law_354 rfl rfl ?_
  refine R_iload_n (n := 356) dL_law_355 rfl rfl ?_
  refine R_iconst (v := nI 1) (n := 357) dL_law_356 rfl rfl ?_
  refine R_iadd_n (n := 358) dL_law_357 rfl ?_
  refine R_rld (n := 359) hx (by omega) (rfl) (by omega) dL_law_358 rfl ?_
  refine R_aload_n (n := 360) dL_law_359 rfl rfl ?_
  refine R_iload_n (n := 361) dL_law_360 rfl rfl ?_
  refine R_iconst (v := nI 2) (n := 362) dL_law_361 rfl rfl ?_
  refine R_iadd_n (n := 363) dL_law_362 rfl ?_
  refine R_rld (n := 364) hx (by omega) (rfl) (by omega) dL_law_363 rfl ?_
  refine iv_L_52 (n := 367) (ct_X7_learn h w (xs (i + 1)) (xs (i + 2))) (by decide) dL_law_364 rfl (Nat.le_of_ble_eq_true rfl) (fun r μ' hq => ?_)
  obtain ⟨rfl, h1, s1⟩ := hq
  refine R_aload_n (n := 368) dL_law_367 rfl rfl ?_
  refine R_aload_n (n := 369) dL_law_368 rfl rfl ?_
  refine R_iload_n (n := 370) dL_law_369 rfl rfl ?_
  refine R_iconst (v := nI 1) (n := 371) dL_law_370 rfl rfl ?_
  refine R_iadd_n (n := 372) dL_law_371 rfl ?_
  refine R_rld (n := 373) hx (by omega) (rfl) (by omega) dL_law_372 rfl ?_
  refine R_aload_n (n := 374) dL_law_373 rfl rfl ?_
  refine R_iload_n (n := 375) dL_law_374 rfl rfl ?_
  refine R_iconst (v := nI 2) (n := 376) dL_law_375 rfl rfl ?_
  refine R_iadd_n (n := 377) dL_law_376 rfl ?_
  refine R_rld (n := 378) hx (by omega) (rfl) (by omega) dL_law_377 rfl ?_
  refine iv_L_55 (n := 381) (ct_X8_learn (hm.lo w s1) w (xs (i + 1)) (xs (i + 2))) (by decide) dL_law_378 rfl (Nat.le_of_ble_eq_true rfl) (fun r μ'' hq => ?_)
  obtain ⟨rfl, h2, s2⟩ := hq
  refine R_icmp_eq_t (tgt := 976) dL_law_381 rfl (rfl) ?_
  exact ih _ _ (wf_learn w (xs (i + 1)) (xs (i + 2))) (h1.up s2) h2
theorem law_undo (hx : (b, L, xs) ∈ G.2.2.2) (hL : L ≤ 320) (hi : i + 5 ≤ L) (w : WF σ) (h : CI μ σ) (hm : MI μ σ) (ih : IH G l b i) : VLw G l b i 386 μ := by
  show V G l RL cL_law 4 10 false _ _ _ [some (.ref _), some (.ref _), some (.ref _), some (.int (nI i))] [] _
  refine R_aload_n (n := 387) dL_law_386 rfl rfl ?_
  refine iv_L_56 (n := 390) (ct_X7_undo h w) (by decide) dL_law_387 rfl (Nat.le_of_ble_eq_true rfl) (fun r μ' hq => ?_)
  obtain ⟨rfl, h1, s1⟩ := hq
  refine R_aload_n (n := 391) dL_law_390 rfl rfl ?_
  refine iv_L_59 (n := 394) (ct_X8_undo (hm.lo w s1) w) (by decide) dL_law_391 rfl (Nat.le_of_ble_eq_true rfl) (fun r μ'' hq => ?_)
  obtain ⟨rfl, h2, s2⟩ := hq
  refine R_icmp_eq_t (tgt := 976) dL_law_394 rfl (rfl) ?_
  exact ih _ _ (wf_undo w ) (h1.up s2) h2
theorem law_basin (hx : (b, L, xs) ∈ G.2.2.2) (hL : L ≤ 320) (hi : i + 5 ≤ L) (w : WF σ) (h : CI μ σ) (hm : MI μ σ) (ih : IH G l b i) : VLw G l b i 399 μ := by
  show V G l RL cL_law 4 10 false _ _ _ [some (.ref _), some (.ref _), some (.ref _), some (.int (nI i))] [] _
  refine R_aload_n (n := 400) dL_law_399 rfl rfl ?_
  refine iv_L_60 (n := 403) (ct_X7_basin h w) (by decide) dL_law_400 rfl (Nat.le_of_ble_eq_true rfl) (fun r μ' hq => ?_)
  obtain ⟨rfl, s1⟩ := hq
  refine R_aload_n (n := 404) dL_law_403 rfl rfl ?_
  refine iv_L_63 (n := 407) (ct_X8_basin (hm.lo w (qry_C s1)) w) (by decide) dL_law_404 rfl (Nat.le_of_ble_eq_true rfl) (fun r μ'' hq => ?_)
  obtain ⟨rfl, s2⟩ := hq
  refine R_icmp_eq_t (tgt := 976) dL_law_407 rfl (rfl) ?_
  exact ih _ _ w ((h.kept s1).up (qrm_M s2)) ((hm.lo w (qry_C s1)).kept w s2)
theorem law_hour (hx : (b, L, xs) ∈ G.2.2.2) (hL : L ≤ 320) (hi : i + 5 ≤ L) (w : WF σ) (h : CI μ σ) (hm : MI μ σ) (ih : IH G l b i) : VLw G l b i 412 μ := by
  show V G l RL cL_law 4 10 false _ _ _ [some (.ref _), some (.ref _), some (.ref _), some (.int (nI i))] [] _
  refine R_aload_n (n := 413) dL_law_412 rfl rfl ?_
  refine R_aload_n (n := 414) dL_law_413 rfl rfl ?_
  refine R_iload_n (n := 415) dL_law_414 rfl rfl ?_
  refine R_iconst (v := nI 1) (n := 416) dL_law_415 rfl rfl ?_
  refine R_iadd_n (n := 417) dL_law_416 rfl ?_
  refine R_rld (n := 418) hx (by omega) (rfl) (by omega) dL_law_417 rfl ?_
  refine iv_L_64 (n := 421) (ct_X7_hour h w (xs (i + 1))) (by decide) dL_law_418 rfl (Nat.le_of_ble_eq_true rfl) (fun r μ' hq => ?_)
  obtain ⟨rfl, s1⟩ := hq
  refine R_aload_n (n := 422) dL_law_421 rfl rfl ?_
  refine R_aload_n (n := 423) dL_law_422 rfl rfl ?_
  refine R_iload_n (n := 424) dL_law_423 rfl rfl ?_
  refine R_iconst (v := nI 1) (n := 425) dL_law_424 rfl rfl ?_
  refine R_iadd_n (n := 426) dL_law_425 rfl ?_
  refine R_rld (n := 427) hx (by omega) (rfl) (by omega) dL_law_426 rfl ?_
  refine iv_L_67 (n := 430) (ct_X8_hour (hm.lo w (qry_C s1)) w (xs (i + 1))) (by decide) dL_law_427 rfl (Nat.le_of_ble_eq_true rfl) (fun r μ'' hq => ?_)
  obtain ⟨rfl, s2⟩ := hq
  refine R_icmp_eq_t (tgt := 976) dL_law_430 rfl (rfl) ?_
  exact ih _ _ w ((h.kept s1).up (qrm_M s2)) ((hm.lo w (qry_C s1)).kept w s2)
theorem law_gains (hx : (b, L, xs) ∈ G.2.2.2) (hL : L ≤ 320) (hi : i + 5 ≤ L) (w : WF σ) (h : CI μ σ) (hm : MI μ σ) (ih : IH G l b i) : VLw G l b i 435 μ := by
  show V G l RL cL_law 4 10 false _ _ _ [some (.ref _), some (.ref _), some (.ref _), some (.int (nI i))] [] _
  refine R_aload_n (n := 436) dL_law_435 rfl rfl ?_
  refine R_aload_n (n := 437) dL_law_436 rfl rfl ?_
  refine R_iload_n (n := 438) dL_law_437 rfl rfl ?_
  refine R_iconst (v := nI 1) (n := 439) dL_law_438 rfl rfl ?_
  refine R_iadd_n (n := 440) dL_law_439 rfl ?_
  refine R_rld (n := 441) hx (by omega) (rfl) (by omega) dL_law_440 rfl ?_
  refine iv_L_68 (n := 444) (ct_X7_gains h w (xs (i + 1))) (by decide) dL_law_441 rfl (Nat.le_of_ble_eq_true rfl) (fun r μ' hq => ?_)
  obtain ⟨rfl, s1⟩ := hq
  refine R_aload_n (n := 445) dL_law_444 rfl rfl ?_
  refine R_aload_n (n := 446) dL_law_445 rfl rfl ?_
  refine R_iload_n (n := 447) dL_law_446 rfl rfl ?_
  refine R_iconst (v := nI 1) (n := 448) dL_law_447 rfl rfl ?_
  refine R_iadd_n (n := 449) dL_law_448 rfl ?_
  refine R_rld (n := 450) hx (by omega) (rfl) (by omega) dL_law_449 rfl ?_
  refine iv_L_71 (n := 453) (ct_X8_gains (hm.lo w (qry_C s1)) w (xs (i + 1))) (by decide) dL_law_450 rfl (Nat.le_of_ble_eq_true rfl) (fun r μ'' hq => ?_)
  obtain ⟨rfl, s2⟩ := hq
  refine R_icmp_eq_t (tgt := 976) dL_law_453 rfl (rfl) ?_
  exact ih _ _ w ((h.kept s1).up (qrm_M s2)) ((hm.lo w (qry_C s1)).kept w s2)
theorem law_mates (hx : (b, L, xs) ∈ G.2.2.2) (hL : L ≤ 320) (hi : i + 5 ≤ L) (w : WF σ) (h : CI μ σ) (hm : MI μ σ) (ih : IH G l b i) : VLw G l b i 458 μ := by
  show V G l RL cL_law 4 10 false _ _ _ [some (.ref _), some (.ref _), some (.ref _), some (.int (nI i))] [] _
  refine R_aload_n (n := 459) dL_law_458 rfl rfl ?_
  refine R_aload_n (n := 460) dL_law_459 rfl rfl ?_
  refine R_iload_n (n := 461) dL_law_460 rfl rfl ?_
  refine R_iconst (v := nI 1) (n := 462) dL_law_461 rfl rfl ?_
  refine R_iadd_n (n := 463) dL_law_462 rfl ?_
  refine R_rld (n := 464) hx (by omega) (rfl) (by omega) dL_law_463 rfl ?_
  refine iv_L_72 (n := 467) (ct_X7_mates h w (xs (i + 1))) (by decide) dL_law_464 rfl (Nat.le_of_ble_eq_true rfl) (fun r μ' hq => ?_)
  obtain ⟨rfl, s1⟩ := hq
  refine R_aload_n (n := 468) dL_law_467 rfl rfl ?_
  refine R_aload_n (n := 469) dL_law_468 rfl rfl ?_
  refine R_iload_n (n := 470) dL_law_469 rfl rfl ?_
  refine R_iconst (v := nI 1) (n := 471) dL_law_470 rfl rfl ?_
  refine R_iadd_n (n := 472) dL_law_471 rfl ?_
  refine R_rld (n := 473) hx (by omega) (rfl) (by omega) dL_law_472 rfl ?_
  refine iv_L_75 (n := 476) (ct_X8_mates (hm.lo w (qry_C s1)) w (xs (i + 1))) (by decide) dL_law_473 rfl (Nat.le_of_ble_eq_true rfl) (fun r μ'' hq => ?_)
  obtain ⟨rfl, s2⟩ := hq
  refine R_icmp_eq_t (tgt := 976) dL_law_476 rfl (rfl) ?_
  exact ih _ _ w ((h.kept s1).up (qrm_M s2)) ((hm.lo w (qry_C s1)).kept w s2)
theorem law_first (hx : (b, L, xs) ∈ G.2.2.2) (hL : L ≤ 320) (hi : i + 5 ≤ L) (w : WF σ) (h : CI μ σ) (hm : MI μ σ) (ih : IH G l b i) : VLw G l b i 481 μ := by
  show V G l RL cL_law 4 10 false _ _ _ [some (.ref _), some (.ref _), some (.ref _), some (.int (nI i))] [] _
  refine R_aload_n (n := 482) dL_law_481 rfl rfl ?_
  refine R_aload_n (n := 483) dL_law_482 rfl rfl ?_
  refine R_iload_n (n := 484) dL_law_483 rfl rfl ?_
  refine R_iconst (v := nI 1) (n := 485) dL_law_484 rfl rfl ?_
  refine R_iadd_n (n := 486) dL_law_485 rfl ?_
  refine R_rld (n := 487) hx (by omega) (rfl) (by omega) dL_law_486 rfl ?_
  refine R_aload_n (n := 488) dL_law_487 rfl rfl ?_
  refine R_iload_n (n := 489) dL_law_488 rfl rfl ?_
  refine R_iconst (v := nI 2) (n := 490) dL_law_489 rfl rfl ?_
  refine R_iadd_n (n := 491) dL_law_490 rfl ?_
  refine R_rld (n := 492) hx (by omega) (rfl) (by omega) dL_law_491 rfl ?_
  refine iv_L_76 (n := 495) (ct_X7_first h w (xs (i + 1)) (xs (i + 2))) (by decide) dL_law_492 rfl (Nat.le_of_ble_eq_true rfl) (fun r μ' hq => ?_)
  obtain ⟨rfl, s1⟩ := hq
  refine R_aload_n (n := 496) dL_law_495 rfl rfl ?_
  refine R_aload_n (n := 497) dL_law_496 rfl rfl ?_
  refine R_iload_n (n := 498) dL_law_497 rfl rfl ?_
  refine R_iconst (v := nI 1) (n := 499) dL_law_498 rfl rfl ?_
  refine R_iadd_n (n := 500) dL_law_499 rfl ?_
  refine R_rld (n := 501) hx (by omega) (rfl) (by omega) dL_law_500 rfl ?_
  refine R_aload_n (n := 502) dL_law_501 rfl rfl ?_
  refine R_iload_n (n := 503) dL_law_502 rfl rfl ?_
  refine R_iconst (v := nI 2) (n := 504) dL_law_503 rfl rfl ?_
  refine R_iadd_n (n := 505) dL_law_504 rfl ?_
  refine R_rld (n := 506) hx (by omega) (rfl) (by omega) dL_law_505 rfl ?_
  refine iv_L_79 (n := 509) (ct_X8_first (hm.lo w (qry_C s1)) w (xs (i + 1)) (xs (i + 2))) (by decide) dL_law_506 rfl (Nat.le_of_ble_eq_true rfl) (fun r μ'' hq => ?_)
  obtain ⟨rfl, s2⟩ := hq
  refine R_icmp_eq_t (tgt := 976) dL_law_509 rfl (rfl) ?_
  exact ih _ _ w ((h.kept s1).up (qrm_M s2)) ((hm.lo w (qry_C s1)).kept w s2)
theorem law_tea (hx : (b, L, xs) ∈ G.2.2.2) (hL : L ≤ 320) (hi : i + 5 ≤ L) (w : WF σ) (h : CI μ σ) (hm : MI μ σ) (ih : IH G l b i) : VLw G l b i 514 μ := by
  show V G l RL cL_law 4 10 false _ _ _ [some (.ref _), some (.ref _), some (.ref _), some (.int (nI i))] [] _
  cases hz : decide (xs (i + 3) = 0) with
  | true =>
    have hz := of_decide_eq_true hz
    refine R_aload_n (n := 515) dL_law_514 rfl rfl ?_
    refine R_aload_n (n := 516) dL_law_515 rfl rfl ?_
    refine R_iload_n (n := 517) dL_law_516 rfl rfl ?_
    refine R_iconst (v := nI 1) (n := 518) dL_law_517 rfl rfl ?_
    refine R_iadd_n (n := 519) dL_law_518 rfl ?_
    refine R_rld (n := 520) hx (by omega) (rfl) (by omega) dL_law_519 rfl ?_
    refine R_aload_n (n := 521) dL_law_520 rfl rfl ?_
    refine R_iload_n (n := 522) dL_law_521 rfl rfl ?_
    refine R_iconst (v := nI 2) (n := 523) dL_law_522 rfl rfl ?_
    refine R_iadd_n (n := 524) dL_law_523 rfl ?_
    refine R_rld (n := 525) hx (by omega) (rfl) (by omega) dL_law_524 rfl ?_
    refine R_aload_n (n := 526) dL_law_525 rfl rfl ?_
    refine R_iload_n (n := 527) dL_law_526 rfl rfl ?_
    refine R_iconst (v := nI 3) (n := 528) dL_law_527 rfl rfl ?_
    refine R_iadd_n (n := 529) dL_law_528 rfl ?_
    refine R_rld (n := 530) hx (by omega) (rfl) (by omega) dL_law_529 rfl ?_
    refine R_if_eq_t (tgt := 537) dL_law_530 rfl (hz) ?_
    refine R_iconst (v := nI 0) (n := 538) dL_law_537 rfl rfl ?_
    refine iv_L_80 (n := 541) ((ct_X7_tea h w (xs (i + 1)) (xs (i + 2)) false)) (by decide) dL_law_538 rfl (Nat.le_of_ble_eq_true rfl) (fun r μ7 hq => ?_)
    obtain ⟨rfl, s7⟩ := hq
    refine R_aload_n (n := 542) dL_law_541 rfl rfl ?_
    refine R_aload_n (n := 543) dL_law_542 rfl rfl ?_
    refine R_iload_n (n := 544) dL_law_543 rfl rfl ?_
    refine R_iconst (v := nI 1) (n := 545) dL_law_544 rfl rfl ?_
    refine R_iadd_n (n := 546) dL_law_545 rfl ?_
    refine R_rld (n := 547) hx (by omega) (rfl) (by omega) dL_law_546 rfl ?_
    refine R_aload_n (n := 548) dL_law_547 rfl rfl ?_
    refine R_iload_n (n := 549) dL_law_548 rfl rfl ?_
    refine R_iconst (v := nI 2) (n := 550) dL_law_549 rfl rfl ?_
    refine R_iadd_n (n := 551) dL_law_550 rfl ?_
    refine R_rld (n := 552) hx (by omega) (rfl) (by omega) dL_law_551 rfl ?_
    refine R_aload_n (n := 553) dL_law_552 rfl rfl ?_
    refine R_iload_n (n := 554) dL_law_553 rfl rfl ?_
    refine R_iconst (v := nI 3) (n := 555) dL_law_554 rfl rfl ?_
    refine R_iadd_n (n := 556) dL_law_555 rfl ?_
    refine R_rld (n := 557) hx (by omega) (rfl) (by omega) dL_law_556 rfl ?_
    refine R_if_eq_t (tgt := 564) dL_law_557 rfl (hz) ?_
    refine R_iconst (v := nI 0) (n := 565) dL_law_564 rfl rfl ?_
    refine iv_L_84 (n := 568) ((ct_X8_tea (hm.lo w (qry_C s7)) w (xs (i + 1)) (xs (i + 2)) false)) (by decide) dL_law_565 rfl (Nat.le_of_ble_eq_true rfl) (fun r μ8 hq => ?_)
    obtain ⟨rfl, s8⟩ := hq
    refine R_icmp_eq_t (tgt := 976) dL_law_568 rfl (rfl) ?_
    exact ih _ _ w ((h.kept s7).up (qrm_M s8)) ((hm.lo w (qry_C s7)).kept w s8)
  | false =>
    have hz := of_decide_eq_false hz
    refine R_aload_n (n := 515) dL_law_514 rfl rfl ?_
    refine R_aload_n (n := 516) dL_law_515 rfl rfl ?_
    refine R_iload_n (n := 517) dL_law_516 rfl rfl ?_
    refine R_iconst (v := nI 1) (n := 518) dL_law_517 rfl rfl ?_
    refine R_iadd_n (n := 519) dL_law_518 rfl ?_
    refine R_rld (n := 520) hx (by omega) (rfl) (by omega) dL_law_519 rfl ?_
    refine R_aload_n (n := 521) dL_law_520 rfl rfl ?_
    refine R_iload_n (n := 522) dL_law_521 rfl rfl ?_
    refine R_iconst (v := nI 2) (n := 523) dL_law_522 rfl rfl ?_
    refine R_iadd_n (n := 524) dL_law_523 rfl ?_
    refine R_rld (n := 525) hx (by omega) (rfl) (by omega) dL_law_524 rfl ?_
    refine R_aload_n (n := 526) dL_law_525 rfl rfl ?_
    refine R_iload_n (n := 527) dL_law_526 rfl rfl ?_
    refine R_iconst (v := nI 3) (n := 528) dL_law_527 rfl rfl ?_
    refine R_iadd_n (n := 529) dL_law_528 rfl ?_
    refine R_rld (n := 530) hx (by omega) (rfl) (by omega) dL_law_529 rfl ?_
    refine R_if_eq_f (n := 533) dL_law_530 rfl rfl (hz) ?_
    refine R_iconst (v := nI 1) (n := 534) dL_law_533 rfl rfl ?_
    refine R_goto (tgt := 538) dL_law_534 rfl ?_
    refine iv_L_80 (n := 541) ((ct_X7_tea h w (xs (i + 1)) (xs (i + 2)) true)) (by decide) dL_law_538 rfl (Nat.le_of_ble_eq_true rfl) (fun r μ7 hq => ?_)
    obtain ⟨rfl, s7⟩ := hq
    refine R_aload_n (n := 542) dL_law_541 rfl rfl ?_
    refine R_aload_n (n := 543) dL_law_542 rfl rfl ?_
    refine R_iload_n (n := 544) dL_law_543 rfl rfl ?_
    refine R_iconst (v := nI 1) (n := 545) dL_law_544 rfl rfl ?_
    refine R_iadd_n (n := 546) dL_law_545 rfl ?_
    refine R_rld (n := 547) hx (by omega) (rfl) (by omega) dL_law_546 rfl ?_
    refine R_aload_n (n := 548) dL_law_547 rfl rfl ?_
    refine R_iload_n (n := 549) dL_law_548 rfl rfl ?_
    refine R_iconst (v := nI 2) (n := 550) dL_law_549 rfl rfl ?_
    refine R_iadd_n (n := 551) dL_law_550 rfl ?_
    refine R_rld (n := 552) hx (by omega) (rfl) (by omega) dL_law_551 rfl ?_
    refine R_aload_n (n := 553) dL_law_552 rfl rfl ?_
    refine R_iload_n (n := 554) dL_law_553 rfl rfl ?_
    refine R_iconst (v := nI 3) (n := 555) dL_law_554 rfl rfl ?_
    refine R_iadd_n (n := 556) dL_law_555 rfl ?_
    refine R_rld (n := 557) hx (by omega) (rfl) (by omega) dL_law_556 rfl ?_
    refine R_if_eq_f (n := 560) dL_law_557 rfl rfl (hz) ?_
    refine R_iconst (v := nI 1) (n := 561) dL_law_560 rfl rfl ?_
    refine R_goto (tgt := 565) dL_law_561 rfl ?_
    refine iv_L_84 (n := 568) ((ct_X8_tea (hm.lo w (qry_C s7)) w (xs (i + 1)) (xs (i + 2)) true)) (by decide) dL_law_565 rfl (Nat.le_of_ble_eq_true rfl) (fun r μ8 hq => ?_)
    obtain ⟨rfl, s8⟩ := hq
    refine R_icmp_eq_t (tgt := 976) dL_law_568 rfl (rfl) ?_
    exact ih _ _ w ((h.kept s7).up (qrm_M s8)) ((hm.lo w (qry_C s7)).kept w s8)
theorem law_judge (hx : (b, L, xs) ∈ G.2.2.2) (hL : L ≤ 320) (hi : i + 5 ≤ L) (w : WF σ) (h : CI μ σ) (hm : MI μ σ) (ih : IH G l b i) : VLw G l b i 573 μ := by
  show V G l RL cL_law 4 10 false _ _ _ [some (.ref _), some (.ref _), some (.ref _), some (.int (nI i))] [] _
  refine R_aload_n (n := 574) dL_law_573 rfl rfl ?_
  refine R_aload_n (n := 575) dL_law_574 rfl rfl ?_
  refine R_iload_n (n := 576) dL_law_575 rfl rfl ?_
  refine R_iconst (v := nI 1) (n := 577) dL_law_576 rfl rfl ?_
  refine R_iadd_n (n := 578) dL_law_577 rfl ?_
  refine R_rld (n := 579) hx (by omega) (rfl) (by omega) dL_law_578 rfl ?_
  refine R_aload_n (n := 580) dL_law_579 rfl rfl ?_
  refine R_iload_n (n := 581) dL_law_580 rfl rfl ?_
  refine R_iconst (v := nI 2) (n := 582) dL_law_581 rfl rfl ?_
  refine R_iadd_n (n := 583) dL_law_582 rfl ?_
  refine R_rld (n := 584) hx (by omega) (rfl) (by omega) dL_law_583 rfl ?_
  refine iv_L_85 (n := 587) (ct_X7_judge h w (xs (i + 1)) (xs (i + 2))) (by decide) dL_law_584 rfl (Nat.le_of_ble_eq_true rfl) (fun r μ' hq => ?_)
  obtain ⟨rfl, s1⟩ := hq
  refine R_aload_n (n := 588) dL_law_587 rfl rfl ?_
  refine R_aload_n (n := 589) dL_law_588 rfl rfl ?_
  refine R_iload_n (n := 590) dL_law_589 rfl rfl ?_
  refine R_iconst (v := nI 1) (n := 591) dL_law_590 rfl rfl ?_
  refine R_iadd_n (n := 592) dL_law_591 rfl ?_
  refine R_rld (n := 593) hx (by omega) (rfl) (by omega) dL_law_592 rfl ?_
  refine R_aload_n (n := 594) dL_law_593 rfl rfl ?_
  refine R_iload_n (n := 595) dL_law_594 rfl rfl ?_
  refine R_iconst (v := nI 2) (n := 596) dL_law_595 rfl rfl ?_
  refine R_iadd_n (n := 597) dL_law_596 rfl ?_
  refine R_rld (n := 598) hx (by omega) (rfl) (by omega) dL_law_597 rfl ?_
  refine iv_L_88 (n := 601) (ct_X8_judge (hm.lo w (qry_C s1)) w (xs (i + 1)) (xs (i + 2))) (by decide) dL_law_598 rfl (Nat.le_of_ble_eq_true rfl) (fun r μ'' hq => ?_)
  obtain ⟨rfl, s2⟩ := hq
  refine R_icmp_eq_t (tgt := 976) dL_law_601 rfl (rfl) ?_
  exact ih _ _ w ((h.kept s1).up (qrm_M s2)) ((hm.lo w (qry_C s1)).kept w s2)
theorem law_share (hx : (b, L, xs) ∈ G.2.2.2) (hL : L ≤ 320) (hi : i + 5 ≤ L) (w : WF σ) (h : CI μ σ) (hm : MI μ σ) (ih : IH G l b i) : VLw G l b i 606 μ := by
  show V G l RL cL_law 4 10 false _ _ _ [some (.ref _), some (.ref _), some (.ref _), some (.int (nI i))] [] _
  cases hz : decide (xs (i + 2) = 0) with
  | true =>
    have hz := of_decide_eq_true hz
    refine R_aload_n (n := 607) dL_law_606 rfl rfl ?_
    refine R_aload_n (n := 608) dL_law_607 rfl rfl ?_
    refine R_iload_n (n := 609) dL_law_608 rfl rfl ?_
    refine R_iconst (v := nI 1) (n := 610) dL_law_609 rfl rfl ?_
    refine R_iadd_n (n := 611) dL_law_610 rfl ?_
    refine R_rld (n := 612) hx (by omega) (rfl) (by omega) dL_law_611 rfl ?_
    refine R_aload_n (n := 613) dL_law_612 rfl rfl ?_
    refine R_iload_n (n := 614) dL_law_613 rfl rfl ?_
    refine R_iconst (v := nI 2) (n := 615) dL_law_614 rfl rfl ?_
    refine R_iadd_n (n := 616) dL_law_615 rfl ?_
    refine R_rld (n := 617) hx (by omega) (rfl) (by omega) dL_law_616 rfl ?_
    refine R_if_eq_t (tgt := 624) dL_law_617 rfl (hz) ?_
    refine R_iconst (v := nI 0) (n := 625) dL_law_624 rfl rfl ?_
    refine iv_L_89 (n := 628) ((ct_X7_share h w (xs (i + 1)) false)) (by decide) dL_law_625 rfl (Nat.le_of_ble_eq_true rfl) (fun r μ7 hq => ?_)
    obtain ⟨rfl, s7⟩ := hq
    refine R_aload_n (n := 629) dL_law_628 rfl rfl ?_
    refine R_aload_n (n := 630) dL_law_629 rfl rfl ?_
    refine R_iload_n (n := 631) dL_law_630 rfl rfl ?_
    refine R_iconst (v := nI 1) (n := 632) dL_law_631 rfl rfl ?_
    refine R_iadd_n (n := 633) dL_law_632 rfl ?_
    refine R_rld (n := 634) hx (by omega) (rfl) (by omega) dL_law_633 rfl ?_
    refine R_aload_n (n := 635) dL_law_634 rfl rfl ?_
    refine R_iload_n (n := 636) dL_law_635 rfl rfl ?_
    refine R_iconst (v := nI 2) (n := 637) dL_law_636 rfl rfl ?_
    refine R_iadd_n (n := 638) dL_law_637 rfl ?_
    refine R_rld (n := 639) hx (by omega) (rfl) (by omega) dL_law_638 rfl ?_
    refine R_if_eq_t (tgt := 646) dL_law_639 rfl (hz) ?_
    refine R_iconst (v := nI 0) (n := 647) dL_law_646 rfl rfl ?_
    refine iv_L_93 (n := 650) ((ct_X8_share (hm.lo w (qry_C s7)) w (xs (i + 1)) false)) (by decide) dL_law_647 rfl (Nat.le_of_ble_eq_true rfl) (fun r μ8 hq => ?_)
    obtain ⟨rfl, s8⟩ := hq
    refine R_icmp_eq_t (tgt := 976) dL_law_650 rfl (rfl) ?_
    exact ih _ _ w ((h.kept s7).up (qrm_M s8)) ((hm.lo w (qry_C s7)).kept w s8)
  | false =>
    have hz := of_decide_eq_false hz
    refine R_aload_n (n := 607) dL_law_606 rfl rfl ?_
    refine R_aload_n (n := 608) dL_law_607 rfl rfl ?_
    refine R_iload_n (n := 609) dL_law_608 rfl rfl ?_
    refine R_iconst (v := nI 1) (n := 610) dL_law_609 rfl rfl ?_
    refine R_iadd_n (n := 611) dL_law_610 rfl ?_
    refine R_rld (n := 612) hx (by omega) (rfl) (by omega) dL_law_611 rfl ?_
    refine R_aload_n (n := 613) dL_law_612 rfl rfl ?_
    refine R_iload_n (n := 614) dL_law_613 rfl rfl ?_
    refine R_iconst (v := nI 2) (n := 615) dL_law_614 rfl rfl ?_
    refine R_iadd_n (n := 616) dL_law_615 rfl ?_
    refine R_rld (n := 617) hx (by omega) (rfl) (by omega) dL_law_616 rfl ?_
    refine R_if_eq_f (n := 620) dL_law_617 rfl rfl (hz) ?_
    refine R_iconst (v := nI 1) (n := 621) dL_law_620 rfl rfl ?_
    refine R_goto (tgt := 625) dL_law_621 rfl ?_
    refine iv_L_89 (n := 628) ((ct_X7_share h w (xs (i + 1)) true)) (by decide) dL_law_625 rfl (Nat.le_of_ble_eq_true rfl) (fun r μ7 hq => ?_)
    obtain ⟨rfl, s7⟩ := hq
    refine R_aload_n (n := 629) dL_law_628 rfl rfl ?_
    refine R_aload_n (n := 630) dL_law_629 rfl rfl ?_
    refine R_iload_n (n := 631) dL_law_630 rfl rfl ?_
    refine R_iconst (v := nI 1) (n := 632) dL_law_631 rfl rfl ?_
    refine R_iadd_n (n := 633) dL_law_632 rfl ?_
    refine R_rld (n := 634) hx (by omega) (rfl) (by omega) dL_law_633 rfl ?_
    refine R_aload_n (n := 635) dL_law_634 rfl rfl ?_
    refine R_iload_n (n := 636) dL_law_635 rfl rfl ?_
    refine R_iconst (v := nI 2) (n := 637) dL_law_636 rfl rfl ?_
    refine R_iadd_n (n := 638) dL_law_637 rfl ?_
    refine R_rld (n := 639) hx (by omega) (rfl) (by omega) dL_law_638 rfl ?_
    refine R_if_eq_f (n := 642) dL_law_639 rfl rfl (hz) ?_
    refine R_iconst (v := nI 1) (n := 643) dL_law_642 rfl rfl ?_
    refine R_goto (tgt := 647) dL_law_643 rfl ?_
    refine iv_L_93 (n := 650) ((ct_X8_share (hm.lo w (qry_C s7)) w (xs (i + 1)) true)) (by decide) dL_law_647 rfl (Nat.le_of_ble_eq_true rfl) (fun r μ8 hq => ?_)
    obtain ⟨rfl, s8⟩ := hq
    refine R_icmp_eq_t (tgt := 976) dL_law_650 rfl (rfl) ?_
    exact ih _ _ w ((h.kept s7).up (qrm_M s8)) ((hm.lo w (qry_C s7)).kept w s8)
theorem law_gave (hx : (b, L, xs) ∈ G.2.2.2) (hL : L ≤ 320) (hi : i + 5 ≤ L) (w : WF σ) (h : CI μ σ) (hm : MI μ σ) (ih : IH G l b i) : VLw G l b i 655 μ := by
  show V G l RL cL_law 4 10 false _ _ _ [some (.ref _), some (.ref _), some (.ref _), some (.int (nI i))] [] _
  refine R_aload_n (n := 656) dL_law_655 rfl rfl ?_
  refine R_aload_n (n := 657) dL_law_656 rfl rfl ?_
  refine R_iload_n (n := 658) dL_law_657 rfl rfl ?_
  refine R_iconst (v := nI 1) (n := 659) dL_law_658 rfl rfl ?_
  refine R_iadd_n (n := 660) dL_law_659 rfl ?_
  refine R_rld (n := 661) hx (by omega) (rfl) (by omega) dL_law_660 rfl ?_
  refine R_aload_n (n := 662) dL_law_661 rfl rfl ?_
  refine R_iload_n (n := 663) dL_law_662 rfl rfl ?_
  refine R_iconst (v := nI 2) (n := 664) dL_law_663 rfl rfl ?_
  refine R_iadd_n (n := 665) dL_law_664 rfl ?_
  refine R_rld (n := 666) hx (by omega) (rfl) (by omega) dL_law_665 rfl ?_
  refine R_aload_n (n := 667) dL_law_666 rfl rfl ?_
  refine R_iload_n (n := 668) dL_law_667 rfl rfl ?_
  refine R_iconst (v := nI 3) (n := 669) dL_law_668 rfl rfl ?_
  refine R_iadd_n (n := 670) dL_law_669 rfl ?_
  refine R_rld (n := 671) hx (by omega) (rfl) (by omega) dL_law_670 rfl ?_
  refine iv_L_94 (n := 674) (ct_X7_gave h w (xs (i + 1)) (xs (i + 2)) (xs (i + 3))) (by decide) dL_law_671 rfl (Nat.le_of_ble_eq_true rfl) (fun r μ' hq => ?_)
  obtain ⟨rfl, s1⟩ := hq
  refine R_aload_n (n := 675) dL_law_674 rfl rfl ?_
  refine R_aload_n (n := 676) dL_law_675 rfl rfl ?_
  refine R_iload_n (n := 677) dL_law_676 rfl rfl ?_
  refine R_iconst (v := nI 1) (n := 678) dL_law_677 rfl rfl ?_
  refine R_iadd_n (n := 679) dL_law_678 rfl ?_
  refine R_rld (n := 680) hx (by omega) (rfl) (by omega) dL_law_679 rfl ?_
  refine R_aload_n (n := 681) dL_law_680 rfl rfl ?_
  refine R_iload_n (n := 682) dL_law_681 rfl rfl ?_
  refine R_iconst (v := nI 2) (n := 683) dL_law_682 rfl rfl ?_
  refine R_iadd_n (n := 684) dL_law_683 rfl ?_
  refine R_rld (n := 685) hx (by omega) (rfl) (by omega) dL_law_684 rfl ?_
  refine R_aload_n (n := 686) dL_law_685 rfl rfl ?_
  refine R_iload_n (n := 687) dL_law_686 rfl rfl ?_
  refine R_iconst (v := nI 3) (n := 688) dL_law_687 rfl rfl ?_
  refine R_iadd_n (n := 689) dL_law_688 rfl ?_
  refine R_rld (n := 690) hx (by omega) (rfl) (by omega) dL_law_689 rfl ?_
  refine iv_L_98 (n := 693) (ct_X8_gave (hm.lo w (qry_C s1)) w (xs (i + 1)) (xs (i + 2)) (xs (i + 3))) (by decide) dL_law_690 rfl (Nat.le_of_ble_eq_true rfl) (fun r μ'' hq => ?_)
  obtain ⟨rfl, s2⟩ := hq
  refine R_icmp_eq_t (tgt := 976) dL_law_693 rfl (rfl) ?_
  exact ih _ _ w ((h.kept s1).up (qrm_M s2)) ((hm.lo w (qry_C s1)).kept w s2)
theorem law_rests (hx : (b, L, xs) ∈ G.2.2.2) (hL : L ≤ 320) (hi : i + 5 ≤ L) (w : WF σ) (h : CI μ σ) (hm : MI μ σ) (ih : IH G l b i) : VLw G l b i 698 μ := by
  show V G l RL cL_law 4 10 false _ _ _ [some (.ref _), some (.ref _), some (.ref _), some (.int (nI i))] [] _
  refine R_aload_n (n := 699) dL_law_698 rfl rfl ?_
  refine R_aload_n (n := 700) dL_law_699 rfl rfl ?_
  refine R_iload_n (n := 701) dL_law_700 rfl rfl ?_
  refine R_iconst (v := nI 1) (n := 702) dL_law_701 rfl rfl ?_
  refine R_iadd_n (n := 703) dL_law_702 rfl ?_
  refine R_rld (n := 704) hx (by omega) (rfl) (by omega) dL_law_703 rfl ?_
  refine R_aload_n (n := 705) dL_law_704 rfl rfl ?_
  refine R_iload_n (n := 706) dL_law_705 rfl rfl ?_
  refine R_iconst (v := nI 2) (n := 707) dL_law_706 rfl rfl ?_
  refine R_iadd_n (n := 708) dL_law_707 rfl ?_
  refine R_rld (n := 709) hx (by omega) (rfl) (by omega) dL_law_708 rfl ?_
  refine R_aload_n (n := 710) dL_law_709 rfl rfl ?_
  refine R_iload_n (n := 711) dL_law_710 rfl rfl ?_
  refine R_iconst (v := nI 3) (n := 712) dL_law_711 rfl rfl ?_
  refine R_iadd_n (n := 713) dL_law_712 rfl ?_
  refine R_rld (n := 714) hx (by omega) (rfl) (by omega) dL_law_713 rfl ?_
  refine R_aload_n (n := 715) dL_law_714 rfl rfl ?_
  refine R_iload_n (n := 716) dL_law_715 rfl rfl ?_
  refine R_iconst (v := nI 4) (n := 717) dL_law_716 rfl rfl ?_
  refine R_iadd_n (n := 718) dL_law_717 rfl ?_
  refine R_rld (n := 719) hx (by omega) (rfl) (by omega) dL_law_718 rfl ?_
  refine iv_L_99 (n := 722) (ct_X7_rests h w (xs (i + 1)) (xs (i + 2)) (xs (i + 3)) (xs (i + 4))) (by decide) dL_law_719 rfl (Nat.le_of_ble_eq_true rfl) (fun r μ' hq => ?_)
  obtain ⟨rfl, s1⟩ := hq
  refine R_aload_n (n := 723) dL_law_722 rfl rfl ?_
  refine R_aload_n (n := 724) dL_law_723 rfl rfl ?_
  refine R_iload_n (n := 725) dL_law_724 rfl rfl ?_
  refine R_iconst (v := nI 1) (n := 726) dL_law_725 rfl rfl ?_
  refine R_iadd_n (n := 727) dL_law_726 rfl ?_
  refine R_rld (n := 728) hx (by omega) (rfl) (by omega) dL_law_727 rfl ?_
  refine R_aload_n (n := 729) dL_law_728 rfl rfl ?_
  refine R_iload_n (n := 730) dL_law_729 rfl rfl ?_
  refine R_iconst (v := nI 2) (n := 731) dL_law_730 rfl rfl ?_
  refine R_iadd_n (n := 732) dL_law_731 rfl ?_
  refine R_rld (n := 733) hx (by omega) (rfl) (by omega) dL_law_732 rfl ?_
  refine R_aload_n (n := 734) dL_law_733 rfl rfl ?_
  refine R_iload_n (n := 735) dL_law_734 rfl rfl ?_
  refine R_iconst (v := nI 3) (n := 736) dL_law_735 rfl rfl ?_
  refine R_iadd_n (n := 737) dL_law_736 rfl ?_
  refine R_rld (n := 738) hx (by omega) (rfl) (by omega) dL_law_737 rfl ?_
  refine R_aload_n (n := 739) dL_law_738 rfl rfl ?_
  refine R_iload_n (n := 740) dL_law_739 rfl rfl ?_
  refine R_iconst (v := nI 4) (n := 741) dL_law_740 rfl rfl ?_
  refine R_iadd_n (n := 742) dL_law_741 rfl ?_
  refine R_rld (n := 743) hx (by omega) (rfl) (by omega) dL_law_742 rfl ?_
  refine iv_L_103 (n := 746) (ct_X8_rests (hm.lo w (qry_C s1)) w (xs (i + 1)) (xs (i + 2)) (xs (i + 3)) (xs (i + 4))) (by decide) dL_law_743 rfl (Nat.le_of_ble_eq_true rfl) (fun r μ'' hq => ?_)
  obtain ⟨rfl, s2⟩ := hq
  refine R_icmp_eq_t (tgt := 976) dL_law_746 rfl (rfl) ?_
  exact ih _ _ w ((h.kept s1).up (qrm_M s2)) ((hm.lo w (qry_C s1)).kept w s2)
theorem law_asleep (hx : (b, L, xs) ∈ G.2.2.2) (hL : L ≤ 320) (hi : i + 5 ≤ L) (w : WF σ) (h : CI μ σ) (hm : MI μ σ) (ih : IH G l b i) : VLw G l b i 751 μ := by
  show V G l RL cL_law 4 10 false _ _ _ [some (.ref _), some (.ref _), some (.ref _), some (.int (nI i))] [] _
  cases hz : decide (xs (i + 4) = 0) with
  | true =>
    have hz := of_decide_eq_true hz
    refine R_aload_n (n := 752) dL_law_751 rfl rfl ?_
    refine R_aload_n (n := 753) dL_law_752 rfl rfl ?_
    refine R_iload_n (n := 754) dL_law_753 rfl rfl ?_
    refine R_iconst (v := nI 1) (n := 755) dL_law_754 rfl rfl ?_
    refine R_iadd_n (n := 756) dL_law_755 rfl ?_
    refine R_rld (n := 757) hx (by omega) (rfl) (by omega) dL_law_756 rfl ?_
    refine R_aload_n (n := 758) dL_law_757 rfl rfl ?_
    refine R_iload_n (n := 759) dL_law_758 rfl rfl ?_
    refine R_iconst (v := nI 2) (n := 760) dL_law_759 rfl rfl ?_
    refine R_iadd_n (n := 761) dL_law_760 rfl ?_
    refine R_rld (n := 762) hx (by omega) (rfl) (by omega) dL_law_761 rfl ?_
    refine R_aload_n (n := 763) dL_law_762 rfl rfl ?_
    refine R_iload_n (n := 764) dL_law_763 rfl rfl ?_
    refine R_iconst (v := nI 3) (n := 765) dL_law_764 rfl rfl ?_
    refine R_iadd_n (n := 766) dL_law_765 rfl ?_
    refine R_rld (n := 767) hx (by omega) (rfl) (by omega) dL_law_766 rfl ?_
    refine R_aload_n (n := 768) dL_law_767 rfl rfl ?_
    refine R_iload_n (n := 769) dL_law_768 rfl rfl ?_
    refine R_iconst (v := nI 4) (n := 770) dL_law_769 rfl rfl ?_
    refine R_iadd_n (n := 771) dL_law_770 rfl ?_
    refine R_rld (n := 772) hx (by omega) (rfl) (by omega) dL_law_771 rfl ?_
    refine R_if_eq_t (tgt := 779) dL_law_772 rfl (hz) ?_
    refine R_iconst (v := nI 0) (n := 780) dL_law_779 rfl rfl ?_
    refine iv_L_104 (n := 783) ((ct_X7_asleep h w (xs (i + 1)) (xs (i + 2)) (xs (i + 3)) false)) (by decide) dL_law_780 rfl (Nat.le_of_ble_eq_true rfl) (fun r μ7 hq => ?_)
    obtain ⟨rfl, s7⟩ := hq
    refine R_aload_n (n := 784) dL_law_783 rfl rfl ?_
    refine R_aload_n (n := 785) dL_law_784 rfl rfl ?_
    refine R_iload_n (n := 786) dL_law_785 rfl rfl ?_
    refine R_iconst (v := nI 1) (n := 787) dL_law_786 rfl rfl ?_
    refine R_iadd_n (n := 788) dL_law_787 rfl ?_
    refine R_rld (n := 789) hx (by omega) (rfl) (by omega) dL_law_788 rfl ?_
    refine R_aload_n (n := 790) dL_law_789 rfl rfl ?_
    refine R_iload_n (n := 791) dL_law_790 rfl rfl ?_
    refine R_iconst (v := nI 2) (n := 792) dL_law_791 rfl rfl ?_
    refine R_iadd_n (n := 793) dL_law_792 rfl ?_
    refine R_rld (n := 794) hx (by omega) (rfl) (by omega) dL_law_793 rfl ?_
    refine R_aload_n (n := 795) dL_law_794 rfl rfl ?_
    refine R_iload_n (n := 796) dL_law_795 rfl rfl ?_
    refine R_iconst (v := nI 3) (n := 797) dL_law_796 rfl rfl ?_
    refine R_iadd_n (n := 798) dL_law_797 rfl ?_
    refine R_rld (n := 799) hx (by omega) (rfl) (by omega) dL_law_798 rfl ?_
    refine R_aload_n (n := 800) dL_law_799 rfl rfl ?_
    refine R_iload_n (n := 801) dL_law_800 rfl rfl ?_
    refine R_iconst (v := nI 4) (n := 802) dL_law_801 rfl rfl ?_
    refine R_iadd_n (n := 803) dL_law_802 rfl ?_
    refine R_rld (n := 804) hx (by omega) (rfl) (by omega) dL_law_803 rfl ?_
    refine R_if_eq_t (tgt := 811) dL_law_804 rfl (hz) ?_
    refine R_iconst (v := nI 0) (n := 812) dL_law_811 rfl rfl ?_
    refine iv_L_108 (n := 815) ((ct_X8_asleep (hm.lo w (qry_C s7)) w (xs (i + 1)) (xs (i + 2)) (xs (i + 3)) false)) (by decide) dL_law_812 rfl (Nat.le_of_ble_eq_true rfl) (fun r μ8 hq => ?_)
    obtain ⟨rfl, s8⟩ := hq
    refine R_icmp_eq_t (tgt := 976) dL_law_815 rfl (rfl) ?_
    exact ih _ _ w ((h.kept s7).up (qrm_M s8)) ((hm.lo w (qry_C s7)).kept w s8)
  | false =>
    have hz := of_decide_eq_false hz
    refine R_aload_n (n := 752) dL_law_751 rfl rfl ?_
    refine R_aload_n (n := 753) dL_law_752 rfl rfl ?_
    refine R_iload_n (n := 754) dL_law_753 rfl rfl ?_
    refine R_iconst (v := nI 1) (n := 755) dL_law_754 rfl rfl ?_
    refine R_iadd_n (n := 756) dL_law_755 rfl ?_
    refine R_rld (n := 757) hx (by omega) (rfl) (by omega) dL_law_756 rfl ?_
    refine R_aload_n (n := 758) dL_law_757 rfl rfl ?_
    refine R_iload_n (n := 759) dL_law_758 rfl rfl ?_
    refine R_iconst (v := nI 2) (n := 760) dL_law_759 rfl rfl ?_
    refine R_iadd_n (n := 761) dL_law_760 rfl ?_
    refine R_rld (n := 762) hx (by omega) (rfl) (by omega) dL_law_761 rfl ?_
    refine R_aload_n (n := 763) dL_law_762 rfl rfl ?_
    refine R_iload_n (n := 764) dL_law_763 rfl rfl ?_
    refine R_iconst (v := nI 3) (n := 765) dL_law_764 rfl rfl ?_
    refine R_iadd_n (n := 766) dL_law_765 rfl ?_
    refine R_rld (n := 767) hx (by omega) (rfl) (by omega) dL_law_766 rfl ?_
    refine R_aload_n (n := 768) dL_law_767 rfl rfl ?_
    refine R_iload_n (n := 769) dL_law_768 rfl rfl ?_
    refine R_iconst (v := nI 4) (n := 770) dL_law_769 rfl rfl ?_
    refine R_iadd_n (n := 771) dL_law_770 rfl ?_
    refine R_rld (n := 772) hx (by omega) (rfl) (by omega) dL_law_771 rfl ?_
    refine R_if_eq_f (n := 775) dL_law_772 rfl rfl (hz) ?_
    refine R_iconst (v := nI 1) (n := 776) dL_law_775 rfl rfl ?_
    refine R_goto (tgt := 780) dL_law_776 rfl ?_
    refine iv_L_104 (n := 783) ((ct_X7_asleep h w (xs (i + 1)) (xs (i + 2)) (xs (i + 3)) true)) (by decide) dL_law_780 rfl (Nat.le_of_ble_eq_true rfl) (fun r μ7 hq => ?_)
    obtain ⟨rfl, s7⟩ := hq
    refine R_aload_n (n := 784) dL_law_783 rfl rfl ?_
    refine R_aload_n (n := 785) dL_law_784 rfl rfl ?_
    refine R_iload_n (n := 786) dL_law_785 rfl rfl ?_
    refine R_iconst (v := nI 1) (n := 787) dL_law_786 rfl rfl ?_
    refine R_iadd_n (n := 788) dL_law_787 rfl ?_
    refine R_rld (n := 789) hx (by omega) (rfl) (by omega) dL_law_788 rfl ?_
    refine R_aload_n (n := 790) dL_law_789 rfl rfl ?_
    refine R_iload_n (n := 791) dL_law_790 rfl rfl ?_
    refine R_iconst (v := nI 2) (n := 792) dL_law_791 rfl rfl ?_
    refine R_iadd_n (n := 793) dL_law_792 rfl ?_
    refine R_rld (n := 794) hx (by omega) (rfl) (by omega) dL_law_793 rfl ?_
    refine R_aload_n (n := 795) dL_law_794 rfl rfl ?_
    refine R_iload_n (n := 796) dL_law_795 rfl rfl ?_
    refine R_iconst (v := nI 3) (n := 797) dL_law_796 rfl rfl ?_
    refine R_iadd_n (n := 798) dL_law_797 rfl ?_
    refine R_rld (n := 799) hx (by omega) (rfl) (by omega) dL_law_798 rfl ?_
    refine R_aload_n (n := 800) dL_law_799 rfl rfl ?_
    refine R_iload_n (n := 801) dL_law_800 rfl rfl ?_
    refine R_iconst (v := nI 4) (n := 802) dL_law_801 rfl rfl ?_
    refine R_iadd_n (n := 803) dL_law_802 rfl ?_
    refine R_rld (n := 804) hx (by omega) (rfl) (by omega) dL_law_803 rfl ?_
    refine R_if_eq_f (n := 807) dL_law_804 rfl rfl (hz) ?_
    refine R_iconst (v := nI 1) (n := 808) dL_law_807 rfl rfl ?_
    refine R_goto (tgt := 812) dL_law_808 rfl ?_
    refine iv_L_108 (n := 815) ((ct_X8_asleep (hm.lo w (qry_C s7)) w (xs (i + 1)) (xs (i + 2)) (xs (i + 3)) true)) (by decide) dL_law_812 rfl (Nat.le_of_ble_eq_true rfl) (fun r μ8 hq => ?_)
    obtain ⟨rfl, s8⟩ := hq
    refine R_icmp_eq_t (tgt := 976) dL_law_815 rfl (rfl) ?_
    exact ih _ _ w ((h.kept s7).up (qrm_M s8)) ((hm.lo w (qry_C s7)).kept w s8)
theorem law_seed (hx : (b, L, xs) ∈ G.2.2.2) (hL : L ≤ 320) (hi : i + 5 ≤ L) (w : WF σ) (h : CI μ σ) (hm : MI μ σ) (ih : IH G l b i) : VLw G l b i 820 μ := by
  show V G l RL cL_law 4 10 false _ _ _ [some (.ref _), some (.ref _), some (.ref _), some (.int (nI i))] [] _
  refine R_aload_n (n := 821) dL_law_820 rfl rfl ?_
  refine R_aload_n (n := 822) dL_law_821 rfl rfl ?_
  refine R_iload_n (n := 823) dL_law_822 rfl rfl ?_
  refine R_iconst (v := nI 1) (n := 824) dL_law_823 rfl rfl ?_
  refine R_iadd_n (n := 825) dL_law_824 rfl ?_
  refine R_rld (n := 826) hx (by omega) (rfl) (by omega) dL_law_825 rfl ?_
  refine R_i2l (n := 827) dL_law_826 rfl ?_
  refine R_bipush (v := nI 32) (n := 829) dL_law_827 rfl rfl ?_
  refine R_lshl (n := 830) dL_law_829 rfl ?_
  refine R_aload_n (n := 831) dL_law_830 rfl rfl ?_
  refine R_iload_n (n := 832) dL_law_831 rfl rfl ?_
  refine R_iconst (v := nI 2) (n := 833) dL_law_832 rfl rfl ?_
  refine R_iadd_n (n := 834) dL_law_833 rfl ?_
  refine R_rld (n := 835) hx (by omega) (rfl) (by omega) dL_law_834 rfl ?_
  refine R_i2l (n := 836) dL_law_835 rfl ?_
  refine R_ldc2 (n := 839) dL_law_836 tK_RL_109 rfl ?_
  refine R_land (n := 840) dL_law_839 rfl ?_
  refine R_lor (n := 841) dL_law_840 rfl ?_
  refine iv_L_111 (n := 844) (ct_X7_seed h _) (by decide) dL_law_841 rfl (Nat.le_of_ble_eq_true rfl) (fun r μ' hq => ?_)
  obtain ⟨rfl, h1, s1⟩ := hq
  refine R_aload_n (n := 845) dL_law_844 rfl rfl ?_
  refine R_aload_n (n := 846) dL_law_845 rfl rfl ?_
  refine R_iload_n (n := 847) dL_law_846 rfl rfl ?_
  refine R_iconst (v := nI 1) (n := 848) dL_law_847 rfl rfl ?_
  refine R_iadd_n (n := 849) dL_law_848 rfl ?_
  refine R_rld (n := 850) hx (by omega) (rfl) (by omega) dL_law_849 rfl ?_
  refine R_i2l (n := 851) dL_law_850 rfl ?_
  refine R_bipush (v := nI 32) (n := 853) dL_law_851 rfl rfl ?_
  refine R_lshl (n := 854) dL_law_853 rfl ?_
  refine R_aload_n (n := 855) dL_law_854 rfl rfl ?_
  refine R_iload_n (n := 856) dL_law_855 rfl rfl ?_
  refine R_iconst (v := nI 2) (n := 857) dL_law_856 rfl rfl ?_
  refine R_iadd_n (n := 858) dL_law_857 rfl ?_
  refine R_rld (n := 859) hx (by omega) (rfl) (by omega) dL_law_858 rfl ?_
  refine R_i2l (n := 860) dL_law_859 rfl ?_
  refine R_ldc2 (n := 863) dL_law_860 tK_RL_109 rfl ?_
  refine R_land (n := 864) dL_law_863 rfl ?_
  refine R_lor (n := 865) dL_law_864 rfl ?_
  refine iv_L_115 (n := 868) (ct_X8_seed (hm.lo w s1) _) (by decide) dL_law_865 rfl (Nat.le_of_ble_eq_true rfl) (fun r μ'' hq => ?_)
  obtain ⟨rfl, h2, s2⟩ := hq
  refine R_lcmp (n := 869) dL_law_868 rfl ?_
  refine R_if_eq_t (tgt := 976) dL_law_869 rfl (by exact cmp_self _) ?_
  exact ih _ _ (w.z _) (h1.up s2) h2
theorem law_days (hx : (b, L, xs) ∈ G.2.2.2) (hL : L ≤ 320) (hi : i + 5 ≤ L) (w : WF σ) (h : CI μ σ) (hm : MI μ σ) (ih : IH G l b i) : VLw G l b i 874 μ := by
  show V G l RL cL_law 4 10 false _ _ _ [some (.ref _), some (.ref _), some (.ref _), some (.int (nI i))] [] _
  refine R_aload_n (n := 875) dL_law_874 rfl rfl ?_
  refine R_aload_n (n := 876) dL_law_875 rfl rfl ?_
  refine R_iload_n (n := 877) dL_law_876 rfl rfl ?_
  refine R_iconst (v := nI 1) (n := 878) dL_law_877 rfl rfl ?_
  refine R_iadd_n (n := 879) dL_law_878 rfl ?_
  refine R_rld (n := 880) hx (by omega) (rfl) (by omega) dL_law_879 rfl ?_
  refine R_aload_n (n := 881) dL_law_880 rfl rfl ?_
  refine R_iload_n (n := 882) dL_law_881 rfl rfl ?_
  refine R_iconst (v := nI 2) (n := 883) dL_law_882 rfl rfl ?_
  refine R_iadd_n (n := 884) dL_law_883 rfl ?_
  refine R_rld (n := 885) hx (by omega) (rfl) (by omega) dL_law_884 rfl ?_
  refine iv_L_116 (n := 888) (ct_X7_days h w (xs (i + 1)) (xs (i + 2))) (by decide) dL_law_885 rfl (Nat.le_of_ble_eq_true rfl) (fun r μ' hq => ?_)
  obtain ⟨rfl, h1, s1⟩ := hq
  refine R_aload_n (n := 889) dL_law_888 rfl rfl ?_
  refine R_aload_n (n := 890) dL_law_889 rfl rfl ?_
  refine R_iload_n (n := 891) dL_law_890 rfl rfl ?_
  refine R_iconst (v := nI 1) (n := 892) dL_law_891 rfl rfl ?_
  refine R_iadd_n (n := 893) dL_law_892 rfl ?_
  refine R_rld (n := 894) hx (by omega) (rfl) (by omega) dL_law_893 rfl ?_
  refine R_aload_n (n := 895) dL_law_894 rfl rfl ?_
  refine R_iload_n (n := 896) dL_law_895 rfl rfl ?_
  refine R_iconst (v := nI 2) (n := 897) dL_law_896 rfl rfl ?_
  refine R_iadd_n (n := 898) dL_law_897 rfl ?_
  refine R_rld (n := 899) hx (by omega) (rfl) (by omega) dL_law_898 rfl ?_
  refine iv_L_119 (n := 902) (ct_X8_days (hm.lo w s1) w (xs (i + 1)) (xs (i + 2))) (by decide) dL_law_899 rfl (Nat.le_of_ble_eq_true rfl) (fun r μ'' hq => ?_)
  obtain ⟨rfl, h2, s2⟩ := hq
  refine R_icmp_eq_t (tgt := 976) dL_law_902 rfl (rfl) ?_
  exact ih _ _ (wf_days w (xs (i + 1)) (xs (i + 2))) (h1.up s2) h2
theorem law_keep (hx : (b, L, xs) ∈ G.2.2.2) (hL : L ≤ 320) (hi : i + 5 ≤ L) (w : WF σ) (h : CI μ σ) (hm : MI μ σ) (ih : IH G l b i) : VLw G l b i 907 μ := by
  show V G l RL cL_law 4 10 false _ _ _ [some (.ref _), some (.ref _), some (.ref _), some (.int (nI i))] [] _
  refine R_aload_n (n := 908) dL_law_907 rfl rfl ?_
  refine R_aload_n (n := 909) dL_law_908 rfl rfl ?_
  refine R_iload_n (n := 910) dL_law_909 rfl rfl ?_
  refine R_iconst (v := nI 1) (n := 911) dL_law_910 rfl rfl ?_
  refine R_iadd_n (n := 912) dL_law_911 rfl ?_
  refine R_rld (n := 913) hx (by omega) (rfl) (by omega) dL_law_912 rfl ?_
  refine iv_L_120 (n := 916) (ct_X7_keep h w (xs (i + 1))) (by decide) dL_law_913 rfl (Nat.le_of_ble_eq_true rfl) (fun r μ' hq => ?_)
  obtain ⟨rfl, h1, s1⟩ := hq
  refine R_aload_n (n := 917) dL_law_916 rfl rfl ?_
  refine R_aload_n (n := 918) dL_law_917 rfl rfl ?_
  refine R_iload_n (n := 919) dL_law_918 rfl rfl ?_
  refine R_iconst (v := nI 1) (n := 920) dL_law_919 rfl rfl ?_
  refine R_iadd_n (n := 921) dL_law_920 rfl ?_
  refine R_rld (n := 922) hx (by omega) (rfl) (by omega) dL_law_921 rfl ?_
  refine iv_L_123 (n := 925) (ct_X8_keep (hm.lo w s1) w (xs (i + 1))) (by decide) dL_law_922 rfl (Nat.le_of_ble_eq_true rfl) (fun r μ'' hq => ?_)
  obtain ⟨rfl, h2, s2⟩ := hq
  refine R_icmp_eq_t (tgt := 976) dL_law_925 rfl (rfl) ?_
  exact ih _ _ (wf_keep w (xs (i + 1))) (h1.up s2) h2
theorem law_again (hx : (b, L, xs) ∈ G.2.2.2) (hL : L ≤ 320) (hi : i + 5 ≤ L) (w : WF σ) (h : CI μ σ) (hm : MI μ σ) (ih : IH G l b i) : VLw G l b i 930 μ := by
  show V G l RL cL_law 4 10 false _ _ _ [some (.ref _), some (.ref _), some (.ref _), some (.int (nI i))] [] _
  refine R_aload_n (n := 931) dL_law_930 rfl rfl ?_
  refine R_aload_n (n := 932) dL_law_931 rfl rfl ?_
  refine R_iload_n (n := 933) dL_law_932 rfl rfl ?_
  refine R_iconst (v := nI 1) (n := 934) dL_law_933 rfl rfl ?_
  refine R_iadd_n (n := 935) dL_law_934 rfl ?_
  refine R_rld (n := 936) hx (by omega) (rfl) (by omega) dL_law_935 rfl ?_
  refine iv_L_124 (n := 939) (ct_X7_again h w (xs (i + 1))) (by decide) dL_law_936 rfl (Nat.le_of_ble_eq_true rfl) (fun r μ' hq => ?_)
  obtain ⟨rfl, h1, s1⟩ := hq
  refine R_aload_n (n := 940) dL_law_939 rfl rfl ?_
  refine R_aload_n (n := 941) dL_law_940 rfl rfl ?_
  refine R_iload_n (n := 942) dL_law_941 rfl rfl ?_
  refine R_iconst (v := nI 1) (n := 943) dL_law_942 rfl rfl ?_
  refine R_iadd_n (n := 944) dL_law_943 rfl ?_
  refine R_rld (n := 945) hx (by omega) (rfl) (by omega) dL_law_944 rfl ?_
  refine iv_L_127 (n := 948) (ct_X8_again (hm.lo w s1) w (xs (i + 1))) (by decide) dL_law_945 rfl (Nat.le_of_ble_eq_true rfl) (fun r μ'' hq => ?_)
  obtain ⟨rfl, h2, s2⟩ := hq
  refine R_icmp_eq_t (tgt := 976) dL_law_948 rfl (rfl) ?_
  exact ih _ _ (wf_again w (xs (i + 1))) (h1.up s2) h2
theorem law_count (hx : (b, L, xs) ∈ G.2.2.2) (hL : L ≤ 320) (hi : i + 5 ≤ L) (w : WF σ) (h : CI μ σ) (hm : MI μ σ) (ih : IH G l b i) : VLw G l b i 953 μ := by
  show V G l RL cL_law 4 10 false _ _ _ [some (.ref _), some (.ref _), some (.ref _), some (.int (nI i))] [] _
  refine R_aload_n (n := 954) dL_law_953 rfl rfl ?_
  refine R_aload_n (n := 955) dL_law_954 rfl rfl ?_
  refine R_iload_n (n := 956) dL_law_955 rfl rfl ?_
  refine R_iconst (v := nI 1) (n := 957) dL_law_956 rfl rfl ?_
  refine R_iadd_n (n := 958) dL_law_957 rfl ?_
  refine R_rld (n := 959) hx (by omega) (rfl) (by omega) dL_law_958 rfl ?_
  refine iv_L_128 (n := 962) (ct_X7_count h w (xs (i + 1))) (by decide) dL_law_959 rfl (Nat.le_of_ble_eq_true rfl) (fun r μ' hq => ?_)
  obtain ⟨rfl, s1⟩ := hq
  refine R_aload_n (n := 963) dL_law_962 rfl rfl ?_
  refine R_aload_n (n := 964) dL_law_963 rfl rfl ?_
  refine R_iload_n (n := 965) dL_law_964 rfl rfl ?_
  refine R_iconst (v := nI 1) (n := 966) dL_law_965 rfl rfl ?_
  refine R_iadd_n (n := 967) dL_law_966 rfl ?_
  refine R_rld (n := 968) hx (by omega) (rfl) (by omega) dL_law_967 rfl ?_
  refine iv_L_131 (n := 971) (ct_X8_count (hm.lo w (qry_C s1)) w (xs (i + 1))) (by decide) dL_law_968 rfl (Nat.le_of_ble_eq_true rfl) (fun r μ'' hq => ?_)
  obtain ⟨rfl, s2⟩ := hq
  refine R_icmp_eq_t (tgt := 976) dL_law_971 rfl (rfl) ?_
  exact ih _ _ w ((h.kept s1).up (qrm_M s2)) ((hm.lo w (qry_C s1)).kept w s2)
theorem law_step (hx : (b, L, xs) ∈ G.2.2.2) (hL : L ≤ 320) (hi : i + 5 ≤ L) (w : WF σ) (h : CI μ σ) (hm : MI μ σ) (ih : IH G l b i) : VLw G l b i 26 μ := by
  show V G l RL cL_law 4 10 false _ _ _ [some (.ref _), some (.ref _), some (.ref _), some (.int (nI i))] [] _
  refine R_aload_n (n := 27) dL_law_26 rfl rfl ?_
  refine R_iload_n (n := 28) dL_law_27 rfl rfl ?_
  refine R_rld (n := 29) hx (by omega) (rfl) (by omega) dL_law_28 rfl ?_
  refine R_bipush (v := nI 31) (n := 31) dL_law_29 rfl rfl ?_
  refine R_iand (n := 32) dL_law_31 rfl ?_
  obtain ⟨k, hk, e⟩ := and31 (xs i)
  rw [e]
  match k, hk with
  | 0, _ =>
    refine R_tableIn (off := 124) (tgt := 156) dL_law_32 (by decide) (by decide) (by decide) rfl ?_
    exact law_write hx hL hi w h hm ih
  | 1, _ =>
    refine R_tableIn (off := 147) (tgt := 179) dL_law_32 (by decide) (by decide) (by decide) rfl ?_
    exact law_wipe hx hL hi w h hm ih
  | 2, _ =>
    refine R_tableIn (off := 160) (tgt := 192) dL_law_32 (by decide) (by decide) (by decide) rfl ?_
    exact law_fault hx hL hi w h hm ih
  | 3, _ =>
    refine R_tableIn (off := 173) (tgt := 205) dL_law_32 (by decide) (by decide) (by decide) rfl ?_
    exact law_canal hx hL hi w h hm ih
  | 4, _ =>
    refine R_tableIn (off := 186) (tgt := 218) dL_law_32 (by decide) (by decide) (by decide) rfl ?_
    exact law_barge hx hL hi w h hm ih
  | 5, _ =>
    refine R_tableIn (off := 219) (tgt := 251) dL_law_32 (by decide) (by decide) (by decide) rfl ?_
    exact law_lock hx hL hi w h hm ih
  | 6, _ =>
    refine R_tableIn (off := 252) (tgt := 284) dL_law_32 (by decide) (by decide) (by decide) rfl ?_
    exact law_pass hx hL hi w h hm ih
  | 7, _ =>
    refine R_tableIn (off := 265) (tgt := 297) dL_law_32 (by decide) (by decide) (by decide) rfl ?_
    exact law_give hx hL hi w h hm ih
  | 8, _ =>
    refine R_tableIn (off := 298) (tgt := 330) dL_law_32 (by decide) (by decide) (by decide) rfl ?_
    exact law_letBy hx hL hi w h hm ih
  | 9, _ =>
    refine R_tableIn (off := 321) (tgt := 353) dL_law_32 (by decide) (by decide) (by decide) rfl ?_
    exact law_learn hx hL hi w h hm ih
  | 10, _ =>
    refine R_tableIn (off := 354) (tgt := 386) dL_law_32 (by decide) (by decide) (by decide) rfl ?_
    exact law_undo hx hL hi w h hm ih
  | 11, _ =>
    refine R_tableIn (off := 367) (tgt := 399) dL_law_32 (by decide) (by decide) (by decide) rfl ?_
    exact law_basin hx hL hi w h hm ih
  | 12, _ =>
    refine R_tableIn (off := 380) (tgt := 412) dL_law_32 (by decide) (by decide) (by decide) rfl ?_
    exact law_hour hx hL hi w h hm ih
  | 13, _ =>
    refine R_tableIn (off := 403) (tgt := 435) dL_law_32 (by decide) (by decide) (by decide) rfl ?_
    exact law_gains hx hL hi w h hm ih
  | 14, _ =>
    refine R_tableIn (off := 426) (tgt := 458) dL_law_32 (by decide) (by decide) (by decide) rfl ?_
    exact law_mates hx hL hi w h hm ih
  | 15, _ =>
    refine R_tableIn (off := 449) (tgt := 481) dL_law_32 (by decide) (by decide) (by decide) rfl ?_
    exact law_first hx hL hi w h hm ih
  | 16, _ =>
    refine R_tableIn (off := 482) (tgt := 514) dL_law_32 (by decide) (by decide) (by decide) rfl ?_
    exact law_tea hx hL hi w h hm ih
  | 17, _ =>
    refine R_tableIn (off := 541) (tgt := 573) dL_law_32 (by decide) (by decide) (by decide) rfl ?_
    exact law_judge hx hL hi w h hm ih
  | 18, _ =>
    refine R_tableIn (off := 574) (tgt := 606) dL_law_32 (by decide) (by decide) (by decide) rfl ?_
    exact law_share hx hL hi w h hm ih
  | 19, _ =>
    refine R_tableIn (off := 623) (tgt := 655) dL_law_32 (by decide) (by decide) (by decide) rfl ?_
    exact law_gave hx hL hi w h hm ih
  | 20, _ =>
    refine R_tableIn (off := 666) (tgt := 698) dL_law_32 (by decide) (by decide) (by decide) rfl ?_
    exact law_rests hx hL hi w h hm ih
  | 21, _ =>
    refine R_tableIn (off := 719) (tgt := 751) dL_law_32 (by decide) (by decide) (by decide) rfl ?_
    exact law_asleep hx hL hi w h hm ih
  | 22, _ =>
    refine R_tableIn (off := 788) (tgt := 820) dL_law_32 (by decide) (by decide) (by decide) rfl ?_
    exact law_seed hx hL hi w h hm ih
  | 23, _ =>
    refine R_tableIn (off := 842) (tgt := 874) dL_law_32 (by decide) (by decide) (by decide) rfl ?_
    exact law_days hx hL hi w h hm ih
  | 24, _ =>
    refine R_tableIn (off := 875) (tgt := 907) dL_law_32 (by decide) (by decide) (by decide) rfl ?_
    exact law_keep hx hL hi w h hm ih
  | 25, _ =>
    refine R_tableIn (off := 898) (tgt := 930) dL_law_32 (by decide) (by decide) (by decide) rfl ?_
    exact law_again hx hL hi w h hm ih
  | 26, _ =>
    refine R_tableIn (off := 921) (tgt := 953) dL_law_32 (by decide) (by decide) (by decide) rfl ?_
    exact law_count hx hL hi w h hm ih
  | k + 27, hk =>
    refine R_tableOut (tgt := 976) dL_law_32 (Or.inr (by rw [nI_toInt (by omega)]; omega)) rfl ?_
    exact ih _ _ w h hm
theorem law_loop (hx : (b, L, xs) ∈ G.2.2.2) (hL : L ≤ 320) : ∀ (f i : Nat) (μ : Mem) (σ : GS), L + 5 ≤ i + 5 * f → i ≤ 640 → WF σ → CI μ σ → MI μ σ → VLw G l b i 18 μ := by
  intro f
  induction f with
  | zero =>
    intro i μ σ hf hi w h hm
    show V G l RL cL_law 4 10 false _ _ _ [some (.ref _), some (.ref _), some (.ref _), some (.int (nI i))] [] _
    refine R_iload_n (n := 19) dL_law_18 rfl rfl ?_
    refine R_aload_n (n := 20) dL_law_19 rfl rfl ?_
    refine R_rlen (n := 21) hx dL_law_20 rfl ?_
    refine R_iconst (v := nI 5) (n := 22) dL_law_21 rfl rfl ?_
    refine R_isub (n := 23) dL_law_22 rfl ?_
    refine R_icmp_gt_t (tgt := 982) dL_law_23 rfl (lim_t hL hi (by omega)) ?_
    refine R_iconst (v := nI 1) (n := 983) dL_law_982 rfl rfl ?_
    refine R_iret dL_law_983 rfl (by first | rfl | exact nar_bi _) (rfl)
  | succ f ih =>
    intro i μ σ hf hi w h hm
    show V G l RL cL_law 4 10 false _ _ _ [some (.ref _), some (.ref _), some (.ref _), some (.int (nI i))] [] _
    refine R_iload_n (n := 19) dL_law_18 rfl rfl ?_
    refine R_aload_n (n := 20) dL_law_19 rfl rfl ?_
    refine R_rlen (n := 21) hx dL_law_20 rfl ?_
    refine R_iconst (v := nI 5) (n := 22) dL_law_21 rfl rfl ?_
    refine R_isub (n := 23) dL_law_22 rfl ?_
    rcases Nat.lt_or_ge L (i + 5) with q | q
    · refine R_icmp_gt_t (tgt := 982) dL_law_23 rfl (lim_t hL hi q) ?_
      refine R_iconst (v := nI 1) (n := 983) dL_law_982 rfl rfl ?_
      refine R_iret dL_law_983 rfl (by first | rfl | exact nar_bi _) (rfl)
    · refine R_icmp_gt_f (n := 26) dL_law_23 rfl rfl (lim_f hL hi q) ?_
      refine law_step hx hL q w h hm (fun μ' σ' w' h' hm' => ?_)
      show V G l RL cL_law 4 10 false _ _ _ [some (.ref _), some (.ref _), some (.ref _), some (.int (nI i))] [] _
      refine R_iinc (n := 979) dL_law_976 rfl rfl (inc5 i) (Nat.le_of_ble_eq_true rfl) ?_
      refine R_goto (tgt := 18) dL_law_979 rfl ?_
      exact ih (i + 5) μ' σ' (by omega) (by omega) w' h' hm'
end LW

