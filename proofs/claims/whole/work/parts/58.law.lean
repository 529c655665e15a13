set_option maxRecDepth 100000 in
set_option maxHeartbeats 4000000 in
theorem law_c0 {K : Kx} {Ln : Nat} {xs : Nat → Int32} (hKn : K.2.2.2.2.1 = 4) (hC : Cx K RL cL_law wsL_law 14 544) (hSx : Sx K Ln xs) (hL : Ln ≤ 2048) {i : Nat} (hi : i + 4 ≤ Ln) {V : St} {X : Mem} (hc : cI X V) (hm : mI X V) (hk : ∀ (W : St) (Y : Mem), cI Y W → mI Y W → Ev K 1159 [some (.ref 44), some (.ref 0), some (.ref 29), some (vi ((i : Nat) : Int))] [] Y) : Ev K 196 [some (.ref 44), some (.ref 0), some (.ref 29), some (vi ((i : Nat) : Int))] [] X := by
  refine ev_aload_n (pc := 196) hC dL_law_196 rfl ?_
  refine ev_aload_n (pc := 197) hC dL_law_197 rfl ?_
  refine ev_iload_n (pc := 198) hC dL_law_198 rfl ?_
  refine ev_iconst (pc := 199) hC dL_law_199 ?_
  refine ev_iadd (pc := 200) hC ((i + 1 : Nat) : Int) (by omega) dL_law_200 ?_
  refine ev_sld (pc := 201) hC hSx (i + 1) rfl (by omega) hL dL_law_201 ?_
  refine ev_callV (pc := 202) (as := [vi (xs (i + 1)).toInt]) (rest := []) hC gL_law_X5_letter mtX5_letter dL_law_202 (ru_X5_letter hc (xs (i + 1)).toInt (i32r _)) (by decide) (by decide) (by decide) rfl (by rfl) (Nat.le_of_ble_eq_true rfl) rfl (fun v202 X202 h202 => ?_)
  obtain ⟨rfl, hc1, hf1⟩ := h202
  have hm1 := mI_frC hm hf1
  show Ev K 205 [some (.ref 44), some (.ref 0), some (.ref 29), some (vi ((i : Nat) : Int))] [vi (sp0 (xs (i + 1)).toInt V).1] X202
  refine ev_aload_n (pc := 205) hC dL_law_205 rfl ?_
  refine ev_aload_n (pc := 206) hC dL_law_206 rfl ?_
  refine ev_iload_n (pc := 207) hC dL_law_207 rfl ?_
  refine ev_iconst (pc := 208) hC dL_law_208 ?_
  refine ev_iadd (pc := 209) hC ((i + 1 : Nat) : Int) (by omega) dL_law_209 ?_
  refine ev_sld (pc := 210) hC hSx (i + 1) rfl (by omega) hL dL_law_210 ?_
  refine ev_callV (pc := 211) (as := [vi (xs (i + 1)).toInt]) (rest := [vi (sp0 (xs (i + 1)).toInt V).1]) hC gL_law_X6_letter mtX6_letter dL_law_211 (ru_X6_letter hm1 (xs (i + 1)).toInt (i32r _)) (by decide) (by decide) (by decide) rfl (by rfl) (Nat.le_of_ble_eq_true rfl) rfl (fun v211 X211 h211 => ?_)
  obtain ⟨rfl, hm2, hf2⟩ := h211
  have hc2 := cI_frM hc1 hf2
  show Ev K 214 [some (.ref 44), some (.ref 0), some (.ref 29), some (vi ((i : Nat) : Int))] [vi (sp0 (xs (i + 1)).toInt V).1, vi (sp0 (xs (i + 1)).toInt V).1] X211
  refine ev_isame (pc := 214) hC 1159 dL_law_214 (by decide) ?_
  exact hk _ _ hc2 hm2
set_option maxRecDepth 100000 in
set_option maxHeartbeats 4000000 in
theorem law_c1 {K : Kx} {Ln : Nat} {xs : Nat → Int32} (hKn : K.2.2.2.2.1 = 4) (hC : Cx K RL cL_law wsL_law 14 544) (hSx : Sx K Ln xs) (hL : Ln ≤ 2048) {i : Nat} (hi : i + 4 ≤ Ln) {V : St} {X : Mem} (hc : cI X V) (hm : mI X V) (hk : ∀ (W : St) (Y : Mem), cI Y W → mI Y W → Ev K 1159 [some (.ref 44), some (.ref 0), some (.ref 29), some (vi ((i : Nat) : Int))] [] Y) : Ev K 219 [some (.ref 44), some (.ref 0), some (.ref 29), some (vi ((i : Nat) : Int))] [] X := by
  refine ev_aload_n (pc := 219) hC dL_law_219 rfl ?_
  refine ev_callV (pc := 220) (as := []) (rest := []) hC gL_law_X5_slope mtX5_slope dL_law_220 (ru_X5_slope hc) (by decide) (by decide) (by decide) rfl (by rfl) (Nat.le_of_ble_eq_true rfl) rfl (fun v220 X220 h220 => ?_)
  obtain ⟨rfl, hc1, hf1⟩ := h220
  have hm1 := mI_frC hm hf1
  show Ev K 223 [some (.ref 44), some (.ref 0), some (.ref 29), some (vi ((i : Nat) : Int))] [vi (sp1 V).1] X220
  refine ev_aload_n (pc := 223) hC dL_law_223 rfl ?_
  refine ev_callV (pc := 224) (as := []) (rest := [vi (sp1 V).1]) hC gL_law_X6_slope mtX6_slope dL_law_224 (ru_X6_slope hm1) (by decide) (by decide) (by decide) rfl (by rfl) (Nat.le_of_ble_eq_true rfl) rfl (fun v224 X224 h224 => ?_)
  obtain ⟨rfl, hm2, hf2⟩ := h224
  have hc2 := cI_frM hc1 hf2
  show Ev K 227 [some (.ref 44), some (.ref 0), some (.ref 29), some (vi ((i : Nat) : Int))] [vi (sp1 V).1, vi (sp1 V).1] X224
  refine ev_isame (pc := 227) hC 1159 dL_law_227 (by decide) ?_
  exact hk _ _ hc2 hm2
set_option maxRecDepth 100000 in
set_option maxHeartbeats 4000000 in
theorem law_c2 {K : Kx} {Ln : Nat} {xs : Nat → Int32} (hKn : K.2.2.2.2.1 = 4) (hC : Cx K RL cL_law wsL_law 14 544) (hSx : Sx K Ln xs) (hL : Ln ≤ 2048) {i : Nat} (hi : i + 4 ≤ Ln) {V : St} {X : Mem} (hc : cI X V) (hm : mI X V) (hk : ∀ (W : St) (Y : Mem), cI Y W → mI Y W → Ev K 1159 [some (.ref 44), some (.ref 0), some (.ref 29), some (vi ((i : Nat) : Int))] [] Y) : Ev K 232 [some (.ref 44), some (.ref 0), some (.ref 29), some (vi ((i : Nat) : Int))] [] X := by
  refine ev_aload_n (pc := 232) hC dL_law_232 rfl ?_
  refine ev_aload_n (pc := 233) hC dL_law_233 rfl ?_
  refine ev_iload_n (pc := 234) hC dL_law_234 rfl ?_
  refine ev_iconst (pc := 235) hC dL_law_235 ?_
  refine ev_iadd (pc := 236) hC ((i + 1 : Nat) : Int) (by omega) dL_law_236 ?_
  refine ev_sld (pc := 237) hC hSx (i + 1) rfl (by omega) hL dL_law_237 ?_
  refine ev_callV (pc := 238) (as := [vi (xs (i + 1)).toInt]) (rest := []) hC gL_law_X5_depth mtX5_depth dL_law_238 (ru_X5_depth hc (xs (i + 1)).toInt (i32r _)) (by decide) (by decide) (by decide) rfl (by rfl) (Nat.le_of_ble_eq_true rfl) rfl (fun v238 X238 h238 => ?_)
  obtain ⟨rfl, hc1, hf1⟩ := h238
  have hm1 := mI_frC hm hf1
  show Ev K 241 [some (.ref 44), some (.ref 0), some (.ref 29), some (vi ((i : Nat) : Int))] [vi (sp2 (xs (i + 1)).toInt V).1] X238
  refine ev_aload_n (pc := 241) hC dL_law_241 rfl ?_
  refine ev_aload_n (pc := 242) hC dL_law_242 rfl ?_
  refine ev_iload_n (pc := 243) hC dL_law_243 rfl ?_
  refine ev_iconst (pc := 244) hC dL_law_244 ?_
  refine ev_iadd (pc := 245) hC ((i + 1 : Nat) : Int) (by omega) dL_law_245 ?_
  refine ev_sld (pc := 246) hC hSx (i + 1) rfl (by omega) hL dL_law_246 ?_
  refine ev_callV (pc := 247) (as := [vi (xs (i + 1)).toInt]) (rest := [vi (sp2 (xs (i + 1)).toInt V).1]) hC gL_law_X6_depth mtX6_depth dL_law_247 (ru_X6_depth hm1 (xs (i + 1)).toInt (i32r _)) (by decide) (by decide) (by decide) rfl (by rfl) (Nat.le_of_ble_eq_true rfl) rfl (fun v247 X247 h247 => ?_)
  obtain ⟨rfl, hm2, hf2⟩ := h247
  have hc2 := cI_frM hc1 hf2
  show Ev K 250 [some (.ref 44), some (.ref 0), some (.ref 29), some (vi ((i : Nat) : Int))] [vi (sp2 (xs (i + 1)).toInt V).1, vi (sp2 (xs (i + 1)).toInt V).1] X247
  refine ev_isame (pc := 250) hC 1159 dL_law_250 (by decide) ?_
  exact hk _ _ hc2 hm2
set_option maxRecDepth 100000 in
set_option maxHeartbeats 4000000 in
theorem law_c3 {K : Kx} {Ln : Nat} {xs : Nat → Int32} (hKn : K.2.2.2.2.1 = 4) (hC : Cx K RL cL_law wsL_law 14 544) (hSx : Sx K Ln xs) (hL : Ln ≤ 2048) {i : Nat} (hi : i + 4 ≤ Ln) {V : St} {X : Mem} (hc : cI X V) (hm : mI X V) (hk : ∀ (W : St) (Y : Mem), cI Y W → mI Y W → Ev K 1159 [some (.ref 44), some (.ref 0), some (.ref 29), some (vi ((i : Nat) : Int))] [] Y) : Ev K 255 [some (.ref 44), some (.ref 0), some (.ref 29), some (vi ((i : Nat) : Int))] [] X := by
  refine ev_aload_n (pc := 255) hC dL_law_255 rfl ?_
  refine ev_aload_n (pc := 256) hC dL_law_256 rfl ?_
  refine ev_iload_n (pc := 257) hC dL_law_257 rfl ?_
  refine ev_iconst (pc := 258) hC dL_law_258 ?_
  refine ev_iadd (pc := 259) hC ((i + 1 : Nat) : Int) (by omega) dL_law_259 ?_
  refine ev_sld (pc := 260) hC hSx (i + 1) rfl (by omega) hL dL_law_260 ?_
  refine ev_aload_n (pc := 261) hC dL_law_261 rfl ?_
  refine ev_iload_n (pc := 262) hC dL_law_262 rfl ?_
  refine ev_iconst (pc := 263) hC dL_law_263 ?_
  refine ev_iadd (pc := 264) hC ((i + 2 : Nat) : Int) (by omega) dL_law_264 ?_
  refine ev_sld (pc := 265) hC hSx (i + 2) rfl (by omega) hL dL_law_265 ?_
  refine ev_callV (pc := 266) (as := [vi (xs (i + 1)).toInt, vi (xs (i + 2)).toInt]) (rest := []) hC gL_law_X5_person mtX5_person dL_law_266 (ru_X5_person hc (xs (i + 1)).toInt (i32r _) (xs (i + 2)).toInt (i32r _)) (by decide) (by decide) (by decide) rfl (by rfl) (Nat.le_of_ble_eq_true rfl) rfl (fun v266 X266 h266 => ?_)
  obtain ⟨rfl, hc1, hf1⟩ := h266
  have hm1 := mI_frC hm hf1
  show Ev K 269 [some (.ref 44), some (.ref 0), some (.ref 29), some (vi ((i : Nat) : Int))] [vi (sp3 (xs (i + 1)).toInt (xs (i + 2)).toInt V).1] X266
  refine ev_aload_n (pc := 269) hC dL_law_269 rfl ?_
  refine ev_aload_n (pc := 270) hC dL_law_270 rfl ?_
  refine ev_iload_n (pc := 271) hC dL_law_271 rfl ?_
  refine ev_iconst (pc := 272) hC dL_law_272 ?_
  refine ev_iadd (pc := 273) hC ((i + 1 : Nat) : Int) (by omega) dL_law_273 ?_
  refine ev_sld (pc := 274) hC hSx (i + 1) rfl (by omega) hL dL_law_274 ?_
  refine ev_aload_n (pc := 275) hC dL_law_275 rfl ?_
  refine ev_iload_n (pc := 276) hC dL_law_276 rfl ?_
  refine ev_iconst (pc := 277) hC dL_law_277 ?_
  refine ev_iadd (pc := 278) hC ((i + 2 : Nat) : Int) (by omega) dL_law_278 ?_
  refine ev_sld (pc := 279) hC hSx (i + 2) rfl (by omega) hL dL_law_279 ?_
  refine ev_callV (pc := 280) (as := [vi (xs (i + 1)).toInt, vi (xs (i + 2)).toInt]) (rest := [vi (sp3 (xs (i + 1)).toInt (xs (i + 2)).toInt V).1]) hC gL_law_X6_person mtX6_person dL_law_280 (ru_X6_person hm1 (xs (i + 1)).toInt (i32r _) (xs (i + 2)).toInt (i32r _)) (by decide) (by decide) (by decide) rfl (by rfl) (Nat.le_of_ble_eq_true rfl) rfl (fun v280 X280 h280 => ?_)
  obtain ⟨rfl, hm2, hf2⟩ := h280
  have hc2 := cI_frM hc1 hf2
  show Ev K 283 [some (.ref 44), some (.ref 0), some (.ref 29), some (vi ((i : Nat) : Int))] [vi (sp3 (xs (i + 1)).toInt (xs (i + 2)).toInt V).1, vi (sp3 (xs (i + 1)).toInt (xs (i + 2)).toInt V).1] X280
  refine ev_isame (pc := 283) hC 1159 dL_law_283 (by decide) ?_
  exact hk _ _ hc2 hm2
set_option maxRecDepth 100000 in
set_option maxHeartbeats 4000000 in
theorem law_c4 {K : Kx} {Ln : Nat} {xs : Nat → Int32} (hKn : K.2.2.2.2.1 = 4) (hC : Cx K RL cL_law wsL_law 14 544) (hSx : Sx K Ln xs) (hL : Ln ≤ 2048) {i : Nat} (hi : i + 4 ≤ Ln) {V : St} {X : Mem} (hc : cI X V) (hm : mI X V) (hk : ∀ (W : St) (Y : Mem), cI Y W → mI Y W → Ev K 1159 [some (.ref 44), some (.ref 0), some (.ref 29), some (vi ((i : Nat) : Int))] [] Y) : Ev K 288 [some (.ref 44), some (.ref 0), some (.ref 29), some (vi ((i : Nat) : Int))] [] X := by
  refine ev_aload_n (pc := 288) hC dL_law_288 rfl ?_
  refine ev_callV (pc := 289) (as := []) (rest := []) hC gL_law_X5_place mtX5_place dL_law_289 (ru_X5_place hc) (by decide) (by decide) (by decide) rfl (by rfl) (Nat.le_of_ble_eq_true rfl) rfl (fun v289 X289 h289 => ?_)
  obtain ⟨rfl, hc1, hf1⟩ := h289
  have hm1 := mI_frC hm hf1
  show Ev K 292 [some (.ref 44), some (.ref 0), some (.ref 29), some (vi ((i : Nat) : Int))] [vi (sp4 V).1] X289
  refine ev_aload_n (pc := 292) hC dL_law_292 rfl ?_
  refine ev_callV (pc := 293) (as := []) (rest := [vi (sp4 V).1]) hC gL_law_X6_place mtX6_place dL_law_293 (ru_X6_place hm1) (by decide) (by decide) (by decide) rfl (by rfl) (Nat.le_of_ble_eq_true rfl) rfl (fun v293 X293 h293 => ?_)
  obtain ⟨rfl, hm2, hf2⟩ := h293
  have hc2 := cI_frM hc1 hf2
  show Ev K 296 [some (.ref 44), some (.ref 0), some (.ref 29), some (vi ((i : Nat) : Int))] [vi (sp4 V).1, vi (sp4 V).1] X293
  refine ev_isame (pc := 296) hC 1159 dL_law_296 (by decide) ?_
  exact hk _ _ hc2 hm2
set_option maxRecDepth 100000 in
set_option maxHeartbeats 4000000 in
theorem law_c5 {K : Kx} {Ln : Nat} {xs : Nat → Int32} (hKn : K.2.2.2.2.1 = 4) (hC : Cx K RL cL_law wsL_law 14 544) (hSx : Sx K Ln xs) (hL : Ln ≤ 2048) {i : Nat} (hi : i + 4 ≤ Ln) {V : St} {X : Mem} (hc : cI X V) (hm : mI X V) (hk : ∀ (W : St) (Y : Mem), cI Y W → mI Y W → Ev K 1159 [some (.ref 44), some (.ref 0), some (.ref 29), some (vi ((i : Nat) : Int))] [] Y) : Ev K 301 [some (.ref 44), some (.ref 0), some (.ref 29), some (vi ((i : Nat) : Int))] [] X := by
  refine ev_aload_n (pc := 301) hC dL_law_301 rfl ?_
  refine ev_aload_n (pc := 302) hC dL_law_302 rfl ?_
  refine ev_iload_n (pc := 303) hC dL_law_303 rfl ?_
  refine ev_iconst (pc := 304) hC dL_law_304 ?_
  refine ev_iadd (pc := 305) hC ((i + 1 : Nat) : Int) (by omega) dL_law_305 ?_
  refine ev_sld (pc := 306) hC hSx (i + 1) rfl (by omega) hL dL_law_306 ?_
  refine ev_aload_n (pc := 307) hC dL_law_307 rfl ?_
  refine ev_iload_n (pc := 308) hC dL_law_308 rfl ?_
  refine ev_iconst (pc := 309) hC dL_law_309 ?_
  refine ev_iadd (pc := 310) hC ((i + 2 : Nat) : Int) (by omega) dL_law_310 ?_
  refine ev_sld (pc := 311) hC hSx (i + 2) rfl (by omega) hL dL_law_311 ?_
  refine ev_callV (pc := 312) (as := [vi (xs (i + 1)).toInt, vi (xs (i + 2)).toInt]) (rest := []) hC gL_law_X5_digs mtX5_digs dL_law_312 (ru_X5_digs hc (xs (i + 1)).toInt (i32r _) (xs (i + 2)).toInt (i32r _)) (by decide) (by decide) (by decide) rfl (by rfl) (Nat.le_of_ble_eq_true rfl) rfl (fun v312 X312 h312 => ?_)
  obtain ⟨rfl, hc1, hf1⟩ := h312
  have hm1 := mI_frC hm hf1
  show Ev K 315 [some (.ref 44), some (.ref 0), some (.ref 29), some (vi ((i : Nat) : Int))] [vi (sp5 (xs (i + 1)).toInt (xs (i + 2)).toInt V).1] X312
  refine ev_aload_n (pc := 315) hC dL_law_315 rfl ?_
  refine ev_aload_n (pc := 316) hC dL_law_316 rfl ?_
  refine ev_iload_n (pc := 317) hC dL_law_317 rfl ?_
  refine ev_iconst (pc := 318) hC dL_law_318 ?_
  refine ev_iadd (pc := 319) hC ((i + 1 : Nat) : Int) (by omega) dL_law_319 ?_
  refine ev_sld (pc := 320) hC hSx (i + 1) rfl (by omega) hL dL_law_320 ?_
  refine ev_aload_n (pc := 321) hC dL_law_321 rfl ?_
  refine ev_iload_n (pc := 322) hC dL_law_322 rfl ?_
  refine ev_iconst (pc := 323) hC dL_law_323 ?_
  refine ev_iadd (pc := 324) hC ((i + 2 : Nat) : Int) (by omega) dL_law_324 ?_
  refine ev_sld (pc := 325) hC hSx (i + 2) rfl (by omega) hL dL_law_325 ?_
  refine ev_callV (pc := 326) (as := [vi (xs (i + 1)).toInt, vi (xs (i + 2)).toInt]) (rest := [vi (sp5 (xs (i + 1)).toInt (xs (i + 2)).toInt V).1]) hC gL_law_X6_digs mtX6_digs dL_law_326 (ru_X6_digs hm1 (xs (i + 1)).toInt (i32r _) (xs (i + 2)).toInt (i32r _)) (by decide) (by decide) (by decide) rfl (by rfl) (Nat.le_of_ble_eq_true rfl) rfl (fun v326 X326 h326 => ?_)
  obtain ⟨rfl, hm2, hf2⟩ := h326
  have hc2 := cI_frM hc1 hf2
  show Ev K 329 [some (.ref 44), some (.ref 0), some (.ref 29), some (vi ((i : Nat) : Int))] [vi (sp5 (xs (i + 1)).toInt (xs (i + 2)).toInt V).1, vi (sp5 (xs (i + 1)).toInt (xs (i + 2)).toInt V).1] X326
  refine ev_isame (pc := 329) hC 1159 dL_law_329 (by decide) ?_
  exact hk _ _ hc2 hm2
set_option maxRecDepth 100000 in
set_option maxHeartbeats 4000000 in
theorem law_c6 {K : Kx} {Ln : Nat} {xs : Nat → Int32} (hKn : K.2.2.2.2.1 = 4) (hC : Cx K RL cL_law wsL_law 14 544) (hSx : Sx K Ln xs) (hL : Ln ≤ 2048) {i : Nat} (hi : i + 4 ≤ Ln) {V : St} {X : Mem} (hc : cI X V) (hm : mI X V) (hk : ∀ (W : St) (Y : Mem), cI Y W → mI Y W → Ev K 1159 [some (.ref 44), some (.ref 0), some (.ref 29), some (vi ((i : Nat) : Int))] [] Y) : Ev K 334 [some (.ref 44), some (.ref 0), some (.ref 29), some (vi ((i : Nat) : Int))] [] X := by
  refine ev_aload_n (pc := 334) hC dL_law_334 rfl ?_
  refine ev_aload_n (pc := 335) hC dL_law_335 rfl ?_
  refine ev_iload_n (pc := 336) hC dL_law_336 rfl ?_
  refine ev_iconst (pc := 337) hC dL_law_337 ?_
  refine ev_iadd (pc := 338) hC ((i + 1 : Nat) : Int) (by omega) dL_law_338 ?_
  refine ev_sld (pc := 339) hC hSx (i + 1) rfl (by omega) hL dL_law_339 ?_
  refine ev_aload_n (pc := 340) hC dL_law_340 rfl ?_
  refine ev_iload_n (pc := 341) hC dL_law_341 rfl ?_
  refine ev_iconst (pc := 342) hC dL_law_342 ?_
  refine ev_iadd (pc := 343) hC ((i + 2 : Nat) : Int) (by omega) dL_law_343 ?_
  refine ev_sld (pc := 344) hC hSx (i + 2) rfl (by omega) hL dL_law_344 ?_
  refine ev_callV (pc := 345) (as := [vi (xs (i + 1)).toInt, vi (xs (i + 2)).toInt]) (rest := []) hC gL_law_X5_believes mtX5_believes dL_law_345 (ru_X5_believes hc (xs (i + 1)).toInt (i32r _) (xs (i + 2)).toInt (i32r _)) (by decide) (by decide) (by decide) rfl (by rfl) (Nat.le_of_ble_eq_true rfl) rfl (fun v345 X345 h345 => ?_)
  obtain ⟨rfl, hc1, hf1⟩ := h345
  have hm1 := mI_frC hm hf1
  show Ev K 348 [some (.ref 44), some (.ref 0), some (.ref 29), some (vi ((i : Nat) : Int))] [vi (sp6 (xs (i + 1)).toInt (xs (i + 2)).toInt V).1] X345
  refine ev_aload_n (pc := 348) hC dL_law_348 rfl ?_
  refine ev_aload_n (pc := 349) hC dL_law_349 rfl ?_
  refine ev_iload_n (pc := 350) hC dL_law_350 rfl ?_
  refine ev_iconst (pc := 351) hC dL_law_351 ?_
  refine ev_iadd (pc := 352) hC ((i + 1 : Nat) : Int) (by omega) dL_law_352 ?_
  refine ev_sld (pc := 353) hC hSx (i + 1) rfl (by omega) hL dL_law_353 ?_
  refine ev_aload_n (pc := 354) hC dL_law_354 rfl ?_
  refine ev_iload_n (pc := 355) hC dL_law_355 rfl ?_
  refine ev_iconst (pc := 356) hC dL_law_356 ?_
  refine ev_iadd (pc := 357) hC ((i + 2 : Nat) : Int) (by omega) dL_law_357 ?_
  refine ev_sld (pc := 358) hC hSx (i + 2) rfl (by omega) hL dL_law_358 ?_
  refine ev_callV (pc := 359) (as := [vi (xs (i + 1)).toInt, vi (xs (i + 2)).toInt]) (rest := [vi (sp6 (xs (i + 1)).toInt (xs (i + 2)).toInt V).1]) hC gL_law_X6_believes mtX6_believes dL_law_359 (ru_X6_believes hm1 (xs (i + 1)).toInt (i32r _) (xs (i + 2)).toInt (i32r _)) (by decide) (by decide) (by decide) rfl (by rfl) (Nat.le_of_ble_eq_true rfl) rfl (fun v359 X359 h359 => ?_)
  obtain ⟨rfl, hm2, hf2⟩ := h359
  have hc2 := cI_frM hc1 hf2
  show Ev K 362 [some (.ref 44), some (.ref 0), some (.ref 29), some (vi ((i : Nat) : Int))] [vi (sp6 (xs (i + 1)).toInt (xs (i + 2)).toInt V).1, vi (sp6 (xs (i + 1)).toInt (xs (i + 2)).toInt V).1] X359
  refine ev_isame (pc := 362) hC 1159 dL_law_362 (by decide) ?_
  exact hk _ _ hc2 hm2
set_option maxRecDepth 100000 in
set_option maxHeartbeats 4000000 in
theorem law_c7 {K : Kx} {Ln : Nat} {xs : Nat → Int32} (hKn : K.2.2.2.2.1 = 4) (hC : Cx K RL cL_law wsL_law 14 544) (hSx : Sx K Ln xs) (hL : Ln ≤ 2048) {i : Nat} (hi : i + 4 ≤ Ln) {V : St} {X : Mem} (hc : cI X V) (hm : mI X V) (hk : ∀ (W : St) (Y : Mem), cI Y W → mI Y W → Ev K 1159 [some (.ref 44), some (.ref 0), some (.ref 29), some (vi ((i : Nat) : Int))] [] Y) : Ev K 367 [some (.ref 44), some (.ref 0), some (.ref 29), some (vi ((i : Nat) : Int))] [] X := by
  refine ev_aload_n (pc := 367) hC dL_law_367 rfl ?_
  refine ev_aload_n (pc := 368) hC dL_law_368 rfl ?_
  refine ev_iload_n (pc := 369) hC dL_law_369 rfl ?_
  refine ev_iconst (pc := 370) hC dL_law_370 ?_
  refine ev_iadd (pc := 371) hC ((i + 1 : Nat) : Int) (by omega) dL_law_371 ?_
  refine ev_sld (pc := 372) hC hSx (i + 1) rfl (by omega) hL dL_law_372 ?_
  refine ev_aload_n (pc := 373) hC dL_law_373 rfl ?_
  refine ev_iload_n (pc := 374) hC dL_law_374 rfl ?_
  refine ev_iconst (pc := 375) hC dL_law_375 ?_
  refine ev_iadd (pc := 376) hC ((i + 2 : Nat) : Int) (by omega) dL_law_376 ?_
  refine ev_sld (pc := 377) hC hSx (i + 2) rfl (by omega) hL dL_law_377 ?_
  refine ev_callV (pc := 378) (as := [vi (xs (i + 1)).toInt, vi (xs (i + 2)).toInt]) (rest := []) hC gL_law_X5_sits mtX5_sits dL_law_378 (ru_X5_sits hc (xs (i + 1)).toInt (i32r _) (xs (i + 2)).toInt (i32r _)) (by decide) (by decide) (by decide) rfl (by rfl) (Nat.le_of_ble_eq_true rfl) rfl (fun v378 X378 h378 => ?_)
  obtain ⟨rfl, hc1, hf1⟩ := h378
  have hm1 := mI_frC hm hf1
  show Ev K 381 [some (.ref 44), some (.ref 0), some (.ref 29), some (vi ((i : Nat) : Int))] [vi (sp7 (xs (i + 1)).toInt (xs (i + 2)).toInt V).1] X378
  refine ev_aload_n (pc := 381) hC dL_law_381 rfl ?_
  refine ev_aload_n (pc := 382) hC dL_law_382 rfl ?_
  refine ev_iload_n (pc := 383) hC dL_law_383 rfl ?_
  refine ev_iconst (pc := 384) hC dL_law_384 ?_
  refine ev_iadd (pc := 385) hC ((i + 1 : Nat) : Int) (by omega) dL_law_385 ?_
  refine ev_sld (pc := 386) hC hSx (i + 1) rfl (by omega) hL dL_law_386 ?_
  refine ev_aload_n (pc := 387) hC dL_law_387 rfl ?_
  refine ev_iload_n (pc := 388) hC dL_law_388 rfl ?_
  refine ev_iconst (pc := 389) hC dL_law_389 ?_
  refine ev_iadd (pc := 390) hC ((i + 2 : Nat) : Int) (by omega) dL_law_390 ?_
  refine ev_sld (pc := 391) hC hSx (i + 2) rfl (by omega) hL dL_law_391 ?_
  refine ev_callV (pc := 392) (as := [vi (xs (i + 1)).toInt, vi (xs (i + 2)).toInt]) (rest := [vi (sp7 (xs (i + 1)).toInt (xs (i + 2)).toInt V).1]) hC gL_law_X6_sits mtX6_sits dL_law_392 (ru_X6_sits hm1 (xs (i + 1)).toInt (i32r _) (xs (i + 2)).toInt (i32r _)) (by decide) (by decide) (by decide) rfl (by rfl) (Nat.le_of_ble_eq_true rfl) rfl (fun v392 X392 h392 => ?_)
  obtain ⟨rfl, hm2, hf2⟩ := h392
  have hc2 := cI_frM hc1 hf2
  show Ev K 395 [some (.ref 44), some (.ref 0), some (.ref 29), some (vi ((i : Nat) : Int))] [vi (sp7 (xs (i + 1)).toInt (xs (i + 2)).toInt V).1, vi (sp7 (xs (i + 1)).toInt (xs (i + 2)).toInt V).1] X392
  refine ev_isame (pc := 395) hC 1159 dL_law_395 (by decide) ?_
  exact hk _ _ hc2 hm2
set_option maxRecDepth 100000 in
set_option maxHeartbeats 4000000 in
theorem law_c8 {K : Kx} {Ln : Nat} {xs : Nat → Int32} (hKn : K.2.2.2.2.1 = 4) (hC : Cx K RL cL_law wsL_law 14 544) (hSx : Sx K Ln xs) (hL : Ln ≤ 2048) {i : Nat} (hi : i + 4 ≤ Ln) {V : St} {X : Mem} (hc : cI X V) (hm : mI X V) (hk : ∀ (W : St) (Y : Mem), cI Y W → mI Y W → Ev K 1159 [some (.ref 44), some (.ref 0), some (.ref 29), some (vi ((i : Nat) : Int))] [] Y) : Ev K 400 [some (.ref 44), some (.ref 0), some (.ref 29), some (vi ((i : Nat) : Int))] [] X := by
  refine ev_aload_n (pc := 400) hC dL_law_400 rfl ?_
  refine ev_aload_n (pc := 401) hC dL_law_401 rfl ?_
  refine ev_iload_n (pc := 402) hC dL_law_402 rfl ?_
  refine ev_iconst (pc := 403) hC dL_law_403 ?_
  refine ev_iadd (pc := 404) hC ((i + 1 : Nat) : Int) (by omega) dL_law_404 ?_
  refine ev_sld (pc := 405) hC hSx (i + 1) rfl (by omega) hL dL_law_405 ?_
  refine ev_aload_n (pc := 406) hC dL_law_406 rfl ?_
  refine ev_iload_n (pc := 407) hC dL_law_407 rfl ?_
  refine ev_iconst (pc := 408) hC dL_law_408 ?_
  refine ev_iadd (pc := 409) hC ((i + 2 : Nat) : Int) (by omega) dL_law_409 ?_
  refine ev_sld (pc := 410) hC hSx (i + 2) rfl (by omega) hL dL_law_410 ?_
  refine ev_aload_n (pc := 411) hC dL_law_411 rfl ?_
  refine ev_iload_n (pc := 412) hC dL_law_412 rfl ?_
  refine ev_iconst (pc := 413) hC dL_law_413 ?_
  refine ev_iadd (pc := 414) hC ((i + 3 : Nat) : Int) (by omega) dL_law_414 ?_
  refine ev_sld (pc := 415) hC hSx (i + 3) rfl (by omega) hL dL_law_415 ?_
  refine ev_callV (pc := 416) (as := [vi (xs (i + 1)).toInt, vi (xs (i + 2)).toInt, vi (xs (i + 3)).toInt]) (rest := []) hC gL_law_X5_turn mtX5_turn dL_law_416 (ru_X5_turn hc (xs (i + 1)).toInt (i32r _) (xs (i + 2)).toInt (i32r _) (xs (i + 3)).toInt (i32r _)) (by decide) (by decide) (by decide) rfl (by rfl) (Nat.le_of_ble_eq_true rfl) rfl (fun v416 X416 h416 => ?_)
  obtain ⟨rfl, hc1, hf1⟩ := h416
  have hm1 := mI_frC hm hf1
  show Ev K 419 [some (.ref 44), some (.ref 0), some (.ref 29), some (vi ((i : Nat) : Int))] [vi (sp8 (xs (i + 1)).toInt (xs (i + 2)).toInt (xs (i + 3)).toInt V).1] X416
  refine ev_aload_n (pc := 419) hC dL_law_419 rfl ?_
  refine ev_aload_n (pc := 420) hC dL_law_420 rfl ?_
  refine ev_iload_n (pc := 421) hC dL_law_421 rfl ?_
  refine ev_iconst (pc := 422) hC dL_law_422 ?_
  refine ev_iadd (pc := 423) hC ((i + 1 : Nat) : Int) (by omega) dL_law_423 ?_
  refine ev_sld (pc := 424) hC hSx (i + 1) rfl (by omega) hL dL_law_424 ?_
  refine ev_aload_n (pc := 425) hC dL_law_425 rfl ?_
  refine ev_iload_n (pc := 426) hC dL_law_426 rfl ?_
  refine ev_iconst (pc := 427) hC dL_law_427 ?_
  refine ev_iadd (pc := 428) hC ((i + 2 : Nat) : Int) (by omega) dL_law_428 ?_
  refine ev_sld (pc := 429) hC hSx (i + 2) rfl (by omega) hL dL_law_429 ?_
  refine ev_aload_n (pc := 430) hC dL_law_430 rfl ?_
  refine ev_iload_n (pc := 431) hC dL_law_431 rfl ?_
  refine ev_iconst (pc := 432) hC dL_law_432 ?_
  refine ev_iadd (pc := 433) hC ((i + 3 : Nat) : Int) (by omega) dL_law_433 ?_
  refine ev_sld (pc := 434) hC hSx (i + 3) rfl (by omega) hL dL_law_434 ?_
  refine ev_callV (pc := 435) (as := [vi (xs (i + 1)).toInt, vi (xs (i + 2)).toInt, vi (xs (i + 3)).toInt]) (rest := [vi (sp8 (xs (i + 1)).toInt (xs (i + 2)).toInt (xs (i + 3)).toInt V).1]) hC gL_law_X6_turn mtX6_turn dL_law_435 (ru_X6_turn hm1 (xs (i + 1)).toInt (i32r _) (xs (i + 2)).toInt (i32r _) (xs (i + 3)).toInt (i32r _)) (by decide) (by decide) (by decide) rfl (by rfl) (Nat.le_of_ble_eq_true rfl) rfl (fun v435 X435 h435 => ?_)
  obtain ⟨rfl, hm2, hf2⟩ := h435
  have hc2 := cI_frM hc1 hf2
  show Ev K 438 [some (.ref 44), some (.ref 0), some (.ref 29), some (vi ((i : Nat) : Int))] [vi (sp8 (xs (i + 1)).toInt (xs (i + 2)).toInt (xs (i + 3)).toInt V).1, vi (sp8 (xs (i + 1)).toInt (xs (i + 2)).toInt (xs (i + 3)).toInt V).1] X435
  refine ev_isame (pc := 438) hC 1159 dL_law_438 (by decide) ?_
  exact hk _ _ hc2 hm2
set_option maxRecDepth 100000 in
set_option maxHeartbeats 4000000 in
theorem law_c9 {K : Kx} {Ln : Nat} {xs : Nat → Int32} (hKn : K.2.2.2.2.1 = 4) (hC : Cx K RL cL_law wsL_law 14 544) (hSx : Sx K Ln xs) (hL : Ln ≤ 2048) {i : Nat} (hi : i + 4 ≤ Ln) {V : St} {X : Mem} (hc : cI X V) (hm : mI X V) (hk : ∀ (W : St) (Y : Mem), cI Y W → mI Y W → Ev K 1159 [some (.ref 44), some (.ref 0), some (.ref 29), some (vi ((i : Nat) : Int))] [] Y) : Ev K 443 [some (.ref 44), some (.ref 0), some (.ref 29), some (vi ((i : Nat) : Int))] [] X := by
  refine ev_aload_n (pc := 443) hC dL_law_443 rfl ?_
  refine ev_aload_n (pc := 444) hC dL_law_444 rfl ?_
  refine ev_iload_n (pc := 445) hC dL_law_445 rfl ?_
  refine ev_iconst (pc := 446) hC dL_law_446 ?_
  refine ev_iadd (pc := 447) hC ((i + 1 : Nat) : Int) (by omega) dL_law_447 ?_
  refine ev_sld (pc := 448) hC hSx (i + 1) rfl (by omega) hL dL_law_448 ?_
  refine ev_callV (pc := 449) (as := [vi (xs (i + 1)).toInt]) (rest := []) hC gL_law_X5_years mtX5_years dL_law_449 (ru_X5_years hc (xs (i + 1)).toInt (i32r _)) (by decide) (by decide) (by decide) rfl (by rfl) (Nat.le_of_ble_eq_true rfl) rfl (fun v449 X449 h449 => ?_)
  obtain ⟨rfl, hc1, hf1⟩ := h449
  have hm1 := mI_frC hm hf1
  show Ev K 452 [some (.ref 44), some (.ref 0), some (.ref 29), some (vi ((i : Nat) : Int))] [vi (sp9 (xs (i + 1)).toInt V).1] X449
  refine ev_aload_n (pc := 452) hC dL_law_452 rfl ?_
  refine ev_aload_n (pc := 453) hC dL_law_453 rfl ?_
  refine ev_iload_n (pc := 454) hC dL_law_454 rfl ?_
  refine ev_iconst (pc := 455) hC dL_law_455 ?_
  refine ev_iadd (pc := 456) hC ((i + 1 : Nat) : Int) (by omega) dL_law_456 ?_
  refine ev_sld (pc := 457) hC hSx (i + 1) rfl (by omega) hL dL_law_457 ?_
  refine ev_callV (pc := 458) (as := [vi (xs (i + 1)).toInt]) (rest := [vi (sp9 (xs (i + 1)).toInt V).1]) hC gL_law_X6_years mtX6_years dL_law_458 (ru_X6_years hm1 (xs (i + 1)).toInt (i32r _)) (by decide) (by decide) (by decide) rfl (by rfl) (Nat.le_of_ble_eq_true rfl) rfl (fun v458 X458 h458 => ?_)
  obtain ⟨rfl, hm2, hf2⟩ := h458
  have hc2 := cI_frM hc1 hf2
  show Ev K 461 [some (.ref 44), some (.ref 0), some (.ref 29), some (vi ((i : Nat) : Int))] [vi (sp9 (xs (i + 1)).toInt V).1, vi (sp9 (xs (i + 1)).toInt V).1] X458
  refine ev_isame (pc := 461) hC 1159 dL_law_461 (by decide) ?_
  exact hk _ _ hc2 hm2
set_option maxRecDepth 100000 in
set_option maxHeartbeats 4000000 in
theorem law_c10 {K : Kx} {Ln : Nat} {xs : Nat → Int32} (hKn : K.2.2.2.2.1 = 4) (hC : Cx K RL cL_law wsL_law 14 544) (hSx : Sx K Ln xs) (hL : Ln ≤ 2048) {i : Nat} (hi : i + 4 ≤ Ln) {V : St} {X : Mem} (hc : cI X V) (hm : mI X V) (hk : ∀ (W : St) (Y : Mem), cI Y W → mI Y W → Ev K 1159 [some (.ref 44), some (.ref 0), some (.ref 29), some (vi ((i : Nat) : Int))] [] Y) : Ev K 466 [some (.ref 44), some (.ref 0), some (.ref 29), some (vi ((i : Nat) : Int))] [] X := by
  refine ev_aload_n (pc := 466) hC dL_law_466 rfl ?_
  refine ev_aload_n (pc := 467) hC dL_law_467 rfl ?_
  refine ev_iload_n (pc := 468) hC dL_law_468 rfl ?_
  refine ev_iconst (pc := 469) hC dL_law_469 ?_
  refine ev_iadd (pc := 470) hC ((i + 1 : Nat) : Int) (by omega) dL_law_470 ?_
  refine ev_sld (pc := 471) hC hSx (i + 1) rfl (by omega) hL dL_law_471 ?_
  refine ev_aload_n (pc := 472) hC dL_law_472 rfl ?_
  refine ev_iload_n (pc := 473) hC dL_law_473 rfl ?_
  refine ev_iconst (pc := 474) hC dL_law_474 ?_
  refine ev_iadd (pc := 475) hC ((i + 2 : Nat) : Int) (by omega) dL_law_475 ?_
  refine ev_sld (pc := 476) hC hSx (i + 2) rfl (by omega) hL dL_law_476 ?_
  refine ev_aload_n (pc := 477) hC dL_law_477 rfl ?_
  refine ev_iload_n (pc := 478) hC dL_law_478 rfl ?_
  refine ev_iconst (pc := 479) hC dL_law_479 ?_
  refine ev_iadd (pc := 480) hC ((i + 3 : Nat) : Int) (by omega) dL_law_480 ?_
  refine ev_sld (pc := 481) hC hSx (i + 3) rfl (by omega) hL dL_law_481 ?_
  refine ev_callV (pc := 482) (as := [vi (xs (i + 1)).toInt, vi (xs (i + 2)).toInt, vi (xs (i + 3)).toInt]) (rest := []) hC gL_law_X5_behind mtX5_behind dL_law_482 (ru_X5_behind hc (xs (i + 1)).toInt (i32r _) (xs (i + 2)).toInt (i32r _) (xs (i + 3)).toInt (i32r _)) (by decide) (by decide) (by decide) rfl (by rfl) (Nat.le_of_ble_eq_true rfl) rfl (fun v482 X482 h482 => ?_)
  obtain ⟨rfl, hc1, hf1⟩ := h482
  have hm1 := mI_frC hm hf1
  show Ev K 485 [some (.ref 44), some (.ref 0), some (.ref 29), some (vi ((i : Nat) : Int))] [vi (sp10 (xs (i + 1)).toInt (xs (i + 2)).toInt (xs (i + 3)).toInt V).1] X482
  refine ev_aload_n (pc := 485) hC dL_law_485 rfl ?_
  refine ev_aload_n (pc := 486) hC dL_law_486 rfl ?_
  refine ev_iload_n (pc := 487) hC dL_law_487 rfl ?_
  refine ev_iconst (pc := 488) hC dL_law_488 ?_
  refine ev_iadd (pc := 489) hC ((i + 1 : Nat) : Int) (by omega) dL_law_489 ?_
  refine ev_sld (pc := 490) hC hSx (i + 1) rfl (by omega) hL dL_law_490 ?_
  refine ev_aload_n (pc := 491) hC dL_law_491 rfl ?_
  refine ev_iload_n (pc := 492) hC dL_law_492 rfl ?_
  refine ev_iconst (pc := 493) hC dL_law_493 ?_
  refine ev_iadd (pc := 494) hC ((i + 2 : Nat) : Int) (by omega) dL_law_494 ?_
  refine ev_sld (pc := 495) hC hSx (i + 2) rfl (by omega) hL dL_law_495 ?_
  refine ev_aload_n (pc := 496) hC dL_law_496 rfl ?_
  refine ev_iload_n (pc := 497) hC dL_law_497 rfl ?_
  refine ev_iconst (pc := 498) hC dL_law_498 ?_
  refine ev_iadd (pc := 499) hC ((i + 3 : Nat) : Int) (by omega) dL_law_499 ?_
  refine ev_sld (pc := 500) hC hSx (i + 3) rfl (by omega) hL dL_law_500 ?_
  refine ev_callV (pc := 501) (as := [vi (xs (i + 1)).toInt, vi (xs (i + 2)).toInt, vi (xs (i + 3)).toInt]) (rest := [vi (sp10 (xs (i + 1)).toInt (xs (i + 2)).toInt (xs (i + 3)).toInt V).1]) hC gL_law_X6_behind mtX6_behind dL_law_501 (ru_X6_behind hm1 (xs (i + 1)).toInt (i32r _) (xs (i + 2)).toInt (i32r _) (xs (i + 3)).toInt (i32r _)) (by decide) (by decide) (by decide) rfl (by rfl) (Nat.le_of_ble_eq_true rfl) rfl (fun v501 X501 h501 => ?_)
  obtain ⟨rfl, hm2, hf2⟩ := h501
  have hc2 := cI_frM hc1 hf2
  show Ev K 504 [some (.ref 44), some (.ref 0), some (.ref 29), some (vi ((i : Nat) : Int))] [vi (sp10 (xs (i + 1)).toInt (xs (i + 2)).toInt (xs (i + 3)).toInt V).1, vi (sp10 (xs (i + 1)).toInt (xs (i + 2)).toInt (xs (i + 3)).toInt V).1] X501
  refine ev_isame (pc := 504) hC 1159 dL_law_504 (by decide) ?_
  exact hk _ _ hc2 hm2
set_option maxRecDepth 100000 in
set_option maxHeartbeats 4000000 in
theorem law_c11 {K : Kx} {Ln : Nat} {xs : Nat → Int32} (hKn : K.2.2.2.2.1 = 4) (hC : Cx K RL cL_law wsL_law 14 544) (hSx : Sx K Ln xs) (hL : Ln ≤ 2048) {i : Nat} (hi : i + 4 ≤ Ln) {V : St} {X : Mem} (hc : cI X V) (hm : mI X V) (hk : ∀ (W : St) (Y : Mem), cI Y W → mI Y W → Ev K 1159 [some (.ref 44), some (.ref 0), some (.ref 29), some (vi ((i : Nat) : Int))] [] Y) : Ev K 509 [some (.ref 44), some (.ref 0), some (.ref 29), some (vi ((i : Nat) : Int))] [] X := by
  refine ev_aload_n (pc := 509) hC dL_law_509 rfl ?_
  refine ev_aload_n (pc := 510) hC dL_law_510 rfl ?_
  refine ev_iload_n (pc := 511) hC dL_law_511 rfl ?_
  refine ev_iconst (pc := 512) hC dL_law_512 ?_
  refine ev_iadd (pc := 513) hC ((i + 1 : Nat) : Int) (by omega) dL_law_513 ?_
  refine ev_sld (pc := 514) hC hSx (i + 1) rfl (by omega) hL dL_law_514 ?_
  refine ev_aload_n (pc := 515) hC dL_law_515 rfl ?_
  refine ev_iload_n (pc := 516) hC dL_law_516 rfl ?_
  refine ev_iconst (pc := 517) hC dL_law_517 ?_
  refine ev_iadd (pc := 518) hC ((i + 2 : Nat) : Int) (by omega) dL_law_518 ?_
  refine ev_sld (pc := 519) hC hSx (i + 2) rfl (by omega) hL dL_law_519 ?_
  refine ev_callV (pc := 520) (as := [vi (xs (i + 1)).toInt, vi (xs (i + 2)).toInt]) (rest := []) hC gL_law_X5_then mtX5_then dL_law_520 (ru_X5_then hc (xs (i + 1)).toInt (i32r _) (xs (i + 2)).toInt (i32r _)) (by decide) (by decide) (by decide) rfl (by rfl) (Nat.le_of_ble_eq_true rfl) rfl (fun v520 X520 h520 => ?_)
  obtain ⟨rfl, hc1, hf1⟩ := h520
  have hm1 := mI_frC hm hf1
  show Ev K 523 [some (.ref 44), some (.ref 0), some (.ref 29), some (vi ((i : Nat) : Int))] [vi (sp11 (xs (i + 1)).toInt (xs (i + 2)).toInt V).1] X520
  refine ev_aload_n (pc := 523) hC dL_law_523 rfl ?_
  refine ev_aload_n (pc := 524) hC dL_law_524 rfl ?_
  refine ev_iload_n (pc := 525) hC dL_law_525 rfl ?_
  refine ev_iconst (pc := 526) hC dL_law_526 ?_
  refine ev_iadd (pc := 527) hC ((i + 1 : Nat) : Int) (by omega) dL_law_527 ?_
  refine ev_sld (pc := 528) hC hSx (i + 1) rfl (by omega) hL dL_law_528 ?_
  refine ev_aload_n (pc := 529) hC dL_law_529 rfl ?_
  refine ev_iload_n (pc := 530) hC dL_law_530 rfl ?_
  refine ev_iconst (pc := 531) hC dL_law_531 ?_
  refine ev_iadd (pc := 532) hC ((i + 2 : Nat) : Int) (by omega) dL_law_532 ?_
  refine ev_sld (pc := 533) hC hSx (i + 2) rfl (by omega) hL dL_law_533 ?_
  refine ev_callV (pc := 534) (as := [vi (xs (i + 1)).toInt, vi (xs (i + 2)).toInt]) (rest := [vi (sp11 (xs (i + 1)).toInt (xs (i + 2)).toInt V).1]) hC gL_law_X6_then mtX6_then dL_law_534 (ru_X6_then hm1 (xs (i + 1)).toInt (i32r _) (xs (i + 2)).toInt (i32r _)) (by decide) (by decide) (by decide) rfl (by rfl) (Nat.le_of_ble_eq_true rfl) rfl (fun v534 X534 h534 => ?_)
  obtain ⟨rfl, hm2, hf2⟩ := h534
  have hc2 := cI_frM hc1 hf2
  show Ev K 537 [some (.ref 44), some (.ref 0), some (.ref 29), some (vi ((i : Nat) : Int))] [vi (sp11 (xs (i + 1)).toInt (xs (i + 2)).toInt V).1, vi (sp11 (xs (i + 1)).toInt (xs (i + 2)).toInt V).1] X534
  refine ev_isame (pc := 537) hC 1159 dL_law_537 (by decide) ?_
  exact hk _ _ hc2 hm2
set_option maxRecDepth 100000 in
set_option maxHeartbeats 4000000 in
theorem law_c12 {K : Kx} {Ln : Nat} {xs : Nat → Int32} (hKn : K.2.2.2.2.1 = 4) (hC : Cx K RL cL_law wsL_law 14 544) (hSx : Sx K Ln xs) (hL : Ln ≤ 2048) {i : Nat} (hi : i + 4 ≤ Ln) {V : St} {X : Mem} (hc : cI X V) (hm : mI X V) (hk : ∀ (W : St) (Y : Mem), cI Y W → mI Y W → Ev K 1159 [some (.ref 44), some (.ref 0), some (.ref 29), some (vi ((i : Nat) : Int))] [] Y) : Ev K 542 [some (.ref 44), some (.ref 0), some (.ref 29), some (vi ((i : Nat) : Int))] [] X := by
  refine ev_aload_n (pc := 542) hC dL_law_542 rfl ?_
  refine ev_aload_n (pc := 543) hC dL_law_543 rfl ?_
  refine ev_iload_n (pc := 544) hC dL_law_544 rfl ?_
  refine ev_iconst (pc := 545) hC dL_law_545 ?_
  refine ev_iadd (pc := 546) hC ((i + 1 : Nat) : Int) (by omega) dL_law_546 ?_
  refine ev_sld (pc := 547) hC hSx (i + 1) rfl (by omega) hL dL_law_547 ?_
  refine ev_aload_n (pc := 548) hC dL_law_548 rfl ?_
  refine ev_iload_n (pc := 549) hC dL_law_549 rfl ?_
  refine ev_iconst (pc := 550) hC dL_law_550 ?_
  refine ev_iadd (pc := 551) hC ((i + 2 : Nat) : Int) (by omega) dL_law_551 ?_
  refine ev_sld (pc := 552) hC hSx (i + 2) rfl (by omega) hL dL_law_552 ?_
  refine ev_callV (pc := 553) (as := [vi (xs (i + 1)).toInt, vi (xs (i + 2)).toInt]) (rest := []) hC gL_law_X5_depthThen mtX5_depthThen dL_law_553 (ru_X5_depthThen hc (xs (i + 1)).toInt (i32r _) (xs (i + 2)).toInt (i32r _)) (by decide) (by decide) (by decide) rfl (by rfl) (Nat.le_of_ble_eq_true rfl) rfl (fun v553 X553 h553 => ?_)
  obtain ⟨rfl, hc1, hf1⟩ := h553
  have hm1 := mI_frC hm hf1
  show Ev K 556 [some (.ref 44), some (.ref 0), some (.ref 29), some (vi ((i : Nat) : Int))] [vi (sp12 (xs (i + 1)).toInt (xs (i + 2)).toInt V).1] X553
  refine ev_aload_n (pc := 556) hC dL_law_556 rfl ?_
  refine ev_aload_n (pc := 557) hC dL_law_557 rfl ?_
  refine ev_iload_n (pc := 558) hC dL_law_558 rfl ?_
  refine ev_iconst (pc := 559) hC dL_law_559 ?_
  refine ev_iadd (pc := 560) hC ((i + 1 : Nat) : Int) (by omega) dL_law_560 ?_
  refine ev_sld (pc := 561) hC hSx (i + 1) rfl (by omega) hL dL_law_561 ?_
  refine ev_aload_n (pc := 562) hC dL_law_562 rfl ?_
  refine ev_iload_n (pc := 563) hC dL_law_563 rfl ?_
  refine ev_iconst (pc := 564) hC dL_law_564 ?_
  refine ev_iadd (pc := 565) hC ((i + 2 : Nat) : Int) (by omega) dL_law_565 ?_
  refine ev_sld (pc := 566) hC hSx (i + 2) rfl (by omega) hL dL_law_566 ?_
  refine ev_callV (pc := 567) (as := [vi (xs (i + 1)).toInt, vi (xs (i + 2)).toInt]) (rest := [vi (sp12 (xs (i + 1)).toInt (xs (i + 2)).toInt V).1]) hC gL_law_X6_depthThen mtX6_depthThen dL_law_567 (ru_X6_depthThen hm1 (xs (i + 1)).toInt (i32r _) (xs (i + 2)).toInt (i32r _)) (by decide) (by decide) (by decide) rfl (by rfl) (Nat.le_of_ble_eq_true rfl) rfl (fun v567 X567 h567 => ?_)
  obtain ⟨rfl, hm2, hf2⟩ := h567
  have hc2 := cI_frM hc1 hf2
  show Ev K 570 [some (.ref 44), some (.ref 0), some (.ref 29), some (vi ((i : Nat) : Int))] [vi (sp12 (xs (i + 1)).toInt (xs (i + 2)).toInt V).1, vi (sp12 (xs (i + 1)).toInt (xs (i + 2)).toInt V).1] X567
  refine ev_isame (pc := 570) hC 1159 dL_law_570 (by decide) ?_
  exact hk _ _ hc2 hm2
set_option maxRecDepth 100000 in
set_option maxHeartbeats 4000000 in
theorem law_c13 {K : Kx} {Ln : Nat} {xs : Nat → Int32} (hKn : K.2.2.2.2.1 = 4) (hC : Cx K RL cL_law wsL_law 14 544) (hSx : Sx K Ln xs) (hL : Ln ≤ 2048) {i : Nat} (hi : i + 4 ≤ Ln) {V : St} {X : Mem} (hc : cI X V) (hm : mI X V) (hk : ∀ (W : St) (Y : Mem), cI Y W → mI Y W → Ev K 1159 [some (.ref 44), some (.ref 0), some (.ref 29), some (vi ((i : Nat) : Int))] [] Y) : Ev K 575 [some (.ref 44), some (.ref 0), some (.ref 29), some (vi ((i : Nat) : Int))] [] X := by
  refine ev_aload_n (pc := 575) hC dL_law_575 rfl ?_
  refine ev_aload_n (pc := 576) hC dL_law_576 rfl ?_
  refine ev_iload_n (pc := 577) hC dL_law_577 rfl ?_
  refine ev_iconst (pc := 578) hC dL_law_578 ?_
  refine ev_iadd (pc := 579) hC ((i + 1 : Nat) : Int) (by omega) dL_law_579 ?_
  refine ev_sld (pc := 580) hC hSx (i + 1) rfl (by omega) hL dL_law_580 ?_
  refine ev_callV (pc := 581) (as := [vi (xs (i + 1)).toInt]) (rest := []) hC gL_law_X5_first mtX5_first dL_law_581 (ru_X5_first hc (xs (i + 1)).toInt (i32r _)) (by decide) (by decide) (by decide) rfl (by rfl) (Nat.le_of_ble_eq_true rfl) rfl (fun v581 X581 h581 => ?_)
  obtain ⟨rfl, hc1, hf1⟩ := h581
  have hm1 := mI_frC hm hf1
  show Ev K 584 [some (.ref 44), some (.ref 0), some (.ref 29), some (vi ((i : Nat) : Int))] [vi (sp13 (xs (i + 1)).toInt V).1] X581
  refine ev_aload_n (pc := 584) hC dL_law_584 rfl ?_
  refine ev_aload_n (pc := 585) hC dL_law_585 rfl ?_
  refine ev_iload_n (pc := 586) hC dL_law_586 rfl ?_
  refine ev_iconst (pc := 587) hC dL_law_587 ?_
  refine ev_iadd (pc := 588) hC ((i + 1 : Nat) : Int) (by omega) dL_law_588 ?_
  refine ev_sld (pc := 589) hC hSx (i + 1) rfl (by omega) hL dL_law_589 ?_
  refine ev_callV (pc := 590) (as := [vi (xs (i + 1)).toInt]) (rest := [vi (sp13 (xs (i + 1)).toInt V).1]) hC gL_law_X6_first mtX6_first dL_law_590 (ru_X6_first hm1 (xs (i + 1)).toInt (i32r _)) (by decide) (by decide) (by decide) rfl (by rfl) (Nat.le_of_ble_eq_true rfl) rfl (fun v590 X590 h590 => ?_)
  obtain ⟨rfl, hm2, hf2⟩ := h590
  have hc2 := cI_frM hc1 hf2
  show Ev K 593 [some (.ref 44), some (.ref 0), some (.ref 29), some (vi ((i : Nat) : Int))] [vi (sp13 (xs (i + 1)).toInt V).1, vi (sp13 (xs (i + 1)).toInt V).1] X590
  refine ev_isame (pc := 593) hC 1159 dL_law_593 (by decide) ?_
  exact hk _ _ hc2 hm2
set_option maxRecDepth 100000 in
set_option maxHeartbeats 4000000 in
theorem law_c14 {K : Kx} {Ln : Nat} {xs : Nat → Int32} (hKn : K.2.2.2.2.1 = 4) (hC : Cx K RL cL_law wsL_law 14 544) (hSx : Sx K Ln xs) (hL : Ln ≤ 2048) {i : Nat} (hi : i + 4 ≤ Ln) {V : St} {X : Mem} (hc : cI X V) (hm : mI X V) (hk : ∀ (W : St) (Y : Mem), cI Y W → mI Y W → Ev K 1159 [some (.ref 44), some (.ref 0), some (.ref 29), some (vi ((i : Nat) : Int))] [] Y) : Ev K 598 [some (.ref 44), some (.ref 0), some (.ref 29), some (vi ((i : Nat) : Int))] [] X := by
  refine ev_aload_n (pc := 598) hC dL_law_598 rfl ?_
  refine ev_aload_n (pc := 599) hC dL_law_599 rfl ?_
  refine ev_iload_n (pc := 600) hC dL_law_600 rfl ?_
  refine ev_iconst (pc := 601) hC dL_law_601 ?_
  refine ev_iadd (pc := 602) hC ((i + 1 : Nat) : Int) (by omega) dL_law_602 ?_
  refine ev_sld (pc := 603) hC hSx (i + 1) rfl (by omega) hL dL_law_603 ?_
  refine ev_callV (pc := 604) (as := [vi (xs (i + 1)).toInt]) (rest := []) hC gL_law_X5_makes mtX5_makes dL_law_604 (ru_X5_makes hc (xs (i + 1)).toInt (i32r _)) (by decide) (by decide) (by decide) rfl (by rfl) (Nat.le_of_ble_eq_true rfl) rfl (fun v604 X604 h604 => ?_)
  obtain ⟨rfl, hc1, hf1⟩ := h604
  have hm1 := mI_frC hm hf1
  show Ev K 607 [some (.ref 44), some (.ref 0), some (.ref 29), some (vi ((i : Nat) : Int))] [vi (sp14 (xs (i + 1)).toInt V).1] X604
  refine ev_aload_n (pc := 607) hC dL_law_607 rfl ?_
  refine ev_aload_n (pc := 608) hC dL_law_608 rfl ?_
  refine ev_iload_n (pc := 609) hC dL_law_609 rfl ?_
  refine ev_iconst (pc := 610) hC dL_law_610 ?_
  refine ev_iadd (pc := 611) hC ((i + 1 : Nat) : Int) (by omega) dL_law_611 ?_
  refine ev_sld (pc := 612) hC hSx (i + 1) rfl (by omega) hL dL_law_612 ?_
  refine ev_callV (pc := 613) (as := [vi (xs (i + 1)).toInt]) (rest := [vi (sp14 (xs (i + 1)).toInt V).1]) hC gL_law_X6_makes mtX6_makes dL_law_613 (ru_X6_makes hm1 (xs (i + 1)).toInt (i32r _)) (by decide) (by decide) (by decide) rfl (by rfl) (Nat.le_of_ble_eq_true rfl) rfl (fun v613 X613 h613 => ?_)
  obtain ⟨rfl, hm2, hf2⟩ := h613
  have hc2 := cI_frM hc1 hf2
  show Ev K 616 [some (.ref 44), some (.ref 0), some (.ref 29), some (vi ((i : Nat) : Int))] [vi (sp14 (xs (i + 1)).toInt V).1, vi (sp14 (xs (i + 1)).toInt V).1] X613
  refine ev_isame (pc := 616) hC 1159 dL_law_616 (by decide) ?_
  exact hk _ _ hc2 hm2
set_option maxRecDepth 100000 in
set_option maxHeartbeats 4000000 in
theorem law_c15 {K : Kx} {Ln : Nat} {xs : Nat → Int32} (hKn : K.2.2.2.2.1 = 4) (hC : Cx K RL cL_law wsL_law 14 544) (hSx : Sx K Ln xs) (hL : Ln ≤ 2048) {i : Nat} (hi : i + 4 ≤ Ln) {V : St} {X : Mem} (hc : cI X V) (hm : mI X V) (hk : ∀ (W : St) (Y : Mem), cI Y W → mI Y W → Ev K 1159 [some (.ref 44), some (.ref 0), some (.ref 29), some (vi ((i : Nat) : Int))] [] Y) : Ev K 621 [some (.ref 44), some (.ref 0), some (.ref 29), some (vi ((i : Nat) : Int))] [] X := by
  refine ev_aload_n (pc := 621) hC dL_law_621 rfl ?_
  refine ev_aload_n (pc := 622) hC dL_law_622 rfl ?_
  refine ev_iload_n (pc := 623) hC dL_law_623 rfl ?_
  refine ev_iconst (pc := 624) hC dL_law_624 ?_
  refine ev_iadd (pc := 625) hC ((i + 1 : Nat) : Int) (by omega) dL_law_625 ?_
  refine ev_sld (pc := 626) hC hSx (i + 1) rfl (by omega) hL dL_law_626 ?_
  refine ev_callV (pc := 627) (as := [vi (xs (i + 1)).toInt]) (rest := []) hC gL_law_X5_leaves mtX5_leaves dL_law_627 (ru_X5_leaves hc (xs (i + 1)).toInt (i32r _)) (by decide) (by decide) (by decide) rfl (by rfl) (Nat.le_of_ble_eq_true rfl) rfl (fun v627 X627 h627 => ?_)
  obtain ⟨rfl, hc1, hf1⟩ := h627
  have hm1 := mI_frC hm hf1
  show Ev K 630 [some (.ref 44), some (.ref 0), some (.ref 29), some (vi ((i : Nat) : Int))] [vi (sp15 (xs (i + 1)).toInt V).1] X627
  refine ev_aload_n (pc := 630) hC dL_law_630 rfl ?_
  refine ev_aload_n (pc := 631) hC dL_law_631 rfl ?_
  refine ev_iload_n (pc := 632) hC dL_law_632 rfl ?_
  refine ev_iconst (pc := 633) hC dL_law_633 ?_
  refine ev_iadd (pc := 634) hC ((i + 1 : Nat) : Int) (by omega) dL_law_634 ?_
  refine ev_sld (pc := 635) hC hSx (i + 1) rfl (by omega) hL dL_law_635 ?_
  refine ev_callV (pc := 636) (as := [vi (xs (i + 1)).toInt]) (rest := [vi (sp15 (xs (i + 1)).toInt V).1]) hC gL_law_X6_leaves mtX6_leaves dL_law_636 (ru_X6_leaves hm1 (xs (i + 1)).toInt (i32r _)) (by decide) (by decide) (by decide) rfl (by rfl) (Nat.le_of_ble_eq_true rfl) rfl (fun v636 X636 h636 => ?_)
  obtain ⟨rfl, hm2, hf2⟩ := h636
  have hc2 := cI_frM hc1 hf2
  show Ev K 639 [some (.ref 44), some (.ref 0), some (.ref 29), some (vi ((i : Nat) : Int))] [vi (sp15 (xs (i + 1)).toInt V).1, vi (sp15 (xs (i + 1)).toInt V).1] X636
  refine ev_isame (pc := 639) hC 1159 dL_law_639 (by decide) ?_
  exact hk _ _ hc2 hm2
set_option maxRecDepth 100000 in
set_option maxHeartbeats 4000000 in
theorem law_c16 {K : Kx} {Ln : Nat} {xs : Nat → Int32} (hKn : K.2.2.2.2.1 = 4) (hC : Cx K RL cL_law wsL_law 14 544) (hSx : Sx K Ln xs) (hL : Ln ≤ 2048) {i : Nat} (hi : i + 4 ≤ Ln) {V : St} {X : Mem} (hc : cI X V) (hm : mI X V) (hk : ∀ (W : St) (Y : Mem), cI Y W → mI Y W → Ev K 1159 [some (.ref 44), some (.ref 0), some (.ref 29), some (vi ((i : Nat) : Int))] [] Y) : Ev K 644 [some (.ref 44), some (.ref 0), some (.ref 29), some (vi ((i : Nat) : Int))] [] X := by
  refine ev_aload_n (pc := 644) hC dL_law_644 rfl ?_
  refine ev_aload_n (pc := 645) hC dL_law_645 rfl ?_
  refine ev_iload_n (pc := 646) hC dL_law_646 rfl ?_
  refine ev_iconst (pc := 647) hC dL_law_647 ?_
  refine ev_iadd (pc := 648) hC ((i + 1 : Nat) : Int) (by omega) dL_law_648 ?_
  refine ev_sld (pc := 649) hC hSx (i + 1) rfl (by omega) hL dL_law_649 ?_
  refine ev_callV (pc := 650) (as := [vi (xs (i + 1)).toInt]) (rest := []) hC gL_law_X5_ask mtX5_ask dL_law_650 (ru_X5_ask hc (xs (i + 1)).toInt (i32r _)) (by decide) (by decide) (by decide) rfl (by rfl) (Nat.le_of_ble_eq_true rfl) rfl (fun v650 X650 h650 => ?_)
  obtain ⟨rfl, hc1, hf1⟩ := h650
  have hm1 := mI_frC hm hf1
  show Ev K 653 [some (.ref 44), some (.ref 0), some (.ref 29), some (vi ((i : Nat) : Int))] [vi (sp16 (xs (i + 1)).toInt V).1] X650
  refine ev_aload_n (pc := 653) hC dL_law_653 rfl ?_
  refine ev_aload_n (pc := 654) hC dL_law_654 rfl ?_
  refine ev_iload_n (pc := 655) hC dL_law_655 rfl ?_
  refine ev_iconst (pc := 656) hC dL_law_656 ?_
  refine ev_iadd (pc := 657) hC ((i + 1 : Nat) : Int) (by omega) dL_law_657 ?_
  refine ev_sld (pc := 658) hC hSx (i + 1) rfl (by omega) hL dL_law_658 ?_
  refine ev_callV (pc := 659) (as := [vi (xs (i + 1)).toInt]) (rest := [vi (sp16 (xs (i + 1)).toInt V).1]) hC gL_law_X6_ask mtX6_ask dL_law_659 (ru_X6_ask hm1 (xs (i + 1)).toInt (i32r _)) (by decide) (by decide) (by decide) rfl (by rfl) (Nat.le_of_ble_eq_true rfl) rfl (fun v659 X659 h659 => ?_)
  obtain ⟨rfl, hm2, hf2⟩ := h659
  have hc2 := cI_frM hc1 hf2
  show Ev K 662 [some (.ref 44), some (.ref 0), some (.ref 29), some (vi ((i : Nat) : Int))] [vi (sp16 (xs (i + 1)).toInt V).1, vi (sp16 (xs (i + 1)).toInt V).1] X659
  refine ev_isame (pc := 662) hC 1159 dL_law_662 (by decide) ?_
  exact hk _ _ hc2 hm2
set_option maxRecDepth 100000 in
set_option maxHeartbeats 4000000 in
theorem law_c17 {K : Kx} {Ln : Nat} {xs : Nat → Int32} (hKn : K.2.2.2.2.1 = 4) (hC : Cx K RL cL_law wsL_law 14 544) (hSx : Sx K Ln xs) (hL : Ln ≤ 2048) {i : Nat} (hi : i + 4 ≤ Ln) {V : St} {X : Mem} (hc : cI X V) (hm : mI X V) (hk : ∀ (W : St) (Y : Mem), cI Y W → mI Y W → Ev K 1159 [some (.ref 44), some (.ref 0), some (.ref 29), some (vi ((i : Nat) : Int))] [] Y) : Ev K 667 [some (.ref 44), some (.ref 0), some (.ref 29), some (vi ((i : Nat) : Int))] [] X := by
  refine ev_aload_n (pc := 667) hC dL_law_667 rfl ?_
  refine ev_aload_n (pc := 668) hC dL_law_668 rfl ?_
  refine ev_iload_n (pc := 669) hC dL_law_669 rfl ?_
  refine ev_iconst (pc := 670) hC dL_law_670 ?_
  refine ev_iadd (pc := 671) hC ((i + 1 : Nat) : Int) (by omega) dL_law_671 ?_
  refine ev_sld (pc := 672) hC hSx (i + 1) rfl (by omega) hL dL_law_672 ?_
  refine ev_aload_n (pc := 673) hC dL_law_673 rfl ?_
  refine ev_iload_n (pc := 674) hC dL_law_674 rfl ?_
  refine ev_iconst (pc := 675) hC dL_law_675 ?_
  refine ev_iadd (pc := 676) hC ((i + 2 : Nat) : Int) (by omega) dL_law_676 ?_
  refine ev_sld (pc := 677) hC hSx (i + 2) rfl (by omega) hL dL_law_677 ?_
  refine ev_aload_n (pc := 678) hC dL_law_678 rfl ?_
  refine ev_iload_n (pc := 679) hC dL_law_679 rfl ?_
  refine ev_iconst (pc := 680) hC dL_law_680 ?_
  refine ev_iadd (pc := 681) hC ((i + 3 : Nat) : Int) (by omega) dL_law_681 ?_
  refine ev_sld (pc := 682) hC hSx (i + 3) rfl (by omega) hL dL_law_682 ?_
  refine ev_callV (pc := 683) (as := [vi (xs (i + 1)).toInt, vi (xs (i + 2)).toInt, vi (xs (i + 3)).toInt]) (rest := []) hC gL_law_X5_sit mtX5_sit dL_law_683 (ru_X5_sit hc (xs (i + 1)).toInt (i32r _) (xs (i + 2)).toInt (i32r _) (xs (i + 3)).toInt (i32r _)) (by decide) (by decide) (by decide) rfl (by rfl) (Nat.le_of_ble_eq_true rfl) rfl (fun v683 X683 h683 => ?_)
  obtain ⟨rfl, hc1, hf1⟩ := h683
  have hm1 := mI_frC hm hf1
  show Ev K 686 [some (.ref 44), some (.ref 0), some (.ref 29), some (vi ((i : Nat) : Int))] [vi (sp17 (xs (i + 1)).toInt (xs (i + 2)).toInt (xs (i + 3)).toInt V).1] X683
  refine ev_aload_n (pc := 686) hC dL_law_686 rfl ?_
  refine ev_aload_n (pc := 687) hC dL_law_687 rfl ?_
  refine ev_iload_n (pc := 688) hC dL_law_688 rfl ?_
  refine ev_iconst (pc := 689) hC dL_law_689 ?_
  refine ev_iadd (pc := 690) hC ((i + 1 : Nat) : Int) (by omega) dL_law_690 ?_
  refine ev_sld (pc := 691) hC hSx (i + 1) rfl (by omega) hL dL_law_691 ?_
  refine ev_aload_n (pc := 692) hC dL_law_692 rfl ?_
  refine ev_iload_n (pc := 693) hC dL_law_693 rfl ?_
  refine ev_iconst (pc := 694) hC dL_law_694 ?_
  refine ev_iadd (pc := 695) hC ((i + 2 : Nat) : Int) (by omega) dL_law_695 ?_
  refine ev_sld (pc := 696) hC hSx (i + 2) rfl (by omega) hL dL_law_696 ?_
  refine ev_aload_n (pc := 697) hC dL_law_697 rfl ?_
  refine ev_iload_n (pc := 698) hC dL_law_698 rfl ?_
  refine ev_iconst (pc := 699) hC dL_law_699 ?_
  refine ev_iadd (pc := 700) hC ((i + 3 : Nat) : Int) (by omega) dL_law_700 ?_
  refine ev_sld (pc := 701) hC hSx (i + 3) rfl (by omega) hL dL_law_701 ?_
  refine ev_callV (pc := 702) (as := [vi (xs (i + 1)).toInt, vi (xs (i + 2)).toInt, vi (xs (i + 3)).toInt]) (rest := [vi (sp17 (xs (i + 1)).toInt (xs (i + 2)).toInt (xs (i + 3)).toInt V).1]) hC gL_law_X6_sit mtX6_sit dL_law_702 (ru_X6_sit hm1 (xs (i + 1)).toInt (i32r _) (xs (i + 2)).toInt (i32r _) (xs (i + 3)).toInt (i32r _)) (by decide) (by decide) (by decide) rfl (by rfl) (Nat.le_of_ble_eq_true rfl) rfl (fun v702 X702 h702 => ?_)
  obtain ⟨rfl, hm2, hf2⟩ := h702
  have hc2 := cI_frM hc1 hf2
  show Ev K 705 [some (.ref 44), some (.ref 0), some (.ref 29), some (vi ((i : Nat) : Int))] [vi (sp17 (xs (i + 1)).toInt (xs (i + 2)).toInt (xs (i + 3)).toInt V).1, vi (sp17 (xs (i + 1)).toInt (xs (i + 2)).toInt (xs (i + 3)).toInt V).1] X702
  refine ev_isame (pc := 705) hC 1159 dL_law_705 (by decide) ?_
  exact hk _ _ hc2 hm2
set_option maxRecDepth 100000 in
set_option maxHeartbeats 4000000 in
theorem law_c18 {K : Kx} {Ln : Nat} {xs : Nat → Int32} (hKn : K.2.2.2.2.1 = 4) (hC : Cx K RL cL_law wsL_law 14 544) (hSx : Sx K Ln xs) (hL : Ln ≤ 2048) {i : Nat} (hi : i + 4 ≤ Ln) {V : St} {X : Mem} (hc : cI X V) (hm : mI X V) (hk : ∀ (W : St) (Y : Mem), cI Y W → mI Y W → Ev K 1159 [some (.ref 44), some (.ref 0), some (.ref 29), some (vi ((i : Nat) : Int))] [] Y) : Ev K 710 [some (.ref 44), some (.ref 0), some (.ref 29), some (vi ((i : Nat) : Int))] [] X := by
  refine ev_aload_n (pc := 710) hC dL_law_710 rfl ?_
  refine ev_aload_n (pc := 711) hC dL_law_711 rfl ?_
  refine ev_iload_n (pc := 712) hC dL_law_712 rfl ?_
  refine ev_iconst (pc := 713) hC dL_law_713 ?_
  refine ev_iadd (pc := 714) hC ((i + 1 : Nat) : Int) (by omega) dL_law_714 ?_
  refine ev_sld (pc := 715) hC hSx (i + 1) rfl (by omega) hL dL_law_715 ?_
  refine ev_callV (pc := 716) (as := [vi (xs (i + 1)).toInt]) (rest := []) hC gL_law_X5_doubt mtX5_doubt dL_law_716 (ru_X5_doubt hc (xs (i + 1)).toInt (i32r _)) (by decide) (by decide) (by decide) rfl (by rfl) (Nat.le_of_ble_eq_true rfl) rfl (fun v716 X716 h716 => ?_)
  obtain ⟨rfl, hc1, hf1⟩ := h716
  have hm1 := mI_frC hm hf1
  show Ev K 719 [some (.ref 44), some (.ref 0), some (.ref 29), some (vi ((i : Nat) : Int))] [vi (sp18 (xs (i + 1)).toInt V).1] X716
  refine ev_aload_n (pc := 719) hC dL_law_719 rfl ?_
  refine ev_aload_n (pc := 720) hC dL_law_720 rfl ?_
  refine ev_iload_n (pc := 721) hC dL_law_721 rfl ?_
  refine ev_iconst (pc := 722) hC dL_law_722 ?_
  refine ev_iadd (pc := 723) hC ((i + 1 : Nat) : Int) (by omega) dL_law_723 ?_
  refine ev_sld (pc := 724) hC hSx (i + 1) rfl (by omega) hL dL_law_724 ?_
  refine ev_callV (pc := 725) (as := [vi (xs (i + 1)).toInt]) (rest := [vi (sp18 (xs (i + 1)).toInt V).1]) hC gL_law_X6_doubt mtX6_doubt dL_law_725 (ru_X6_doubt hm1 (xs (i + 1)).toInt (i32r _)) (by decide) (by decide) (by decide) rfl (by rfl) (Nat.le_of_ble_eq_true rfl) rfl (fun v725 X725 h725 => ?_)
  obtain ⟨rfl, hm2, hf2⟩ := h725
  have hc2 := cI_frM hc1 hf2
  show Ev K 728 [some (.ref 44), some (.ref 0), some (.ref 29), some (vi ((i : Nat) : Int))] [vi (sp18 (xs (i + 1)).toInt V).1, vi (sp18 (xs (i + 1)).toInt V).1] X725
  refine ev_isame (pc := 728) hC 1159 dL_law_728 (by decide) ?_
  exact hk _ _ hc2 hm2
set_option maxRecDepth 100000 in
set_option maxHeartbeats 4000000 in
theorem law_c19 {K : Kx} {Ln : Nat} {xs : Nat → Int32} (hKn : K.2.2.2.2.1 = 4) (hC : Cx K RL cL_law wsL_law 14 544) (hSx : Sx K Ln xs) (hL : Ln ≤ 2048) {i : Nat} (hi : i + 4 ≤ Ln) {V : St} {X : Mem} (hc : cI X V) (hm : mI X V) (hk : ∀ (W : St) (Y : Mem), cI Y W → mI Y W → Ev K 1159 [some (.ref 44), some (.ref 0), some (.ref 29), some (vi ((i : Nat) : Int))] [] Y) : Ev K 733 [some (.ref 44), some (.ref 0), some (.ref 29), some (vi ((i : Nat) : Int))] [] X := by
  refine ev_aload_n (pc := 733) hC dL_law_733 rfl ?_
  refine ev_aload_n (pc := 734) hC dL_law_734 rfl ?_
  refine ev_iload_n (pc := 735) hC dL_law_735 rfl ?_
  refine ev_iconst (pc := 736) hC dL_law_736 ?_
  refine ev_iadd (pc := 737) hC ((i + 1 : Nat) : Int) (by omega) dL_law_737 ?_
  refine ev_sld (pc := 738) hC hSx (i + 1) rfl (by omega) hL dL_law_738 ?_
  refine ev_callV (pc := 739) (as := [vi (xs (i + 1)).toInt]) (rest := []) hC gL_law_X5_stranger mtX5_stranger dL_law_739 (ru_X5_stranger hc (xs (i + 1)).toInt (i32r _)) (by decide) (by decide) (by decide) rfl (by rfl) (Nat.le_of_ble_eq_true rfl) rfl (fun v739 X739 h739 => ?_)
  obtain ⟨rfl, hc1, hf1⟩ := h739
  have hm1 := mI_frC hm hf1
  show Ev K 742 [some (.ref 44), some (.ref 0), some (.ref 29), some (vi ((i : Nat) : Int))] [vi (sp19 (xs (i + 1)).toInt V).1] X739
  refine ev_aload_n (pc := 742) hC dL_law_742 rfl ?_
  refine ev_aload_n (pc := 743) hC dL_law_743 rfl ?_
  refine ev_iload_n (pc := 744) hC dL_law_744 rfl ?_
  refine ev_iconst (pc := 745) hC dL_law_745 ?_
  refine ev_iadd (pc := 746) hC ((i + 1 : Nat) : Int) (by omega) dL_law_746 ?_
  refine ev_sld (pc := 747) hC hSx (i + 1) rfl (by omega) hL dL_law_747 ?_
  refine ev_callV (pc := 748) (as := [vi (xs (i + 1)).toInt]) (rest := [vi (sp19 (xs (i + 1)).toInt V).1]) hC gL_law_X6_stranger mtX6_stranger dL_law_748 (ru_X6_stranger hm1 (xs (i + 1)).toInt (i32r _)) (by decide) (by decide) (by decide) rfl (by rfl) (Nat.le_of_ble_eq_true rfl) rfl (fun v748 X748 h748 => ?_)
  obtain ⟨rfl, hm2, hf2⟩ := h748
  have hc2 := cI_frM hc1 hf2
  show Ev K 751 [some (.ref 44), some (.ref 0), some (.ref 29), some (vi ((i : Nat) : Int))] [vi (sp19 (xs (i + 1)).toInt V).1, vi (sp19 (xs (i + 1)).toInt V).1] X748
  refine ev_isame (pc := 751) hC 1159 dL_law_751 (by decide) ?_
  exact hk _ _ hc2 hm2
set_option maxRecDepth 100000 in
set_option maxHeartbeats 4000000 in
theorem law_c20 {K : Kx} {Ln : Nat} {xs : Nat → Int32} (hKn : K.2.2.2.2.1 = 4) (hC : Cx K RL cL_law wsL_law 14 544) (hSx : Sx K Ln xs) (hL : Ln ≤ 2048) {i : Nat} (hi : i + 4 ≤ Ln) {V : St} {X : Mem} (hc : cI X V) (hm : mI X V) (hk : ∀ (W : St) (Y : Mem), cI Y W → mI Y W → Ev K 1159 [some (.ref 44), some (.ref 0), some (.ref 29), some (vi ((i : Nat) : Int))] [] Y) : Ev K 756 [some (.ref 44), some (.ref 0), some (.ref 29), some (vi ((i : Nat) : Int))] [] X := by
  refine ev_aload_n (pc := 756) hC dL_law_756 rfl ?_
  refine ev_callV (pc := 757) (as := []) (rest := []) hC gL_law_X5_nearest mtX5_nearest dL_law_757 (ru_X5_nearest hc) (by decide) (by decide) (by decide) rfl (by rfl) (Nat.le_of_ble_eq_true rfl) rfl (fun v757 X757 h757 => ?_)
  obtain ⟨rfl, hc1, hf1⟩ := h757
  have hm1 := mI_frC hm hf1
  show Ev K 760 [some (.ref 44), some (.ref 0), some (.ref 29), some (vi ((i : Nat) : Int))] [vi (sp20 V).1] X757
  refine ev_aload_n (pc := 760) hC dL_law_760 rfl ?_
  refine ev_callV (pc := 761) (as := []) (rest := [vi (sp20 V).1]) hC gL_law_X6_nearest mtX6_nearest dL_law_761 (ru_X6_nearest hm1) (by decide) (by decide) (by decide) rfl (by rfl) (Nat.le_of_ble_eq_true rfl) rfl (fun v761 X761 h761 => ?_)
  obtain ⟨rfl, hm2, hf2⟩ := h761
  have hc2 := cI_frM hc1 hf2
  show Ev K 764 [some (.ref 44), some (.ref 0), some (.ref 29), some (vi ((i : Nat) : Int))] [vi (sp20 V).1, vi (sp20 V).1] X761
  refine ev_isame (pc := 764) hC 1159 dL_law_764 (by decide) ?_
  exact hk _ _ hc2 hm2
set_option maxRecDepth 100000 in
set_option maxHeartbeats 4000000 in
theorem law_c21 {K : Kx} {Ln : Nat} {xs : Nat → Int32} (hKn : K.2.2.2.2.1 = 4) (hC : Cx K RL cL_law wsL_law 14 544) (hSx : Sx K Ln xs) (hL : Ln ≤ 2048) {i : Nat} (hi : i + 4 ≤ Ln) {V : St} {X : Mem} (hc : cI X V) (hm : mI X V) (hk : ∀ (W : St) (Y : Mem), cI Y W → mI Y W → Ev K 1159 [some (.ref 44), some (.ref 0), some (.ref 29), some (vi ((i : Nat) : Int))] [] Y) : Ev K 769 [some (.ref 44), some (.ref 0), some (.ref 29), some (vi ((i : Nat) : Int))] [] X := by
  refine ev_aload_n (pc := 769) hC dL_law_769 rfl ?_
  refine ev_aload_n (pc := 770) hC dL_law_770 rfl ?_
  refine ev_iload_n (pc := 771) hC dL_law_771 rfl ?_
  refine ev_iconst (pc := 772) hC dL_law_772 ?_
  refine ev_iadd (pc := 773) hC ((i + 1 : Nat) : Int) (by omega) dL_law_773 ?_
  refine ev_sld (pc := 774) hC hSx (i + 1) rfl (by omega) hL dL_law_774 ?_
  refine ev_callV (pc := 775) (as := [vi (xs (i + 1)).toInt]) (rest := []) hC gL_law_X5_passed mtX5_passed dL_law_775 (ru_X5_passed hc (xs (i + 1)).toInt (i32r _)) (by decide) (by decide) (by decide) rfl (by rfl) (Nat.le_of_ble_eq_true rfl) rfl (fun v775 X775 h775 => ?_)
  obtain ⟨rfl, hc1, hf1⟩ := h775
  have hm1 := mI_frC hm hf1
  show Ev K 778 [some (.ref 44), some (.ref 0), some (.ref 29), some (vi ((i : Nat) : Int))] [vi (sp21 (xs (i + 1)).toInt V).1] X775
  refine ev_aload_n (pc := 778) hC dL_law_778 rfl ?_
  refine ev_aload_n (pc := 779) hC dL_law_779 rfl ?_
  refine ev_iload_n (pc := 780) hC dL_law_780 rfl ?_
  refine ev_iconst (pc := 781) hC dL_law_781 ?_
  refine ev_iadd (pc := 782) hC ((i + 1 : Nat) : Int) (by omega) dL_law_782 ?_
  refine ev_sld (pc := 783) hC hSx (i + 1) rfl (by omega) hL dL_law_783 ?_
  refine ev_callV (pc := 784) (as := [vi (xs (i + 1)).toInt]) (rest := [vi (sp21 (xs (i + 1)).toInt V).1]) hC gL_law_X6_passed mtX6_passed dL_law_784 (ru_X6_passed hm1 (xs (i + 1)).toInt (i32r _)) (by decide) (by decide) (by decide) rfl (by rfl) (Nat.le_of_ble_eq_true rfl) rfl (fun v784 X784 h784 => ?_)
  obtain ⟨rfl, hm2, hf2⟩ := h784
  have hc2 := cI_frM hc1 hf2
  show Ev K 787 [some (.ref 44), some (.ref 0), some (.ref 29), some (vi ((i : Nat) : Int))] [vi (sp21 (xs (i + 1)).toInt V).1, vi (sp21 (xs (i + 1)).toInt V).1] X784
  refine ev_isame (pc := 787) hC 1159 dL_law_787 (by decide) ?_
  exact hk _ _ hc2 hm2
set_option maxRecDepth 100000 in
set_option maxHeartbeats 4000000 in
theorem law_c22 {K : Kx} {Ln : Nat} {xs : Nat → Int32} (hKn : K.2.2.2.2.1 = 4) (hC : Cx K RL cL_law wsL_law 14 544) (hSx : Sx K Ln xs) (hL : Ln ≤ 2048) {i : Nat} (hi : i + 4 ≤ Ln) {V : St} {X : Mem} (hc : cI X V) (hm : mI X V) (hk : ∀ (W : St) (Y : Mem), cI Y W → mI Y W → Ev K 1159 [some (.ref 44), some (.ref 0), some (.ref 29), some (vi ((i : Nat) : Int))] [] Y) : Ev K 792 [some (.ref 44), some (.ref 0), some (.ref 29), some (vi ((i : Nat) : Int))] [] X := by
  refine ev_aload_n (pc := 792) hC dL_law_792 rfl ?_
  refine ev_aload_n (pc := 793) hC dL_law_793 rfl ?_
  refine ev_iload_n (pc := 794) hC dL_law_794 rfl ?_
  refine ev_iconst (pc := 795) hC dL_law_795 ?_
  refine ev_iadd (pc := 796) hC ((i + 1 : Nat) : Int) (by omega) dL_law_796 ?_
  refine ev_sld (pc := 797) hC hSx (i + 1) rfl (by omega) hL dL_law_797 ?_
  refine ev_callV (pc := 798) (as := [vi (xs (i + 1)).toInt]) (rest := []) hC gL_law_X5_heard mtX5_heard dL_law_798 (ru_X5_heard hc (xs (i + 1)).toInt (i32r _)) (by decide) (by decide) (by decide) rfl (by rfl) (Nat.le_of_ble_eq_true rfl) rfl (fun v798 X798 h798 => ?_)
  obtain ⟨rfl, hc1, hf1⟩ := h798
  have hm1 := mI_frC hm hf1
  show Ev K 801 [some (.ref 44), some (.ref 0), some (.ref 29), some (vi ((i : Nat) : Int))] [vi (sp22 (xs (i + 1)).toInt V).1] X798
  refine ev_aload_n (pc := 801) hC dL_law_801 rfl ?_
  refine ev_aload_n (pc := 802) hC dL_law_802 rfl ?_
  refine ev_iload_n (pc := 803) hC dL_law_803 rfl ?_
  refine ev_iconst (pc := 804) hC dL_law_804 ?_
  refine ev_iadd (pc := 805) hC ((i + 1 : Nat) : Int) (by omega) dL_law_805 ?_
  refine ev_sld (pc := 806) hC hSx (i + 1) rfl (by omega) hL dL_law_806 ?_
  refine ev_callV (pc := 807) (as := [vi (xs (i + 1)).toInt]) (rest := [vi (sp22 (xs (i + 1)).toInt V).1]) hC gL_law_X6_heard mtX6_heard dL_law_807 (ru_X6_heard hm1 (xs (i + 1)).toInt (i32r _)) (by decide) (by decide) (by decide) rfl (by rfl) (Nat.le_of_ble_eq_true rfl) rfl (fun v807 X807 h807 => ?_)
  obtain ⟨rfl, hm2, hf2⟩ := h807
  have hc2 := cI_frM hc1 hf2
  show Ev K 810 [some (.ref 44), some (.ref 0), some (.ref 29), some (vi ((i : Nat) : Int))] [vi (sp22 (xs (i + 1)).toInt V).1, vi (sp22 (xs (i + 1)).toInt V).1] X807
  refine ev_isame (pc := 810) hC 1159 dL_law_810 (by decide) ?_
  exact hk _ _ hc2 hm2
set_option maxRecDepth 100000 in
set_option maxHeartbeats 4000000 in
theorem law_c23 {K : Kx} {Ln : Nat} {xs : Nat → Int32} (hKn : K.2.2.2.2.1 = 4) (hC : Cx K RL cL_law wsL_law 14 544) (hSx : Sx K Ln xs) (hL : Ln ≤ 2048) {i : Nat} (hi : i + 4 ≤ Ln) {V : St} {X : Mem} (hc : cI X V) (hm : mI X V) (hk : ∀ (W : St) (Y : Mem), cI Y W → mI Y W → Ev K 1159 [some (.ref 44), some (.ref 0), some (.ref 29), some (vi ((i : Nat) : Int))] [] Y) : Ev K 815 [some (.ref 44), some (.ref 0), some (.ref 29), some (vi ((i : Nat) : Int))] [] X := by
  refine ev_aload_n (pc := 815) hC dL_law_815 rfl ?_
  refine ev_aload_n (pc := 816) hC dL_law_816 rfl ?_
  refine ev_iload_n (pc := 817) hC dL_law_817 rfl ?_
  refine ev_iconst (pc := 818) hC dL_law_818 ?_
  refine ev_iadd (pc := 819) hC ((i + 1 : Nat) : Int) (by omega) dL_law_819 ?_
  refine ev_sld (pc := 820) hC hSx (i + 1) rfl (by omega) hL dL_law_820 ?_
  refine ev_callV (pc := 821) (as := [vi (xs (i + 1)).toInt]) (rest := []) hC gL_law_X5_groups mtX5_groups dL_law_821 (ru_X5_groups hc (xs (i + 1)).toInt (i32r _)) (by decide) (by decide) (by decide) rfl (by rfl) (Nat.le_of_ble_eq_true rfl) rfl (fun v821 X821 h821 => ?_)
  obtain ⟨rfl, hc1, hf1⟩ := h821
  have hm1 := mI_frC hm hf1
  show Ev K 824 [some (.ref 44), some (.ref 0), some (.ref 29), some (vi ((i : Nat) : Int))] [vi (sp23 (xs (i + 1)).toInt V).1] X821
  refine ev_aload_n (pc := 824) hC dL_law_824 rfl ?_
  refine ev_aload_n (pc := 825) hC dL_law_825 rfl ?_
  refine ev_iload_n (pc := 826) hC dL_law_826 rfl ?_
  refine ev_iconst (pc := 827) hC dL_law_827 ?_
  refine ev_iadd (pc := 828) hC ((i + 1 : Nat) : Int) (by omega) dL_law_828 ?_
  refine ev_sld (pc := 829) hC hSx (i + 1) rfl (by omega) hL dL_law_829 ?_
  refine ev_callV (pc := 830) (as := [vi (xs (i + 1)).toInt]) (rest := [vi (sp23 (xs (i + 1)).toInt V).1]) hC gL_law_X6_groups mtX6_groups dL_law_830 (ru_X6_groups hm1 (xs (i + 1)).toInt (i32r _)) (by decide) (by decide) (by decide) rfl (by rfl) (Nat.le_of_ble_eq_true rfl) rfl (fun v830 X830 h830 => ?_)
  obtain ⟨rfl, hm2, hf2⟩ := h830
  have hc2 := cI_frM hc1 hf2
  show Ev K 833 [some (.ref 44), some (.ref 0), some (.ref 29), some (vi ((i : Nat) : Int))] [vi (sp23 (xs (i + 1)).toInt V).1, vi (sp23 (xs (i + 1)).toInt V).1] X830
  refine ev_isame (pc := 833) hC 1159 dL_law_833 (by decide) ?_
  exact hk _ _ hc2 hm2
set_option maxRecDepth 100000 in
set_option maxHeartbeats 4000000 in
theorem law_c24 {K : Kx} {Ln : Nat} {xs : Nat → Int32} (hKn : K.2.2.2.2.1 = 4) (hC : Cx K RL cL_law wsL_law 14 544) (hSx : Sx K Ln xs) (hL : Ln ≤ 2048) {i : Nat} (hi : i + 4 ≤ Ln) {V : St} {X : Mem} (hc : cI X V) (hm : mI X V) (hk : ∀ (W : St) (Y : Mem), cI Y W → mI Y W → Ev K 1159 [some (.ref 44), some (.ref 0), some (.ref 29), some (vi ((i : Nat) : Int))] [] Y) : Ev K 838 [some (.ref 44), some (.ref 0), some (.ref 29), some (vi ((i : Nat) : Int))] [] X := by
  refine ev_aload_n (pc := 838) hC dL_law_838 rfl ?_
  refine ev_aload_n (pc := 839) hC dL_law_839 rfl ?_
  refine ev_iload_n (pc := 840) hC dL_law_840 rfl ?_
  refine ev_iconst (pc := 841) hC dL_law_841 ?_
  refine ev_iadd (pc := 842) hC ((i + 1 : Nat) : Int) (by omega) dL_law_842 ?_
  refine ev_sld (pc := 843) hC hSx (i + 1) rfl (by omega) hL dL_law_843 ?_
  refine ev_callV (pc := 844) (as := [vi (xs (i + 1)).toInt]) (rest := []) hC gL_law_X5_middle mtX5_middle dL_law_844 (ru_X5_middle hc (xs (i + 1)).toInt (i32r _)) (by decide) (by decide) (by decide) rfl (by rfl) (Nat.le_of_ble_eq_true rfl) rfl (fun v844 X844 h844 => ?_)
  obtain ⟨rfl, hc1, hf1⟩ := h844
  have hm1 := mI_frC hm hf1
  show Ev K 847 [some (.ref 44), some (.ref 0), some (.ref 29), some (vi ((i : Nat) : Int))] [vi (sp24 (xs (i + 1)).toInt V).1] X844
  refine ev_aload_n (pc := 847) hC dL_law_847 rfl ?_
  refine ev_aload_n (pc := 848) hC dL_law_848 rfl ?_
  refine ev_iload_n (pc := 849) hC dL_law_849 rfl ?_
  refine ev_iconst (pc := 850) hC dL_law_850 ?_
  refine ev_iadd (pc := 851) hC ((i + 1 : Nat) : Int) (by omega) dL_law_851 ?_
  refine ev_sld (pc := 852) hC hSx (i + 1) rfl (by omega) hL dL_law_852 ?_
  refine ev_callV (pc := 853) (as := [vi (xs (i + 1)).toInt]) (rest := [vi (sp24 (xs (i + 1)).toInt V).1]) hC gL_law_X6_middle mtX6_middle dL_law_853 (ru_X6_middle hm1 (xs (i + 1)).toInt (i32r _)) (by decide) (by decide) (by decide) rfl (by rfl) (Nat.le_of_ble_eq_true rfl) rfl (fun v853 X853 h853 => ?_)
  obtain ⟨rfl, hm2, hf2⟩ := h853
  have hc2 := cI_frM hc1 hf2
  show Ev K 856 [some (.ref 44), some (.ref 0), some (.ref 29), some (vi ((i : Nat) : Int))] [vi (sp24 (xs (i + 1)).toInt V).1, vi (sp24 (xs (i + 1)).toInt V).1] X853
  refine ev_isame (pc := 856) hC 1159 dL_law_856 (by decide) ?_
  exact hk _ _ hc2 hm2
set_option maxRecDepth 100000 in
set_option maxHeartbeats 4000000 in
theorem law_c25 {K : Kx} {Ln : Nat} {xs : Nat → Int32} (hKn : K.2.2.2.2.1 = 4) (hC : Cx K RL cL_law wsL_law 14 544) (hSx : Sx K Ln xs) (hL : Ln ≤ 2048) {i : Nat} (hi : i + 4 ≤ Ln) {V : St} {X : Mem} (hc : cI X V) (hm : mI X V) (hk : ∀ (W : St) (Y : Mem), cI Y W → mI Y W → Ev K 1159 [some (.ref 44), some (.ref 0), some (.ref 29), some (vi ((i : Nat) : Int))] [] Y) : Ev K 861 [some (.ref 44), some (.ref 0), some (.ref 29), some (vi ((i : Nat) : Int))] [] X := by
  refine ev_aload_n (pc := 861) hC dL_law_861 rfl ?_
  refine ev_aload_n (pc := 862) hC dL_law_862 rfl ?_
  refine ev_iload_n (pc := 863) hC dL_law_863 rfl ?_
  refine ev_iconst (pc := 864) hC dL_law_864 ?_
  refine ev_iadd (pc := 865) hC ((i + 1 : Nat) : Int) (by omega) dL_law_865 ?_
  refine ev_sld (pc := 866) hC hSx (i + 1) rfl (by omega) hL dL_law_866 ?_
  refine ev_aload_n (pc := 867) hC dL_law_867 rfl ?_
  refine ev_iload_n (pc := 868) hC dL_law_868 rfl ?_
  refine ev_iconst (pc := 869) hC dL_law_869 ?_
  refine ev_iadd (pc := 870) hC ((i + 2 : Nat) : Int) (by omega) dL_law_870 ?_
  refine ev_sld (pc := 871) hC hSx (i + 2) rfl (by omega) hL dL_law_871 ?_
  refine ev_aload_n (pc := 872) hC dL_law_872 rfl ?_
  refine ev_iload_n (pc := 873) hC dL_law_873 rfl ?_
  refine ev_iconst (pc := 874) hC dL_law_874 ?_
  refine ev_iadd (pc := 875) hC ((i + 3 : Nat) : Int) (by omega) dL_law_875 ?_
  refine ev_sld (pc := 876) hC hSx (i + 3) rfl (by omega) hL dL_law_876 ?_
  refine ev_callV (pc := 877) (as := [vi (xs (i + 1)).toInt, vi (xs (i + 2)).toInt, vi (xs (i + 3)).toInt]) (rest := []) hC gL_law_X5_wind mtX5_wind dL_law_877 (ru_X5_wind hc (xs (i + 1)).toInt (i32r _) (xs (i + 2)).toInt (i32r _) (xs (i + 3)).toInt (i32r _)) (by decide) (by decide) (by decide) rfl (by rfl) (Nat.le_of_ble_eq_true rfl) rfl (fun v877 X877 h877 => ?_)
  obtain ⟨rfl, hc1, hf1⟩ := h877
  have hm1 := mI_frC hm hf1
  show Ev K 880 [some (.ref 44), some (.ref 0), some (.ref 29), some (vi ((i : Nat) : Int))] [vl (sp25 (xs (i + 1)).toInt (xs (i + 2)).toInt (xs (i + 3)).toInt V).1] X877
  refine ev_aload_n (pc := 880) hC dL_law_880 rfl ?_
  refine ev_aload_n (pc := 881) hC dL_law_881 rfl ?_
  refine ev_iload_n (pc := 882) hC dL_law_882 rfl ?_
  refine ev_iconst (pc := 883) hC dL_law_883 ?_
  refine ev_iadd (pc := 884) hC ((i + 1 : Nat) : Int) (by omega) dL_law_884 ?_
  refine ev_sld (pc := 885) hC hSx (i + 1) rfl (by omega) hL dL_law_885 ?_
  refine ev_aload_n (pc := 886) hC dL_law_886 rfl ?_
  refine ev_iload_n (pc := 887) hC dL_law_887 rfl ?_
  refine ev_iconst (pc := 888) hC dL_law_888 ?_
  refine ev_iadd (pc := 889) hC ((i + 2 : Nat) : Int) (by omega) dL_law_889 ?_
  refine ev_sld (pc := 890) hC hSx (i + 2) rfl (by omega) hL dL_law_890 ?_
  refine ev_aload_n (pc := 891) hC dL_law_891 rfl ?_
  refine ev_iload_n (pc := 892) hC dL_law_892 rfl ?_
  refine ev_iconst (pc := 893) hC dL_law_893 ?_
  refine ev_iadd (pc := 894) hC ((i + 3 : Nat) : Int) (by omega) dL_law_894 ?_
  refine ev_sld (pc := 895) hC hSx (i + 3) rfl (by omega) hL dL_law_895 ?_
  refine ev_callV (pc := 896) (as := [vi (xs (i + 1)).toInt, vi (xs (i + 2)).toInt, vi (xs (i + 3)).toInt]) (rest := [vl (sp25 (xs (i + 1)).toInt (xs (i + 2)).toInt (xs (i + 3)).toInt V).1]) hC gL_law_X6_wind mtX6_wind dL_law_896 (ru_X6_wind hm1 (xs (i + 1)).toInt (i32r _) (xs (i + 2)).toInt (i32r _) (xs (i + 3)).toInt (i32r _)) (by decide) (by decide) (by decide) rfl (by rfl) (Nat.le_of_ble_eq_true rfl) rfl (fun v896 X896 h896 => ?_)
  obtain ⟨rfl, hm2, hf2⟩ := h896
  have hc2 := cI_frM hc1 hf2
  show Ev K 899 [some (.ref 44), some (.ref 0), some (.ref 29), some (vi ((i : Nat) : Int))] [vl (sp25 (xs (i + 1)).toInt (xs (i + 2)).toInt (xs (i + 3)).toInt V).1, vl (sp25 (xs (i + 1)).toInt (xs (i + 2)).toInt (xs (i + 3)).toInt V).1] X896
  refine ev_lsame (pc := 899) hC 1159 dL_law_899 dL_law_900 (by decide) ?_
  exact hk _ _ hc2 hm2
set_option maxRecDepth 100000 in
set_option maxHeartbeats 4000000 in
theorem law_c26 {K : Kx} {Ln : Nat} {xs : Nat → Int32} (hKn : K.2.2.2.2.1 = 4) (hC : Cx K RL cL_law wsL_law 14 544) (hSx : Sx K Ln xs) (hL : Ln ≤ 2048) {i : Nat} (hi : i + 4 ≤ Ln) {V : St} {X : Mem} (hc : cI X V) (hm : mI X V) (hk : ∀ (W : St) (Y : Mem), cI Y W → mI Y W → Ev K 1159 [some (.ref 44), some (.ref 0), some (.ref 29), some (vi ((i : Nat) : Int))] [] Y) : Ev K 905 [some (.ref 44), some (.ref 0), some (.ref 29), some (vi ((i : Nat) : Int))] [] X := by
  refine ev_aload_n (pc := 905) hC dL_law_905 rfl ?_
  refine ev_aload_n (pc := 906) hC dL_law_906 rfl ?_
  refine ev_iload_n (pc := 907) hC dL_law_907 rfl ?_
  refine ev_iconst (pc := 908) hC dL_law_908 ?_
  refine ev_iadd (pc := 909) hC ((i + 1 : Nat) : Int) (by omega) dL_law_909 ?_
  refine ev_sld (pc := 910) hC hSx (i + 1) rfl (by omega) hL dL_law_910 ?_
  refine ev_callV (pc := 911) (as := [vi (xs (i + 1)).toInt]) (rest := []) hC gL_law_X5_mean mtX5_mean dL_law_911 (ru_X5_mean hc (xs (i + 1)).toInt (i32r _)) (by decide) (by decide) (by decide) rfl (by rfl) (Nat.le_of_ble_eq_true rfl) rfl (fun v911 X911 h911 => ?_)
  obtain ⟨rfl, hc1, hf1⟩ := h911
  have hm1 := mI_frC hm hf1
  show Ev K 914 [some (.ref 44), some (.ref 0), some (.ref 29), some (vi ((i : Nat) : Int))] [vl (sp26 (xs (i + 1)).toInt V).1] X911
  refine ev_aload_n (pc := 914) hC dL_law_914 rfl ?_
  refine ev_aload_n (pc := 915) hC dL_law_915 rfl ?_
  refine ev_iload_n (pc := 916) hC dL_law_916 rfl ?_
  refine ev_iconst (pc := 917) hC dL_law_917 ?_
  refine ev_iadd (pc := 918) hC ((i + 1 : Nat) : Int) (by omega) dL_law_918 ?_
  refine ev_sld (pc := 919) hC hSx (i + 1) rfl (by omega) hL dL_law_919 ?_
  refine ev_callV (pc := 920) (as := [vi (xs (i + 1)).toInt]) (rest := [vl (sp26 (xs (i + 1)).toInt V).1]) hC gL_law_X6_mean mtX6_mean dL_law_920 (ru_X6_mean hm1 (xs (i + 1)).toInt (i32r _)) (by decide) (by decide) (by decide) rfl (by rfl) (Nat.le_of_ble_eq_true rfl) rfl (fun v920 X920 h920 => ?_)
  obtain ⟨rfl, hm2, hf2⟩ := h920
  have hc2 := cI_frM hc1 hf2
  show Ev K 923 [some (.ref 44), some (.ref 0), some (.ref 29), some (vi ((i : Nat) : Int))] [vl (sp26 (xs (i + 1)).toInt V).1, vl (sp26 (xs (i + 1)).toInt V).1] X920
  refine ev_lsame (pc := 923) hC 1159 dL_law_923 dL_law_924 (by decide) ?_
  exact hk _ _ hc2 hm2
set_option maxRecDepth 100000 in
set_option maxHeartbeats 4000000 in
theorem law_c27 {K : Kx} {Ln : Nat} {xs : Nat → Int32} (hKn : K.2.2.2.2.1 = 4) (hC : Cx K RL cL_law wsL_law 14 544) (hSx : Sx K Ln xs) (hL : Ln ≤ 2048) {i : Nat} (hi : i + 4 ≤ Ln) {V : St} {X : Mem} (hc : cI X V) (hm : mI X V) (hk : ∀ (W : St) (Y : Mem), cI Y W → mI Y W → Ev K 1159 [some (.ref 44), some (.ref 0), some (.ref 29), some (vi ((i : Nat) : Int))] [] Y) : Ev K 929 [some (.ref 44), some (.ref 0), some (.ref 29), some (vi ((i : Nat) : Int))] [] X := by
  refine ev_aload_n (pc := 929) hC dL_law_929 rfl ?_
  refine ev_aload_n (pc := 930) hC dL_law_930 rfl ?_
  refine ev_iload_n (pc := 931) hC dL_law_931 rfl ?_
  refine ev_iconst (pc := 932) hC dL_law_932 ?_
  refine ev_iadd (pc := 933) hC ((i + 1 : Nat) : Int) (by omega) dL_law_933 ?_
  refine ev_sld (pc := 934) hC hSx (i + 1) rfl (by omega) hL dL_law_934 ?_
  refine ev_aload_n (pc := 935) hC dL_law_935 rfl ?_
  refine ev_iload_n (pc := 936) hC dL_law_936 rfl ?_
  refine ev_iconst (pc := 937) hC dL_law_937 ?_
  refine ev_iadd (pc := 938) hC ((i + 2 : Nat) : Int) (by omega) dL_law_938 ?_
  refine ev_sld (pc := 939) hC hSx (i + 2) rfl (by omega) hL dL_law_939 ?_
  refine ev_aload_n (pc := 940) hC dL_law_940 rfl ?_
  refine ev_iload_n (pc := 941) hC dL_law_941 rfl ?_
  refine ev_iconst (pc := 942) hC dL_law_942 ?_
  refine ev_iadd (pc := 943) hC ((i + 3 : Nat) : Int) (by omega) dL_law_943 ?_
  refine ev_sld (pc := 944) hC hSx (i + 3) rfl (by omega) hL dL_law_944 ?_
  refine ev_callV (pc := 945) (as := [vi (xs (i + 1)).toInt, vi (xs (i + 2)).toInt, vi (xs (i + 3)).toInt]) (rest := []) hC gL_law_X5_two mtX5_two dL_law_945 (ru_X5_two hc (xs (i + 1)).toInt (i32r _) (xs (i + 2)).toInt (i32r _) (xs (i + 3)).toInt (i32r _)) (by decide) (by decide) (by decide) rfl (by rfl) (Nat.le_of_ble_eq_true rfl) rfl (fun v945 X945 h945 => ?_)
  obtain ⟨rfl, hc1, hf1⟩ := h945
  have hm1 := mI_frC hm hf1
  show Ev K 948 [some (.ref 44), some (.ref 0), some (.ref 29), some (vi ((i : Nat) : Int))] [vi (sp27 (xs (i + 1)).toInt (xs (i + 2)).toInt (xs (i + 3)).toInt V).1] X945
  refine ev_aload_n (pc := 948) hC dL_law_948 rfl ?_
  refine ev_aload_n (pc := 949) hC dL_law_949 rfl ?_
  refine ev_iload_n (pc := 950) hC dL_law_950 rfl ?_
  refine ev_iconst (pc := 951) hC dL_law_951 ?_
  refine ev_iadd (pc := 952) hC ((i + 1 : Nat) : Int) (by omega) dL_law_952 ?_
  refine ev_sld (pc := 953) hC hSx (i + 1) rfl (by omega) hL dL_law_953 ?_
  refine ev_aload_n (pc := 954) hC dL_law_954 rfl ?_
  refine ev_iload_n (pc := 955) hC dL_law_955 rfl ?_
  refine ev_iconst (pc := 956) hC dL_law_956 ?_
  refine ev_iadd (pc := 957) hC ((i + 2 : Nat) : Int) (by omega) dL_law_957 ?_
  refine ev_sld (pc := 958) hC hSx (i + 2) rfl (by omega) hL dL_law_958 ?_
  refine ev_aload_n (pc := 959) hC dL_law_959 rfl ?_
  refine ev_iload_n (pc := 960) hC dL_law_960 rfl ?_
  refine ev_iconst (pc := 961) hC dL_law_961 ?_
  refine ev_iadd (pc := 962) hC ((i + 3 : Nat) : Int) (by omega) dL_law_962 ?_
  refine ev_sld (pc := 963) hC hSx (i + 3) rfl (by omega) hL dL_law_963 ?_
  refine ev_callV (pc := 964) (as := [vi (xs (i + 1)).toInt, vi (xs (i + 2)).toInt, vi (xs (i + 3)).toInt]) (rest := [vi (sp27 (xs (i + 1)).toInt (xs (i + 2)).toInt (xs (i + 3)).toInt V).1]) hC gL_law_X6_two mtX6_two dL_law_964 (ru_X6_two hm1 (xs (i + 1)).toInt (i32r _) (xs (i + 2)).toInt (i32r _) (xs (i + 3)).toInt (i32r _)) (by decide) (by decide) (by decide) rfl (by rfl) (Nat.le_of_ble_eq_true rfl) rfl (fun v964 X964 h964 => ?_)
  obtain ⟨rfl, hm2, hf2⟩ := h964
  have hc2 := cI_frM hc1 hf2
  show Ev K 967 [some (.ref 44), some (.ref 0), some (.ref 29), some (vi ((i : Nat) : Int))] [vi (sp27 (xs (i + 1)).toInt (xs (i + 2)).toInt (xs (i + 3)).toInt V).1, vi (sp27 (xs (i + 1)).toInt (xs (i + 2)).toInt (xs (i + 3)).toInt V).1] X964
  refine ev_isame (pc := 967) hC 1159 dL_law_967 (by decide) ?_
  exact hk _ _ hc2 hm2
set_option maxRecDepth 100000 in
set_option maxHeartbeats 4000000 in
theorem law_c28 {K : Kx} {Ln : Nat} {xs : Nat → Int32} (hKn : K.2.2.2.2.1 = 4) (hC : Cx K RL cL_law wsL_law 14 544) (hSx : Sx K Ln xs) (hL : Ln ≤ 2048) {i : Nat} (hi : i + 4 ≤ Ln) {V : St} {X : Mem} (hc : cI X V) (hm : mI X V) (hk : ∀ (W : St) (Y : Mem), cI Y W → mI Y W → Ev K 1159 [some (.ref 44), some (.ref 0), some (.ref 29), some (vi ((i : Nat) : Int))] [] Y) : Ev K 972 [some (.ref 44), some (.ref 0), some (.ref 29), some (vi ((i : Nat) : Int))] [] X := by
  refine ev_aload_n (pc := 972) hC dL_law_972 rfl ?_
  refine ev_aload_n (pc := 973) hC dL_law_973 rfl ?_
  refine ev_iload_n (pc := 974) hC dL_law_974 rfl ?_
  refine ev_iconst (pc := 975) hC dL_law_975 ?_
  refine ev_iadd (pc := 976) hC ((i + 1 : Nat) : Int) (by omega) dL_law_976 ?_
  refine ev_sld (pc := 977) hC hSx (i + 1) rfl (by omega) hL dL_law_977 ?_
  refine ev_aload_n (pc := 978) hC dL_law_978 rfl ?_
  refine ev_iload_n (pc := 979) hC dL_law_979 rfl ?_
  refine ev_iconst (pc := 980) hC dL_law_980 ?_
  refine ev_iadd (pc := 981) hC ((i + 2 : Nat) : Int) (by omega) dL_law_981 ?_
  refine ev_sld (pc := 982) hC hSx (i + 2) rfl (by omega) hL dL_law_982 ?_
  refine ev_callV (pc := 983) (as := [vi (xs (i + 1)).toInt, vi (xs (i + 2)).toInt]) (rest := []) hC gL_law_X5_whatIs mtX5_whatIs dL_law_983 (ru_X5_whatIs hc (xs (i + 1)).toInt (i32r _) (xs (i + 2)).toInt (i32r _)) (by decide) (by decide) (by decide) rfl (by rfl) (Nat.le_of_ble_eq_true rfl) rfl (fun v983 X983 h983 => ?_)
  obtain ⟨rfl, hc1, hf1⟩ := h983
  have hm1 := mI_frC hm hf1
  show Ev K 986 [some (.ref 44), some (.ref 0), some (.ref 29), some (vi ((i : Nat) : Int))] [vi (sp28 (xs (i + 1)).toInt (xs (i + 2)).toInt V).1] X983
  refine ev_aload_n (pc := 986) hC dL_law_986 rfl ?_
  refine ev_aload_n (pc := 987) hC dL_law_987 rfl ?_
  refine ev_iload_n (pc := 988) hC dL_law_988 rfl ?_
  refine ev_iconst (pc := 989) hC dL_law_989 ?_
  refine ev_iadd (pc := 990) hC ((i + 1 : Nat) : Int) (by omega) dL_law_990 ?_
  refine ev_sld (pc := 991) hC hSx (i + 1) rfl (by omega) hL dL_law_991 ?_
  refine ev_aload_n (pc := 992) hC dL_law_992 rfl ?_
  refine ev_iload_n (pc := 993) hC dL_law_993 rfl ?_
  refine ev_iconst (pc := 994) hC dL_law_994 ?_
  refine ev_iadd (pc := 995) hC ((i + 2 : Nat) : Int) (by omega) dL_law_995 ?_
  refine ev_sld (pc := 996) hC hSx (i + 2) rfl (by omega) hL dL_law_996 ?_
  refine ev_callV (pc := 997) (as := [vi (xs (i + 1)).toInt, vi (xs (i + 2)).toInt]) (rest := [vi (sp28 (xs (i + 1)).toInt (xs (i + 2)).toInt V).1]) hC gL_law_X6_whatIs mtX6_whatIs dL_law_997 (ru_X6_whatIs hm1 (xs (i + 1)).toInt (i32r _) (xs (i + 2)).toInt (i32r _)) (by decide) (by decide) (by decide) rfl (by rfl) (Nat.le_of_ble_eq_true rfl) rfl (fun v997 X997 h997 => ?_)
  obtain ⟨rfl, hm2, hf2⟩ := h997
  have hc2 := cI_frM hc1 hf2
  show Ev K 1000 [some (.ref 44), some (.ref 0), some (.ref 29), some (vi ((i : Nat) : Int))] [vi (sp28 (xs (i + 1)).toInt (xs (i + 2)).toInt V).1, vi (sp28 (xs (i + 1)).toInt (xs (i + 2)).toInt V).1] X997
  refine ev_isame (pc := 1000) hC 1159 dL_law_1000 (by decide) ?_
  exact hk _ _ hc2 hm2
set_option maxRecDepth 100000 in
set_option maxHeartbeats 4000000 in
theorem law_c29 {K : Kx} {Ln : Nat} {xs : Nat → Int32} (hKn : K.2.2.2.2.1 = 4) (hC : Cx K RL cL_law wsL_law 14 544) (hSx : Sx K Ln xs) (hL : Ln ≤ 2048) {i : Nat} (hi : i + 4 ≤ Ln) {V : St} {X : Mem} (hc : cI X V) (hm : mI X V) (hk : ∀ (W : St) (Y : Mem), cI Y W → mI Y W → Ev K 1159 [some (.ref 44), some (.ref 0), some (.ref 29), some (vi ((i : Nat) : Int))] [] Y) : Ev K 1005 [some (.ref 44), some (.ref 0), some (.ref 29), some (vi ((i : Nat) : Int))] [] X := by
  refine ev_aload_n (pc := 1005) hC dL_law_1005 rfl ?_
  refine ev_callV (pc := 1006) (as := []) (rest := []) hC gL_law_X5_who mtX5_who dL_law_1006 (ru_X5_who hc) (by decide) (by decide) (by decide) rfl (by rfl) (Nat.le_of_ble_eq_true rfl) rfl (fun v1006 X1006 h1006 => ?_)
  obtain ⟨rfl, hc1, hf1⟩ := h1006
  have hm1 := mI_frC hm hf1
  show Ev K 1009 [some (.ref 44), some (.ref 0), some (.ref 29), some (vi ((i : Nat) : Int))] [vi (sp29 V).1] X1006
  refine ev_aload_n (pc := 1009) hC dL_law_1009 rfl ?_
  refine ev_callV (pc := 1010) (as := []) (rest := [vi (sp29 V).1]) hC gL_law_X6_who mtX6_who dL_law_1010 (ru_X6_who hm1) (by decide) (by decide) (by decide) rfl (by rfl) (Nat.le_of_ble_eq_true rfl) rfl (fun v1010 X1010 h1010 => ?_)
  obtain ⟨rfl, hm2, hf2⟩ := h1010
  have hc2 := cI_frM hc1 hf2
  show Ev K 1013 [some (.ref 44), some (.ref 0), some (.ref 29), some (vi ((i : Nat) : Int))] [vi (sp29 V).1, vi (sp29 V).1] X1010
  refine ev_isame (pc := 1013) hC 1159 dL_law_1013 (by decide) ?_
  exact hk _ _ hc2 hm2
set_option maxRecDepth 100000 in
set_option maxHeartbeats 4000000 in
theorem law_c30 {K : Kx} {Ln : Nat} {xs : Nat → Int32} (hKn : K.2.2.2.2.1 = 4) (hC : Cx K RL cL_law wsL_law 14 544) (hSx : Sx K Ln xs) (hL : Ln ≤ 2048) {i : Nat} (hi : i + 4 ≤ Ln) {V : St} {X : Mem} (hc : cI X V) (hm : mI X V) (hk : ∀ (W : St) (Y : Mem), cI Y W → mI Y W → Ev K 1159 [some (.ref 44), some (.ref 0), some (.ref 29), some (vi ((i : Nat) : Int))] [] Y) : Ev K 1018 [some (.ref 44), some (.ref 0), some (.ref 29), some (vi ((i : Nat) : Int))] [] X := by
  refine ev_aload_n (pc := 1018) hC dL_law_1018 rfl ?_
  refine ev_aload_n (pc := 1019) hC dL_law_1019 rfl ?_
  refine ev_iload_n (pc := 1020) hC dL_law_1020 rfl ?_
  refine ev_iconst (pc := 1021) hC dL_law_1021 ?_
  refine ev_iadd (pc := 1022) hC ((i + 1 : Nat) : Int) (by omega) dL_law_1022 ?_
  refine ev_sld (pc := 1023) hC hSx (i + 1) rfl (by omega) hL dL_law_1023 ?_
  refine ev_callV (pc := 1024) (as := [vi (xs (i + 1)).toInt]) (rest := []) hC gL_law_X5_row mtX5_row dL_law_1024 (ru_X5_row hc (xs (i + 1)).toInt (i32r _)) (by decide) (by decide) (by decide) rfl (by rfl) (Nat.le_of_ble_eq_true rfl) rfl (fun v1024 X1024 h1024 => ?_)
  obtain ⟨rfl, hc1, hf1⟩ := h1024
  have hm1 := mI_frC hm hf1
  show Ev K 1027 [some (.ref 44), some (.ref 0), some (.ref 29), some (vi ((i : Nat) : Int))] [vi (sp30 (xs (i + 1)).toInt V).1] X1024
  refine ev_aload_n (pc := 1027) hC dL_law_1027 rfl ?_
  refine ev_aload_n (pc := 1028) hC dL_law_1028 rfl ?_
  refine ev_iload_n (pc := 1029) hC dL_law_1029 rfl ?_
  refine ev_iconst (pc := 1030) hC dL_law_1030 ?_
  refine ev_iadd (pc := 1031) hC ((i + 1 : Nat) : Int) (by omega) dL_law_1031 ?_
  refine ev_sld (pc := 1032) hC hSx (i + 1) rfl (by omega) hL dL_law_1032 ?_
  refine ev_callV (pc := 1033) (as := [vi (xs (i + 1)).toInt]) (rest := [vi (sp30 (xs (i + 1)).toInt V).1]) hC gL_law_X6_row mtX6_row dL_law_1033 (ru_X6_row hm1 (xs (i + 1)).toInt (i32r _)) (by decide) (by decide) (by decide) rfl (by rfl) (Nat.le_of_ble_eq_true rfl) rfl (fun v1033 X1033 h1033 => ?_)
  obtain ⟨rfl, hm2, hf2⟩ := h1033
  have hc2 := cI_frM hc1 hf2
  show Ev K 1036 [some (.ref 44), some (.ref 0), some (.ref 29), some (vi ((i : Nat) : Int))] [vi (sp30 (xs (i + 1)).toInt V).1, vi (sp30 (xs (i + 1)).toInt V).1] X1033
  refine ev_isame (pc := 1036) hC 1159 dL_law_1036 (by decide) ?_
  exact hk _ _ hc2 hm2
set_option maxRecDepth 100000 in
set_option maxHeartbeats 4000000 in
theorem law_c31 {K : Kx} {Ln : Nat} {xs : Nat → Int32} (hKn : K.2.2.2.2.1 = 4) (hC : Cx K RL cL_law wsL_law 14 544) (hSx : Sx K Ln xs) (hL : Ln ≤ 2048) {i : Nat} (hi : i + 4 ≤ Ln) {V : St} {X : Mem} (hc : cI X V) (hm : mI X V) (hk : ∀ (W : St) (Y : Mem), cI Y W → mI Y W → Ev K 1159 [some (.ref 44), some (.ref 0), some (.ref 29), some (vi ((i : Nat) : Int))] [] Y) : Ev K 1041 [some (.ref 44), some (.ref 0), some (.ref 29), some (vi ((i : Nat) : Int))] [] X := by
  refine ev_aload_n (pc := 1041) hC dL_law_1041 rfl ?_
  refine ev_callV (pc := 1042) (as := []) (rest := []) hC gL_law_X5_judge mtX5_judge dL_law_1042 (ru_X5_judge hc) (by decide) (by decide) (by decide) rfl (by rfl) (Nat.le_of_ble_eq_true rfl) rfl (fun v1042 X1042 h1042 => ?_)
  obtain ⟨rfl, hc1, hf1⟩ := h1042
  have hm1 := mI_frC hm hf1
  show Ev K 1045 [some (.ref 44), some (.ref 0), some (.ref 29), some (vi ((i : Nat) : Int))] [vi (sp31 V).1] X1042
  refine ev_aload_n (pc := 1045) hC dL_law_1045 rfl ?_
  refine ev_callV (pc := 1046) (as := []) (rest := [vi (sp31 V).1]) hC gL_law_X6_judge mtX6_judge dL_law_1046 (ru_X6_judge hm1) (by decide) (by decide) (by decide) rfl (by rfl) (Nat.le_of_ble_eq_true rfl) rfl (fun v1046 X1046 h1046 => ?_)
  obtain ⟨rfl, hm2, hf2⟩ := h1046
  have hc2 := cI_frM hc1 hf2
  show Ev K 1049 [some (.ref 44), some (.ref 0), some (.ref 29), some (vi ((i : Nat) : Int))] [vi (sp31 V).1, vi (sp31 V).1] X1046
  refine ev_isame (pc := 1049) hC 1159 dL_law_1049 (by decide) ?_
  exact hk _ _ hc2 hm2
set_option maxRecDepth 100000 in
set_option maxHeartbeats 4000000 in
theorem law_c32 {K : Kx} {Ln : Nat} {xs : Nat → Int32} (hKn : K.2.2.2.2.1 = 4) (hC : Cx K RL cL_law wsL_law 14 544) (hSx : Sx K Ln xs) (hL : Ln ≤ 2048) {i : Nat} (hi : i + 4 ≤ Ln) {V : St} {X : Mem} (hc : cI X V) (hm : mI X V) (hk : ∀ (W : St) (Y : Mem), cI Y W → mI Y W → Ev K 1159 [some (.ref 44), some (.ref 0), some (.ref 29), some (vi ((i : Nat) : Int))] [] Y) : Ev K 1054 [some (.ref 44), some (.ref 0), some (.ref 29), some (vi ((i : Nat) : Int))] [] X := by
  refine ev_aload_n (pc := 1054) hC dL_law_1054 rfl ?_
  refine ev_callV (pc := 1055) (as := []) (rest := []) hC gL_law_X5_clear mtX5_clear dL_law_1055 (ru_X5_clear hc) (by decide) (by decide) (by decide) rfl (by rfl) (Nat.le_of_ble_eq_true rfl) rfl (fun v1055 X1055 h1055 => ?_)
  obtain ⟨rfl, hc1, hf1⟩ := h1055
  have hm1 := mI_frC hm hf1
  show Ev K 1058 [some (.ref 44), some (.ref 0), some (.ref 29), some (vi ((i : Nat) : Int))] [vi (sp32 V).1] X1055
  refine ev_aload_n (pc := 1058) hC dL_law_1058 rfl ?_
  refine ev_callV (pc := 1059) (as := []) (rest := [vi (sp32 V).1]) hC gL_law_X6_clear mtX6_clear dL_law_1059 (ru_X6_clear hm1) (by decide) (by decide) (by decide) rfl (by rfl) (Nat.le_of_ble_eq_true rfl) rfl (fun v1059 X1059 h1059 => ?_)
  obtain ⟨rfl, hm2, hf2⟩ := h1059
  have hc2 := cI_frM hc1 hf2
  show Ev K 1062 [some (.ref 44), some (.ref 0), some (.ref 29), some (vi ((i : Nat) : Int))] [vi (sp32 V).1, vi (sp32 V).1] X1059
  refine ev_isame (pc := 1062) hC 1159 dL_law_1062 (by decide) ?_
  exact hk _ _ hc2 hm2
set_option maxRecDepth 100000 in
set_option maxHeartbeats 4000000 in
theorem law_c33 {K : Kx} {Ln : Nat} {xs : Nat → Int32} (hKn : K.2.2.2.2.1 = 4) (hC : Cx K RL cL_law wsL_law 14 544) (hSx : Sx K Ln xs) (hL : Ln ≤ 2048) {i : Nat} (hi : i + 4 ≤ Ln) {V : St} {X : Mem} (hc : cI X V) (hm : mI X V) (hk : ∀ (W : St) (Y : Mem), cI Y W → mI Y W → Ev K 1159 [some (.ref 44), some (.ref 0), some (.ref 29), some (vi ((i : Nat) : Int))] [] Y) : Ev K 1067 [some (.ref 44), some (.ref 0), some (.ref 29), some (vi ((i : Nat) : Int))] [] X := by
  refine ev_aload_n (pc := 1067) hC dL_law_1067 rfl ?_
  refine ev_aload_n (pc := 1068) hC dL_law_1068 rfl ?_
  refine ev_iload_n (pc := 1069) hC dL_law_1069 rfl ?_
  refine ev_iconst (pc := 1070) hC dL_law_1070 ?_
  refine ev_iadd (pc := 1071) hC ((i + 1 : Nat) : Int) (by omega) dL_law_1071 ?_
  refine ev_sld (pc := 1072) hC hSx (i + 1) rfl (by omega) hL dL_law_1072 ?_
  refine ev_aload_n (pc := 1073) hC dL_law_1073 rfl ?_
  refine ev_iload_n (pc := 1074) hC dL_law_1074 rfl ?_
  refine ev_iconst (pc := 1075) hC dL_law_1075 ?_
  refine ev_iadd (pc := 1076) hC ((i + 2 : Nat) : Int) (by omega) dL_law_1076 ?_
  refine ev_sld (pc := 1077) hC hSx (i + 2) rfl (by omega) hL dL_law_1077 ?_
  refine ev_aload_n (pc := 1078) hC dL_law_1078 rfl ?_
  refine ev_iload_n (pc := 1079) hC dL_law_1079 rfl ?_
  refine ev_iconst (pc := 1080) hC dL_law_1080 ?_
  refine ev_iadd (pc := 1081) hC ((i + 3 : Nat) : Int) (by omega) dL_law_1081 ?_
  refine ev_sld (pc := 1082) hC hSx (i + 3) rfl (by omega) hL dL_law_1082 ?_
  refine ev_callV (pc := 1083) (as := [vi (xs (i + 1)).toInt, vi (xs (i + 2)).toInt, vi (xs (i + 3)).toInt]) (rest := []) hC gL_law_X5_lots mtX5_lots dL_law_1083 (ru_X5_lots hc (xs (i + 1)).toInt (i32r _) (xs (i + 2)).toInt (i32r _) (xs (i + 3)).toInt (i32r _)) (by decide) (by decide) (by decide) rfl (by rfl) (Nat.le_of_ble_eq_true rfl) rfl (fun v1083 X1083 h1083 => ?_)
  obtain ⟨rfl, hc1, hf1⟩ := h1083
  have hm1 := mI_frC hm hf1
  show Ev K 1086 [some (.ref 44), some (.ref 0), some (.ref 29), some (vi ((i : Nat) : Int))] [vi (sp33 (xs (i + 1)).toInt (xs (i + 2)).toInt (xs (i + 3)).toInt V).1] X1083
  refine ev_aload_n (pc := 1086) hC dL_law_1086 rfl ?_
  refine ev_aload_n (pc := 1087) hC dL_law_1087 rfl ?_
  refine ev_iload_n (pc := 1088) hC dL_law_1088 rfl ?_
  refine ev_iconst (pc := 1089) hC dL_law_1089 ?_
  refine ev_iadd (pc := 1090) hC ((i + 1 : Nat) : Int) (by omega) dL_law_1090 ?_
  refine ev_sld (pc := 1091) hC hSx (i + 1) rfl (by omega) hL dL_law_1091 ?_
  refine ev_aload_n (pc := 1092) hC dL_law_1092 rfl ?_
  refine ev_iload_n (pc := 1093) hC dL_law_1093 rfl ?_
  refine ev_iconst (pc := 1094) hC dL_law_1094 ?_
  refine ev_iadd (pc := 1095) hC ((i + 2 : Nat) : Int) (by omega) dL_law_1095 ?_
  refine ev_sld (pc := 1096) hC hSx (i + 2) rfl (by omega) hL dL_law_1096 ?_
  refine ev_aload_n (pc := 1097) hC dL_law_1097 rfl ?_
  refine ev_iload_n (pc := 1098) hC dL_law_1098 rfl ?_
  refine ev_iconst (pc := 1099) hC dL_law_1099 ?_
  refine ev_iadd (pc := 1100) hC ((i + 3 : Nat) : Int) (by omega) dL_law_1100 ?_
  refine ev_sld (pc := 1101) hC hSx (i + 3) rfl (by omega) hL dL_law_1101 ?_
  refine ev_callV (pc := 1102) (as := [vi (xs (i + 1)).toInt, vi (xs (i + 2)).toInt, vi (xs (i + 3)).toInt]) (rest := [vi (sp33 (xs (i + 1)).toInt (xs (i + 2)).toInt (xs (i + 3)).toInt V).1]) hC gL_law_X6_lots mtX6_lots dL_law_1102 (ru_X6_lots hm1 (xs (i + 1)).toInt (i32r _) (xs (i + 2)).toInt (i32r _) (xs (i + 3)).toInt (i32r _)) (by decide) (by decide) (by decide) rfl (by rfl) (Nat.le_of_ble_eq_true rfl) rfl (fun v1102 X1102 h1102 => ?_)
  obtain ⟨rfl, hm2, hf2⟩ := h1102
  have hc2 := cI_frM hc1 hf2
  show Ev K 1105 [some (.ref 44), some (.ref 0), some (.ref 29), some (vi ((i : Nat) : Int))] [vi (sp33 (xs (i + 1)).toInt (xs (i + 2)).toInt (xs (i + 3)).toInt V).1, vi (sp33 (xs (i + 1)).toInt (xs (i + 2)).toInt (xs (i + 3)).toInt V).1] X1102
  refine ev_isame (pc := 1105) hC 1159 dL_law_1105 (by decide) ?_
  exact hk _ _ hc2 hm2
set_option maxRecDepth 100000 in
set_option maxHeartbeats 4000000 in
theorem law_c34 {K : Kx} {Ln : Nat} {xs : Nat → Int32} (hKn : K.2.2.2.2.1 = 4) (hC : Cx K RL cL_law wsL_law 14 544) (hSx : Sx K Ln xs) (hL : Ln ≤ 2048) {i : Nat} (hi : i + 4 ≤ Ln) {V : St} {X : Mem} (hc : cI X V) (hm : mI X V) (hk : ∀ (W : St) (Y : Mem), cI Y W → mI Y W → Ev K 1159 [some (.ref 44), some (.ref 0), some (.ref 29), some (vi ((i : Nat) : Int))] [] Y) : Ev K 1110 [some (.ref 44), some (.ref 0), some (.ref 29), some (vi ((i : Nat) : Int))] [] X := by
  refine ev_aload_n (pc := 1110) hC dL_law_1110 rfl ?_
  refine ev_callV (pc := 1111) (as := []) (rest := []) hC gL_law_X5_image mtX5_image dL_law_1111 (ru_X5_image hc) (by decide) (by decide) (by decide) rfl (by rfl) (Nat.le_of_ble_eq_true rfl) rfl (fun v1111 X1111 h1111 => ?_)
  obtain ⟨rfl, hc1, hf1⟩ := h1111
  have hm1 := mI_frC hm hf1
  show Ev K 1114 [some (.ref 44), some (.ref 0), some (.ref 29), some (vi ((i : Nat) : Int))] [vi (sp34 V).1] X1111
  refine ev_aload_n (pc := 1114) hC dL_law_1114 rfl ?_
  refine ev_callV (pc := 1115) (as := []) (rest := [vi (sp34 V).1]) hC gL_law_X6_image mtX6_image dL_law_1115 (ru_X6_image hm1) (by decide) (by decide) (by decide) rfl (by rfl) (Nat.le_of_ble_eq_true rfl) rfl (fun v1115 X1115 h1115 => ?_)
  obtain ⟨rfl, hm2, hf2⟩ := h1115
  have hc2 := cI_frM hc1 hf2
  show Ev K 1118 [some (.ref 44), some (.ref 0), some (.ref 29), some (vi ((i : Nat) : Int))] [vi (sp34 V).1, vi (sp34 V).1] X1115
  refine ev_isame (pc := 1118) hC 1159 dL_law_1118 (by decide) ?_
  exact hk _ _ hc2 hm2
set_option maxRecDepth 100000 in
set_option maxHeartbeats 4000000 in
theorem law_c35 {K : Kx} {Ln : Nat} {xs : Nat → Int32} (hKn : K.2.2.2.2.1 = 4) (hC : Cx K RL cL_law wsL_law 14 544) (hSx : Sx K Ln xs) (hL : Ln ≤ 2048) {i : Nat} (hi : i + 4 ≤ Ln) {V : St} {X : Mem} (hc : cI X V) (hm : mI X V) (hk : ∀ (W : St) (Y : Mem), cI Y W → mI Y W → Ev K 1159 [some (.ref 44), some (.ref 0), some (.ref 29), some (vi ((i : Nat) : Int))] [] Y) : Ev K 1123 [some (.ref 44), some (.ref 0), some (.ref 29), some (vi ((i : Nat) : Int))] [] X := by
  refine ev_aload_n (pc := 1123) hC dL_law_1123 rfl ?_
  refine ev_callV (pc := 1124) (as := []) (rest := []) hC gL_law_X5_on mtX5_on dL_law_1124 (ru_X5_on hc) (by decide) (by decide) (by decide) rfl (by rfl) (Nat.le_of_ble_eq_true rfl) rfl (fun v1124 X1124 h1124 => ?_)
  obtain ⟨rfl, hc1, hf1⟩ := h1124
  have hm1 := mI_frC hm hf1
  show Ev K 1127 [some (.ref 44), some (.ref 0), some (.ref 29), some (vi ((i : Nat) : Int))] [vi (sp35 V).1] X1124
  refine ev_aload_n (pc := 1127) hC dL_law_1127 rfl ?_
  refine ev_callV (pc := 1128) (as := []) (rest := [vi (sp35 V).1]) hC gL_law_X6_on mtX6_on dL_law_1128 (ru_X6_on hm1) (by decide) (by decide) (by decide) rfl (by rfl) (Nat.le_of_ble_eq_true rfl) rfl (fun v1128 X1128 h1128 => ?_)
  obtain ⟨rfl, hm2, hf2⟩ := h1128
  have hc2 := cI_frM hc1 hf2
  show Ev K 1131 [some (.ref 44), some (.ref 0), some (.ref 29), some (vi ((i : Nat) : Int))] [vi (sp35 V).1, vi (sp35 V).1] X1128
  refine ev_isame (pc := 1131) hC 1159 dL_law_1131 (by decide) ?_
  exact hk _ _ hc2 hm2
set_option maxRecDepth 100000 in
set_option maxHeartbeats 4000000 in
theorem law_c36 {K : Kx} {Ln : Nat} {xs : Nat → Int32} (hKn : K.2.2.2.2.1 = 4) (hC : Cx K RL cL_law wsL_law 14 544) (hSx : Sx K Ln xs) (hL : Ln ≤ 2048) {i : Nat} (hi : i + 4 ≤ Ln) {V : St} {X : Mem} (hc : cI X V) (hm : mI X V) (hk : ∀ (W : St) (Y : Mem), cI Y W → mI Y W → Ev K 1159 [some (.ref 44), some (.ref 0), some (.ref 29), some (vi ((i : Nat) : Int))] [] Y) : Ev K 1136 [some (.ref 44), some (.ref 0), some (.ref 29), some (vi ((i : Nat) : Int))] [] X := by
  refine ev_aload_n (pc := 1136) hC dL_law_1136 rfl ?_
  refine ev_aload_n (pc := 1137) hC dL_law_1137 rfl ?_
  refine ev_iload_n (pc := 1138) hC dL_law_1138 rfl ?_
  refine ev_iconst (pc := 1139) hC dL_law_1139 ?_
  refine ev_iadd (pc := 1140) hC ((i + 1 : Nat) : Int) (by omega) dL_law_1140 ?_
  refine ev_sld (pc := 1141) hC hSx (i + 1) rfl (by omega) hL dL_law_1141 ?_
  refine ev_callV (pc := 1142) (as := [vi (xs (i + 1)).toInt]) (rest := []) hC gL_law_X5_count mtX5_count dL_law_1142 (ru_X5_count hc (xs (i + 1)).toInt (i32r _)) (by decide) (by decide) (by decide) rfl (by rfl) (Nat.le_of_ble_eq_true rfl) rfl (fun v1142 X1142 h1142 => ?_)
  obtain ⟨rfl, hc1, hf1⟩ := h1142
  have hm1 := mI_frC hm hf1
  show Ev K 1145 [some (.ref 44), some (.ref 0), some (.ref 29), some (vi ((i : Nat) : Int))] [vi (sp36 (xs (i + 1)).toInt V).1] X1142
  refine ev_aload_n (pc := 1145) hC dL_law_1145 rfl ?_
  refine ev_aload_n (pc := 1146) hC dL_law_1146 rfl ?_
  refine ev_iload_n (pc := 1147) hC dL_law_1147 rfl ?_
  refine ev_iconst (pc := 1148) hC dL_law_1148 ?_
  refine ev_iadd (pc := 1149) hC ((i + 1 : Nat) : Int) (by omega) dL_law_1149 ?_
  refine ev_sld (pc := 1150) hC hSx (i + 1) rfl (by omega) hL dL_law_1150 ?_
  refine ev_callV (pc := 1151) (as := [vi (xs (i + 1)).toInt]) (rest := [vi (sp36 (xs (i + 1)).toInt V).1]) hC gL_law_X6_count mtX6_count dL_law_1151 (ru_X6_count hm1 (xs (i + 1)).toInt (i32r _)) (by decide) (by decide) (by decide) rfl (by rfl) (Nat.le_of_ble_eq_true rfl) rfl (fun v1151 X1151 h1151 => ?_)
  obtain ⟨rfl, hm2, hf2⟩ := h1151
  have hc2 := cI_frM hc1 hf2
  show Ev K 1154 [some (.ref 44), some (.ref 0), some (.ref 29), some (vi ((i : Nat) : Int))] [vi (sp36 (xs (i + 1)).toInt V).1, vi (sp36 (xs (i + 1)).toInt V).1] X1151
  refine ev_isame (pc := 1154) hC 1159 dL_law_1154 (by decide) ?_
  exact hk _ _ hc2 hm2
set_option maxRecDepth 100000 in
set_option maxHeartbeats 4000000 in
theorem law_loop {K : Kx} {Ln : Nat} {xs : Nat → Int32} (hKn : K.2.2.2.2.1 = 4) (hC : Cx K RL cL_law wsL_law 14 544) (hSx : Sx K Ln xs) (hL : Ln ≤ 2048) (hend : ∀ (L : List (Option Value)) (Y : Mem), Ev K 1166 L [vi 1] Y) : ∀ (fz i : Nat) (V : St) (X : Mem), Ln - i < fz → i ≤ Ln → cI X V → mI X V → Ev K 18 [some (.ref 44), some (.ref 0), some (.ref 29), some (vi ((i : Nat) : Int))] [] X := by
  intro fz
  induction fz with
  | zero => intro i V X hfz; exact absurd hfz (Nat.not_lt_zero _)
  | succ fz ih =>
    intro i V X hfz hil hc hm
    refine ev_iload_n (pc := 18) hC dL_law_18 rfl ?_
    refine ev_aload_n (pc := 19) hC dL_law_19 rfl ?_
    refine ev_slen (pc := 20) hC hSx dL_law_20 ?_
    refine ev_iconst (pc := 21) hC dL_law_21 ?_
    refine ev_isub (pc := 22) hC (((Ln : Nat) : Int) - 4) rfl dL_law_22 ?_
    refine ev_icmp_gt (pc := 23) hC 1165 dL_law_23 (by decide) (by omega) (by omega) (fun c23 => ?_) (fun c23 => ?_)
    · refine ev_iconst (pc := 1165) hC dL_law_1165 ?_
      exact hend _ _
    have hi : i + 4 ≤ Ln := by omega
    have hk : ∀ (W : St) (Y : Mem), cI Y W → mI Y W → Ev K 1159 [some (.ref 44), some (.ref 0), some (.ref 29), some (vi ((i : Nat) : Int))] [] Y := fun W Y hcY hmY => by
      refine ev_iinc (pc := 1159) hC ((i + 4 : Nat) : Int) dL_law_1159 rfl (by omega) (by rw [hKn]; decide) rfl ?_
      refine ev_goto (pc := 1162) hC 18 dL_law_1162 (by decide) ?_
      exact ih (i + 4) W Y (by omega) hi hcY hmY
    refine ev_aload_n (pc := 26) hC dL_law_26 rfl ?_
    refine ev_iload_n (pc := 27) hC dL_law_27 rfl ?_
    refine ev_sld (pc := 28) hC hSx i rfl (by omega) hL dL_law_28 ?_
    refine ev_bipush (pc := 29) hC dL_law_29 (by decide) ?_
    refine ev_iand (pc := 31) hC (xs i &&& zI 63).toInt (by rw [zI_self, zI_self]) dL_law_31 ?_
    have hr := i32r (xs i &&& zI 63)
    generalize (xs i &&& zI 63).toInt = z at hr ⊢
    rcases (show z = 0 ∨ z = 1 ∨ z = 2 ∨ z = 3 ∨ z = 4 ∨ z = 5 ∨ z = 6 ∨ z = 7 ∨ z = 8 ∨ z = 9 ∨ z = 10 ∨ z = 11 ∨ z = 12 ∨ z = 13 ∨ z = 14 ∨ z = 15 ∨ z = 16 ∨ z = 17 ∨ z = 18 ∨ z = 19 ∨ z = 20 ∨ z = 21 ∨ z = 22 ∨ z = 23 ∨ z = 24 ∨ z = 25 ∨ z = 26 ∨ z = 27 ∨ z = 28 ∨ z = 29 ∨ z = 30 ∨ z = 31 ∨ z = 32 ∨ z = 33 ∨ z = 34 ∨ z = 35 ∨ z = 36 ∨ z < 0 ∨ 36 < z by omega) with c32 | c32 | c32 | c32 | c32 | c32 | c32 | c32 | c32 | c32 | c32 | c32 | c32 | c32 | c32 | c32 | c32 | c32 | c32 | c32 | c32 | c32 | c32 | c32 | c32 | c32 | c32 | c32 | c32 | c32 | c32 | c32 | c32 | c32 | c32 | c32 | c32 | c32
    · refine ev_tabin (pc := 32) hC 196 dL_law_32 hr (by omega) (by rw [c32]; rfl) (by decide) ?_
      exact law_c0 hKn hC hSx hL hi hc hm hk
    · refine ev_tabin (pc := 32) hC 219 dL_law_32 hr (by omega) (by rw [c32]; rfl) (by decide) ?_
      exact law_c1 hKn hC hSx hL hi hc hm hk
    · refine ev_tabin (pc := 32) hC 232 dL_law_32 hr (by omega) (by rw [c32]; rfl) (by decide) ?_
      exact law_c2 hKn hC hSx hL hi hc hm hk
    · refine ev_tabin (pc := 32) hC 255 dL_law_32 hr (by omega) (by rw [c32]; rfl) (by decide) ?_
      exact law_c3 hKn hC hSx hL hi hc hm hk
    · refine ev_tabin (pc := 32) hC 288 dL_law_32 hr (by omega) (by rw [c32]; rfl) (by decide) ?_
      exact law_c4 hKn hC hSx hL hi hc hm hk
    · refine ev_tabin (pc := 32) hC 301 dL_law_32 hr (by omega) (by rw [c32]; rfl) (by decide) ?_
      exact law_c5 hKn hC hSx hL hi hc hm hk
    · refine ev_tabin (pc := 32) hC 334 dL_law_32 hr (by omega) (by rw [c32]; rfl) (by decide) ?_
      exact law_c6 hKn hC hSx hL hi hc hm hk
    · refine ev_tabin (pc := 32) hC 367 dL_law_32 hr (by omega) (by rw [c32]; rfl) (by decide) ?_
      exact law_c7 hKn hC hSx hL hi hc hm hk
    · refine ev_tabin (pc := 32) hC 400 dL_law_32 hr (by omega) (by rw [c32]; rfl) (by decide) ?_
      exact law_c8 hKn hC hSx hL hi hc hm hk
    · refine ev_tabin (pc := 32) hC 443 dL_law_32 hr (by omega) (by rw [c32]; rfl) (by decide) ?_
      exact law_c9 hKn hC hSx hL hi hc hm hk
    · refine ev_tabin (pc := 32) hC 466 dL_law_32 hr (by omega) (by rw [c32]; rfl) (by decide) ?_
      exact law_c10 hKn hC hSx hL hi hc hm hk
    · refine ev_tabin (pc := 32) hC 509 dL_law_32 hr (by omega) (by rw [c32]; rfl) (by decide) ?_
      exact law_c11 hKn hC hSx hL hi hc hm hk
    · refine ev_tabin (pc := 32) hC 542 dL_law_32 hr (by omega) (by rw [c32]; rfl) (by decide) ?_
      exact law_c12 hKn hC hSx hL hi hc hm hk
    · refine ev_tabin (pc := 32) hC 575 dL_law_32 hr (by omega) (by rw [c32]; rfl) (by decide) ?_
      exact law_c13 hKn hC hSx hL hi hc hm hk
    · refine ev_tabin (pc := 32) hC 598 dL_law_32 hr (by omega) (by rw [c32]; rfl) (by decide) ?_
      exact law_c14 hKn hC hSx hL hi hc hm hk
    · refine ev_tabin (pc := 32) hC 621 dL_law_32 hr (by omega) (by rw [c32]; rfl) (by decide) ?_
      exact law_c15 hKn hC hSx hL hi hc hm hk
    · refine ev_tabin (pc := 32) hC 644 dL_law_32 hr (by omega) (by rw [c32]; rfl) (by decide) ?_
      exact law_c16 hKn hC hSx hL hi hc hm hk
    · refine ev_tabin (pc := 32) hC 667 dL_law_32 hr (by omega) (by rw [c32]; rfl) (by decide) ?_
      exact law_c17 hKn hC hSx hL hi hc hm hk
    · refine ev_tabin (pc := 32) hC 710 dL_law_32 hr (by omega) (by rw [c32]; rfl) (by decide) ?_
      exact law_c18 hKn hC hSx hL hi hc hm hk
    · refine ev_tabin (pc := 32) hC 733 dL_law_32 hr (by omega) (by rw [c32]; rfl) (by decide) ?_
      exact law_c19 hKn hC hSx hL hi hc hm hk
    · refine ev_tabin (pc := 32) hC 756 dL_law_32 hr (by omega) (by rw [c32]; rfl) (by decide) ?_
      exact law_c20 hKn hC hSx hL hi hc hm hk
    · refine ev_tabin (pc := 32) hC 769 dL_law_32 hr (by omega) (by rw [c32]; rfl) (by decide) ?_
      exact law_c21 hKn hC hSx hL hi hc hm hk
    · refine ev_tabin (pc := 32) hC 792 dL_law_32 hr (by omega) (by rw [c32]; rfl) (by decide) ?_
      exact law_c22 hKn hC hSx hL hi hc hm hk
    · refine ev_tabin (pc := 32) hC 815 dL_law_32 hr (by omega) (by rw [c32]; rfl) (by decide) ?_
      exact law_c23 hKn hC hSx hL hi hc hm hk
    · refine ev_tabin (pc := 32) hC 838 dL_law_32 hr (by omega) (by rw [c32]; rfl) (by decide) ?_
      exact law_c24 hKn hC hSx hL hi hc hm hk
    · refine ev_tabin (pc := 32) hC 861 dL_law_32 hr (by omega) (by rw [c32]; rfl) (by decide) ?_
      exact law_c25 hKn hC hSx hL hi hc hm hk
    · refine ev_tabin (pc := 32) hC 905 dL_law_32 hr (by omega) (by rw [c32]; rfl) (by decide) ?_
      exact law_c26 hKn hC hSx hL hi hc hm hk
    · refine ev_tabin (pc := 32) hC 929 dL_law_32 hr (by omega) (by rw [c32]; rfl) (by decide) ?_
      exact law_c27 hKn hC hSx hL hi hc hm hk
    · refine ev_tabin (pc := 32) hC 972 dL_law_32 hr (by omega) (by rw [c32]; rfl) (by decide) ?_
      exact law_c28 hKn hC hSx hL hi hc hm hk
    · refine ev_tabin (pc := 32) hC 1005 dL_law_32 hr (by omega) (by rw [c32]; rfl) (by decide) ?_
      exact law_c29 hKn hC hSx hL hi hc hm hk
    · refine ev_tabin (pc := 32) hC 1018 dL_law_32 hr (by omega) (by rw [c32]; rfl) (by decide) ?_
      exact law_c30 hKn hC hSx hL hi hc hm hk
    · refine ev_tabin (pc := 32) hC 1041 dL_law_32 hr (by omega) (by rw [c32]; rfl) (by decide) ?_
      exact law_c31 hKn hC hSx hL hi hc hm hk
    · refine ev_tabin (pc := 32) hC 1054 dL_law_32 hr (by omega) (by rw [c32]; rfl) (by decide) ?_
      exact law_c32 hKn hC hSx hL hi hc hm hk
    · refine ev_tabin (pc := 32) hC 1067 dL_law_32 hr (by omega) (by rw [c32]; rfl) (by decide) ?_
      exact law_c33 hKn hC hSx hL hi hc hm hk
    · refine ev_tabin (pc := 32) hC 1110 dL_law_32 hr (by omega) (by rw [c32]; rfl) (by decide) ?_
      exact law_c34 hKn hC hSx hL hi hc hm hk
    · refine ev_tabin (pc := 32) hC 1123 dL_law_32 hr (by omega) (by rw [c32]; rfl) (by decide) ?_
      exact law_c35 hKn hC hSx hL hi hc hm hk
    · refine ev_tabin (pc := 32) hC 1136 dL_law_32 hr (by omega) (by rw [c32]; rfl) (by decide) ?_
      exact law_c36 hKn hC hSx hL hi hc hm hk
    · refine ev_tabout (pc := 32) hC 1159 dL_law_32 hr (by omega) (by decide) ?_
      exact hk V X hc hm
