/-! ===== the law, call by call ===== -/
set_option maxHeartbeats 4000000 in
set_option maxRecDepth 20000 in
theorem law_feed {Z : q_Z} {nm : String} {mc ms i : Nat} {m : q_Mm} {w5 w6 w7 : Option Value} {post : Option Value → va_W → Prop} (hi : i + 6 ≤ Z.2.2.2.2.2.1) (hL : Z.2.2.2.2.2.1 ≤ 3072) (hR : q_R m) (kk : ∀ m2, q_R m2 → q_V (q_g Z) (mL nm) 12 mc ms 1384 [some (.ref (Z.2.2.2.2.1 4)), some (.ref (q_ad Z 0)), some (.ref (q_ad Z 215)), some (.ref (q_ad Z 242)), some (.int (nI i)), w5, w6, w7] [] (q_W Z m2) post) : q_V (q_g Z) (mL nm) 12 mc ms 204 [some (.ref (Z.2.2.2.2.1 4)), some (.ref (q_ad Z 0)), some (.ref (q_ad Z 215)), some (.ref (q_ad Z 242)), some (.int (nI i)), w5, w6, w7] [] (q_W Z m) post := by
  obtain ⟨t, im, B, L, c, ck, us, rf, hC, hM⟩ := hR
  refine q_aload_n (pc' := 205) dL_law_204 rfl rfl ?_
  refine q_aload_n (pc' := 206) dL_law_205 rfl rfl ?_
  refine q_iload (pc' := 208) dL_law_206 rfl rfl ?_
  refine q_iconst (pc' := 209) (v := nI 1) dL_law_208 rfl rfl ?_
  refine q_iaddN (pc' := 210) dL_law_209 rfl ?_
  refine l_ld (pc' := 211) dL_law_210 rfl (by omega) hL rfl ?_
  refine q_aload_n (pc' := 212) dL_law_211 rfl rfl ?_
  refine q_iload (pc' := 214) dL_law_212 rfl rfl ?_
  refine q_iconst (pc' := 215) (v := nI 2) dL_law_214 rfl rfl ?_
  refine q_iaddN (pc' := 216) dL_law_215 rfl ?_
  refine l_ld (pc' := 217) dL_law_216 rfl (by omega) hL rfl ?_
  refine q_aload_n (pc' := 218) dL_law_217 rfl rfl ?_
  refine q_iload (pc' := 220) dL_law_218 rfl rfl ?_
  refine q_iconst (pc' := 221) (v := nI 3) dL_law_220 rfl rfl ?_
  refine q_iaddN (pc' := 222) dL_law_221 rfl ?_
  refine l_ld (pc' := 223) dL_law_222 rfl (by omega) hL rfl ?_
  refine q_aload_n (pc' := 224) dL_law_223 rfl rfl ?_
  refine q_iload (pc' := 226) dL_law_224 rfl rfl ?_
  refine q_iconst (pc' := 227) (v := nI 4) dL_law_226 rfl rfl ?_
  refine q_iaddN (pc' := 228) dL_law_227 rfl ?_
  refine l_ld (pc' := 229) dL_law_228 rfl (by omega) hL rfl ?_
  refine q_aload_n (pc' := 230) dL_law_229 rfl rfl ?_
  refine q_iload (pc' := 232) dL_law_230 rfl rfl ?_
  refine q_iconst (pc' := 233) (v := nI 5) dL_law_232 rfl rfl ?_
  refine q_iaddN (pc' := 234) dL_law_233 rfl ?_
  refine l_ld (pc' := 235) dL_law_234 rfl (by omega) hL rfl ?_
  refine l_callV (pc' := 238) (M' := mX10_feed) (As := [_, _, _, _, _]) dL_law_235 iX10_feed lL_19 rfl rfl rfl rfl (Nat.le_of_ble_eq_true rfl) (Nat.le_of_ble_eq_true rfl) rfl rfl (c_feed hC.1.2.2.1) (fun r m' hq => ?_)
  obtain ⟨rfl, f1, O1⟩ := hq
  obtain ⟨hC1, u1⟩ := hC.fd f1 O1 (by simp)
  obtain ⟨m1, hm1⟩ : ∃ z, z = m' := ⟨_, rfl⟩
  subst hm1
  have hM1 := hM.up u1
  refine q_aload_n (pc' := 239) dL_law_238 rfl rfl ?_
  refine q_aload_n (pc' := 240) dL_law_239 rfl rfl ?_
  refine q_iload (pc' := 242) dL_law_240 rfl rfl ?_
  refine q_iconst (pc' := 243) (v := nI 1) dL_law_242 rfl rfl ?_
  refine q_iaddN (pc' := 244) dL_law_243 rfl ?_
  refine l_ld (pc' := 245) dL_law_244 rfl (by omega) hL rfl ?_
  refine q_aload_n (pc' := 246) dL_law_245 rfl rfl ?_
  refine q_iload (pc' := 248) dL_law_246 rfl rfl ?_
  refine q_iconst (pc' := 249) (v := nI 2) dL_law_248 rfl rfl ?_
  refine q_iaddN (pc' := 250) dL_law_249 rfl ?_
  refine l_ld (pc' := 251) dL_law_250 rfl (by omega) hL rfl ?_
  refine q_aload_n (pc' := 252) dL_law_251 rfl rfl ?_
  refine q_iload (pc' := 254) dL_law_252 rfl rfl ?_
  refine q_iconst (pc' := 255) (v := nI 3) dL_law_254 rfl rfl ?_
  refine q_iaddN (pc' := 256) dL_law_255 rfl ?_
  refine l_ld (pc' := 257) dL_law_256 rfl (by omega) hL rfl ?_
  refine q_aload_n (pc' := 258) dL_law_257 rfl rfl ?_
  refine q_iload (pc' := 260) dL_law_258 rfl rfl ?_
  refine q_iconst (pc' := 261) (v := nI 4) dL_law_260 rfl rfl ?_
  refine q_iaddN (pc' := 262) dL_law_261 rfl ?_
  refine l_ld (pc' := 263) dL_law_262 rfl (by omega) hL rfl ?_
  refine q_aload_n (pc' := 264) dL_law_263 rfl rfl ?_
  refine q_iload (pc' := 266) dL_law_264 rfl rfl ?_
  refine q_iconst (pc' := 267) (v := nI 5) dL_law_266 rfl rfl ?_
  refine q_iaddN (pc' := 268) dL_law_267 rfl ?_
  refine l_ld (pc' := 269) dL_law_268 rfl (by omega) hL rfl ?_
  refine l_callV (pc' := 272) (M' := mX11_feed) (As := [_, _, _, _, _]) dL_law_269 iX11_feed lL_23 rfl rfl rfl rfl (Nat.le_of_ble_eq_true rfl) (Nat.le_of_ble_eq_true rfl) rfl rfl (k_feedI hM1) (fun r m' hq => ?_)
  obtain ⟨rfl, hM2, d2⟩ := hq
  refine q_icmp_eq (tgt := 1384) (pc' := 275) dL_law_272 (by decide) rfl (fun _ => ?_) (fun z => absurd rfl z)
  exact kk _ (q_R.of hC1 hM2 d2)
set_option maxHeartbeats 4000000 in
set_option maxRecDepth 20000 in
theorem law_end {Z : q_Z} {nm : String} {mc ms i : Nat} {m : q_Mm} {w5 w6 w7 : Option Value} {post : Option Value → va_W → Prop} (hi : i + 6 ≤ Z.2.2.2.2.2.1) (hL : Z.2.2.2.2.2.1 ≤ 3072) (hR : q_R m) (kk : ∀ m2, q_R m2 → q_V (q_g Z) (mL nm) 12 mc ms 1384 [some (.ref (Z.2.2.2.2.1 4)), some (.ref (q_ad Z 0)), some (.ref (q_ad Z 215)), some (.ref (q_ad Z 242)), some (.int (nI i)), w5, w6, w7] [] (q_W Z m2) post) : q_V (q_g Z) (mL nm) 12 mc ms 277 [some (.ref (Z.2.2.2.2.1 4)), some (.ref (q_ad Z 0)), some (.ref (q_ad Z 215)), some (.ref (q_ad Z 242)), some (.int (nI i)), w5, w6, w7] [] (q_W Z m) post := by
  obtain ⟨t, im, B, L, c, ck, us, rf, hC, hM⟩ := hR
  refine q_aload_n (pc' := 278) dL_law_277 rfl rfl ?_
  refine q_aload_n (pc' := 279) dL_law_278 rfl rfl ?_
  refine q_iload (pc' := 281) dL_law_279 rfl rfl ?_
  refine q_iconst (pc' := 282) (v := nI 1) dL_law_281 rfl rfl ?_
  refine q_iaddN (pc' := 283) dL_law_282 rfl ?_
  refine l_ld (pc' := 284) dL_law_283 rfl (by omega) hL rfl ?_
  refine l_callV (pc' := 287) (M' := mX10_end) (As := [_]) dL_law_284 iX10_end lL_24 rfl rfl rfl rfl (Nat.le_of_ble_eq_true rfl) (Nat.le_of_ble_eq_true rfl) rfl rfl (c_end hC.1.2.2.1) (fun r m' hq => ?_)
  obtain ⟨rfl, f1, O1⟩ := hq
  obtain ⟨hC1, u1⟩ := hC.fd f1 O1 (by simp)
  obtain ⟨m1, hm1⟩ : ∃ z, z = m' := ⟨_, rfl⟩
  subst hm1
  have hM1 := hM.up u1
  refine q_aload_n (pc' := 288) dL_law_287 rfl rfl ?_
  refine q_aload_n (pc' := 289) dL_law_288 rfl rfl ?_
  refine q_iload (pc' := 291) dL_law_289 rfl rfl ?_
  refine q_iconst (pc' := 292) (v := nI 1) dL_law_291 rfl rfl ?_
  refine q_iaddN (pc' := 293) dL_law_292 rfl ?_
  refine l_ld (pc' := 294) dL_law_293 rfl (by omega) hL rfl ?_
  refine l_callV (pc' := 297) (M' := mX11_end) (As := [_]) dL_law_294 iX11_end lL_28 rfl rfl rfl rfl (Nat.le_of_ble_eq_true rfl) (Nat.le_of_ble_eq_true rfl) rfl rfl (k_endI hM1) (fun r m' hq => ?_)
  obtain ⟨rfl, hM2, d2⟩ := hq
  refine q_icmp_eq (tgt := 1384) (pc' := 300) dL_law_297 (by decide) rfl (fun _ => ?_) (fun z => absurd rfl z)
  exact kk _ (q_R.of hC1 hM2 d2)
set_option maxHeartbeats 4000000 in
set_option maxRecDepth 20000 in
theorem law_fault {Z : q_Z} {nm : String} {mc ms i : Nat} {m : q_Mm} {w5 w6 w7 : Option Value} {post : Option Value → va_W → Prop} (hi : i + 6 ≤ Z.2.2.2.2.2.1) (hL : Z.2.2.2.2.2.1 ≤ 3072) (hR : q_R m) (kk : ∀ m2, q_R m2 → q_V (q_g Z) (mL nm) 12 mc ms 1384 [some (.ref (Z.2.2.2.2.1 4)), some (.ref (q_ad Z 0)), some (.ref (q_ad Z 215)), some (.ref (q_ad Z 242)), some (.int (nI i)), w5, w6, w7] [] (q_W Z m2) post) : q_V (q_g Z) (mL nm) 12 mc ms 302 [some (.ref (Z.2.2.2.2.1 4)), some (.ref (q_ad Z 0)), some (.ref (q_ad Z 215)), some (.ref (q_ad Z 242)), some (.int (nI i)), w5, w6, w7] [] (q_W Z m) post := by
  obtain ⟨t, im, B, L, c, ck, us, rf, hC, hM⟩ := hR
  refine q_aload_n (pc' := 303) dL_law_302 rfl rfl ?_
  refine q_aload_n (pc' := 304) dL_law_303 rfl rfl ?_
  refine q_iload (pc' := 306) dL_law_304 rfl rfl ?_
  refine q_iconst (pc' := 307) (v := nI 1) dL_law_306 rfl rfl ?_
  refine q_iaddN (pc' := 308) dL_law_307 rfl ?_
  refine l_ld (pc' := 309) dL_law_308 rfl (by omega) hL rfl ?_
  refine l_callV (pc' := 312) (M' := mX10_fault) (As := [_]) dL_law_309 iX10_fault lL_29 rfl rfl rfl rfl (Nat.le_of_ble_eq_true rfl) (Nat.le_of_ble_eq_true rfl) rfl rfl (c_fault hC) (fun r m' hq => ?_)
  obtain ⟨rfl, hC1, u1⟩ := hq
  obtain ⟨m1, hm1⟩ : ∃ z, z = m' := ⟨_, rfl⟩
  subst hm1
  have hM1 := hM.up u1
  refine q_aload_n (pc' := 313) dL_law_312 rfl rfl ?_
  refine q_aload_n (pc' := 314) dL_law_313 rfl rfl ?_
  refine q_iload (pc' := 316) dL_law_314 rfl rfl ?_
  refine q_iconst (pc' := 317) (v := nI 1) dL_law_316 rfl rfl ?_
  refine q_iaddN (pc' := 318) dL_law_317 rfl ?_
  refine l_ld (pc' := 319) dL_law_318 rfl (by omega) hL rfl ?_
  refine l_callV (pc' := 322) (M' := mX11_fault) (As := [_]) dL_law_319 iX11_fault lL_33 rfl rfl rfl rfl (Nat.le_of_ble_eq_true rfl) (Nat.le_of_ble_eq_true rfl) rfl rfl (k_fault hM1) (fun r m' hq => ?_)
  obtain ⟨rfl, hM2, d2⟩ := hq
  refine q_icmp_eq (tgt := 1384) (pc' := 325) dL_law_322 (by decide) rfl (fun _ => ?_) (fun z => absurd rfl z)
  exact kk _ (q_R.of hC1 hM2 d2)
set_option maxHeartbeats 4000000 in
set_option maxRecDepth 20000 in
theorem law_text {Z : q_Z} {nm : String} {mc ms i : Nat} {m : q_Mm} {w5 w6 w7 : Option Value} {post : Option Value → va_W → Prop} (hi : i + 6 ≤ Z.2.2.2.2.2.1) (hL : Z.2.2.2.2.2.1 ≤ 3072) (hR : q_R m) (kk : ∀ m2, q_R m2 → q_V (q_g Z) (mL nm) 12 mc ms 1384 [some (.ref (Z.2.2.2.2.1 4)), some (.ref (q_ad Z 0)), some (.ref (q_ad Z 215)), some (.ref (q_ad Z 242)), some (.int (nI i)), w5, w6, w7] [] (q_W Z m2) post) : q_V (q_g Z) (mL nm) 12 mc ms 327 [some (.ref (Z.2.2.2.2.1 4)), some (.ref (q_ad Z 0)), some (.ref (q_ad Z 215)), some (.ref (q_ad Z 242)), some (.int (nI i)), w5, w6, w7] [] (q_W Z m) post := by
  obtain ⟨t, im, B, L, c, ck, us, rf, hC, hM⟩ := hR
  refine q_aload_n (pc' := 328) dL_law_327 rfl rfl ?_
  refine l_callV (pc' := 331) (M' := mX10_text) (As := []) dL_law_328 iX10_text lL_34 rfl rfl rfl rfl (Nat.le_of_ble_eq_true rfl) (Nat.le_of_ble_eq_true rfl) rfl rfl (c_text hC) (fun r m' hq => ?_)
  obtain ⟨rfl, hC1, u1⟩ := c_textU hq
  obtain ⟨m1, hm1⟩ : ∃ z, z = m' := ⟨_, rfl⟩
  subst hm1
  have hM1 := hM.up u1
  refine q_aload_n (pc' := 332) dL_law_331 rfl rfl ?_
  refine l_callV (pc' := 335) (M' := mX11_text) (As := []) dL_law_332 iX11_text lL_38 rfl rfl rfl rfl (Nat.le_of_ble_eq_true rfl) (Nat.le_of_ble_eq_true rfl) rfl rfl (k_text hM1) (fun r m' hq => ?_)
  obtain ⟨rfl, hM2, d2⟩ := k_textU hq
  refine q_icmp_eq (tgt := 1384) (pc' := 338) dL_law_335 (by decide) rfl (fun _ => ?_) (fun z => absurd rfl z)
  exact kk _ (q_R.of hC1 hM2 d2)
set_option maxHeartbeats 4000000 in
set_option maxRecDepth 20000 in
theorem law_rule {Z : q_Z} {nm : String} {mc ms i : Nat} {m : q_Mm} {w5 w6 w7 : Option Value} {post : Option Value → va_W → Prop} (hi : i + 6 ≤ Z.2.2.2.2.2.1) (hL : Z.2.2.2.2.2.1 ≤ 3072) (hR : q_R m) (kk : ∀ m2, q_R m2 → q_V (q_g Z) (mL nm) 12 mc ms 1384 [some (.ref (Z.2.2.2.2.1 4)), some (.ref (q_ad Z 0)), some (.ref (q_ad Z 215)), some (.ref (q_ad Z 242)), some (.int (nI i)), w5, w6, w7] [] (q_W Z m2) post) : q_V (q_g Z) (mL nm) 12 mc ms 340 [some (.ref (Z.2.2.2.2.1 4)), some (.ref (q_ad Z 0)), some (.ref (q_ad Z 215)), some (.ref (q_ad Z 242)), some (.int (nI i)), w5, w6, w7] [] (q_W Z m) post := by
  obtain ⟨t, im, B, L, c, ck, us, rf, hC, hM⟩ := hR
  refine q_aload_n (pc' := 341) dL_law_340 rfl rfl ?_
  refine q_aload_n (pc' := 342) dL_law_341 rfl rfl ?_
  refine q_iload (pc' := 344) dL_law_342 rfl rfl ?_
  refine q_iconst (pc' := 345) (v := nI 1) dL_law_344 rfl rfl ?_
  refine q_iaddN (pc' := 346) dL_law_345 rfl ?_
  refine l_ld (pc' := 347) dL_law_346 rfl (by omega) hL rfl ?_
  refine l_callV (pc' := 350) (M' := mX10_rule) (As := [_]) dL_law_347 iX10_rule lL_39 rfl rfl rfl rfl (Nat.le_of_ble_eq_true rfl) (Nat.le_of_ble_eq_true rfl) rfl rfl (c_rule hC.c hC.1.1) (fun r m' hq => ?_)
  obtain ⟨rfl, hmm⟩ := hq
  subst m'
  have hC1 := hC
  have u1 : Up m m := Up.rf
  obtain ⟨m1, hm1⟩ : ∃ z, z = m := ⟨_, rfl⟩
  subst hm1
  have hM1 := hM.up u1
  refine q_aload_n (pc' := 351) dL_law_350 rfl rfl ?_
  refine q_aload_n (pc' := 352) dL_law_351 rfl rfl ?_
  refine q_iload (pc' := 354) dL_law_352 rfl rfl ?_
  refine q_iconst (pc' := 355) (v := nI 1) dL_law_354 rfl rfl ?_
  refine q_iaddN (pc' := 356) dL_law_355 rfl ?_
  refine l_ld (pc' := 357) dL_law_356 rfl (by omega) hL rfl ?_
  refine l_callV (pc' := 360) (M' := mX11_rule) (As := [_]) dL_law_357 iX11_rule lL_42 rfl rfl rfl rfl (Nat.le_of_ble_eq_true rfl) (Nat.le_of_ble_eq_true rfl) rfl rfl (k_rule hM1) (fun r m' hq => ?_)
  obtain ⟨rfl, hmm⟩ := hq
  subst m'
  have hM2 := hM1
  have d2 : Dn m1 m1 := Dn.rf
  refine q_icmp_eq (tgt := 1384) (pc' := 363) dL_law_360 (by decide) rfl (fun _ => ?_) (fun z => absurd rfl z)
  exact kk _ (q_R.of hC1 hM2 d2)
set_option maxHeartbeats 4000000 in
set_option maxRecDepth 20000 in
theorem law_about {Z : q_Z} {nm : String} {mc ms i : Nat} {m : q_Mm} {w5 w6 w7 : Option Value} {post : Option Value → va_W → Prop} (hi : i + 6 ≤ Z.2.2.2.2.2.1) (hL : Z.2.2.2.2.2.1 ≤ 3072) (hR : q_R m) (kk : ∀ m2, q_R m2 → q_V (q_g Z) (mL nm) 12 mc ms 1384 [some (.ref (Z.2.2.2.2.1 4)), some (.ref (q_ad Z 0)), some (.ref (q_ad Z 215)), some (.ref (q_ad Z 242)), some (.int (nI i)), w5, w6, w7] [] (q_W Z m2) post) : q_V (q_g Z) (mL nm) 12 mc ms 420 [some (.ref (Z.2.2.2.2.1 4)), some (.ref (q_ad Z 0)), some (.ref (q_ad Z 215)), some (.ref (q_ad Z 242)), some (.int (nI i)), w5, w6, w7] [] (q_W Z m) post := by
  obtain ⟨t, im, B, L, c, ck, us, rf, hC, hM⟩ := hR
  obtain ⟨st, hc⟩ := hC.2
  refine q_aload_n (pc' := 421) dL_law_420 rfl rfl ?_
  refine q_aload_n (pc' := 422) dL_law_421 rfl rfl ?_
  refine q_iload (pc' := 424) dL_law_422 rfl rfl ?_
  refine q_iconst (pc' := 425) (v := nI 1) dL_law_424 rfl rfl ?_
  refine q_iaddN (pc' := 426) dL_law_425 rfl ?_
  refine l_ld (pc' := 427) dL_law_426 rfl (by omega) hL rfl ?_
  refine q_aload_n (pc' := 428) dL_law_427 rfl rfl ?_
  refine q_iload (pc' := 430) dL_law_428 rfl rfl ?_
  refine q_iconst (pc' := 431) (v := nI 2) dL_law_430 rfl rfl ?_
  refine q_iaddN (pc' := 432) dL_law_431 rfl ?_
  refine l_ld (pc' := 433) dL_law_432 rfl (by omega) hL rfl ?_
  refine l_callV (pc' := 436) (M' := mX10_about) (As := [_, _]) dL_law_433 iX10_about lL_52 rfl rfl rfl rfl (Nat.le_of_ble_eq_true rfl) (Nat.le_of_ble_eq_true rfl) rfl rfl (c_about hc hC.1.1) (fun r m' hq => ?_)
  obtain ⟨rfl, hs, f1, k1⟩ := hq
  obtain ⟨hC1, u1⟩ := hC.q hs f1 k1 (by decide)
  obtain ⟨m1, hm1⟩ : ∃ z, z = m' := ⟨_, rfl⟩
  subst hm1
  have hM1 := hM.up u1
  refine q_aload_n (pc' := 437) dL_law_436 rfl rfl ?_
  refine q_aload_n (pc' := 438) dL_law_437 rfl rfl ?_
  refine q_iload (pc' := 440) dL_law_438 rfl rfl ?_
  refine q_iconst (pc' := 441) (v := nI 1) dL_law_440 rfl rfl ?_
  refine q_iaddN (pc' := 442) dL_law_441 rfl ?_
  refine l_ld (pc' := 443) dL_law_442 rfl (by omega) hL rfl ?_
  refine q_aload_n (pc' := 444) dL_law_443 rfl rfl ?_
  refine q_iload (pc' := 446) dL_law_444 rfl rfl ?_
  refine q_iconst (pc' := 447) (v := nI 2) dL_law_446 rfl rfl ?_
  refine q_iaddN (pc' := 448) dL_law_447 rfl ?_
  refine l_ld (pc' := 449) dL_law_448 rfl (by omega) hL rfl ?_
  refine l_callV (pc' := 452) (M' := mX11_about) (As := [_, _]) dL_law_449 iX11_about lL_56 rfl rfl rfl rfl (Nat.le_of_ble_eq_true rfl) (Nat.le_of_ble_eq_true rfl) rfl rfl (k_about hM1.qq) (fun r m' hq => ?_)
  obtain ⟨rfl, f2, k2⟩ := hq
  obtain ⟨hM2, d2⟩ := hM1.s f2 k2 (by decide) (by decide)
  refine q_icmp_eq (tgt := 1384) (pc' := 455) dL_law_452 (by decide) rfl (fun _ => ?_) (fun z => absurd rfl z)
  exact kk _ (q_R.of hC1 hM2 d2)
set_option maxHeartbeats 4000000 in
set_option maxRecDepth 20000 in
theorem law_guise {Z : q_Z} {nm : String} {mc ms i : Nat} {m : q_Mm} {w5 w6 w7 : Option Value} {post : Option Value → va_W → Prop} (hi : i + 6 ≤ Z.2.2.2.2.2.1) (hL : Z.2.2.2.2.2.1 ≤ 3072) (hR : q_R m) (kk : ∀ m2, q_R m2 → q_V (q_g Z) (mL nm) 12 mc ms 1384 [some (.ref (Z.2.2.2.2.1 4)), some (.ref (q_ad Z 0)), some (.ref (q_ad Z 215)), some (.ref (q_ad Z 242)), some (.int (nI i)), w5, w6, w7] [] (q_W Z m2) post) : q_V (q_g Z) (mL nm) 12 mc ms 457 [some (.ref (Z.2.2.2.2.1 4)), some (.ref (q_ad Z 0)), some (.ref (q_ad Z 215)), some (.ref (q_ad Z 242)), some (.int (nI i)), w5, w6, w7] [] (q_W Z m) post := by
  obtain ⟨t, im, B, L, c, ck, us, rf, hC, hM⟩ := hR
  obtain ⟨st, hc⟩ := hC.2
  refine q_aload_n (pc' := 458) dL_law_457 rfl rfl ?_
  refine q_aload_n (pc' := 459) dL_law_458 rfl rfl ?_
  refine q_iload (pc' := 461) dL_law_459 rfl rfl ?_
  refine q_iconst (pc' := 462) (v := nI 1) dL_law_461 rfl rfl ?_
  refine q_iaddN (pc' := 463) dL_law_462 rfl ?_
  refine l_ld (pc' := 464) dL_law_463 rfl (by omega) hL rfl ?_
  refine q_aload_n (pc' := 465) dL_law_464 rfl rfl ?_
  refine q_iload (pc' := 467) dL_law_465 rfl rfl ?_
  refine q_iconst (pc' := 468) (v := nI 2) dL_law_467 rfl rfl ?_
  refine q_iaddN (pc' := 469) dL_law_468 rfl ?_
  refine l_ld (pc' := 470) dL_law_469 rfl (by omega) hL rfl ?_
  refine q_aload_n (pc' := 471) dL_law_470 rfl rfl ?_
  refine q_iload (pc' := 473) dL_law_471 rfl rfl ?_
  refine q_iconst (pc' := 474) (v := nI 3) dL_law_473 rfl rfl ?_
  refine q_iaddN (pc' := 475) dL_law_474 rfl ?_
  refine l_ld (pc' := 476) dL_law_475 rfl (by omega) hL rfl ?_
  refine l_callV (pc' := 479) (M' := mX10_guise) (As := [_, _, _]) dL_law_476 iX10_guise lL_57 rfl rfl rfl rfl (Nat.le_of_ble_eq_true rfl) (Nat.le_of_ble_eq_true rfl) rfl rfl (c_guise hc hC.1.1) (fun r m' hq => ?_)
  obtain ⟨rfl, hs, f1, k1⟩ := hq
  obtain ⟨hC1, u1⟩ := hC.q hs f1 k1 (by decide)
  obtain ⟨m1, hm1⟩ : ∃ z, z = m' := ⟨_, rfl⟩
  subst hm1
  have hM1 := hM.up u1
  refine q_aload_n (pc' := 480) dL_law_479 rfl rfl ?_
  refine q_aload_n (pc' := 481) dL_law_480 rfl rfl ?_
  refine q_iload (pc' := 483) dL_law_481 rfl rfl ?_
  refine q_iconst (pc' := 484) (v := nI 1) dL_law_483 rfl rfl ?_
  refine q_iaddN (pc' := 485) dL_law_484 rfl ?_
  refine l_ld (pc' := 486) dL_law_485 rfl (by omega) hL rfl ?_
  refine q_aload_n (pc' := 487) dL_law_486 rfl rfl ?_
  refine q_iload (pc' := 489) dL_law_487 rfl rfl ?_
  refine q_iconst (pc' := 490) (v := nI 2) dL_law_489 rfl rfl ?_
  refine q_iaddN (pc' := 491) dL_law_490 rfl ?_
  refine l_ld (pc' := 492) dL_law_491 rfl (by omega) hL rfl ?_
  refine q_aload_n (pc' := 493) dL_law_492 rfl rfl ?_
  refine q_iload (pc' := 495) dL_law_493 rfl rfl ?_
  refine q_iconst (pc' := 496) (v := nI 3) dL_law_495 rfl rfl ?_
  refine q_iaddN (pc' := 497) dL_law_496 rfl ?_
  refine l_ld (pc' := 498) dL_law_497 rfl (by omega) hL rfl ?_
  refine l_callV (pc' := 501) (M' := mX11_guise) (As := [_, _, _]) dL_law_498 iX11_guise lL_61 rfl rfl rfl rfl (Nat.le_of_ble_eq_true rfl) (Nat.le_of_ble_eq_true rfl) rfl rfl (k_guise hM1.qq) (fun r m' hq => ?_)
  obtain ⟨rfl, f2, k2⟩ := hq
  obtain ⟨hM2, d2⟩ := hM1.s f2 k2 (by decide) (by decide)
  refine q_lcmp (pc' := 502) dL_law_501 rfl ?_
  refine q_if_eq (tgt := 1384) (pc' := 505) dL_law_502 (by decide) rfl (fun _ => ?_) (fun z => absurd (lcmp_self _) z)
  exact kk _ (q_R.of hC1 hM2 d2)
set_option maxHeartbeats 4000000 in
set_option maxRecDepth 20000 in
theorem law_cost {Z : q_Z} {nm : String} {mc ms i : Nat} {m : q_Mm} {w5 w6 w7 : Option Value} {post : Option Value → va_W → Prop} (hi : i + 6 ≤ Z.2.2.2.2.2.1) (hL : Z.2.2.2.2.2.1 ≤ 3072) (hR : q_R m) (kk : ∀ m2, q_R m2 → q_V (q_g Z) (mL nm) 12 mc ms 1384 [some (.ref (Z.2.2.2.2.1 4)), some (.ref (q_ad Z 0)), some (.ref (q_ad Z 215)), some (.ref (q_ad Z 242)), some (.int (nI i)), w5, w6, w7] [] (q_W Z m2) post) : q_V (q_g Z) (mL nm) 12 mc ms 507 [some (.ref (Z.2.2.2.2.1 4)), some (.ref (q_ad Z 0)), some (.ref (q_ad Z 215)), some (.ref (q_ad Z 242)), some (.int (nI i)), w5, w6, w7] [] (q_W Z m) post := by
  obtain ⟨t, im, B, L, c, ck, us, rf, hC, hM⟩ := hR
  obtain ⟨st, hc⟩ := hC.2
  refine q_aload_n (pc' := 508) dL_law_507 rfl rfl ?_
  refine q_aload_n (pc' := 509) dL_law_508 rfl rfl ?_
  refine q_iload (pc' := 511) dL_law_509 rfl rfl ?_
  refine q_iconst (pc' := 512) (v := nI 1) dL_law_511 rfl rfl ?_
  refine q_iaddN (pc' := 513) dL_law_512 rfl ?_
  refine l_ld (pc' := 514) dL_law_513 rfl (by omega) hL rfl ?_
  refine q_aload_n (pc' := 515) dL_law_514 rfl rfl ?_
  refine q_iload (pc' := 517) dL_law_515 rfl rfl ?_
  refine q_iconst (pc' := 518) (v := nI 2) dL_law_517 rfl rfl ?_
  refine q_iaddN (pc' := 519) dL_law_518 rfl ?_
  refine l_ld (pc' := 520) dL_law_519 rfl (by omega) hL rfl ?_
  refine q_aload_n (pc' := 521) dL_law_520 rfl rfl ?_
  refine q_iload (pc' := 523) dL_law_521 rfl rfl ?_
  refine q_iconst (pc' := 524) (v := nI 3) dL_law_523 rfl rfl ?_
  refine q_iaddN (pc' := 525) dL_law_524 rfl ?_
  refine l_ld (pc' := 526) dL_law_525 rfl (by omega) hL rfl ?_
  refine l_callV (pc' := 529) (M' := mX10_cost) (As := [_, _, _]) dL_law_526 iX10_cost lL_62 rfl rfl rfl rfl (Nat.le_of_ble_eq_true rfl) (Nat.le_of_ble_eq_true rfl) rfl rfl (c_cost hc hC.1.1) (fun r m' hq => ?_)
  obtain ⟨rfl, hs, f1, k1⟩ := hq
  obtain ⟨hC1, u1⟩ := hC.q hs f1 k1 (by decide)
  obtain ⟨m1, hm1⟩ : ∃ z, z = m' := ⟨_, rfl⟩
  subst hm1
  have hM1 := hM.up u1
  refine q_aload_n (pc' := 530) dL_law_529 rfl rfl ?_
  refine q_aload_n (pc' := 531) dL_law_530 rfl rfl ?_
  refine q_iload (pc' := 533) dL_law_531 rfl rfl ?_
  refine q_iconst (pc' := 534) (v := nI 1) dL_law_533 rfl rfl ?_
  refine q_iaddN (pc' := 535) dL_law_534 rfl ?_
  refine l_ld (pc' := 536) dL_law_535 rfl (by omega) hL rfl ?_
  refine q_aload_n (pc' := 537) dL_law_536 rfl rfl ?_
  refine q_iload (pc' := 539) dL_law_537 rfl rfl ?_
  refine q_iconst (pc' := 540) (v := nI 2) dL_law_539 rfl rfl ?_
  refine q_iaddN (pc' := 541) dL_law_540 rfl ?_
  refine l_ld (pc' := 542) dL_law_541 rfl (by omega) hL rfl ?_
  refine q_aload_n (pc' := 543) dL_law_542 rfl rfl ?_
  refine q_iload (pc' := 545) dL_law_543 rfl rfl ?_
  refine q_iconst (pc' := 546) (v := nI 3) dL_law_545 rfl rfl ?_
  refine q_iaddN (pc' := 547) dL_law_546 rfl ?_
  refine l_ld (pc' := 548) dL_law_547 rfl (by omega) hL rfl ?_
  refine l_callV (pc' := 551) (M' := mX11_cost) (As := [_, _, _]) dL_law_548 iX11_cost lL_66 rfl rfl rfl rfl (Nat.le_of_ble_eq_true rfl) (Nat.le_of_ble_eq_true rfl) rfl rfl (k_cost hM1.qq) (fun r m' hq => ?_)
  obtain ⟨rfl, f2, k2⟩ := hq
  obtain ⟨hM2, d2⟩ := hM1.s f2 k2 (by decide) (by decide)
  refine q_icmp_eq (tgt := 1384) (pc' := 554) dL_law_551 (by decide) rfl (fun _ => ?_) (fun z => absurd rfl z)
  exact kk _ (q_R.of hC1 hM2 d2)
set_option maxHeartbeats 4000000 in
set_option maxRecDepth 20000 in
theorem law_score {Z : q_Z} {nm : String} {mc ms i : Nat} {m : q_Mm} {w5 w6 w7 : Option Value} {post : Option Value → va_W → Prop} (hi : i + 6 ≤ Z.2.2.2.2.2.1) (hL : Z.2.2.2.2.2.1 ≤ 3072) (hR : q_R m) (kk : ∀ m2, q_R m2 → q_V (q_g Z) (mL nm) 12 mc ms 1384 [some (.ref (Z.2.2.2.2.1 4)), some (.ref (q_ad Z 0)), some (.ref (q_ad Z 215)), some (.ref (q_ad Z 242)), some (.int (nI i)), w5, w6, w7] [] (q_W Z m2) post) : q_V (q_g Z) (mL nm) 12 mc ms 556 [some (.ref (Z.2.2.2.2.1 4)), some (.ref (q_ad Z 0)), some (.ref (q_ad Z 215)), some (.ref (q_ad Z 242)), some (.int (nI i)), w5, w6, w7] [] (q_W Z m) post := by
  obtain ⟨t, im, B, L, c, ck, us, rf, hC, hM⟩ := hR
  obtain ⟨st, hc⟩ := hC.2
  refine q_aload_n (pc' := 557) dL_law_556 rfl rfl ?_
  refine q_aload_n (pc' := 558) dL_law_557 rfl rfl ?_
  refine q_iload (pc' := 560) dL_law_558 rfl rfl ?_
  refine q_iconst (pc' := 561) (v := nI 1) dL_law_560 rfl rfl ?_
  refine q_iaddN (pc' := 562) dL_law_561 rfl ?_
  refine l_ld (pc' := 563) dL_law_562 rfl (by omega) hL rfl ?_
  refine q_aload_n (pc' := 564) dL_law_563 rfl rfl ?_
  refine q_iload (pc' := 566) dL_law_564 rfl rfl ?_
  refine q_iconst (pc' := 567) (v := nI 2) dL_law_566 rfl rfl ?_
  refine q_iaddN (pc' := 568) dL_law_567 rfl ?_
  refine l_ld (pc' := 569) dL_law_568 rfl (by omega) hL rfl ?_
  refine l_callV (pc' := 572) (M' := mX10_score) (As := [_, _]) dL_law_569 iX10_score lL_67 rfl rfl rfl rfl (Nat.le_of_ble_eq_true rfl) (Nat.le_of_ble_eq_true rfl) rfl rfl (c_score hc hC.1.1) (fun r m' hq => ?_)
  obtain ⟨rfl, hs, f1, k1⟩ := hq
  obtain ⟨hC1, u1⟩ := hC.q hs f1 k1 (by decide)
  obtain ⟨m1, hm1⟩ : ∃ z, z = m' := ⟨_, rfl⟩
  subst hm1
  have hM1 := hM.up u1
  refine q_aload_n (pc' := 573) dL_law_572 rfl rfl ?_
  refine q_aload_n (pc' := 574) dL_law_573 rfl rfl ?_
  refine q_iload (pc' := 576) dL_law_574 rfl rfl ?_
  refine q_iconst (pc' := 577) (v := nI 1) dL_law_576 rfl rfl ?_
  refine q_iaddN (pc' := 578) dL_law_577 rfl ?_
  refine l_ld (pc' := 579) dL_law_578 rfl (by omega) hL rfl ?_
  refine q_aload_n (pc' := 580) dL_law_579 rfl rfl ?_
  refine q_iload (pc' := 582) dL_law_580 rfl rfl ?_
  refine q_iconst (pc' := 583) (v := nI 2) dL_law_582 rfl rfl ?_
  refine q_iaddN (pc' := 584) dL_law_583 rfl ?_
  refine l_ld (pc' := 585) dL_law_584 rfl (by omega) hL rfl ?_
  refine l_callV (pc' := 588) (M' := mX11_score) (As := [_, _]) dL_law_585 iX11_score lL_70 rfl rfl rfl rfl (Nat.le_of_ble_eq_true rfl) (Nat.le_of_ble_eq_true rfl) rfl rfl (k_score hM1.qq) (fun r m' hq => ?_)
  obtain ⟨rfl, f2, k2⟩ := hq
  obtain ⟨hM2, d2⟩ := hM1.s f2 k2 (by decide) (by decide)
  refine q_icmp_eq (tgt := 1384) (pc' := 591) dL_law_588 (by decide) rfl (fun _ => ?_) (fun z => absurd rfl z)
  exact kk _ (q_R.of hC1 hM2 d2)
set_option maxHeartbeats 4000000 in
set_option maxRecDepth 20000 in
theorem law_five {Z : q_Z} {nm : String} {mc ms i : Nat} {m : q_Mm} {w5 w6 w7 : Option Value} {post : Option Value → va_W → Prop} (hi : i + 6 ≤ Z.2.2.2.2.2.1) (hL : Z.2.2.2.2.2.1 ≤ 3072) (hR : q_R m) (kk : ∀ m2, q_R m2 → q_V (q_g Z) (mL nm) 12 mc ms 1384 [some (.ref (Z.2.2.2.2.1 4)), some (.ref (q_ad Z 0)), some (.ref (q_ad Z 215)), some (.ref (q_ad Z 242)), some (.int (nI i)), w5, w6, w7] [] (q_W Z m2) post) : q_V (q_g Z) (mL nm) 12 mc ms 593 [some (.ref (Z.2.2.2.2.1 4)), some (.ref (q_ad Z 0)), some (.ref (q_ad Z 215)), some (.ref (q_ad Z 242)), some (.int (nI i)), w5, w6, w7] [] (q_W Z m) post := by
  obtain ⟨t, im, B, L, c, ck, us, rf, hC, hM⟩ := hR
  obtain ⟨st, hc⟩ := hC.2
  refine q_aload_n (pc' := 594) dL_law_593 rfl rfl ?_
  refine q_aload_n (pc' := 595) dL_law_594 rfl rfl ?_
  refine q_iload (pc' := 597) dL_law_595 rfl rfl ?_
  refine q_iconst (pc' := 598) (v := nI 1) dL_law_597 rfl rfl ?_
  refine q_iaddN (pc' := 599) dL_law_598 rfl ?_
  refine l_ld (pc' := 600) dL_law_599 rfl (by omega) hL rfl ?_
  refine l_callV (pc' := 603) (M' := mX10_five) (As := [_]) dL_law_600 iX10_five lL_71 rfl rfl rfl rfl (Nat.le_of_ble_eq_true rfl) (Nat.le_of_ble_eq_true rfl) rfl rfl (c_five hc hC.1.1) (fun r m' hq => ?_)
  obtain ⟨rfl, hs, f1, k1⟩ := hq
  obtain ⟨hC1, u1⟩ := hC.q hs f1 k1 (by decide)
  obtain ⟨m1, hm1⟩ : ∃ z, z = m' := ⟨_, rfl⟩
  subst hm1
  have hM1 := hM.up u1
  refine q_aload_n (pc' := 604) dL_law_603 rfl rfl ?_
  refine q_aload_n (pc' := 605) dL_law_604 rfl rfl ?_
  refine q_iload (pc' := 607) dL_law_605 rfl rfl ?_
  refine q_iconst (pc' := 608) (v := nI 1) dL_law_607 rfl rfl ?_
  refine q_iaddN (pc' := 609) dL_law_608 rfl ?_
  refine l_ld (pc' := 610) dL_law_609 rfl (by omega) hL rfl ?_
  refine l_callV (pc' := 613) (M' := mX11_five) (As := [_]) dL_law_610 iX11_five lL_74 rfl rfl rfl rfl (Nat.le_of_ble_eq_true rfl) (Nat.le_of_ble_eq_true rfl) rfl rfl (k_five hM1.qq) (fun r m' hq => ?_)
  obtain ⟨rfl, f2, k2⟩ := hq
  obtain ⟨hM2, d2⟩ := hM1.s f2 k2 (by decide) (by decide)
  refine q_icmp_eq (tgt := 1384) (pc' := 616) dL_law_613 (by decide) rfl (fun _ => ?_) (fun z => absurd rfl z)
  exact kk _ (q_R.of hC1 hM2 d2)
set_option maxHeartbeats 4000000 in
set_option maxRecDepth 20000 in
theorem law_block {Z : q_Z} {nm : String} {mc ms i : Nat} {m : q_Mm} {w5 w6 w7 : Option Value} {post : Option Value → va_W → Prop} (hi : i + 6 ≤ Z.2.2.2.2.2.1) (hL : Z.2.2.2.2.2.1 ≤ 3072) (hR : q_R m) (kk : ∀ m2, q_R m2 → q_V (q_g Z) (mL nm) 12 mc ms 1384 [some (.ref (Z.2.2.2.2.1 4)), some (.ref (q_ad Z 0)), some (.ref (q_ad Z 215)), some (.ref (q_ad Z 242)), some (.int (nI i)), w5, w6, w7] [] (q_W Z m2) post) : q_V (q_g Z) (mL nm) 12 mc ms 618 [some (.ref (Z.2.2.2.2.1 4)), some (.ref (q_ad Z 0)), some (.ref (q_ad Z 215)), some (.ref (q_ad Z 242)), some (.int (nI i)), w5, w6, w7] [] (q_W Z m) post := by
  obtain ⟨t, im, B, L, c, ck, us, rf, hC, hM⟩ := hR
  obtain ⟨st, hc⟩ := hC.2
  refine q_aload_n (pc' := 619) dL_law_618 rfl rfl ?_
  refine q_aload_n (pc' := 620) dL_law_619 rfl rfl ?_
  refine q_iload (pc' := 622) dL_law_620 rfl rfl ?_
  refine q_iconst (pc' := 623) (v := nI 1) dL_law_622 rfl rfl ?_
  refine q_iaddN (pc' := 624) dL_law_623 rfl ?_
  refine l_ld (pc' := 625) dL_law_624 rfl (by omega) hL rfl ?_
  refine q_aload_n (pc' := 626) dL_law_625 rfl rfl ?_
  refine q_iload (pc' := 628) dL_law_626 rfl rfl ?_
  refine q_iconst (pc' := 629) (v := nI 2) dL_law_628 rfl rfl ?_
  refine q_iaddN (pc' := 630) dL_law_629 rfl ?_
  refine l_ld (pc' := 631) dL_law_630 rfl (by omega) hL rfl ?_
  refine l_callV (pc' := 634) (M' := mX10_block) (As := [_, _]) dL_law_631 iX10_block lL_75 rfl rfl rfl rfl (Nat.le_of_ble_eq_true rfl) (Nat.le_of_ble_eq_true rfl) rfl rfl (c_block hc hC.1.1) (fun r m' hq => ?_)
  obtain ⟨rfl, hs, f1, k1⟩ := hq
  obtain ⟨hC1, u1⟩ := hC.q hs f1 k1 (by decide)
  obtain ⟨m1, hm1⟩ : ∃ z, z = m' := ⟨_, rfl⟩
  subst hm1
  have hM1 := hM.up u1
  refine q_aload_n (pc' := 635) dL_law_634 rfl rfl ?_
  refine q_aload_n (pc' := 636) dL_law_635 rfl rfl ?_
  refine q_iload (pc' := 638) dL_law_636 rfl rfl ?_
  refine q_iconst (pc' := 639) (v := nI 1) dL_law_638 rfl rfl ?_
  refine q_iaddN (pc' := 640) dL_law_639 rfl ?_
  refine l_ld (pc' := 641) dL_law_640 rfl (by omega) hL rfl ?_
  refine q_aload_n (pc' := 642) dL_law_641 rfl rfl ?_
  refine q_iload (pc' := 644) dL_law_642 rfl rfl ?_
  refine q_iconst (pc' := 645) (v := nI 2) dL_law_644 rfl rfl ?_
  refine q_iaddN (pc' := 646) dL_law_645 rfl ?_
  refine l_ld (pc' := 647) dL_law_646 rfl (by omega) hL rfl ?_
  refine l_callV (pc' := 650) (M' := mX11_block) (As := [_, _]) dL_law_647 iX11_block lL_78 rfl rfl rfl rfl (Nat.le_of_ble_eq_true rfl) (Nat.le_of_ble_eq_true rfl) rfl rfl (k_block hM1.qq) (fun r m' hq => ?_)
  obtain ⟨rfl, f2, k2⟩ := hq
  obtain ⟨hM2, d2⟩ := hM1.s f2 k2 (by decide) (by decide)
  refine q_icmp_eq (tgt := 1384) (pc' := 653) dL_law_650 (by decide) rfl (fun _ => ?_) (fun z => absurd rfl z)
  exact kk _ (q_R.of hC1 hM2 d2)
