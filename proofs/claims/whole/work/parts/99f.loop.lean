/-! ===== the law: value, the loop ===== -/
set_option maxHeartbeats 4000000 in
set_option maxRecDepth 20000 in
theorem k_thrown {Z : q_Z} {m : q_Mm} {d : Nat}  : q_V (q_g Z) mX11_thrown (d) 0 0 0 [some (.ref (q_ad Z 215))] [] (q_W Z m) (q_P Z fun r m2 => r = some (.int (m.1 215 0)) ∧ m2 = m) := by
  refine q_aload_n (pc' := 1) dX11_thrown_0 rfl rfl ?_
  refine h_geti (pc' := 4) dX11_thrown_1 fX11_92 rfl rfl rfl ?_
  refine q_iret dX11_thrown_4 rfl rfl ⟨_, rfl, rfl, rfl⟩
set_option maxHeartbeats 4000000 in
set_option maxRecDepth 20000 in
theorem law_value {Z : q_Z} {nm : String} {mc ms i : Nat} {m : q_Mm} {w5 w6 w7 : Option Value} {post : Option Value → va_W → Prop} (hst : Z.1.stackTraces = false) (hi : i + 6 ≤ Z.2.2.2.2.2.1) (hL : Z.2.2.2.2.2.1 ≤ 3072) (hR : q_R m) (kk : ∀ m2 w5 w6 w7, q_R m2 → q_V (q_g Z) (mL nm) 12 mc ms 1384 [some (.ref (Z.2.2.2.2.1 4)), some (.ref (q_ad Z 0)), some (.ref (q_ad Z 215)), some (.ref (q_ad Z 242)), some (.int (nI i)), w5, w6, w7] [] (q_W Z m2) post) : q_V (q_g Z) (mL nm) 12 (mc + 1) (ms + 6) 365 [some (.ref (Z.2.2.2.2.1 4)), some (.ref (q_ad Z 0)), some (.ref (q_ad Z 215)), some (.ref (q_ad Z 242)), some (.int (nI i)), w5, w6, w7] [] (q_W Z m) post := by
  obtain ⟨t, im, B, L, c, ck, us, rf, hC, hM⟩ := hR
  refine q_aload_n (pc' := 366) dL_law_365 rfl rfl ?_
  refine q_aload_n (pc' := 367) dL_law_366 rfl rfl ?_
  refine q_iload (pc' := 369) dL_law_367 rfl rfl ?_
  refine q_iconst (pc' := 370) (v := nI 1) dL_law_369 rfl rfl ?_
  refine q_iaddN (pc' := 371) dL_law_370 rfl ?_
  refine l_ld (pc' := 372) dL_law_371 rfl (by omega) hL rfl ?_
  refine q_aload_n (pc' := 373) dL_law_372 rfl rfl ?_
  refine l_value hst hC.c hC.1.1 (fun hs => ?_) (fun hs => ?_)
  · obtain ⟨m1, hm1⟩ : ∃ z, z = sL m 242 (q_u (m.2.2.2.1 242) 0 (c.2.2.1 (s_i (Z.2.2.2.2.2.2 (i + 1))))) := ⟨_, rfl⟩
    rw [← hm1]
    have f1 : Fr [242] m m1 := hm1 ▸ Fr.rf.L (by decide)
    have hC1 := hC.hi f1 (by decide)
    have hM1 := hM.lo f1 (by decide)
    refine q_istore (pc' := 378) (lv' := [_, _, _, _, _, _, _, _]) dL_law_376 (Nat.le_of_ble_eq_true rfl) rfl rfl ?_
    refine q_aload_n (pc' := 379) dL_law_378 rfl rfl ?_
    refine q_aload_n (pc' := 380) dL_law_379 rfl rfl ?_
    refine q_iload (pc' := 382) dL_law_380 rfl rfl ?_
    refine q_iconst (pc' := 383) (v := nI 1) dL_law_382 rfl rfl ?_
    refine q_iaddN (pc' := 384) dL_law_383 rfl ?_
    refine l_ld (pc' := 385) dL_law_384 rfl (by omega) hL rfl ?_
    refine l_callV (pc' := 388) (M' := mX11_value) (As := [_]) dL_law_385 iX11_value lL_48 rfl rfl rfl rfl (Nat.le_of_ble_eq_true rfl) (Nat.le_of_ble_eq_true rfl) rfl rfl (k_value hM1) (fun r m' hq => ?_)
    obtain ⟨rfl, h0, hM2, d2⟩ := hq
    rw [if_pos hs] at h0
    obtain ⟨m4, hm4⟩ : ∃ z, z = m' := ⟨_, rfl⟩
    subst hm4
    refine q_lstore (pc' := 390) (lv' := [_, _, _, _, _, _, _, _]) dL_law_388 (Nat.le_of_ble_eq_true rfl) rfl rfl ?_
    refine q_aload_n (pc' := 391) dL_law_390 rfl rfl ?_
    refine l_callV (pc' := 394) (M' := mX11_thrown) (As := []) dL_law_391 iX11_thrown lL_49 rfl rfl rfl rfl (Nat.le_of_ble_eq_true rfl) (Nat.le_of_ble_eq_true rfl) rfl rfl (k_thrown) (fun r m' hq => ?_)
    obtain ⟨rfl, hmm⟩ := hq
    subst m'
    rw [h0]
    refine q_iload (pc' := 396) dL_law_394 rfl rfl ?_
    refine q_icmp_eq (tgt := 401) (pc' := 399) dL_law_396 (by decide) rfl (fun _ => ?_) (fun z => absurd (show nI 0 = 0 from rfl) z)
    refine q_iload (pc' := 403) dL_law_401 rfl rfl ?_
    refine q_if_ne (tgt := 417) (pc' := 406) dL_law_403 (by decide) rfl (fun z => absurd rfl z) (fun _ => ?_)
    refine q_aload_n (pc' := 407) dL_law_406 rfl rfl ?_
    refine q_iconst (pc' := 408) (v := nI 0) dL_law_407 rfl rfl ?_
    have e9 : ∀ mz : q_Mm, Dn m1 mz → mz.2.2.2.1 242 0 = c.2.2.1 (s_i (Z.2.2.2.2.2.2 (i + 1))) := fun mz dz => by
      have h9 : mz.2.2.2.1 242 = m1.2.2.2.1 242 := congrArg (fun z => z.2.2.2.1) (dz 242 (Or.inr (Nat.le_refl _)))
      rw [h9, hm1]
      rfl
    refine q_lald (G := q_g Z) (k := 242) (t := 1) (pc' := 409) dL_law_408 (q_W_get (p := 242) rfl) rfl (vp_in_nI (by decide) (by decide)) rfl ?_
    rw [show (nI 0).toNatClampNeg = 0 from rfl, e9 _ d2]
    refine q_lload (pc' := 411) dL_law_409 rfl rfl ?_
    rw [if_pos hs]
    refine q_lcmp (pc' := 412) dL_law_411 rfl ?_
    refine q_if_eq (tgt := 417) (pc' := 415) dL_law_412 (by decide) rfl (fun _ => ?_) (fun z => absurd (lcmp_self _) z)
    refine q_goto (pc' := 1384) dL_law_417 (by decide) ?_
    exact kk _ _ _ _ (q_R.of hC1 hM2 d2)
  · refine q_istore (pc' := 378) (lv' := [_, _, _, _, _, _, _, _]) dL_law_376 (Nat.le_of_ble_eq_true rfl) rfl rfl ?_
    refine q_aload_n (pc' := 379) dL_law_378 rfl rfl ?_
    refine q_aload_n (pc' := 380) dL_law_379 rfl rfl ?_
    refine q_iload (pc' := 382) dL_law_380 rfl rfl ?_
    refine q_iconst (pc' := 383) (v := nI 1) dL_law_382 rfl rfl ?_
    refine q_iaddN (pc' := 384) dL_law_383 rfl ?_
    refine l_ld (pc' := 385) dL_law_384 rfl (by omega) hL rfl ?_
    refine l_callV (pc' := 388) (M' := mX11_value) (As := [_]) dL_law_385 iX11_value lL_48 rfl rfl rfl rfl (Nat.le_of_ble_eq_true rfl) (Nat.le_of_ble_eq_true rfl) rfl rfl (k_value hM) (fun r m' hq => ?_)
    obtain ⟨rfl, h0, hM2, d2⟩ := hq
    rw [if_neg (by rw [hs]; decide)] at h0
    obtain ⟨m4, hm4⟩ : ∃ z, z = m' := ⟨_, rfl⟩
    subst hm4
    refine q_lstore (pc' := 390) (lv' := [_, _, _, _, _, _, _, _]) dL_law_388 (Nat.le_of_ble_eq_true rfl) rfl rfl ?_
    refine q_aload_n (pc' := 391) dL_law_390 rfl rfl ?_
    refine l_callV (pc' := 394) (M' := mX11_thrown) (As := []) dL_law_391 iX11_thrown lL_49 rfl rfl rfl rfl (Nat.le_of_ble_eq_true rfl) (Nat.le_of_ble_eq_true rfl) rfl rfl (k_thrown) (fun r m' hq => ?_)
    obtain ⟨rfl, hmm⟩ := hq
    subst m'
    rw [h0]
    refine q_iload (pc' := 396) dL_law_394 rfl rfl ?_
    refine q_icmp_eq (tgt := 401) (pc' := 399) dL_law_396 (by decide) rfl (fun _ => ?_) (fun z => absurd (show nI 1 = 1 from rfl) z)
    refine q_iload (pc' := 403) dL_law_401 rfl rfl ?_
    refine q_if_ne (tgt := 417) (pc' := 406) dL_law_403 (by decide) rfl (fun _ => ?_) (fun z => absurd z (by decide))
    refine q_goto (pc' := 1384) dL_law_417 (by decide) ?_
    exact kk _ _ _ _ (q_R.of hC hM2 d2)
set_option maxHeartbeats 8000000 in
set_option maxRecDepth 20000 in
theorem law_loop {Z : q_Z} {nm : String} (hst : Z.1.stackTraces = false) (hL : Z.2.2.2.2.2.1 ≤ 3072) : ∀ (g i : Nat) (m : q_Mm) (w5 w6 w7 : Option Value), Z.2.2.2.2.2.1 < i + 6 * g + 6 → i ≤ 4000 → q_R m → q_V (q_g Z) (mL nm) 12 g (6 * g) 23 [some (.ref (Z.2.2.2.2.1 4)), some (.ref (q_ad Z 0)), some (.ref (q_ad Z 215)), some (.ref (q_ad Z 242)), some (.int (nI i)), w5, w6, w7] [] (q_W Z m) (fun r _ => r = some (.int 1)) := by
  have out : ∀ (g g2 i : Nat) (m : q_Mm) (w5 w6 w7 : Option Value), Z.2.2.2.2.2.1 < i + 6 → q_V (q_g Z) (mL nm) 12 g g2 1390 [some (.ref (Z.2.2.2.2.1 4)), some (.ref (q_ad Z 0)), some (.ref (q_ad Z 215)), some (.ref (q_ad Z 242)), some (.int (nI i)), w5, w6, w7] [] (q_W Z m) (fun r _ => r = some (.int 1)) := by
    intro g g2 i m w5 w6 w7 h
    refine q_iconst (pc' := 1391) (v := 1) dL_law_1390 (by decide) rfl ?_
    exact q_iret dL_law_1391 rfl (by first | exact q_nb1 | exact q_nb _) rfl
  have tst : ∀ (g g2 i : Nat) (m : q_Mm) (w5 w6 w7 : Option Value), i ≤ 4000 → (i + 6 ≤ Z.2.2.2.2.2.1 → q_V (q_g Z) (mL nm) 12 g g2 33 [some (.ref (Z.2.2.2.2.1 4)), some (.ref (q_ad Z 0)), some (.ref (q_ad Z 215)), some (.ref (q_ad Z 242)), some (.int (nI i)), w5, w6, w7] [] (q_W Z m) (fun r _ => r = some (.int 1))) → q_V (q_g Z) (mL nm) 12 g g2 23 [some (.ref (Z.2.2.2.2.1 4)), some (.ref (q_ad Z 0)), some (.ref (q_ad Z 215)), some (.ref (q_ad Z 242)), some (.int (nI i)), w5, w6, w7] [] (q_W Z m) (fun r _ => r = some (.int 1)) := by
    intro g g2 i m w5 w6 w7 hi k
    refine q_iload (pc' := 25) dL_law_23 rfl rfl ?_
    refine q_aload_n (pc' := 26) dL_law_25 rfl rfl ?_
    refine q_tlen (G := q_g Z) (v := nI Z.2.2.2.2.2.1) (pc' := 27) dL_law_26 ro_4 rfl rfl ?_
    refine q_bipush (pc' := 29) (v := nI 6) dL_law_27 rfl rfl ?_
    refine q_isub (pc' := 30) dL_law_29 rfl ?_
    refine q_icmp_gt (tgt := 1390) (pc' := 33) dL_law_30 (by decide) rfl (fun z => ?_) (fun z => ?_)
    · rw [z_lt, pk_sub_toInt (by omega) (by decide), z_n (by omega)] at z
      exact out g g2 i m w5 w6 w7 (by omega)
    · rw [z_lt, pk_sub_toInt (by omega) (by decide), z_n (by omega)] at z
      exact k (by omega)
  intro g
  induction g with
  | zero =>
    intro i m w5 w6 w7 h hi hR
    exact tst 0 (6 * 0) i m w5 w6 w7 hi (fun z => absurd z (by omega))
  | succ g ih =>
    intro i m w5 w6 w7 h hi hR
    rw [show 6 * (g + 1) = 6 * g + 6 by omega]
    refine tst (g + 1) (6 * g + 6) i m w5 w6 w7 hi (fun hz => ?_)
    have nx0 : ∀ (m2 : q_Mm) (w5 w6 w7 : Option Value), q_R m2 → q_V (q_g Z) (mL nm) 12 g (6 * g) 1384 [some (.ref (Z.2.2.2.2.1 4)), some (.ref (q_ad Z 0)), some (.ref (q_ad Z 215)), some (.ref (q_ad Z 242)), some (.int (nI i)), w5, w6, w7] [] (q_W Z m2) (fun r _ => r = some (.int 1)) := by
      intro m2 w5 w6 w7 h2
      refine q_iincN (j := 6) (pc' := 1387) (lv' := [_, _, _, _, _, _, _, _]) dL_law_1384 rfl (Nat.le_of_ble_eq_true rfl) rfl rfl ?_
      refine q_goto (pc' := 23) dL_law_1387 (by decide) ?_
      exact ih (i + 6) m2 w5 w6 w7 (by omega) (by omega) h2
    have nx : ∀ (m2 : q_Mm), q_R m2 → q_V (q_g Z) (mL nm) 12 (g + 1) (6 * g + 6) 1384 [some (.ref (Z.2.2.2.2.1 4)), some (.ref (q_ad Z 0)), some (.ref (q_ad Z 215)), some (.ref (q_ad Z 242)), some (.int (nI i)), w5, w6, w7] [] (q_W Z m2) (fun r _ => r = some (.int 1)) := fun m2 h2 => q_more (by omega) (by omega) (nx0 m2 w5 w6 w7 h2)
    refine q_aload_n (pc' := 34) dL_law_33 rfl rfl ?_
    refine q_iload (pc' := 36) dL_law_34 rfl rfl ?_
    refine l_ld (pc' := 37) dL_law_36 rfl (by omega) hL rfl ?_
    refine q_bipush (pc' := 39) (v := nI 63) dL_law_37 rfl rfl ?_
    refine q_iand (pc' := 40) dL_law_39 rfl ?_
    obtain ⟨k, hk, e⟩ : ∃ k, k < 64 ∧ Z.2.2.2.2.2.2 i &&& nI 63 = nI k := ⟨_, Nat.mod_lt _ (by decide), pk_and (Z.2.2.2.2.2.2 i) 6 rfl⟩
    rw [e]
    by_cases hd : 37 ≤ k
    · refine q_tabOut (tgt := 1384) dL_law_40 (Or.inr (by rw [z_n (by omega)]; omega)) (by decide) ?_
      exact nx m hR
    have hk : k = 0 ∨ k = 1 ∨ k = 2 ∨ k = 3 ∨ k = 4 ∨ k = 5 ∨ k = 6 ∨ k = 7 ∨ k = 8 ∨ k = 9 ∨ k = 10 ∨ k = 11 ∨ k = 12 ∨ k = 13 ∨ k = 14 ∨ k = 15 ∨ k = 16 ∨ k = 17 ∨ k = 18 ∨ k = 19 ∨ k = 20 ∨ k = 21 ∨ k = 22 ∨ k = 23 ∨ k = 24 ∨ k = 25 ∨ k = 26 ∨ k = 27 ∨ k = 28 ∨ k = 29 ∨ k = 30 ∨ k = 31 ∨ k = 32 ∨ k = 33 ∨ k = 34 ∨ k = 35 ∨ k = 36 := by omega
    rcases hk with rfl | rfl | rfl | rfl | rfl | rfl | rfl | rfl | rfl | rfl | rfl | rfl | rfl | rfl | rfl | rfl | rfl | rfl | rfl | rfl | rfl | rfl | rfl | rfl | rfl | rfl | rfl | rfl | rfl | rfl | rfl | rfl | rfl | rfl | rfl | rfl | rfl
    · exact q_tabIn (tgt := 204) dL_law_40 (by decide) (by decide) rfl (by decide) (law_feed hz hL hR nx)
    · exact q_tabIn (tgt := 277) dL_law_40 (by decide) (by decide) rfl (by decide) (law_end hz hL hR nx)
    · exact q_tabIn (tgt := 302) dL_law_40 (by decide) (by decide) rfl (by decide) (law_fault hz hL hR nx)
    · exact q_tabIn (tgt := 327) dL_law_40 (by decide) (by decide) rfl (by decide) (law_text hz hL hR nx)
    · exact q_tabIn (tgt := 340) dL_law_40 (by decide) (by decide) rfl (by decide) (law_rule hz hL hR nx)
    · exact q_tabIn (tgt := 365) dL_law_40 (by decide) (by decide) rfl (by decide) (law_value hst hz hL hR nx0)
    · exact q_tabIn (tgt := 420) dL_law_40 (by decide) (by decide) rfl (by decide) (law_about hz hL hR nx)
    · exact q_tabIn (tgt := 457) dL_law_40 (by decide) (by decide) rfl (by decide) (law_guise hz hL hR nx)
    · exact q_tabIn (tgt := 507) dL_law_40 (by decide) (by decide) rfl (by decide) (law_cost hz hL hR nx)
    · exact q_tabIn (tgt := 556) dL_law_40 (by decide) (by decide) rfl (by decide) (law_score hz hL hR nx)
    · exact q_tabIn (tgt := 593) dL_law_40 (by decide) (by decide) rfl (by decide) (law_five hz hL hR nx)
    · exact q_tabIn (tgt := 618) dL_law_40 (by decide) (by decide) rfl (by decide) (law_block hz hL hR nx)
    · exact q_tabIn (tgt := 655) dL_law_40 (by decide) (by decide) rfl (by decide) (law_whole hz hL hR nx)
    · exact q_tabIn (tgt := 693) dL_law_40 (by decide) (by decide) rfl (by decide) (law_part hz hL hR nx)
    · exact q_tabIn (tgt := 730) dL_law_40 (by decide) (by decide) rfl (by decide) (law_write hz hL hR nx)
    · exact q_tabIn (tgt := 755) dL_law_40 (by decide) (by decide) rfl (by decide) (law_octet hz hL hR nx)
    · exact q_tabIn (tgt := 780) dL_law_40 (by decide) (by decide) rfl (by decide) (law_peek hz hL hR nx)
    · exact q_tabIn (tgt := 806) dL_law_40 (by decide) (by decide) rfl (by decide) (law_add hz hL hR nx)
    · exact q_tabIn (tgt := 863) dL_law_40 (by decide) (by decide) rfl (by decide) (law_put hz hL hR nx)
    · exact q_tabIn (tgt := 932) dL_law_40 (by decide) (by decide) rfl (by decide) (law_drop hz hL hR nx)
    · exact q_tabIn (tgt := 945) dL_law_40 (by decide) (by decide) rfl (by decide) (law_swap hz hL hR nx)
    · exact q_tabIn (tgt := 982) dL_law_40 (by decide) (by decide) rfl (by decide) (law_set hz hL hR nx)
    · exact q_tabIn (tgt := 1019) dL_law_40 (by decide) (by decide) rfl (by decide) (law_take hz hL hR nx)
    · exact q_tabIn (tgt := 1032) dL_law_40 (by decide) (by decide) rfl (by decide) (law_status hz hL hR nx)
    · exact q_tabIn (tgt := 1057) dL_law_40 (by decide) (by decide) rfl (by decide) (law_undo hz hL hR nx)
    · exact q_tabIn (tgt := 1070) dL_law_40 (by decide) (by decide) rfl (by decide) (law_log hz hL hR nx)
    · exact q_tabIn (tgt := 1107) dL_law_40 (by decide) (by decide) rfl (by decide) (law_common hz hL hR nx)
    · exact q_tabIn (tgt := 1133) dL_law_40 (by decide) (by decide) rfl (by decide) (law_sum hz hL hR nx)
    · exact q_tabIn (tgt := 1159) dL_law_40 (by decide) (by decide) rfl (by decide) (law_saved hz hL hR nx)
    · exact q_tabIn (tgt := 1196) dL_law_40 (by decide) (by decide) rfl (by decide) (law_less hz hL hR nx)
    · exact q_tabIn (tgt := 1221) dL_law_40 (by decide) (by decide) rfl (by decide) (law_best hz hL hR nx)
    · exact q_tabIn (tgt := 1246) dL_law_40 (by decide) (by decide) rfl (by decide) (law_alone hz hL hR nx)
    · exact q_tabIn (tgt := 1271) dL_law_40 (by decide) (by decide) rfl (by decide) (law_near hz hL hR nx)
    · exact q_tabIn (tgt := 1308) dL_law_40 (by decide) (by decide) rfl (by decide) (law_most hz hL hR nx)
    · exact q_tabIn (tgt := 1333) dL_law_40 (by decide) (by decide) rfl (by decide) (law_image hz hL hR nx)
    · exact q_tabIn (tgt := 1346) dL_law_40 (by decide) (by decide) rfl (by decide) (law_back hz hL hR nx)
    · exact q_tabIn (tgt := 1359) dL_law_40 (by decide) (by decide) rfl (by decide) (law_count hz hL hR nx)
