/-! ===== the reference's face: ways, about, block, whole ===== -/
set_option maxHeartbeats 4000000 in
set_option maxRecDepth 20000 in
theorem k_waysOf {Z : q_Z} {m : q_Mm} {d : Nat} {n : Nat} {v : Int64} {rl : Nat → Nat} {xs : Nat → Int64} (hM : MD m) (hV : MV m n rl xs) : q_V (q_g Z) mX11_waysOf (d+4) 0 0 0 [some (.ref (q_ad Z 215)), some (.long v), none, none, none, none] [] (q_W Z m) (q_P Z fun r m2 => r = some (.int (nI (s_cnt (fun p => !decide (s_wv v p = s_no)) (s_pn (rl 2 + 1) 0)))) ∧ Fr [215] m m2 ∧ Kp 215 [23] m m2) := by
  have hok := hV.2.2.2.2
  have h2 := hok.2.2.1
  obtain ⟨P, hP⟩ : ∃ P, (fun p => !decide (s_wv v p = s_no)) = P := ⟨_, rfl⟩
  rw [hP]
  have hpe : ∀ e f, e < 15 → f ≤ e → (!decide (s_w2 v e f = s_no)) = P (s_pn e f) := fun e f he hf => by
    rw [← hP]
    show _ = !decide (s_wv v (s_pn e f) = s_no)
    rw [s_wv_2, k_cd_pn he hf, show (16 * e + f) / 16 = e by omega, show (16 * e + f) % 16 = f by omega]
  refine q_iconst (pc' := 1) (v := nI 0) dX11_waysOf_0 rfl rfl ?_
  refine q_istore_n (pc' := 2) (lv' := [_, _, _, _, _, _]) dX11_waysOf_1 (by decide) rfl rfl ?_
  refine q_iconst (pc' := 3) (v := nI 0) dX11_waysOf_2 rfl rfl ?_
  refine q_istore (pc' := 5) (lv' := [_, _, _, _, _, _]) dX11_waysOf_3 (by decide) rfl rfl ?_
  suffices h : ∀ g e m1 u, e + g = rl 2 + 1 → Fr [215] m m1 → Kp 215 [23] m m1 → q_V (q_g Z) mX11_waysOf (d+4) 0 0 5 [some (.ref (q_ad Z 215)), some (.long v), none, some (.int (nI (s_cnt P (s_pn e 0)))), some (.int (nI e)), u] [] (q_W Z (m1)) (q_P Z fun r m2 => r = some (.int (nI (s_cnt P (s_pn (rl 2 + 1) 0)))) ∧ Fr [215] m m2 ∧ Kp 215 [23] m m2) from h _ 0 m _ (Nat.zero_add _) Fr.rf Kp.rf
  intro g
  induction g with
  | zero =>
    intro e m1 u he f1 k1
    obtain rfl : e = rl 2 + 1 := by omega
    have hr1 : m1.2.2.1 224 2 = nI (rl 2) := (congrFun (f1.a (by decide)) 2).trans (hV.2.2.2.1 2 (by decide))
    refine q_iload (pc' := 7) dX11_waysOf_5 rfl rfl ?_
    refine q_aload_n (pc' := 8) dX11_waysOf_7 rfl rfl ?_
    refine h_getr (pc' := 11) dX11_waysOf_8 fX11_36 rfl rfl rfl ?_
    refine q_iconst (pc' := 12) (v := nI 2) dX11_waysOf_11 rfl rfl ?_
    refine h_ialdE (pc' := 13) dX11_waysOf_12 rfl (rfl) (by omega) (by decide) (hr1) rfl ?_
    refine q_icmp_gtN (tgt := 58) (pc' := 16) dX11_waysOf_13 (by decide) rfl (by omega) (fun c_13 => ?_) (fun c_13 => ?_)
    rotate_left
    · omega
    refine q_iload_n (pc' := 59) dX11_waysOf_58 rfl rfl ?_
    refine q_iret dX11_waysOf_59 rfl rfl ⟨_, rfl, rfl, f1, k1⟩
  | succ g ih =>
    intro e m1 u he f1 k1
    have hr1 : m1.2.2.1 224 2 = nI (rl 2) := (congrFun (f1.a (by decide)) 2).trans (hV.2.2.2.1 2 (by decide))
    refine q_iload (pc' := 7) dX11_waysOf_5 rfl rfl ?_
    refine q_aload_n (pc' := 8) dX11_waysOf_7 rfl rfl ?_
    refine h_getr (pc' := 11) dX11_waysOf_8 fX11_36 rfl rfl rfl ?_
    refine q_iconst (pc' := 12) (v := nI 2) dX11_waysOf_11 rfl rfl ?_
    refine h_ialdE (pc' := 13) dX11_waysOf_12 rfl (rfl) (by omega) (by decide) (hr1) rfl ?_
    refine q_icmp_gtN (tgt := 58) (pc' := 16) dX11_waysOf_13 (by decide) rfl (by omega) (fun c_13 => ?_) (fun c_13 => ?_)
    · omega
    refine q_iconst (pc' := 17) (v := nI 0) dX11_waysOf_16 rfl rfl ?_
    refine q_istore (pc' := 19) (lv' := [_, _, _, _, _, _]) dX11_waysOf_17 (by decide) rfl rfl ?_
    suffices h : ∀ g2 f m1, f + g2 = e + 1 → Fr [215] m m1 → Kp 215 [23] m m1 → q_V (q_g Z) mX11_waysOf (d+4) 0 0 19 [some (.ref (q_ad Z 215)), some (.long v), none, some (.int (nI (s_cnt P (s_pn e f)))), some (.int (nI e)), some (.int (nI f))] [] (q_W Z (m1)) (q_P Z fun r m2 => r = some (.int (nI (s_cnt P (s_pn (rl 2 + 1) 0)))) ∧ Fr [215] m m2 ∧ Kp 215 [23] m m2) from h _ 0 m1 (Nat.zero_add _) f1 k1
    intro g2
    induction g2 with
    | zero =>
      intro f m1 hf f1 k1
      obtain rfl : f = e + 1 := by omega
      rw [k_pn_next0 ⟨e, by omega⟩]
      refine q_iload (pc' := 21) dX11_waysOf_19 rfl rfl ?_
      refine q_iload (pc' := 23) dX11_waysOf_21 rfl rfl ?_
      refine q_icmp_gtN (tgt := 52) (pc' := 26) dX11_waysOf_23 (by decide) rfl (by omega) (fun c_23 => ?_) (fun c_23 => ?_)
      rotate_left
      · omega
      refine q_iincN (pc' := 55) (j := 1) (lv' := [_, _, _, _, _, _]) dX11_waysOf_52 rfl (by decide) rfl rfl ?_
      refine q_goto (pc' := 5) dX11_waysOf_55 (by decide) ?_
      exact ih (e + 1) m1 _ (by omega) f1 k1
    | succ g2 ih2 =>
      intro f m1 hf f1 k1
      have hM1 := hM.fr f1 (by decide) (by decide)
      refine q_iload (pc' := 21) dX11_waysOf_19 rfl rfl ?_
      refine q_iload (pc' := 23) dX11_waysOf_21 rfl rfl ?_
      refine q_icmp_gtN (tgt := 52) (pc' := 26) dX11_waysOf_23 (by decide) rfl (by omega) (fun c_23 => ?_) (fun c_23 => ?_)
      · omega
      refine q_iload_n (pc' := 27) dX11_waysOf_26 rfl rfl ?_
      refine q_aload_n (pc' := 28) dX11_waysOf_27 rfl rfl ?_
      refine q_lload_n (pc' := 29) dX11_waysOf_28 rfl rfl ?_
      refine q_iload (pc' := 31) dX11_waysOf_29 rfl rfl ?_
      refine q_iload (pc' := 33) dX11_waysOf_31 rfl rfl ?_
      refine h_callV (pc' := 36) (M' := mX11_isFit) (As := [_, _, _]) dX11_waysOf_33 iX11_isFit lX11_378 rfl rfl rfl rfl (Nat.le_of_ble_eq_true rfl) (Nat.le_of_ble_eq_true rfl) rfl rfl (k_isFit hM1 (by omega) (by omega)) (fun r m' hq => ?_)
      obtain ⟨rfl, f2, k2⟩ := hq
      rw [hpe e f (by omega) (by omega)]
      have ih2 := ih2 (f + 1) m' (by omega) (f1.trans f2) (k1.trans k2)
      rw [show s_pn e (f + 1) = s_pn e f + 1 from rfl] at ih2
      refine q_if_eqB (tgt := 43) (pc' := 39) dX11_waysOf_36 (by decide) rfl (fun c_36 => ?_) (fun c_36 => ?_)
      · rw [s_cnt_f c_36] at ih2
        refine q_iconst (pc' := 44) (v := nI 0) dX11_waysOf_43 rfl rfl ?_
        refine q_iaddN (pc' := 45) dX11_waysOf_44 rfl ?_
        refine q_istore_n (pc' := 46) (lv' := [_, _, _, _, _, _]) dX11_waysOf_45 (by decide) rfl rfl ?_
        refine q_iincN (pc' := 49) (j := 1) (lv' := [_, _, _, _, _, _]) dX11_waysOf_46 rfl (by decide) rfl rfl ?_
        refine q_goto (pc' := 19) dX11_waysOf_49 (by decide) ?_
        exact ih2
      · rw [s_cnt_t c_36] at ih2
        refine q_iconst (pc' := 40) (v := nI 1) dX11_waysOf_39 rfl rfl ?_
        refine q_goto (pc' := 44) dX11_waysOf_40 (by decide) ?_
        refine q_iaddN (pc' := 45) dX11_waysOf_44 rfl ?_
        refine q_istore_n (pc' := 46) (lv' := [_, _, _, _, _, _]) dX11_waysOf_45 (by decide) rfl rfl ?_
        refine q_iincN (pc' := 49) (j := 1) (lv' := [_, _, _, _, _, _]) dX11_waysOf_46 rfl (by decide) rfl rfl ?_
        refine q_goto (pc' := 19) dX11_waysOf_49 (by decide) ?_
        exact ih2
set_option maxHeartbeats 4000000 in
set_option maxRecDepth 20000 in
theorem k_isOdd {Z : q_Z} {m : q_Mm} {d : Nat} {n i : Nat} {rl : Nat → Nat} {xs : Nat → Int64} (hM : MD m) (hV : MV m n rl xs) (hi : i < n) : q_V (q_g Z) mX11_isOdd (d+7) 0 0 0 [some (.ref (q_ad Z 215)), some (.int (nI i))] [] (q_W Z m) (q_P Z fun r m2 => r = some (.int (q_b (s_ex n rl xs (s_ws xs) (s_wp n rl (s_ws xs) (s_five n rl xs) (i / rl 0)) (i / rl 0) (s_wf n rl xs (s_ws xs) (s_five n rl xs) (i / rl 0)).1 (i - i / rl 0 * rl 0)))) ∧ Fr s_Sx m m2 ∧ Kp 215 s_Jx m m2) := by
  have hok := hV.2.2.2.2
  have h0 := hok.1
  have hn6 := hV.2.1
  obtain ⟨b1, b2, b3⟩ := s_nb_of hok hi
  have hz := s_sz16 (n := n) hok (i / rl 0)
  have hmod : i % rl 0 = i - i / rl 0 * rl 0 := by rw [Nat.mod_eq_sub_mul_div, Nat.mul_comm]
  refine q_aload_n (pc' := 1) dX11_isOdd_0 rfl rfl ?_
  refine h_callV (pc' := 4) (M' := mX11_layFive) (As := []) dX11_isOdd_1 iX11_layFive lX11_369 rfl rfl rfl rfl (Nat.le_of_ble_eq_true rfl) (Nat.le_of_ble_eq_true rfl) rfl rfl (k_layFive hM hV) (fun r m' hq => ?_)
  obtain ⟨rfl, f0, k0, F0⟩ := hq
  have f0 : Fr s_Sx m m' := f0.mono (by decide)
  have k0 : Kp 215 s_Jx m m' := k0.mono (by decide)
  have hV0 := hV.fr f0 (k0 20 (by decide)) (by decide) (by decide)
  have hM0 := hM.fr f0 (by decide) (by decide)
  obtain ⟨m0, hm0⟩ : ∃ z, z = m' := ⟨_, rfl⟩
  subst hm0
  refine q_aload_n (pc' := 5) dX11_isOdd_4 rfl rfl ?_
  refine q_iload_n (pc' := 6) dX11_isOdd_5 rfl rfl ?_
  refine q_aload_n (pc' := 7) dX11_isOdd_6 rfl rfl ?_
  refine h_getr (pc' := 10) dX11_isOdd_7 fX11_36 rfl rfl rfl ?_
  refine q_iconst (pc' := 11) (v := nI 0) dX11_isOdd_10 rfl rfl ?_
  refine h_ialdE (pc' := 12) dX11_isOdd_11 rfl (rfl) (by omega) (by decide) (hV0.2.2.2.1 0 (by decide)) rfl ?_
  refine q_idivN (pc' := 13) dX11_isOdd_12 (by omega) rfl ?_
  refine h_callV (pc' := 16) (M' := mX11_layForm) (As := [_]) dX11_isOdd_13 iX11_layForm lX11_372 rfl rfl rfl rfl (Nat.le_of_ble_eq_true rfl) (Nat.le_of_ble_eq_true rfl) rfl rfl (k_layForm hM0 hV0 F0 (five_pos n rl xs) b1) (fun r m' hq => ?_)
  obtain ⟨rfl, f2, k2, G2⟩ := hq
  have hV2 := hV0.fr f2 (k2 20 (by decide)) (by decide) (by decide)
  have f2 : Fr s_Sx m m' := f0.trans (f2.mono (by decide))
  have k2 : Kp 215 s_Jx m m' := k0.trans (k2.mono (by decide))
  obtain ⟨m2, hm2⟩ : ∃ z, z = m' := ⟨_, rfl⟩
  subst hm2
  have hlt : i % rl 0 < 16 := by omega
  refine q_aload_n (pc' := 17) dX11_isOdd_16 rfl rfl ?_
  refine h_getiE (pc' := 20) dX11_isOdd_17 fX11_289 rfl rfl (G2.2.2.2.2.1) rfl ?_
  refine q_iload_n (pc' := 21) dX11_isOdd_20 rfl rfl ?_
  refine q_aload_n (pc' := 22) dX11_isOdd_21 rfl rfl ?_
  refine h_getr (pc' := 25) dX11_isOdd_22 fX11_36 rfl rfl rfl ?_
  refine q_iconst (pc' := 26) (v := nI 0) dX11_isOdd_25 rfl rfl ?_
  refine h_ialdE (pc' := 27) dX11_isOdd_26 rfl (rfl) (by omega) (by decide) (hV2.2.2.2.1 0 (by decide)) rfl ?_
  refine q_iremN (pc' := 28) dX11_isOdd_27 (by omega) rfl ?_
  refine h_callS (pc' := 31) (M' := mX11_has) (As := [_, _]) dX11_isOdd_28 iX11_has lX11_127 rfl rfl (Nat.le_of_ble_eq_true rfl) (Nat.le_of_ble_eq_true rfl) rfl rfl ((k_has (by omega) (by omega)).up (Nat.zero_le _)) (fun r m' hq => ?_)
  obtain ⟨rfl, hmm⟩ := hq
  subst m'
  rw [hmod, decide_eq_true b3, Bool.true_and]
  refine q_iret dX11_isOdd_31 rfl (by first | exact q_nb0 | exact q_nb1 | exact q_nb _) ⟨_, rfl, rfl, f2, k2⟩
set_option maxHeartbeats 4000000 in
set_option maxRecDepth 20000 in
theorem k_about {Z : q_Z} {m : q_Mm} {d : Nat} {n : Nat} {t : Bool} {x y : Int32} {rl : Nat → Nat} {xs : Nat → Int64} (h : MAsk m t n rl xs) : q_V (q_g Z) mX11_about (d+8) 0 0 0 [some (.ref (q_ad Z 215)), some (.int x), some (.int y)] [] (q_W Z m) (q_P Z fun r m2 => r = some (.int (if s_has t n x = true then s_abt n rl xs (s_i x) y.toInt else -1000000)) ∧ Fr s_Sx m m2 ∧ Kp 215 s_Jx m m2) := by
  obtain ⟨hM, hV, ht, hn, hn6⟩ := h
  refine q_aload_n (pc' := 1) dX11_about_0 rfl rfl ?_
  refine q_iload_n (pc' := 2) dX11_about_1 rfl rfl ?_
  refine h_callV (pc' := 5) (M' := mX11_isPlace) (As := [_]) dX11_about_2 iX11_isPlace lX11_375 rfl rfl rfl rfl (Nat.le_of_ble_eq_true rfl) (Nat.le_of_ble_eq_true rfl) rfl rfl ((k_isPlace (d := d) ht hn hn6).up (by omega)) (fun r m' hq => ?_)
  obtain ⟨rfl, hmm⟩ := hq
  subst m'
  refine q_if_eqB (tgt := 18) (pc' := 8) dX11_about_5 (by decide) rfl (fun c_5 => ?_) (fun c_5 => ?_)
  · refine q_ldcw (pc' := 21) dX11_about_18 kX11_382 rfl ?_
    refine q_iret dX11_about_21 rfl rfl ⟨_, rfl, by rw [if_neg (by rw [c_5]; decide)], Fr.rf, Kp.rf⟩
  have htt : t = true := by
    unfold s_has at c_5
    rw [Bool.and_eq_true] at c_5
    exact c_5.1
  have hV := hV htt
  have hok := hV.2.2.2.2
  have h0 := hok.1
  have hx := hV.2.2.1
  obtain ⟨j, hxj, hj⟩ := z_has c_5 (by omega)
  rw [if_pos c_5, hxj, s_i_n (by omega)]
  unfold s_abt
  refine q_iload_n (pc' := 9) dX11_about_8 rfl rfl ?_
  refine q_iconst (pc' := 10) (v := nI 0) dX11_about_9 rfl rfl ?_
  refine q_bipush (pc' := 12) (v := nI 6) dX11_about_10 rfl rfl ?_
  refine h_callS (pc' := 15) (M' := mX11_in) (As := [_, _, _]) dX11_about_12 iX11_in lX11_99 rfl rfl (Nat.le_of_ble_eq_true rfl) (Nat.le_of_ble_eq_true rfl) rfl rfl (k_in.up (Nat.zero_le _)) (fun r m' hq => ?_)
  obtain ⟨rfl, hmm⟩ := hq
  subst m'
  rw [show (nI 0).toInt = 0 from rfl, show (nI 6).toInt = 6 from rfl]
  refine q_if_neB (tgt := 22) (pc' := 18) dX11_about_15 (by decide) rfl (fun c_15 => ?_) (fun c_15 => ?_)
  rotate_left
  · have c_15 := of_decide_eq_false c_15
    refine q_ldcw (pc' := 21) dX11_about_18 kX11_382 rfl ?_
    refine q_iret dX11_about_21 rfl rfl ⟨_, rfl, by rw [if_neg (by omega), if_neg (by omega), if_neg (by omega), if_neg (by omega), if_neg (by omega), if_neg (by omega), if_neg (by omega)], Fr.rf, Kp.rf⟩
  have c_15 := of_decide_eq_true c_15
  refine q_iload_n (pc' := 23) dX11_about_22 rfl rfl ?_
  by_cases hy : y.toInt < 0 ∨ 5 < y.toInt
  · refine q_tabOut (tgt := 134) dX11_about_23 hy (by decide) ?_
    have z : y.toInt = 6 := by omega
    refine q_aload_n (pc' := 135) dX11_about_134 rfl rfl ?_
    refine q_iload_n (pc' := 136) dX11_about_135 rfl rfl ?_
    refine h_callV (pc' := 139) (M' := mX11_firstLike) (As := [_]) dX11_about_136 iX11_firstLike lX11_392 rfl rfl rfl rfl (Nat.le_of_ble_eq_true rfl) (Nat.le_of_ble_eq_true rfl) rfl rfl ((k_firstLike (d := d) hV hj).up (by omega)) (fun r m' hq => ?_)
    obtain ⟨rfl, hmm⟩ := hq
    subst m'
    refine q_iret dX11_about_139 rfl rfl ⟨_, rfl, by rw [z]; rfl, Fr.rf, Kp.rf⟩
  have hy3 : y.toInt = 0 ∨ y.toInt = 1 ∨ y.toInt = 2 ∨ y.toInt = 3 ∨ y.toInt = 4 ∨ y.toInt = 5 := by omega
  rcases hy3 with z | z | z | z | z | z
  · refine q_tabIn (tgt := 60) dX11_about_23 (by omega) (by omega) (by rw [z]; rfl) (by decide) ?_
    refine q_aload_n (pc' := 61) dX11_about_60 rfl rfl ?_
    refine h_getr (pc' := 64) dX11_about_61 fX11_33 rfl rfl rfl ?_
    refine q_iload_n (pc' := 65) dX11_about_64 rfl rfl ?_
    refine h_laldE (pc' := 66) dX11_about_65 rfl (rfl) (by omega) (by decide) (hx j hj) rfl ?_
    refine h_callS (pc' := 69) (M' := mX11_isFinite) (As := [_]) dX11_about_66 iX11_isFinite lX11_260 rfl rfl (Nat.le_of_ble_eq_true rfl) (Nat.le_of_ble_eq_true rfl) rfl rfl ((k_isFinite (d := d)).up (by omega)) (fun r m' hq => ?_)
    obtain ⟨rfl, hmm⟩ := hq
    subst m'
    refine q_if_eqB (tgt := 76) (pc' := 72) dX11_about_69 (by decide) rfl (fun c_69 => ?_) (fun c_69 => ?_)
    · refine q_iconst (pc' := 77) (v := nI 0) dX11_about_76 rfl rfl ?_
      refine q_iret dX11_about_77 rfl rfl ⟨_, rfl, by rw [z, c_69]; rfl, Fr.rf, Kp.rf⟩
    · refine q_iconst (pc' := 73) (v := nI 1) dX11_about_72 rfl rfl ?_
      refine q_goto (pc' := 77) dX11_about_73 (by decide) ?_
      refine q_iret dX11_about_77 rfl rfl ⟨_, rfl, by rw [z, c_69]; rfl, Fr.rf, Kp.rf⟩
  · refine q_tabIn (tgt := 78) dX11_about_23 (by omega) (by omega) (by rw [z]; rfl) (by decide) ?_
    refine q_aload_n (pc' := 79) dX11_about_78 rfl rfl ?_
    refine q_aload_n (pc' := 80) dX11_about_79 rfl rfl ?_
    refine h_getr (pc' := 83) dX11_about_80 fX11_33 rfl rfl rfl ?_
    refine q_iload_n (pc' := 84) dX11_about_83 rfl rfl ?_
    refine h_laldE (pc' := 85) dX11_about_84 rfl (rfl) (by omega) (by decide) (hx j hj) rfl ?_
    refine h_callV (pc' := 88) (M' := mX11_placesOf) (As := [_]) dX11_about_85 iX11_placesOf lX11_383 rfl rfl rfl rfl (Nat.le_of_ble_eq_true rfl) (Nat.le_of_ble_eq_true rfl) rfl rfl ((k_placesOf (d := d) hM hV).up (by omega)) (fun r m' hq => ?_)
    obtain ⟨rfl, f1, k1⟩ := hq
    refine q_iret dX11_about_88 rfl rfl ⟨_, rfl, by rw [z]; rfl, f1.mono (by decide), k1.mono (by decide)⟩
  · refine q_tabIn (tgt := 89) dX11_about_23 (by omega) (by omega) (by rw [z]; rfl) (by decide) ?_
    refine q_aload_n (pc' := 90) dX11_about_89 rfl rfl ?_
    refine q_aload_n (pc' := 91) dX11_about_90 rfl rfl ?_
    refine h_getr (pc' := 94) dX11_about_91 fX11_33 rfl rfl rfl ?_
    refine q_iload_n (pc' := 95) dX11_about_94 rfl rfl ?_
    refine h_laldE (pc' := 96) dX11_about_95 rfl (rfl) (by omega) (by decide) (hx j hj) rfl ?_
    refine h_callV (pc' := 99) (M' := mX11_waysOf) (As := [_]) dX11_about_96 iX11_waysOf lX11_386 rfl rfl rfl rfl (Nat.le_of_ble_eq_true rfl) (Nat.le_of_ble_eq_true rfl) rfl rfl ((k_waysOf (d := d) hM hV).up (by omega)) (fun r m' hq => ?_)
    obtain ⟨rfl, f1, k1⟩ := hq
    refine q_iret dX11_about_99 rfl rfl ⟨_, rfl, by rw [z]; rfl, f1.mono (by decide), k1.mono (by decide)⟩
  · refine q_tabIn (tgt := 100) dX11_about_23 (by omega) (by omega) (by rw [z]; rfl) (by decide) ?_
    refine q_iload_n (pc' := 101) dX11_about_100 rfl rfl ?_
    refine q_aload_n (pc' := 102) dX11_about_101 rfl rfl ?_
    refine h_getr (pc' := 105) dX11_about_102 fX11_36 rfl rfl rfl ?_
    refine q_iconst (pc' := 106) (v := nI 0) dX11_about_105 rfl rfl ?_
    refine h_ialdE (pc' := 107) dX11_about_106 rfl (rfl) (by omega) (by decide) (hV.2.2.2.1 0 (by decide)) rfl ?_
    refine q_idivN (pc' := 108) dX11_about_107 (by omega) rfl ?_
    refine q_iret dX11_about_108 rfl rfl ⟨_, rfl, by rw [z]; rfl, Fr.rf, Kp.rf⟩
  · refine q_tabIn (tgt := 109) dX11_about_23 (by omega) (by omega) (by rw [z]; rfl) (by decide) ?_
    refine q_aload_n (pc' := 110) dX11_about_109 rfl rfl ?_
    refine q_aload_n (pc' := 111) dX11_about_110 rfl rfl ?_
    refine h_getr (pc' := 114) dX11_about_111 fX11_33 rfl rfl rfl ?_
    refine q_iload_n (pc' := 115) dX11_about_114 rfl rfl ?_
    refine h_laldE (pc' := 116) dX11_about_115 rfl (rfl) (by omega) (by decide) (hx j hj) rfl ?_
    refine h_callV (pc' := 119) (M' := mX11_partOf) (As := [_]) dX11_about_116 iX11_partOf lX11_317 rfl rfl rfl rfl (Nat.le_of_ble_eq_true rfl) (Nat.le_of_ble_eq_true rfl) rfl rfl ((k_partOf (d := d) hV).up (by omega)) (fun r m' hq => ?_)
    obtain ⟨rfl, hmm⟩ := hq
    subst m'
    refine q_iret dX11_about_119 rfl rfl ⟨_, rfl, by rw [z]; rfl, Fr.rf, Kp.rf⟩
  · refine q_tabIn (tgt := 120) dX11_about_23 (by omega) (by omega) (by rw [z]; rfl) (by decide) ?_
    refine q_aload_n (pc' := 121) dX11_about_120 rfl rfl ?_
    refine q_iload_n (pc' := 122) dX11_about_121 rfl rfl ?_
    refine h_callV (pc' := 125) (M' := mX11_isOdd) (As := [_]) dX11_about_122 iX11_isOdd lX11_389 rfl rfl rfl rfl (Nat.le_of_ble_eq_true rfl) (Nat.le_of_ble_eq_true rfl) rfl rfl (k_isOdd hM hV hj) (fun r m' hq => ?_)
    obtain ⟨rfl, f1, k1⟩ := hq
    generalize hE : s_ex n rl xs (s_ws xs) (s_wp n rl (s_ws xs) (s_five n rl xs) (j / rl 0)) (j / rl 0) (s_wf n rl xs (s_ws xs) (s_five n rl xs) (j / rl 0)).1 (j - j / rl 0 * rl 0) = E
    refine q_if_eqB (tgt := 132) (pc' := 128) dX11_about_125 (by decide) rfl (fun c_125 => ?_) (fun c_125 => ?_)
    · refine q_iconst (pc' := 133) (v := nI 0) dX11_about_132 rfl rfl ?_
      refine q_iret dX11_about_133 rfl rfl ⟨_, rfl, by rw [z, c_125]; rfl, f1, k1⟩
    · refine q_iconst (pc' := 129) (v := nI 1) dX11_about_128 rfl rfl ?_
      refine q_goto (pc' := 133) dX11_about_129 (by decide) ?_
      refine q_iret dX11_about_133 rfl rfl ⟨_, rfl, by rw [z, c_125]; rfl, f1, k1⟩
set_option maxHeartbeats 4000000 in
set_option maxRecDepth 20000 in
theorem k_block {Z : q_Z} {m : q_Mm} {d : Nat} {n : Nat} {t : Bool} {x y : Int32} {rl : Nat → Nat} {xs : Nat → Int64} (h : MAsk m t n rl xs) : q_V (q_g Z) mX11_block (d+7) 0 0 0 [some (.ref (q_ad Z 215)), some (.int x), some (.int y)] [] (q_W Z m) (q_P Z fun r m2 => r = some (.int (if s_has t (s_nb n rl) x = true then s_blk n rl xs (s_i x) y.toInt else -1000000)) ∧ Fr s_Sx m m2 ∧ Kp 215 s_Jx m m2) := by
  obtain ⟨hM, hV, ht, hn, hn6⟩ := h
  refine q_aload_n (pc' := 1) dX11_block_0 rfl rfl ?_
  refine q_iload_n (pc' := 2) dX11_block_1 rfl rfl ?_
  refine h_callV (pc' := 5) (M' := mX11_isBlock) (As := [_]) dX11_block_2 iX11_isBlock lX11_398 rfl rfl rfl rfl (Nat.le_of_ble_eq_true rfl) (Nat.le_of_ble_eq_true rfl) rfl rfl ((k_isBlock (d := d) hV ht).up (by omega)) (fun r m' hq => ?_)
  obtain ⟨rfl, hmm⟩ := hq
  subst m'
  refine q_if_eqB (tgt := 18) (pc' := 8) dX11_block_5 (by decide) rfl (fun c_5 => ?_) (fun c_5 => ?_)
  · refine q_ldcw (pc' := 21) dX11_block_18 kX11_382 rfl ?_
    refine q_iret dX11_block_21 rfl rfl ⟨_, rfl, by rw [if_neg (by rw [c_5]; decide)], Fr.rf, Kp.rf⟩
  have htt : t = true := by
    unfold s_has at c_5
    rw [Bool.and_eq_true] at c_5
    exact c_5.1
  have hV := hV htt
  have hok := hV.2.2.2.2
  have hnb := s_nb_le hok hn6
  obtain ⟨j, hxj, hj⟩ := z_has c_5 (by omega)
  have hz := s_sz16 (n := n) hok j
  rw [if_pos c_5, hxj, s_i_n (by omega)]
  unfold s_blk
  refine q_iload_n (pc' := 9) dX11_block_8 rfl rfl ?_
  refine q_iconst (pc' := 10) (v := nI 0) dX11_block_9 rfl rfl ?_
  refine q_bipush (pc' := 12) (v := nI 7) dX11_block_10 rfl rfl ?_
  refine h_callS (pc' := 15) (M' := mX11_in) (As := [_, _, _]) dX11_block_12 iX11_in lX11_99 rfl rfl (Nat.le_of_ble_eq_true rfl) (Nat.le_of_ble_eq_true rfl) rfl rfl (k_in.up (Nat.zero_le _)) (fun r m' hq => ?_)
  obtain ⟨rfl, hmm⟩ := hq
  subst m'
  rw [show (nI 0).toInt = 0 from rfl, show (nI 7).toInt = 7 from rfl]
  refine q_if_neB (tgt := 22) (pc' := 18) dX11_block_15 (by decide) rfl (fun c_15 => ?_) (fun c_15 => ?_)
  rotate_left
  · have c_15 := of_decide_eq_false c_15
    refine q_ldcw (pc' := 21) dX11_block_18 kX11_382 rfl ?_
    refine q_iret dX11_block_21 rfl rfl ⟨_, rfl, by rw [if_neg (by omega), if_neg (by omega), if_neg (by omega), if_neg (by omega), if_neg (by omega), if_neg (by omega), if_neg (by omega), if_neg (by omega)], Fr.rf, Kp.rf⟩
  have c_15 := of_decide_eq_true c_15
  refine q_aload_n (pc' := 23) dX11_block_22 rfl rfl ?_
  refine h_callV (pc' := 26) (M' := mX11_layFive) (As := []) dX11_block_23 iX11_layFive lX11_369 rfl rfl rfl rfl (Nat.le_of_ble_eq_true rfl) (Nat.le_of_ble_eq_true rfl) rfl rfl (k_layFive hM hV) (fun r m' hq => ?_)
  obtain ⟨rfl, f0, k0, F0⟩ := hq
  have f0 : Fr s_Sx m m' := f0.mono (by decide)
  have k0 : Kp 215 s_Jx m m' := k0.mono (by decide)
  have hV0 := hV.fr f0 (k0 20 (by decide)) (by decide) (by decide)
  have hM0 := hM.fr f0 (by decide) (by decide)
  have hwp := s_wp_lt (n := n) hok (s_ws xs) (fun i hi => (F0.2.2.2 i hi).1) j
  have hcd := s_cd_ok hwp
  obtain ⟨m0, hm0⟩ : ∃ z, z = m' := ⟨_, rfl⟩
  subst hm0
  refine q_aload_n (pc' := 27) dX11_block_26 rfl rfl ?_
  refine q_iload_n (pc' := 28) dX11_block_27 rfl rfl ?_
  refine h_callV (pc' := 31) (M' := mX11_layForm) (As := [_]) dX11_block_28 iX11_layForm lX11_372 rfl rfl rfl rfl (Nat.le_of_ble_eq_true rfl) (Nat.le_of_ble_eq_true rfl) rfl rfl (k_layForm hM0 hV0 F0 (five_pos n rl xs) hj) (fun r m' hq => ?_)
  obtain ⟨rfl, f2, k2, G1, G2, G3, G4, G5, G6⟩ := hq
  have hV2 := hV0.fr f2 (k2 20 (by decide)) (by decide) (by decide)
  have hM2 := hM0.fr f2 (by decide) (by decide)
  have f2 : Fr s_Sx m m' := f0.trans (f2.mono (by decide))
  have k2 : Kp 215 s_Jx m m' := k0.trans (k2.mono (by decide))
  obtain ⟨m2, hm2⟩ : ∃ z, z = m' := ⟨_, rfl⟩
  subst hm2
  refine q_iload_n (pc' := 32) dX11_block_31 rfl rfl ?_
  by_cases hy : y.toInt < 0 ∨ 6 < y.toInt
  · refine q_tabOut (tgt := 129) dX11_block_32 hy (by decide) ?_
    have z : y.toInt = 7 := by omega
    refine q_aload_n (pc' := 130) dX11_block_129 rfl rfl ?_
    refine h_callV (pc' := 133) (M' := mX11_laySplit) (As := []) dX11_block_130 iX11_laySplit lX11_326 rfl rfl rfl rfl (Nat.le_of_ble_eq_true rfl) (Nat.le_of_ble_eq_true rfl) rfl rfl ((k_laySplit (d := d) (ps := s_ps rl xs j) hV2 G6 hz (fun i _ => rfl)).up (by omega)) (fun r m' hq => ?_)
    obtain ⟨rfl, f3, k3, R3⟩ := hq
    refine q_aload_n (pc' := 134) dX11_block_133 rfl rfl ?_
    refine h_getiE (pc' := 137) dX11_block_134 fX11_320 rfl rfl (R3.1) rfl ?_
    refine q_iret dX11_block_137 rfl rfl ⟨_, rfl, by rw [z]; rfl, f2.trans (f3.mono (by decide)), k2.trans (k3.mono (by decide))⟩
  have hy3 : y.toInt = 0 ∨ y.toInt = 1 ∨ y.toInt = 2 ∨ y.toInt = 3 ∨ y.toInt = 4 ∨ y.toInt = 5 ∨ y.toInt = 6 := by omega
  rcases hy3 with z | z | z | z | z | z | z
  · refine q_tabIn (tgt := 76) dX11_block_32 (by omega) (by omega) (by rw [z]; rfl) (by decide) ?_
    refine q_aload_n (pc' := 77) dX11_block_76 rfl rfl ?_
    refine h_getiE (pc' := 80) dX11_block_77 fX11_286 rfl rfl (G6.1) rfl ?_
    refine q_iret dX11_block_80 rfl rfl ⟨_, rfl, by rw [z]; rfl, f2, k2⟩
  · refine q_tabIn (tgt := 81) dX11_block_32 (by omega) (by omega) (by rw [z]; rfl) (by decide) ?_
    refine q_aload_n (pc' := 82) dX11_block_81 rfl rfl ?_
    refine h_getiE (pc' := 85) dX11_block_82 fX11_360 rfl rfl (G2) rfl ?_
    refine q_iret dX11_block_85 rfl rfl ⟨_, rfl, by rw [z]; rfl, f2, k2⟩
  · refine q_tabIn (tgt := 86) dX11_block_32 (by omega) (by omega) (by rw [z]; rfl) (by decide) ?_
    refine q_aload_n (pc' := 87) dX11_block_86 rfl rfl ?_
    refine h_getiE (pc' := 90) dX11_block_87 fX11_348 rfl rfl (G1) rfl ?_
    refine q_iret dX11_block_90 rfl rfl ⟨_, rfl, by rw [z]; rfl, f2, k2⟩
  · refine q_tabIn (tgt := 91) dX11_block_32 (by omega) (by omega) (by rw [z]; rfl) (by decide) ?_
    refine q_aload_n (pc' := 92) dX11_block_91 rfl rfl ?_
    refine h_getiE (pc' := 95) dX11_block_92 fX11_366 rfl rfl (G3) rfl ?_
    refine q_iret dX11_block_95 rfl rfl ⟨_, rfl, by rw [z]; rfl, f2, k2⟩
  · refine q_tabIn (tgt := 96) dX11_block_32 (by omega) (by omega) (by rw [z]; rfl) (by decide) ?_
    refine q_aload_n (pc' := 97) dX11_block_96 rfl rfl ?_
    refine h_getiE (pc' := 100) dX11_block_97 fX11_357 rfl rfl (G4) rfl ?_
    refine q_iret dX11_block_100 rfl rfl ⟨_, rfl, by rw [z]; rfl, f2, k2⟩
  · refine q_tabIn (tgt := 101) dX11_block_32 (by omega) (by omega) (by rw [z]; rfl) (by decide) ?_
    refine q_aload_n (pc' := 102) dX11_block_101 rfl rfl ?_
    refine h_getiE (pc' := 105) dX11_block_102 fX11_289 rfl rfl (G5) rfl ?_
    refine q_iret dX11_block_105 rfl rfl ⟨_, rfl, by rw [z]; rfl, f2, k2⟩
  · refine q_tabIn (tgt := 106) dX11_block_32 (by omega) (by omega) (by rw [z]; rfl) (by decide) ?_
    refine q_aload_n (pc' := 107) dX11_block_106 rfl rfl ?_
    refine q_aload_n (pc' := 108) dX11_block_107 rfl rfl ?_
    refine h_getiE (pc' := 111) dX11_block_108 fX11_348 rfl rfl (G1) rfl ?_
    refine q_bipush (pc' := 113) (v := nI 16) dX11_block_111 rfl rfl ?_
    refine q_idivN (pc' := 114) dX11_block_113 (by omega) rfl ?_
    refine q_aload_n (pc' := 115) dX11_block_114 rfl rfl ?_
    refine h_getiE (pc' := 118) dX11_block_115 fX11_348 rfl rfl (G1) rfl ?_
    refine q_bipush (pc' := 120) (v := nI 16) dX11_block_118 rfl rfl ?_
    refine q_iremN (pc' := 121) dX11_block_120 (by omega) rfl ?_
    refine h_callV (pc' := 124) (M' := mX11_layDecimal) (As := [_, _]) dX11_block_121 iX11_layDecimal lX11_307 rfl rfl rfl rfl (Nat.le_of_ble_eq_true rfl) (Nat.le_of_ble_eq_true rfl) rfl rfl ((k_layDecimal (d := d) hM2 G6 hz hcd.1 hcd.2.1).up (by omega)) (fun r m' hq => ?_)
    obtain ⟨rfl, f3, k3, R3⟩ := hq
    refine q_aload_n (pc' := 125) dX11_block_124 rfl rfl ?_
    refine h_getiE (pc' := 128) dX11_block_125 fX11_304 rfl rfl (R3.2.2.2) rfl ?_
    refine q_iret dX11_block_128 rfl rfl ⟨_, rfl, by rw [z]; rfl, f2.trans (f3.mono (by decide)), k2.trans (k3.mono (by decide))⟩
