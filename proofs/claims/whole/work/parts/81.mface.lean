/-! ===== the reference's face: cost, score, guise, five, part, block ===== -/
abbrev s_Sx : List Nat := [215, 227, 228, 229, 230, 231]
abbrev s_Jx : List Nat := [23, 25, 28, 29, 32, 35, 36, 37, 38, 39]
/-- what the reference's questions need -/
def MAsk (m : q_Mm) (t : Bool) (n : Nat) (rl : Nat → Nat) (xs : Nat → Int64) : Prop := MD m ∧ (t = true → MV m n rl xs) ∧ m.1 215 22 = q_b t ∧ m.1 215 20 = nI n ∧ n ≤ 64
theorem MI.qq {m : q_Mm} {t im : Bool} {B L : List Nat} {c ck : q_Cs} {us : List q_Cs} {rf : Nat → Int32} (h : MI m t im B L c ck us rf) : MAsk m t c.1 c.2.2.2.1 c.2.2.1 := ⟨h.1, fun z => h.mc.v z, h.2.2.1, h.mc.1, h.mc.2.2.1⟩
theorem s_tot_m {n : Nat} {rl : Nat → Nat} {xs : Nat → Int64} (hok : s_rok rl) {b : Nat} (hb : b < s_nb n rl) (q : s_F) : (s_wf n rl xs (s_ws xs) q b).2 ≤ 1000 ∧ (s_wf n rl xs (s_ws xs) q b).1 ≤ 2 := by
  obtain ⟨-, hz1, -, -⟩ := s_nb_in hok hb
  have hz := s_sz16 (n := n) hok b
  have hdc : s_dc n rl (s_ws xs) b (s_wp n rl (s_ws xs) q b) ≤ 1000 := s_mc_le _ _ hz
  have hsp := s_spc_le hok xs hz1
  have h1 : (s_w1 n rl (s_ws xs) q b).2 ≤ 1000 ∧ (s_w1 n rl (s_ws xs) q b).1 ≤ 2 := by
    unfold s_w1
    split
    · exact ⟨hdc, by show 1 ≤ 2; omega⟩
    · exact ⟨by show 3 + 8 * s_sz n rl b ≤ 1000; omega, Nat.zero_le _⟩
  unfold s_wf
  split
  · exact ⟨hsp, Nat.le_refl _⟩
  · exact h1
set_option maxHeartbeats 4000000 in
set_option maxRecDepth 20000 in
theorem k_costOfAll {Z : q_Z} {m : q_Mm} {d : Nat} {n : Nat} {rl : Nat → Nat} {xs : Nat → Int64} (hM : MD m) (hV : MV m n rl xs) : q_V (q_g Z) mX11_costOfAll (d+7) 0 0 0 [some (.ref (q_ad Z 215)), none, none] [] (q_W Z m) (q_P Z fun r m2 => r = some (.int (nI (s_tot n rl xs))) ∧ Fr s_Sx m m2 ∧ Kp 215 s_Jx m m2) := by
  have hok := hV.2.2.2.2
  have hnb := s_nb_le hok hV.2.1
  refine q_aload_n (pc' := 1) dX11_costOfAll_0 rfl rfl ?_
  refine h_callV (pc' := 4) (M' := mX11_layFive) (As := []) dX11_costOfAll_1 iX11_layFive lX11_369 rfl rfl rfl rfl (Nat.le_of_ble_eq_true rfl) (Nat.le_of_ble_eq_true rfl) rfl rfl (k_layFive hM hV) (fun r m' hq => ?_)
  obtain ⟨rfl, f0, k0, F0⟩ := hq
  have f0 : Fr s_Sx m m' := f0.mono (by decide)
  have k0 : Kp 215 s_Jx m m' := k0.mono (by decide)
  refine q_iconst (pc' := 5) (v := nI 0) dX11_costOfAll_4 rfl rfl ?_
  refine q_istore_n (pc' := 6) (lv' := [_, _, _]) dX11_costOfAll_5 (by decide) rfl rfl ?_
  refine q_iconst (pc' := 7) (v := nI 0) dX11_costOfAll_6 rfl rfl ?_
  refine q_istore_n (pc' := 8) (lv' := [_, _, _]) dX11_costOfAll_7 (by decide) rfl rfl ?_
  suffices h : ∀ g b m1, b + g = s_nb n rl → Fr s_Sx m m1 → Kp 215 s_Jx m m1 → FV m1 (s_five n rl xs) → q_V (q_g Z) mX11_costOfAll (d+7) 0 0 8 [some (.ref (q_ad Z 215)), some (.int (nI (s_sum (fun bk => (s_wf n rl xs (s_ws xs) (s_five n rl xs) bk).2) b))), some (.int (nI b))] [] (q_W Z (m1)) (q_P Z fun r m2 => r = some (.int (nI (s_tot n rl xs))) ∧ Fr s_Sx m m2 ∧ Kp 215 s_Jx m m2) from h _ 0 m' (Nat.zero_add _) f0 k0 F0
  intro g
  induction g with
  | zero =>
    intro b m1 hb f1 k1 F1
    have hb : b = s_nb n rl := by omega
    have hV1 := hV.fr f1 (k1 20 (by decide)) (by decide) (by decide)
    refine q_iload_n (pc' := 9) dX11_costOfAll_8 rfl rfl ?_
    refine q_aload_n (pc' := 10) dX11_costOfAll_9 rfl rfl ?_
    refine h_callV (pc' := 13) (M' := mX11_blocks) (As := []) dX11_costOfAll_10 iX11_blocks lX11_329 rfl rfl rfl rfl (Nat.le_of_ble_eq_true rfl) (Nat.le_of_ble_eq_true rfl) rfl rfl ((k_blocks hV1).up (Nat.zero_le _)) (fun r m' hq => ?_)
    obtain ⟨rfl, hmm⟩ := hq
    subst m'
    refine q_icmp_geN (tgt := 34) (pc' := 16) dX11_costOfAll_13 (by decide) rfl (by omega) (fun c_13 => ?_) (fun c_13 => ?_)
    rotate_left
    · omega
    refine q_iload_n (pc' := 35) dX11_costOfAll_34 rfl rfl ?_
    refine q_iret dX11_costOfAll_35 rfl rfl ⟨_, rfl, by rw [hb]; rfl, f1, k1⟩
  | succ g ih =>
    intro b m1 hb f1 k1 F1
    have hV1 := hV.fr f1 (k1 20 (by decide)) (by decide) (by decide)
    have hM1 := hM.fr f1 (by decide) (by decide)
    refine q_iload_n (pc' := 9) dX11_costOfAll_8 rfl rfl ?_
    refine q_aload_n (pc' := 10) dX11_costOfAll_9 rfl rfl ?_
    refine h_callV (pc' := 13) (M' := mX11_blocks) (As := []) dX11_costOfAll_10 iX11_blocks lX11_329 rfl rfl rfl rfl (Nat.le_of_ble_eq_true rfl) (Nat.le_of_ble_eq_true rfl) rfl rfl ((k_blocks hV1).up (Nat.zero_le _)) (fun r m' hq => ?_)
    obtain ⟨rfl, hmm⟩ := hq
    subst m'
    refine q_icmp_geN (tgt := 34) (pc' := 16) dX11_costOfAll_13 (by decide) rfl (by omega) (fun c_13 => ?_) (fun c_13 => ?_)
    · omega
    refine q_aload_n (pc' := 17) dX11_costOfAll_16 rfl rfl ?_
    refine q_iload_n (pc' := 18) dX11_costOfAll_17 rfl rfl ?_
    refine h_callV (pc' := 21) (M' := mX11_layForm) (As := [_]) dX11_costOfAll_18 iX11_layForm lX11_372 rfl rfl rfl rfl (Nat.le_of_ble_eq_true rfl) (Nat.le_of_ble_eq_true rfl) rfl rfl (k_layForm hM1 hV1 F1 (five_pos n rl xs) (by omega)) (fun r m' hq => ?_)
    obtain ⟨rfl, f2, k2, G2⟩ := hq
    refine q_iload_n (pc' := 22) dX11_costOfAll_21 rfl rfl ?_
    refine q_aload_n (pc' := 23) dX11_costOfAll_22 rfl rfl ?_
    refine h_getiE (pc' := 26) dX11_costOfAll_23 fX11_366 rfl rfl (G2.2.2.1) rfl ?_
    refine q_iaddN (pc' := 27) dX11_costOfAll_26 rfl ?_
    refine q_istore_n (pc' := 28) (lv' := [_, _, _]) dX11_costOfAll_27 (by decide) rfl rfl ?_
    refine q_iincN (pc' := 31) (j := 1) (lv' := [_, _, _]) dX11_costOfAll_28 rfl (by decide) rfl rfl ?_
    refine q_goto (pc' := 8) dX11_costOfAll_31 (by decide) ?_
    exact ih (b + 1) _ (by omega) (f1.trans (f2.mono (by decide))) (k1.trans (k2.mono (by decide))) (F1.fr f2 (k2 35 (by decide)) (by decide) (by decide))
set_option maxHeartbeats 4000000 in
set_option maxRecDepth 20000 in
theorem k_cost {Z : q_Z} {m : q_Mm} {d : Nat} {n : Nat} {t : Bool} {x e f : Int32} {rl : Nat → Nat} {xs : Nat → Int64} (h : MAsk m t n rl xs) : q_V (q_g Z) mX11_cost (d+5) 0 0 0 [some (.ref (q_ad Z 215)), some (.int x), some (.int e), some (.int f)] [] (q_W Z m) (q_P Z fun r m2 => r = some (.int (if (s_has t (s_nb n rl) x && s_isPair e f) = true then nI (s_dc n rl (s_ws xs) (s_i x) (s_pn (s_i e) (s_i f))) else -1)) ∧ Fr s_Sx m m2 ∧ Kp 215 s_Jx m m2) := by
  obtain ⟨hM, hV, ht, hn, hn6⟩ := h
  refine q_aload_n (pc' := 1) dX11_cost_0 rfl rfl ?_
  refine q_iload_n (pc' := 2) dX11_cost_1 rfl rfl ?_
  refine h_callV (pc' := 5) (M' := mX11_isBlock) (As := [_]) dX11_cost_2 iX11_isBlock lX11_398 rfl rfl rfl rfl (Nat.le_of_ble_eq_true rfl) (Nat.le_of_ble_eq_true rfl) rfl rfl ((k_isBlock (d := d) hV ht).up (by omega)) (fun r m' hq => ?_)
  obtain ⟨rfl, hmm⟩ := hq
  subst m'
  refine q_if_eqB (tgt := 16) (pc' := 8) dX11_cost_5 (by decide) rfl (fun c_5 => ?_) (fun c_5 => ?_)
  · refine q_iconst (pc' := 17) (v := (-1)) dX11_cost_16 rfl rfl ?_
    refine q_iret dX11_cost_17 rfl rfl ⟨_, rfl, by rw [c_5, Bool.false_and, if_neg (by decide)], Fr.rf, Kp.rf⟩
  refine q_iload_n (pc' := 9) dX11_cost_8 rfl rfl ?_
  refine q_iload_n (pc' := 10) dX11_cost_9 rfl rfl ?_
  refine h_callS (pc' := 13) (M' := mX11_isPair) (As := [_, _]) dX11_cost_10 iX11_isPair lX11_395 rfl rfl (Nat.le_of_ble_eq_true rfl) (Nat.le_of_ble_eq_true rfl) rfl rfl ((k_isPair (d := d)).up (by omega)) (fun r m' hq => ?_)
  obtain ⟨rfl, hmm⟩ := hq
  subst m'
  refine q_if_neB (tgt := 18) (pc' := 16) dX11_cost_13 (by decide) rfl (fun c_13 => ?_) (fun c_13 => ?_)
  rotate_left
  · refine q_iconst (pc' := 17) (v := (-1)) dX11_cost_16 rfl rfl ?_
    refine q_iret dX11_cost_17 rfl rfl ⟨_, rfl, by rw [c_5, c_13, if_neg (by decide)], Fr.rf, Kp.rf⟩
  have htt : t = true := by
    unfold s_has at c_5
    rw [Bool.and_eq_true] at c_5
    exact c_5.1
  have hV := hV htt
  have hok := hV.2.2.2.2
  have hnb := s_nb_le hok hn6
  obtain ⟨a, b, ha, hb, ha2, hb2⟩ := z_pair c_13
  obtain ⟨j, hx, hj⟩ := z_has c_5 (by omega)
  have hcd := k_cd_pn ha2 hb2
  have e1 : (if (s_has t (s_nb n rl) x && s_isPair e f) = true then nI (s_dc n rl (s_ws xs) (s_i x) (s_pn (s_i e) (s_i f))) else -1) = nI (s_dc n rl (s_ws xs) j (s_pn a b)) := by rw [c_5, c_13, Bool.and_self, if_pos rfl, ha, hb, hx, s_i_n (by omega), s_i_n (by omega), s_i_n (by omega)]
  rw [e1, ha, hb, hx]
  refine q_aload_n (pc' := 19) dX11_cost_18 rfl rfl ?_
  refine q_iload_n (pc' := 20) dX11_cost_19 rfl rfl ?_
  refine h_callV (pc' := 23) (M' := mX11_layBlock) (As := [_]) dX11_cost_20 iX11_layBlock lX11_351 rfl rfl rfl rfl (Nat.le_of_ble_eq_true rfl) (Nat.le_of_ble_eq_true rfl) rfl rfl ((k_layBlock (d := d) hV hj).up (by omega)) (fun r m' hq => ?_)
  obtain ⟨rfl, f1, k1, H1⟩ := hq
  have hM1 := hM.fr f1 (by decide) (by decide)
  have hz := s_sz16 (n := n) hok j
  obtain ⟨m1, hm1⟩ : ∃ z, z = m' := ⟨_, rfl⟩
  subst hm1
  refine q_aload_n (pc' := 24) dX11_cost_23 rfl rfl ?_
  refine q_iload_n (pc' := 25) dX11_cost_24 rfl rfl ?_
  refine q_iload_n (pc' := 26) dX11_cost_25 rfl rfl ?_
  refine h_callV (pc' := 29) (M' := mX11_decimalCost) (As := [_, _]) dX11_cost_26 iX11_decimalCost lX11_336 rfl rfl rfl rfl (Nat.le_of_ble_eq_true rfl) (Nat.le_of_ble_eq_true rfl) rfl rfl (k_decimalCost (e := a) (f := b) hM1 H1 hz (by omega) (by omega)) (fun r m' hq => ?_)
  obtain ⟨rfl, f2, k2, -⟩ := hq
  have e2 : s_dc n rl (s_ws xs) j (s_pn a b) = s_mc (s_sz n rl j) (s_ms (fun i => s_w2 (xs (j * rl 0 + i)) a b) (s_sz n rl j)) := by
    show s_mc (s_sz n rl j) (s_ms (fun i => s_w2 (xs (j * rl 0 + i)) (s_cd (s_pn a b) / 16) (s_cd (s_pn a b) % 16)) (s_sz n rl j)) = _
    rw [hcd, show (16 * a + b) / 16 = a by omega, show (16 * a + b) % 16 = b by omega]
  rw [e2]
  refine q_iret dX11_cost_29 rfl rfl ⟨_, rfl, rfl, (f1.mono (by decide)).trans (f2.mono (by decide)), (k1.mono (by decide)).trans (k2.mono (by decide))⟩
set_option maxHeartbeats 4000000 in
set_option maxRecDepth 20000 in
theorem k_score {Z : q_Z} {m : q_Mm} {d : Nat} {n : Nat} {t : Bool} {e f : Int32} {rl : Nat → Nat} {xs : Nat → Int64} (h : MAsk m t n rl xs) : q_V (q_g Z) mX11_score (d+6) 0 0 0 [some (.ref (q_ad Z 215)), some (.int e), some (.int f)] [] (q_W Z m) (q_P Z fun r m2 => r = some (.int (if (t && s_isPair e f) = true then nI (s_score n rl (s_ws xs) (s_pn (s_i e) (s_i f))) else -1)) ∧ Fr s_Sx m m2 ∧ Kp 215 s_Jx m m2) := by
  obtain ⟨hM, hV, ht, hn, hn6⟩ := h
  refine q_aload_n (pc' := 1) dX11_score_0 rfl rfl ?_
  refine h_getiE (pc' := 4) dX11_score_1 fX11_238 rfl rfl (ht) rfl ?_
  refine q_if_eqB (tgt := 24) (pc' := 7) dX11_score_4 (by decide) rfl (fun c_4 => ?_) (fun c_4 => ?_)
  · refine q_iconst (pc' := 25) (v := (-1)) dX11_score_24 rfl rfl ?_
    refine q_iret dX11_score_25 rfl rfl ⟨_, rfl, by rw [c_4, Bool.false_and, if_neg (by decide)], Fr.rf, Kp.rf⟩
  refine q_iload_n (pc' := 8) dX11_score_7 rfl rfl ?_
  refine q_iload_n (pc' := 9) dX11_score_8 rfl rfl ?_
  refine h_callS (pc' := 12) (M' := mX11_isPair) (As := [_, _]) dX11_score_9 iX11_isPair lX11_395 rfl rfl (Nat.le_of_ble_eq_true rfl) (Nat.le_of_ble_eq_true rfl) rfl rfl ((k_isPair (d := d)).up (by omega)) (fun r m' hq => ?_)
  obtain ⟨rfl, hmm⟩ := hq
  subst m'
  refine q_if_eqB (tgt := 24) (pc' := 15) dX11_score_12 (by decide) rfl (fun c_12 => ?_) (fun c_12 => ?_)
  · refine q_iconst (pc' := 25) (v := (-1)) dX11_score_24 rfl rfl ?_
    refine q_iret dX11_score_25 rfl rfl ⟨_, rfl, by rw [c_4, c_12, if_neg (by decide)], Fr.rf, Kp.rf⟩
  obtain ⟨a, b, ha, hb, ha2, hb2⟩ := z_pair c_12
  have hcd := k_cd_pn ha2 hb2
  have e1 : (if (t && s_isPair e f) = true then nI (s_score n rl (s_ws xs) (s_pn (s_i e) (s_i f))) else -1) = nI (s_score n rl (s_ws xs) (s_pn a b)) := by rw [c_4, c_12, Bool.and_self, if_pos rfl, ha, hb, s_i_n (by omega), s_i_n (by omega)]
  rw [e1, ha, hb]
  refine q_aload_n (pc' := 16) dX11_score_15 rfl rfl ?_
  refine q_iload_n (pc' := 17) dX11_score_16 rfl rfl ?_
  refine q_iload_n (pc' := 18) dX11_score_17 rfl rfl ?_
  refine h_callV (pc' := 21) (M' := mX11_scoreOf) (As := [_, _]) dX11_score_18 iX11_scoreOf lX11_342 rfl rfl rfl rfl (Nat.le_of_ble_eq_true rfl) (Nat.le_of_ble_eq_true rfl) rfl rfl (k_scoreOf (p := s_pn a b) (e := a) (f := b) hM (hV c_4) (by rw [hcd]; omega) (by rw [hcd]; omega) (by omega) (by omega)) (fun r m' hq => ?_)
  obtain ⟨rfl, f2, k2⟩ := hq
  refine q_goto (pc' := 25) dX11_score_21 (by decide) ?_
  refine q_iret dX11_score_25 rfl rfl ⟨_, rfl, rfl, f2.mono (by decide), k2.mono (by decide)⟩
set_option maxHeartbeats 4000000 in
set_option maxRecDepth 20000 in
theorem k_guise {Z : q_Z} {m : q_Mm} {d : Nat} {n : Nat} {t : Bool} {x e f : Int32} {rl : Nat → Nat} {xs : Nat → Int64} (h : MAsk m t n rl xs) : q_V (q_g Z) mX11_guise (d+3) 0 0 0 [some (.ref (q_ad Z 215)), some (.int x), some (.int e), some (.int f), none, none] [] (q_W Z m) (q_P Z fun r m2 => r = some (.long (if (s_has t n x && s_isPair e f) = true then (if s_wv (xs (s_i x)) (s_pn (s_i e) (s_i f)) = s_no then -1000000 else s_wv (xs (s_i x)) (s_pn (s_i e) (s_i f))) else -1000000)) ∧ Fr s_Sx m m2 ∧ Kp 215 s_Jx m m2) := by
  obtain ⟨hM, hV, ht, hn, hn6⟩ := h
  refine q_aload_n (pc' := 1) dX11_guise_0 rfl rfl ?_
  refine q_iload_n (pc' := 2) dX11_guise_1 rfl rfl ?_
  refine h_callV (pc' := 5) (M' := mX11_isPlace) (As := [_]) dX11_guise_2 iX11_isPlace lX11_375 rfl rfl rfl rfl (Nat.le_of_ble_eq_true rfl) (Nat.le_of_ble_eq_true rfl) rfl rfl ((k_isPlace (d := d) ht hn hn6).up (by omega)) (fun r m' hq => ?_)
  obtain ⟨rfl, hmm⟩ := hq
  subst m'
  refine q_if_eqB (tgt := 16) (pc' := 8) dX11_guise_5 (by decide) rfl (fun c_5 => ?_) (fun c_5 => ?_)
  · refine q_ldc2 (pc' := 19) dX11_guise_16 kX11_236 rfl ?_
    refine q_lret dX11_guise_19 rfl ⟨_, rfl, by rw [c_5, Bool.false_and, if_neg (by decide)], Fr.rf, Kp.rf⟩
  refine q_iload_n (pc' := 9) dX11_guise_8 rfl rfl ?_
  refine q_iload_n (pc' := 10) dX11_guise_9 rfl rfl ?_
  refine h_callS (pc' := 13) (M' := mX11_isPair) (As := [_, _]) dX11_guise_10 iX11_isPair lX11_395 rfl rfl (Nat.le_of_ble_eq_true rfl) (Nat.le_of_ble_eq_true rfl) rfl rfl ((k_isPair (d := d)).up (by omega)) (fun r m' hq => ?_)
  obtain ⟨rfl, hmm⟩ := hq
  subst m'
  refine q_if_neB (tgt := 20) (pc' := 16) dX11_guise_13 (by decide) rfl (fun c_13 => ?_) (fun c_13 => ?_)
  rotate_left
  · refine q_ldc2 (pc' := 19) dX11_guise_16 kX11_236 rfl ?_
    refine q_lret dX11_guise_19 rfl ⟨_, rfl, by rw [c_5, c_13, if_neg (by decide)], Fr.rf, Kp.rf⟩
  have htt : t = true := by
    unfold s_has at c_5
    rw [Bool.and_eq_true] at c_5
    exact c_5.1
  have hV := hV htt
  obtain ⟨a, b, ha, hb, ha2, hb2⟩ := z_pair c_13
  obtain ⟨j, hx, hj⟩ := z_has c_5 (by omega)
  have hcd := k_cd_pn ha2 hb2
  have e2 : s_wv (xs j) (s_pn a b) = s_w2 (xs j) a b := by
    rw [s_wv_2, hcd, show (16 * a + b) / 16 = a by omega, show (16 * a + b) % 16 = b by omega]
  rw [c_5, c_13, Bool.and_self, if_pos rfl, ha, hb, hx, s_i_n (by omega), s_i_n (by omega), s_i_n (by omega), e2]
  refine q_aload_n (pc' := 21) dX11_guise_20 rfl rfl ?_
  refine q_aload_n (pc' := 22) dX11_guise_21 rfl rfl ?_
  refine h_getr (pc' := 25) dX11_guise_22 fX11_33 rfl rfl rfl ?_
  refine q_iload_n (pc' := 26) dX11_guise_25 rfl rfl ?_
  refine h_laldE (pc' := 27) dX11_guise_26 rfl (rfl) (by omega) (by decide) (hV.2.2.1 j hj) rfl ?_
  refine q_iload_n (pc' := 28) dX11_guise_27 rfl rfl ?_
  refine q_iload_n (pc' := 29) dX11_guise_28 rfl rfl ?_
  refine h_callV (pc' := 32) (M' := mX11_wholeOf) (As := [_, _, _]) dX11_guise_29 iX11_wholeOf lX11_274 rfl rfl rfl rfl (Nat.le_of_ble_eq_true rfl) (Nat.le_of_ble_eq_true rfl) rfl rfl (k_wholeOf (e := a) (f := b) hM (by omega) (by omega)) (fun r m' hq => ?_)
  obtain ⟨y, rfl, hy, f1, k1, -, h23⟩ := hq
  refine q_lstore (pc' := 34) (lv' := [_, _, _, _, _, _]) dX11_guise_32 (by decide) rfl rfl ?_
  refine q_aload_n (pc' := 35) dX11_guise_34 rfl rfl ?_
  refine h_getiE (pc' := 38) dX11_guise_35 fX11_257 rfl rfl (h23) rfl ?_
  refine q_if_eqB (tgt := 46) (pc' := 41) dX11_guise_38 (by decide) rfl (fun c_38 => ?_) (fun c_38 => ?_)
  · have hn : s_w2 (xs j) a b = s_no := of_decide_eq_true (by rw [Bool.not_eq_false'] at c_38; exact c_38)
    refine q_ldc2 (pc' := 49) dX11_guise_46 kX11_236 rfl ?_
    refine q_lret dX11_guise_49 rfl ⟨_, rfl, by rw [if_pos hn], f1.mono (by decide), k1.mono (by decide)⟩
  · have hn : ¬ s_w2 (xs j) a b = s_no := fun z => by rw [decide_eq_true z] at c_38; cases c_38
    refine q_lload (pc' := 43) dX11_guise_41 rfl rfl ?_
    refine q_goto (pc' := 49) dX11_guise_43 (by decide) ?_
    refine q_lret dX11_guise_49 rfl ⟨_, rfl, by rw [if_neg hn, hy hn], f1.mono (by decide), k1.mono (by decide)⟩
set_option maxHeartbeats 4000000 in
set_option maxRecDepth 20000 in
theorem k_five {Z : q_Z} {m : q_Mm} {d : Nat} {n : Nat} {t : Bool} {x : Int32} {rl : Nat → Nat} {xs : Nat → Int64} (h : MAsk m t n rl xs) : q_V (q_g Z) mX11_five (d+7) 0 0 0 [some (.ref (q_ad Z 215)), some (.int x)] [] (q_W Z m) (q_P Z fun r m2 => r = some (.int (if t = true ∧ n ≠ 0 ∧ 0 ≤ x.toInt ∧ x.toInt < ((s_five n rl xs).1 : Int) then nI (s_cd ((s_five n rl xs).2.1 (s_i x))) else -1)) ∧ Fr s_Sx m m2 ∧ Kp 215 s_Jx m m2) := by
  obtain ⟨hM, hV, ht, hn, hn6⟩ := h
  refine q_aload_n (pc' := 1) dX11_five_0 rfl rfl ?_
  refine h_getiE (pc' := 4) dX11_five_1 fX11_238 rfl rfl (ht) rfl ?_
  refine q_if_eqB (tgt := 14) (pc' := 7) dX11_five_4 (by decide) rfl (fun c_4 => ?_) (fun c_4 => ?_)
  · refine q_iconst (pc' := 15) (v := (-1)) dX11_five_14 rfl rfl ?_
    refine q_iret dX11_five_15 rfl rfl ⟨_, rfl, by rw [if_neg (fun z => by rw [c_4] at z; exact absurd z.1 (by decide))], Fr.rf, Kp.rf⟩
  refine q_aload_n (pc' := 8) dX11_five_7 rfl rfl ?_
  refine h_getiE (pc' := 11) dX11_five_8 fX11_242 rfl rfl (hn) rfl ?_
  refine q_if_neN (tgt := 16) (pc' := 14) dX11_five_11 (by decide) rfl (by omega) (fun c_11 => ?_) (fun c_11 => ?_)
  rotate_left
  · refine q_iconst (pc' := 15) (v := (-1)) dX11_five_14 rfl rfl ?_
    refine q_iret dX11_five_15 rfl rfl ⟨_, rfl, by rw [if_neg (fun z => z.2.1 (by omega))], Fr.rf, Kp.rf⟩
  refine q_aload_n (pc' := 17) dX11_five_16 rfl rfl ?_
  refine h_callV (pc' := 20) (M' := mX11_layFive) (As := []) dX11_five_17 iX11_layFive lX11_369 rfl rfl rfl rfl (Nat.le_of_ble_eq_true rfl) (Nat.le_of_ble_eq_true rfl) rfl rfl (k_layFive hM (hV c_4)) (fun r m' hq => ?_)
  obtain ⟨rfl, f1, k1, F1⟩ := hq
  generalize s_five n rl xs = q at F1 ⊢
  have hq5 := F1.2.1
  obtain ⟨m1, hm1⟩ : ∃ z, z = m' := ⟨_, rfl⟩
  subst hm1
  refine q_iload_n (pc' := 21) dX11_five_20 rfl rfl ?_
  refine q_iconst (pc' := 22) (v := nI 0) dX11_five_21 rfl rfl ?_
  refine q_aload_n (pc' := 23) dX11_five_22 rfl rfl ?_
  refine h_getiE (pc' := 26) dX11_five_23 fX11_339 rfl rfl (F1.1) rfl ?_
  refine q_iconst (pc' := 27) (v := nI 1) dX11_five_26 rfl rfl ?_
  refine q_isub (pc' := 28) dX11_five_27 rfl ?_
  refine h_callS (pc' := 31) (M' := mX11_in) (As := [_, _, _]) dX11_five_28 iX11_in lX11_99 rfl rfl (Nat.le_of_ble_eq_true rfl) (Nat.le_of_ble_eq_true rfl) rfl rfl (k_in.up (Nat.zero_le _)) (fun r m' hq => ?_)
  obtain ⟨rfl, hmm⟩ := hq
  subst m'
  rw [z_nm1 (by omega), show (nI 0).toInt = 0 from rfl]
  refine q_if_eqB (tgt := 43) (pc' := 34) dX11_five_31 (by decide) rfl (fun c_31 => ?_) (fun c_31 => ?_)
  · have c_31 := of_decide_eq_false c_31
    refine q_iconst (pc' := 44) (v := (-1)) dX11_five_43 rfl rfl ?_
    refine q_iret dX11_five_44 rfl rfl ⟨_, rfl, by rw [if_neg (fun z => c_31 (by omega))], f1.mono (by decide), k1.mono (by decide)⟩
  · have c_31 := of_decide_eq_true c_31
    obtain ⟨j, hj, hx⟩ := z_ex (x := x) (n := q.1) c_31.1 (by omega) (by omega)
    have e : (if t = true ∧ n ≠ 0 ∧ 0 ≤ x.toInt ∧ x.toInt < (q.1 : Int) then nI (s_cd (q.2.1 (s_i x))) else -1) = nI (s_cd (q.2.1 j)) := by rw [if_pos ⟨c_4, by omega, by omega, by omega⟩, hx, s_i_n (by omega)]
    rw [e, hx]
    refine q_aload_n (pc' := 35) dX11_five_34 rfl rfl ?_
    refine h_getr (pc' := 38) dX11_five_35 fX11_54 rfl rfl rfl ?_
    refine q_iload_n (pc' := 39) dX11_five_38 rfl rfl ?_
    refine h_ialdE (pc' := 40) dX11_five_39 rfl (rfl) (by omega) (by decide) ((F1.2.2.1 j hj).1) rfl ?_
    refine q_goto (pc' := 44) dX11_five_40 (by decide) ?_
    refine q_iret dX11_five_44 rfl rfl ⟨_, rfl, rfl, f1.mono (by decide), k1.mono (by decide)⟩
set_option maxHeartbeats 4000000 in
set_option maxRecDepth 20000 in
theorem k_part {Z : q_Z} {m : q_Mm} {d : Nat} {n : Nat} {t : Bool} {x y : Int32} {rl : Nat → Nat} {xs : Nat → Int64} (h : MAsk m t n rl xs) : q_V (q_g Z) mX11_part (d+3) 0 0 0 [some (.ref (q_ad Z 215)), some (.int x), some (.int y)] [] (q_W Z m) (q_P Z fun r m2 => r = some (.int (if s_has t (s_nb n rl) x = true ∧ 0 ≤ y.toInt ∧ y.toInt < ((s_S n rl xs (s_i x)).1 : Int) then (s_S n rl xs (s_i x)).2.2 (s_i y) else -1)) ∧ Fr s_Sx m m2 ∧ Kp 215 s_Jx m m2) := by
  obtain ⟨hM, hV, ht, hn, hn6⟩ := h
  refine q_aload_n (pc' := 1) dX11_part_0 rfl rfl ?_
  refine q_iload_n (pc' := 2) dX11_part_1 rfl rfl ?_
  refine h_callV (pc' := 5) (M' := mX11_isBlock) (As := [_]) dX11_part_2 iX11_isBlock lX11_398 rfl rfl rfl rfl (Nat.le_of_ble_eq_true rfl) (Nat.le_of_ble_eq_true rfl) rfl rfl ((k_isBlock (d := d) hV ht).up (by omega)) (fun r m' hq => ?_)
  obtain ⟨rfl, hmm⟩ := hq
  subst m'
  refine q_if_neB (tgt := 10) (pc' := 8) dX11_part_5 (by decide) rfl (fun c_5 => ?_) (fun c_5 => ?_)
  rotate_left
  · refine q_iconst (pc' := 9) (v := (-1)) dX11_part_8 rfl rfl ?_
    refine q_iret dX11_part_9 rfl rfl ⟨_, rfl, by rw [if_neg (fun z => by rw [c_5] at z; exact absurd z.1 (by decide))], Fr.rf, Kp.rf⟩
  have htt : t = true := by
    unfold s_has at c_5
    rw [Bool.and_eq_true] at c_5
    exact c_5.1
  have hV := hV htt
  have hok := hV.2.2.2.2
  have hnb := s_nb_le hok hn6
  obtain ⟨j, hx, hj⟩ := z_has c_5 (by omega)
  have hz := s_sz16 (n := n) hok j
  have e0 : s_i x = j := by rw [hx, s_i_n (by omega)]
  rw [e0]
  rw [hx] at c_5 ⊢
  refine q_aload_n (pc' := 11) dX11_part_10 rfl rfl ?_
  refine q_iload_n (pc' := 12) dX11_part_11 rfl rfl ?_
  refine h_callV (pc' := 15) (M' := mX11_layBlock) (As := [_]) dX11_part_12 iX11_layBlock lX11_351 rfl rfl rfl rfl (Nat.le_of_ble_eq_true rfl) (Nat.le_of_ble_eq_true rfl) rfl rfl ((k_layBlock (d := d) hV hj).up (by omega)) (fun r m' hq => ?_)
  obtain ⟨rfl, f1, k1, H1⟩ := hq
  have hV1 := hV.fr f1 (k1 20 (by decide)) (by decide) (by decide)
  obtain ⟨m1, hm1⟩ : ∃ z, z = m' := ⟨_, rfl⟩
  subst hm1
  refine q_aload_n (pc' := 16) dX11_part_15 rfl rfl ?_
  refine h_callV (pc' := 19) (M' := mX11_laySplit) (As := []) dX11_part_16 iX11_laySplit lX11_326 rfl rfl rfl rfl (Nat.le_of_ble_eq_true rfl) (Nat.le_of_ble_eq_true rfl) rfl rfl (k_laySplit (ps := s_ps rl xs j) hV1 H1 hz (fun i _ => rfl)) (fun r m' hq => ?_)
  obtain ⟨rfl, f2, k2, R2⟩ := hq
  have R2 : MR m' (s_S n rl xs j) (s_ps rl xs j) (s_sz n rl j) := R2
  have hS8 : (s_S n rl xs j).1 ≤ 8 := Nat.le_trans (s_ch_le _ _ _ _) hok.2.2.2.2.2
  generalize s_S n rl xs j = S at R2 hS8 ⊢
  have f2 : Fr s_Sx m m' := (f1.mono (by decide)).trans (f2.mono (by decide))
  have k2 : Kp 215 s_Jx m m' := (k1.mono (by decide)).trans (k2.mono (by decide))
  obtain ⟨m2, hm2⟩ : ∃ z, z = m' := ⟨_, rfl⟩
  subst hm2
  refine q_iload_n (pc' := 20) dX11_part_19 rfl rfl ?_
  refine q_iconst (pc' := 21) (v := nI 0) dX11_part_20 rfl rfl ?_
  refine q_aload_n (pc' := 22) dX11_part_21 rfl rfl ?_
  refine h_getiE (pc' := 25) dX11_part_22 fX11_320 rfl rfl (R2.1) rfl ?_
  refine q_iconst (pc' := 26) (v := nI 1) dX11_part_25 rfl rfl ?_
  refine q_isub (pc' := 27) dX11_part_26 rfl ?_
  refine h_callS (pc' := 30) (M' := mX11_in) (As := [_, _, _]) dX11_part_27 iX11_in lX11_99 rfl rfl (Nat.le_of_ble_eq_true rfl) (Nat.le_of_ble_eq_true rfl) rfl rfl (k_in.up (Nat.zero_le _)) (fun r m' hq => ?_)
  obtain ⟨rfl, hmm⟩ := hq
  subst m'
  rw [z_nm1 (by omega), show (nI 0).toInt = 0 from rfl]
  refine q_if_eqB (tgt := 42) (pc' := 33) dX11_part_30 (by decide) rfl (fun c_30 => ?_) (fun c_30 => ?_)
  · have c_30 := of_decide_eq_false c_30
    refine q_iconst (pc' := 43) (v := (-1)) dX11_part_42 rfl rfl ?_
    refine q_iret dX11_part_43 rfl rfl ⟨_, rfl, by rw [if_neg (fun z => c_30 (by omega))], f2, k2⟩
  · have c_30 := of_decide_eq_true c_30
    obtain ⟨w, hw, hy⟩ := z_ex (x := y) (n := S.1) c_30.1 (by omega) (by omega)
    have e : (if s_has t (s_nb n rl) (nI j) = true ∧ 0 ≤ y.toInt ∧ y.toInt < (S.1 : Int) then S.2.2 (s_i y) else -1) = S.2.2 w := by rw [if_pos ⟨c_5, by omega, by omega⟩, hy, s_i_n (by omega)]
    rw [e, hy]
    refine q_aload_n (pc' := 34) dX11_part_33 rfl rfl ?_
    refine h_getr (pc' := 37) dX11_part_34 fX11_48 rfl rfl rfl ?_
    refine q_iload_n (pc' := 38) dX11_part_37 rfl rfl ?_
    refine h_ialdE (pc' := 39) dX11_part_38 rfl (rfl) (by omega) (by decide) (R2.2.1 w hw) rfl ?_
    refine q_goto (pc' := 43) dX11_part_39 (by decide) ?_
    refine q_iret dX11_part_43 rfl rfl ⟨_, rfl, rfl, f2, k2⟩
