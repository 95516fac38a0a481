/-! ===== GuisePack's face: rule, score, cost, write, part ===== -/
theorem Cls.pl {m : q_Mm} {n k : Nat} {rl : Nat → Nat} {xs : Nat → Int64} {nt : Nat → Int32} (h : Cls m false n k rl xs nt) : Pl m 194 n rl xs (s_ws xs) := (h.2.2.2.2.2 rfl).1.pl
theorem Cls.five {m : q_Mm} {n k : Nat} {rl : Nat → Nat} {xs : Nat → Int64} {nt : Nat → Int32} (h : Cls m false n k rl xs nt) : Fiv m 194 (s_five n rl xs) := (h.2.2.2.2.2 rfl).2
theorem z_pair {e f : Int32} (h : s_isPair e f = true) : ∃ a b, e = nI a ∧ f = nI b ∧ a < 15 ∧ b ≤ a := by
  unfold s_isPair at h
  have h := of_decide_eq_true h
  obtain ⟨a, ha, rfl⟩ := z_ex (x := e) (n := 15) h.1.1 (by have := h.1.2; omega) (by omega)
  rw [z_n (by omega)] at h
  obtain ⟨b, hb, rfl⟩ := z_ex (x := f) (n := a + 1) h.2.1 (by have := h.2.2; omega) (by omega)
  exact ⟨a, b, rfl, rfl, ha, by omega⟩
theorem s_pn_lt {a b : Nat} (ha : a < 15) (hb : b ≤ a) : s_pn a b < 120 := by
  have : a * (a + 1) ≤ 14 * 15 := Nat.mul_le_mul (by omega) (by omega)
  unfold s_pn
  omega
theorem z_has {t : Bool} {n : Nat} {x : Int32} (h : s_has t n x = true) (hn : n < 2 ^ 31) : ∃ j, x = nI j ∧ j < n := by
  unfold s_has at h
  rw [Bool.and_eq_true] at h
  have h := of_decide_eq_true h.2
  obtain ⟨j, hj, rfl⟩ := z_ex (x := x) (n := n) h.1 h.2 hn
  exact ⟨j, rfl, hj⟩
def s_i (x : Int32) : Nat := x.toInt.toNat
theorem s_i_n {j : Nat} (h : j < 2 ^ 31) : s_i (nI j) = j := by unfold s_i; rw [z_n h]; rfl
abbrev s_S9 : List Nat := [0, 191, 192, 193, 194, 195, 196, 197, 198, 199, 200, 201, 202]
set_option maxHeartbeats 4000000 in
set_option maxRecDepth 20000 in
theorem c_rule {Z : q_Z} {m : q_Mm} {d : Nat} {n k : Nat} {t : Bool} {x : Int32} {rl : Nat → Nat} {xs : Nat → Int64} {nt : Nat → Int32} (hC : Col m 19 n k xs rl nt) (ht : m.1 0 14 = q_b t) : q_V (q_g Z) mX10_rule (d+1) 0 0 0 [some (.ref (q_ad Z 0)), some (.int x)] [] (q_W Z m) (q_P Z fun r m2 => r = some (.int (if (t && s_isRule x) = true then nI (rl (s_i x)) else -1)) ∧ m2 = m) := by
  refine q_aload_n (pc' := 1) dX10_rule_0 rfl rfl ?_
  refine h_getiE (pc' := 4) dX10_rule_1 fX10_122 rfl rfl (ht) rfl ?_
  refine q_if_eqB (tgt := 14) (pc' := 7) dX10_rule_4 (by decide) rfl (fun c_4 => ?_) (fun c_4 => ?_)
  · refine q_iconst (pc' := 15) (v := (-1)) dX10_rule_14 rfl rfl ?_
    refine q_iret dX10_rule_15 rfl rfl ⟨_, rfl, by rw [c_4, Bool.false_and, if_neg (by decide)], rfl⟩
  refine q_iload_n (pc' := 8) dX10_rule_7 rfl rfl ?_
  refine h_callS (pc' := 11) (M' := mX10_isRule) (As := [_]) dX10_rule_8 iX10_isRule lX10_137 rfl rfl (Nat.le_of_ble_eq_true rfl) (Nat.le_of_ble_eq_true rfl) rfl rfl (c_isRule) (fun r m' hq => ?_)
  obtain ⟨rfl, hmm⟩ := hq
  subst m'
  refine q_if_neB (tgt := 16) (pc' := 14) dX10_rule_11 (by decide) rfl (fun c_11 => ?_) (fun c_11 => ?_)
  · have h := c_11
    unfold s_isRule at h
    have h := of_decide_eq_true h
    obtain ⟨j, hj, hx⟩ := z_ex (x := x) (n := 5) h.1 (by have := h.2; omega) (by omega)
    have e : (if (t && s_isRule x) = true then nI (rl (s_i x)) else -1) = nI (rl j) := by rw [c_4, c_11, Bool.and_self, if_pos rfl, hx, s_i_n (by omega)]
    rw [e, hx]
    refine q_aload_n (pc' := 17) dX10_rule_16 rfl rfl ?_
    refine h_getr (pc' := 20) dX10_rule_17 fX10_45 rfl rfl rfl ?_
    refine h_getr (pc' := 23) dX10_rule_20 fX10_141 rfl rfl rfl ?_
    refine q_iload_n (pc' := 24) dX10_rule_23 rfl rfl ?_
    refine h_ialdE (pc' := 25) dX10_rule_24 rfl (rfl) (by omega) (by decide) (hC.2.2.2.2.2.1 j hj) rfl ?_
    refine q_iret dX10_rule_25 rfl rfl ⟨_, rfl, rfl, rfl⟩
  · refine q_iconst (pc' := 15) (v := (-1)) dX10_rule_14 rfl rfl ?_
    refine q_iret dX10_rule_15 rfl rfl ⟨_, rfl, by rw [c_4, c_11, if_neg (by decide)], rfl⟩
set_option maxHeartbeats 4000000 in
set_option maxRecDepth 20000 in
theorem c_score {Z : q_Z} {m : q_Mm} {d : Nat} {n k : Nat} {st t : Bool} {e f : Int32} {rl : Nat → Nat} {xs : Nat → Int64} {nt : Nat → Int32} (h : Cls m st n k rl xs nt) (ht : m.1 0 14 = q_b t) : q_V (q_g Z) mX10_score (d+6) 0 0 0 [some (.ref (q_ad Z 0)), some (.int e), some (.int f)] [] (q_W Z m) (q_P Z fun r m2 => r = some (.int (if (t && s_isPair e f) = true then nI (s_score n rl (s_ws xs) (s_pn (s_i e) (s_i f))) else -1)) ∧ (∃ st2, Cls m2 st2 n k rl xs nt) ∧ Fr s_S9 m m2 ∧ Kp 0 [16] m m2) := by
  refine q_aload_n (pc' := 1) dX10_score_0 rfl rfl ?_
  refine h_getiE (pc' := 4) dX10_score_1 fX10_122 rfl rfl (ht) rfl ?_
  refine q_if_eqB (tgt := 15) (pc' := 7) dX10_score_4 (by decide) rfl (fun c_4 => ?_) (fun c_4 => ?_)
  · refine q_iconst (pc' := 16) (v := (-1)) dX10_score_15 rfl rfl ?_
    refine q_iret dX10_score_16 rfl rfl ⟨_, rfl, by rw [c_4, Bool.false_and, if_neg (by decide)], ⟨st, h⟩, Fr.rf, Kp.rf⟩
  refine q_iload_n (pc' := 8) dX10_score_7 rfl rfl ?_
  refine q_iload_n (pc' := 9) dX10_score_8 rfl rfl ?_
  refine h_callS (pc' := 12) (M' := mX10_isPair) (As := [_, _]) dX10_score_9 iX10_isPair lX10_189 rfl rfl (Nat.le_of_ble_eq_true rfl) (Nat.le_of_ble_eq_true rfl) rfl rfl (c_isPair) (fun r m' hq => ?_)
  obtain ⟨rfl, hmm⟩ := hq
  subst m'
  refine q_if_neB (tgt := 17) (pc' := 15) dX10_score_12 (by decide) rfl (fun c_12 => ?_) (fun c_12 => ?_)
  rotate_left
  · refine q_iconst (pc' := 16) (v := (-1)) dX10_score_15 rfl rfl ?_
    refine q_iret dX10_score_16 rfl rfl ⟨_, rfl, by rw [c_4, c_12, if_neg (by decide)], ⟨st, h⟩, Fr.rf, Kp.rf⟩
  obtain ⟨a, b, ha, hb, ha2, hb2⟩ := z_pair c_12
  have e1 : (if (t && s_isPair e f) = true then nI (s_score n rl (s_ws xs) (s_pn (s_i e) (s_i f))) else -1) = nI (s_score n rl (s_ws xs) (s_pn a b)) := by rw [c_4, c_12, Bool.and_self, if_pos rfl, ha, hb, s_i_n (by omega), s_i_n (by omega)]
  rw [e1, ha, hb]
  have hto := told ht (by first | exact c_4 | exact s_has_t c_5 | assumption)
  refine q_aload_n (pc' := 18) dX10_score_17 rfl rfl ?_
  refine h_callV (pc' := 21) (M' := mX10_current) (As := []) dX10_score_18 iX10_current lX10_162 rfl rfl rfl rfl (Nat.le_of_ble_eq_true rfl) (Nat.le_of_ble_eq_true rfl) rfl rfl (c_cur h hto) (fun r m' hq => ?_)
  obtain ⟨rfl, f1, k1, h1⟩ := hq
  obtain ⟨m1, hm1⟩ : ∃ z, z = m' := ⟨_, rfl⟩
  subst hm1
  refine q_iload_n (pc' := 22) dX10_score_21 rfl rfl ?_
  refine q_iload_n (pc' := 23) dX10_score_22 rfl rfl ?_
  refine h_callS (pc' := 26) (M' := mX10_pairNumber) (As := [_, _]) dX10_score_23 iX10_pairNumber lX10_193 rfl rfl (Nat.le_of_ble_eq_true rfl) (Nat.le_of_ble_eq_true rfl) rfl rfl (c_pairNumber (by omega)) (fun r m' hq => ?_)
  obtain ⟨rfl, hmm⟩ := hq
  subst m'
  refine h_callV (pc' := 29) (M' := mX8_scoreOf) (As := [_]) dX10_score_26 iX8_scoreOf lX10_224 rfl rfl rfl rfl (Nat.le_of_ble_eq_true rfl) (Nat.le_of_ble_eq_true rfl) rfl rfl (c_scoreOf_194 h1.pl (s_pn_lt ha2 hb2)) (fun r m' hq => ?_)
  obtain ⟨rfl, f2, k2⟩ := hq
  refine q_iret dX10_score_29 rfl rfl ⟨_, rfl, rfl, ⟨false, h1.fr f2 (k2.mono (by decide)) (by decide)⟩, (f1.mono (by decide)).trans (f2.mono (by decide)), k1.trans (Kp.fr f2 (by decide))⟩
set_option maxHeartbeats 4000000 in
set_option maxRecDepth 20000 in
theorem c_cost {Z : q_Z} {m : q_Mm} {d : Nat} {n k : Nat} {st t : Bool} {x e f : Int32} {rl : Nat → Nat} {xs : Nat → Int64} {nt : Nat → Int32} (h : Cls m st n k rl xs nt) (ht : m.1 0 14 = q_b t) : q_V (q_g Z) mX10_cost (d+6) 0 0 0 [some (.ref (q_ad Z 0)), some (.int x), some (.int e), some (.int f)] [] (q_W Z m) (q_P Z fun r m2 => r = some (.int (if (s_has t (s_nb n rl) x && s_isPair e f) = true then nI (s_dc n rl (s_ws xs) (s_i x) (s_pn (s_i e) (s_i f))) else -1)) ∧ (∃ st2, Cls m2 st2 n k rl xs nt) ∧ Fr s_S9 m m2 ∧ Kp 0 [16] m m2) := by
  have hnb := s_nb_le h.2.2.2.1.2.2.2.2.2.2.2 h.2.2.2.1.2.2.1
  refine q_aload_n (pc' := 1) dX10_cost_0 rfl rfl ?_
  refine q_iload_n (pc' := 2) dX10_cost_1 rfl rfl ?_
  refine h_callV (pc' := 5) (M' := mX10_hasBlock) (As := [_]) dX10_cost_2 iX10_hasBlock lX10_218 rfl rfl rfl rfl (Nat.le_of_ble_eq_true rfl) (Nat.le_of_ble_eq_true rfl) rfl rfl (c_hasBlock h.2.2.2.1 ht) (fun r m' hq => ?_)
  obtain ⟨rfl, hmm⟩ := hq
  subst m'
  refine q_if_eqB (tgt := 16) (pc' := 8) dX10_cost_5 (by decide) rfl (fun c_5 => ?_) (fun c_5 => ?_)
  · refine q_iconst (pc' := 17) (v := (-1)) dX10_cost_16 rfl rfl ?_
    refine q_iret dX10_cost_17 rfl rfl ⟨_, rfl, by rw [c_5, Bool.false_and, if_neg (by decide)], ⟨st, h⟩, Fr.rf, Kp.rf⟩
  refine q_iload_n (pc' := 9) dX10_cost_8 rfl rfl ?_
  refine q_iload_n (pc' := 10) dX10_cost_9 rfl rfl ?_
  refine h_callS (pc' := 13) (M' := mX10_isPair) (As := [_, _]) dX10_cost_10 iX10_isPair lX10_189 rfl rfl (Nat.le_of_ble_eq_true rfl) (Nat.le_of_ble_eq_true rfl) rfl rfl (c_isPair) (fun r m' hq => ?_)
  obtain ⟨rfl, hmm⟩ := hq
  subst m'
  refine q_if_neB (tgt := 18) (pc' := 16) dX10_cost_13 (by decide) rfl (fun c_13 => ?_) (fun c_13 => ?_)
  rotate_left
  · refine q_iconst (pc' := 17) (v := (-1)) dX10_cost_16 rfl rfl ?_
    refine q_iret dX10_cost_17 rfl rfl ⟨_, rfl, by rw [c_5, c_13, if_neg (by decide)], ⟨st, h⟩, Fr.rf, Kp.rf⟩
  obtain ⟨a, b, ha, hb, ha2, hb2⟩ := z_pair c_13
  obtain ⟨j, hx, hj⟩ := z_has c_5 (by omega)
  have e1 : (if (s_has t (s_nb n rl) x && s_isPair e f) = true then nI (s_dc n rl (s_ws xs) (s_i x) (s_pn (s_i e) (s_i f))) else -1) = nI (s_dc n rl (s_ws xs) j (s_pn a b)) := by rw [c_5, c_13, Bool.and_self, if_pos rfl, ha, hb, hx, s_i_n (by omega), s_i_n (by omega), s_i_n (by omega)]
  rw [e1, ha, hb, hx]
  have hto := told ht (by first | exact c_4 | exact s_has_t c_5 | assumption)
  refine q_aload_n (pc' := 19) dX10_cost_18 rfl rfl ?_
  refine h_callV (pc' := 22) (M' := mX10_current) (As := []) dX10_cost_19 iX10_current lX10_162 rfl rfl rfl rfl (Nat.le_of_ble_eq_true rfl) (Nat.le_of_ble_eq_true rfl) rfl rfl (c_cur h hto) (fun r m' hq => ?_)
  obtain ⟨rfl, f1, k1, h1⟩ := hq
  obtain ⟨m1, hm1⟩ : ∃ z, z = m' := ⟨_, rfl⟩
  subst hm1
  refine q_iload_n (pc' := 23) dX10_cost_22 rfl rfl ?_
  refine q_iload_n (pc' := 24) dX10_cost_23 rfl rfl ?_
  refine q_iload_n (pc' := 25) dX10_cost_24 rfl rfl ?_
  refine h_callS (pc' := 28) (M' := mX10_pairNumber) (As := [_, _]) dX10_cost_25 iX10_pairNumber lX10_193 rfl rfl (Nat.le_of_ble_eq_true rfl) (Nat.le_of_ble_eq_true rfl) rfl rfl (c_pairNumber (by omega)) (fun r m' hq => ?_)
  obtain ⟨rfl, hmm⟩ := hq
  subst m'
  refine h_callV (pc' := 31) (M' := mX8_decimalCost) (As := [_, _]) dX10_cost_28 iX8_decimalCost lX10_221 rfl rfl rfl rfl (Nat.le_of_ble_eq_true rfl) (Nat.le_of_ble_eq_true rfl) rfl rfl (c_decimalCost_194 h1.pl hj (s_pn_lt ha2 hb2)) (fun r m' hq => ?_)
  obtain ⟨rfl, f2, k2, -⟩ := hq
  refine q_iret dX10_cost_31 rfl rfl ⟨_, rfl, rfl, ⟨false, h1.fr f2 (k2.mono (by decide)) (by decide)⟩, (f1.mono (by decide)).trans (f2.mono (by decide)), k1.trans (Kp.fr f2 (by decide))⟩
