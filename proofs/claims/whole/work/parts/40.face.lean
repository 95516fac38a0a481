/-! ===== GuisePack's face: guise, less ===== -/
theorem Cls.known {m : q_Mm} {n k : Nat} {rl : Nat → Nat} {xs : Nat → Int64} {nt : Nat → Int32} (h : Cls m false n k rl xs nt) : ∀ i, i < n → ∀ p, p < 120 → m.2.2.2.1 193 (i * 120 + p) = s_wv (xs i) p := fun i hi => ((h.2.2.2.2.2 rfl).1.2.2.2.2 i hi).2.2
set_option maxHeartbeats 4000000 in
set_option maxRecDepth 20000 in
theorem c_guise {Z : q_Z} {m : q_Mm} {d : Nat} {n k : Nat} {st t : Bool} {x e f : Int32} {rl : Nat → Nat} {xs : Nat → Int64} {nt : Nat → Int32} (h : Cls m st n k rl xs nt) (ht : m.1 0 14 = q_b t) : q_V (q_g Z) mX10_guise (d+6) 0 0 0 [some (.ref (q_ad Z 0)), some (.int x), some (.int e), some (.int f), none, none] [] (q_W Z m) (q_P Z fun r m2 => r = some (.long (if (s_has t n x && s_isPair e f) = true then (if s_wv (xs (s_i x)) (s_pn (s_i e) (s_i f)) = s_no then -1000000 else s_wv (xs (s_i x)) (s_pn (s_i e) (s_i f))) else -1000000)) ∧ (∃ st2, Cls m2 st2 n k rl xs nt) ∧ Fr s_S9 m m2 ∧ Kp 0 [16] m m2) := by
  have hn := h.2.2.2.1.2.2.1
  refine q_aload_n (pc' := 1) dX10_guise_0 rfl rfl ?_
  refine q_iload_n (pc' := 2) dX10_guise_1 rfl rfl ?_
  refine h_callV (pc' := 5) (M' := mX10_hasPlace) (As := [_]) dX10_guise_2 iX10_hasPlace lX10_144 rfl rfl rfl rfl (Nat.le_of_ble_eq_true rfl) (Nat.le_of_ble_eq_true rfl) rfl rfl (c_hasPlace h.2.2.2.1 ht) (fun r m' hq => ?_)
  obtain ⟨rfl, hmm⟩ := hq
  subst m'
  refine q_if_eqB (tgt := 16) (pc' := 8) dX10_guise_5 (by decide) rfl (fun c_5 => ?_) (fun c_5 => ?_)
  · refine q_ldc2 (pc' := 19) dX10_guise_16 kX10_132 rfl ?_
    refine q_lret dX10_guise_19 rfl ⟨_, rfl, by rw [c_5, Bool.false_and, if_neg (by decide)], ⟨st, h⟩, Fr.rf, Kp.rf⟩
  refine q_iload_n (pc' := 9) dX10_guise_8 rfl rfl ?_
  refine q_iload_n (pc' := 10) dX10_guise_9 rfl rfl ?_
  refine h_callS (pc' := 13) (M' := mX10_isPair) (As := [_, _]) dX10_guise_10 iX10_isPair lX10_189 rfl rfl (Nat.le_of_ble_eq_true rfl) (Nat.le_of_ble_eq_true rfl) rfl rfl (c_isPair) (fun r m' hq => ?_)
  obtain ⟨rfl, hmm⟩ := hq
  subst m'
  refine q_if_neB (tgt := 20) (pc' := 16) dX10_guise_13 (by decide) rfl (fun c_13 => ?_) (fun c_13 => ?_)
  rotate_left
  · refine q_ldc2 (pc' := 19) dX10_guise_16 kX10_132 rfl ?_
    refine q_lret dX10_guise_19 rfl ⟨_, rfl, by rw [c_5, c_13, if_neg (by decide)], ⟨st, h⟩, Fr.rf, Kp.rf⟩
  obtain ⟨a, b, ha, hb, ha2, hb2⟩ := z_pair c_13
  obtain ⟨j, hx, hj⟩ := z_has c_5 (by omega)
  have hp := s_pn_lt ha2 hb2
  have e1 : s_i x = j ∧ s_i e = a ∧ s_i f = b := ⟨by rw [hx, s_i_n (by omega)], by rw [ha, s_i_n (by omega)], by rw [hb, s_i_n (by omega)]⟩
  rw [c_5, c_13, Bool.and_self, if_pos rfl, e1.1, e1.2.1, e1.2.2, ha, hb, hx]
  have hto := told ht (by first | exact c_4 | exact s_has_t c_5 | assumption)
  refine q_aload_n (pc' := 21) dX10_guise_20 rfl rfl ?_
  refine h_callV (pc' := 24) (M' := mX10_current) (As := []) dX10_guise_21 iX10_current lX10_162 rfl rfl rfl rfl (Nat.le_of_ble_eq_true rfl) (Nat.le_of_ble_eq_true rfl) rfl rfl (c_cur h hto) (fun r m' hq => ?_)
  obtain ⟨rfl, f1, k1, h1⟩ := hq
  have hkn := h1.known j hj _ hp
  obtain ⟨m1, hm1⟩ : ∃ z, z = m' := ⟨_, rfl⟩
  subst hm1
  refine q_pop (pc' := 25) dX10_guise_24 rfl rfl ?_
  refine q_aload_n (pc' := 26) dX10_guise_25 rfl rfl ?_
  refine h_getr (pc' := 29) dX10_guise_26 fX10_64 rfl rfl rfl ?_
  refine q_iload_n (pc' := 30) dX10_guise_29 rfl rfl ?_
  refine q_iload_n (pc' := 31) dX10_guise_30 rfl rfl ?_
  refine q_iload_n (pc' := 32) dX10_guise_31 rfl rfl ?_
  refine h_callS (pc' := 35) (M' := mX10_pairNumber) (As := [_, _]) dX10_guise_32 iX10_pairNumber lX10_193 rfl rfl (Nat.le_of_ble_eq_true rfl) (Nat.le_of_ble_eq_true rfl) rfl rfl (c_pairNumber (by omega)) (fun r m' hq => ?_)
  obtain ⟨rfl, hmm⟩ := hq
  subst m'
  refine h_callV (pc' := 38) (M' := mX4_at) (As := [_, _]) dX10_guise_35 iX4_at lX10_196 rfl rfl rfl rfl (Nat.le_of_ble_eq_true rfl) (Nat.le_of_ble_eq_true rfl) rfl rfl (c_at (by omega) hp) (fun r m' hq => ?_)
  obtain ⟨rfl, hmm⟩ := hq
  subst m'
  rw [hkn]
  refine q_lstore (pc' := 40) (lv' := [_, _, _, _, _, _]) dX10_guise_38 (by decide) rfl rfl ?_
  refine q_lload (pc' := 42) dX10_guise_40 rfl rfl ?_
  refine q_ldc2 (pc' := 45) dX10_guise_42 kX10_200 rfl ?_
  refine q_lcmp (pc' := 46) dX10_guise_45 rfl ?_
  refine q_if_neL (tgt := 55) (pc' := 49) dX10_guise_46 (by decide) rfl (fun c_46 => ?_) (fun c_46 => ?_)
  · refine q_lload (pc' := 57) dX10_guise_55 rfl rfl ?_
    refine q_lret dX10_guise_57 rfl ⟨_, rfl, by rw [if_neg (show ¬ _ = s_no from c_46)], ⟨false, h1⟩, f1.mono (by decide), k1⟩
  · refine q_ldc2 (pc' := 52) dX10_guise_49 kX10_132 rfl ?_
    refine q_goto (pc' := 57) dX10_guise_52 (by decide) ?_
    refine q_lret dX10_guise_57 rfl ⟨_, rfl, by rw [if_pos (show _ = s_no from c_46)], ⟨false, h1⟩, f1.mono (by decide), k1⟩
def s_tot (n : Nat) (rl : Nat → Nat) (xs : Nat → Int64) : Nat := s_sum (fun bk => (s_wf n rl xs (s_ws xs) (s_five n rl xs) bk).2) (s_nb n rl)
def s_skip (xs : Nat → Int64) (pl i : Nat) : Int64 := xs (if i < pl then i else i + 1)
abbrev s_SA : List Nat := [0, 191, 192, 193, 194, 195, 196, 197, 198, 199, 200, 201, 202, 203, 204, 205, 206, 207, 208, 209, 210, 211]
set_option maxHeartbeats 4000000 in
set_option maxRecDepth 20000 in
theorem c_less {Z : q_Z} {m : q_Mm} {d : Nat} {n k : Nat} {st t : Bool} {x : Int32} {rl : Nat → Nat} {xs : Nat → Int64} {nt : Nat → Int32} (h : Cls m st n k rl xs nt) (ht : m.1 0 14 = q_b t) : q_V (q_g Z) mX10_less (d+6) 0 0 0 [some (.ref (q_ad Z 0)), some (.int x), none] [] (q_W Z m) (q_P Z fun r m2 => r = some (.int (if s_has t n x = true then nI (s_tot n rl xs) - nI (s_tot (n - 1) rl (s_skip xs (s_i x))) else -1000000)) ∧ (∃ st2, Cls m2 st2 n k rl xs nt) ∧ Fr s_SA m m2 ∧ Kp 0 [16] m m2) := by
  have hn := h.2.2.2.1.2.2.1
  refine q_aload_n (pc' := 1) dX10_less_0 rfl rfl ?_
  refine q_iload_n (pc' := 2) dX10_less_1 rfl rfl ?_
  refine h_callV (pc' := 5) (M' := mX10_hasPlace) (As := [_]) dX10_less_2 iX10_hasPlace lX10_144 rfl rfl rfl rfl (Nat.le_of_ble_eq_true rfl) (Nat.le_of_ble_eq_true rfl) rfl rfl (c_hasPlace h.2.2.2.1 ht) (fun r m' hq => ?_)
  obtain ⟨rfl, hmm⟩ := hq
  subst m'
  refine q_if_neB (tgt := 11) (pc' := 8) dX10_less_5 (by decide) rfl (fun c_5 => ?_) (fun c_5 => ?_)
  rotate_left
  · refine q_ldc (pc' := 10) dX10_less_8 kX10_157 rfl ?_
    refine q_iret dX10_less_10 rfl rfl ⟨_, rfl, by rw [c_5, if_neg (by decide)], ⟨st, h⟩, Fr.rf, Kp.rf⟩
  obtain ⟨j, hx, hj⟩ := z_has c_5 (by omega)
  have e1 : s_i x = j := by rw [hx, s_i_n (by omega)]
  rw [c_5, if_pos rfl, e1, hx]
  have hto := told ht (by first | exact c_4 | exact s_has_t c_5 | assumption)
  refine q_aload_n (pc' := 12) dX10_less_11 rfl rfl ?_
  refine h_callV (pc' := 15) (M' := mX10_current) (As := []) dX10_less_12 iX10_current lX10_162 rfl rfl rfl rfl (Nat.le_of_ble_eq_true rfl) (Nat.le_of_ble_eq_true rfl) rfl rfl (c_cur h hto) (fun r m' hq => ?_)
  obtain ⟨rfl, f1, k1, h1⟩ := hq
  obtain ⟨m1, hm1⟩ : ∃ z, z = m' := ⟨_, rfl⟩
  subst hm1
  refine h_callV (pc' := 18) (M' := mX8_total) (As := []) dX10_less_15 iX8_total lX10_300 rfl rfl rfl rfl (Nat.le_of_ble_eq_true rfl) (Nat.le_of_ble_eq_true rfl) rfl rfl (c_total_194 h1.pl h1.five) (fun r m' hq => ?_)
  obtain ⟨rfl, f2, k2⟩ := hq
  have h2 := h1.fr f2 (k2.mono (by decide)) (by decide)
  have k2 : Kp 0 [16] m m' := k1.trans (Kp.fr f2 (by decide))
  have f2 : Fr s_SA m m' := (f1.mono (by decide)).trans (f2.mono (by decide))
  obtain ⟨m2, hm2⟩ : ∃ z, z = m' := ⟨_, rfl⟩
  subst hm2
  refine q_istore_n (pc' := 19) (lv' := [_, _, _]) dX10_less_18 (by decide) rfl rfl ?_
  refine q_aload_n (pc' := 20) dX10_less_19 rfl rfl ?_
  refine h_getr (pc' := 23) dX10_less_20 fX10_77 rfl rfl rfl ?_
  refine h_callV (pc' := 26) (M' := mX8_lay) (As := []) dX10_less_23 iX8_lay lX10_337 rfl rfl rfl rfl (Nat.le_of_ble_eq_true rfl) (Nat.le_of_ble_eq_true rfl) rfl rfl (c_lay_203 (ws := s_ws xs) h2.2.2.2.1 h2.known) (fun r m' hq => ?_)
  obtain ⟨rfl, f3, k3, P3⟩ := hq
  have h3 := h2.fr f3 (Kp.fr f3 (by decide)) (by decide)
  have k3 : Kp 0 [16] m m' := k2.trans (Kp.fr f3 (by decide))
  have f3 : Fr s_SA m m' := f2.trans (f3.mono (by decide))
  obtain ⟨m3, hm3⟩ : ∃ z, z = m' := ⟨_, rfl⟩
  subst hm3
  refine q_aload_n (pc' := 27) dX10_less_26 rfl rfl ?_
  refine h_getr (pc' := 30) dX10_less_27 fX10_77 rfl rfl rfl ?_
  refine q_iload_n (pc' := 31) dX10_less_30 rfl rfl ?_
  refine h_callV (pc' := 34) (M' := mX8_leaveOut) (As := [_]) dX10_less_31 iX8_leaveOut lX10_340 rfl rfl rfl rfl (Nat.le_of_ble_eq_true rfl) (Nat.le_of_ble_eq_true rfl) rfl rfl (c_leaveOut_203 P3 hj) (fun r m' hq => ?_)
  obtain ⟨rfl, f4, k4, P4⟩ := hq
  have P4 : Pl m' 203 (n - 1) rl (s_skip xs j) (s_ws (s_skip xs j)) := P4
  have h4 := h3.fr f4 (Kp.fr f4 (by decide)) (by decide)
  have k4 : Kp 0 [16] m m' := k3.trans (Kp.fr f4 (by decide))
  have f4 : Fr s_SA m m' := f3.trans (f4.mono (by decide))
  obtain ⟨m4, hm4⟩ : ∃ z, z = m' := ⟨_, rfl⟩
  subst hm4
  refine q_aload_n (pc' := 35) dX10_less_34 rfl rfl ?_
  refine h_getr (pc' := 38) dX10_less_35 fX10_77 rfl rfl rfl ?_
  refine h_callV (pc' := 41) (M' := mX8_rank) (As := []) dX10_less_38 iX8_rank lX10_343 rfl rfl rfl rfl (Nat.le_of_ble_eq_true rfl) (Nat.le_of_ble_eq_true rfl) rfl rfl (c_rank_203 P4) (fun r m' hq => ?_)
  obtain ⟨rfl, f5, k5, V5⟩ := hq
  have V5 : Fiv m' 203 (s_five (n - 1) rl (s_skip xs j)) := V5
  have P5 := P4.kp f5 k5 (by decide) (by decide) (by decide) (by decide) (by decide)
  have h5 := h4.fr f5 (Kp.fr f5 (by decide)) (by decide)
  have k5 : Kp 0 [16] m m' := k4.trans (Kp.fr f5 (by decide))
  have f5 : Fr s_SA m m' := f4.trans (f5.mono (by decide))
  obtain ⟨m5, hm5⟩ : ∃ z, z = m' := ⟨_, rfl⟩
  subst hm5
  refine q_iload_n (pc' := 42) dX10_less_41 rfl rfl ?_
  refine q_aload_n (pc' := 43) dX10_less_42 rfl rfl ?_
  refine h_getr (pc' := 46) dX10_less_43 fX10_77 rfl rfl rfl ?_
  refine h_callV (pc' := 49) (M' := mX8_total) (As := []) dX10_less_46 iX8_total lX10_300 rfl rfl rfl rfl (Nat.le_of_ble_eq_true rfl) (Nat.le_of_ble_eq_true rfl) rfl rfl (c_total_203 P5 V5) (fun r m' hq => ?_)
  obtain ⟨rfl, f6, k6⟩ := hq
  refine q_isub (pc' := 50) dX10_less_49 rfl ?_
  refine q_iret dX10_less_50 rfl rfl ⟨_, rfl, rfl, ⟨false, h5.fr f6 (Kp.fr f6 (by decide)) (by decide)⟩, f5.trans (f6.mono (by decide)), k5.trans (Kp.fr f6 (by decide))⟩
