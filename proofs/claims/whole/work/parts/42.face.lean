/-! ===== GuisePack's face: block ===== -/
def s_blk (n : Nat) (rl : Nat → Nat) (xs : Nat → Int64) (j : Nat) (w : Int) : Int32 := if w = 0 then nI (s_sz n rl j) else if w = 1 then nI (s_wf n rl xs (s_ws xs) (s_five n rl xs) j).1 else if w = 2 then nI (s_cd (s_wp n rl (s_ws xs) (s_five n rl xs) j)) else if w = 3 then nI (s_wf n rl xs (s_ws xs) (s_five n rl xs) j).2 else if w = 4 then nI (s_spc n rl xs j) else if w = 5 then nI (s_mk (s_ex n rl xs (s_ws xs) (s_wp n rl (s_ws xs) (s_five n rl xs) j) j (s_wf n rl xs (s_ws xs) (s_five n rl xs) j).1) (s_sz n rl j)) else if w = 6 then nI (s_bl ((s_dm n rl (s_ws xs) j (s_wp n rl (s_ws xs) (s_five n rl xs) j)).2.1 - (s_dm n rl (s_ws xs) j (s_wp n rl (s_ws xs) (s_five n rl xs) j)).1)) else if w = 7 then nI (s_S n rl xs j).1 else -1000000
set_option maxHeartbeats 4000000 in
set_option maxRecDepth 20000 in
theorem c_block {Z : q_Z} {m : q_Mm} {d : Nat} {n k : Nat} {st t : Bool} {x y : Int32} {rl : Nat → Nat} {xs : Nat → Int64} {nt : Nat → Int32} (h : Cls m st n k rl xs nt) (ht : m.1 0 14 = q_b t) : q_V (q_g Z) mX10_block (d+6) 0 0 0 [some (.ref (q_ad Z 0)), some (.int x), some (.int y), none] [] (q_W Z m) (q_P Z fun r m2 => r = some (.int (if s_has t (s_nb n rl) x = true then s_blk n rl xs (s_i x) y.toInt else -1000000)) ∧ (∃ st2, Cls m2 st2 n k rl xs nt) ∧ Fr s_S9 m m2 ∧ Kp 0 [16] m m2) := by
  have hr := h.2.2.2.1.2.2.2.2.2.2.2
  have hnb := s_nb_le hr h.2.2.2.1.2.2.1
  refine q_aload_n (pc' := 1) dX10_block_0 rfl rfl ?_
  refine q_iload_n (pc' := 2) dX10_block_1 rfl rfl ?_
  refine h_callV (pc' := 5) (M' := mX10_hasBlock) (As := [_]) dX10_block_2 iX10_hasBlock lX10_218 rfl rfl rfl rfl (Nat.le_of_ble_eq_true rfl) (Nat.le_of_ble_eq_true rfl) rfl rfl (c_hasBlock h.2.2.2.1 ht) (fun r m' hq => ?_)
  obtain ⟨rfl, hmm⟩ := hq
  subst m'
  refine q_if_neB (tgt := 11) (pc' := 8) dX10_block_5 (by decide) rfl (fun c_5 => ?_) (fun c_5 => ?_)
  rotate_left
  · refine q_ldc (pc' := 10) dX10_block_8 kX10_157 rfl ?_
    refine q_iret dX10_block_10 rfl rfl ⟨_, rfl, by rw [c_5, if_neg (by decide)], ⟨st, h⟩, Fr.rf, Kp.rf⟩
  obtain ⟨j, hx, hj⟩ := z_has c_5 (by omega)
  have e1 : s_i x = j := by rw [hx, s_i_n (by omega)]
  rw [c_5, if_pos rfl, e1, hx]
  have hto := told ht (by first | exact c_4 | exact s_has_t c_5 | assumption)
  refine q_aload_n (pc' := 12) dX10_block_11 rfl rfl ?_
  refine h_callV (pc' := 15) (M' := mX10_current) (As := []) dX10_block_12 iX10_current lX10_162 rfl rfl rfl rfl (Nat.le_of_ble_eq_true rfl) (Nat.le_of_ble_eq_true rfl) rfl rfl (c_cur h hto) (fun r m' hq => ?_)
  obtain ⟨rfl, f1, k1, h1⟩ := hq
  have hwp := s_wp_lt (n := n) hr (s_ws xs) (fun i hi => (h1.five.2.2.2 i hi).1) j
  obtain ⟨m1, hm1⟩ : ∃ z, z = m' := ⟨_, rfl⟩
  subst hm1
  refine q_astore_n (pc' := 16) (lv' := [_, _, _, _]) dX10_block_15 (by decide) rfl rfl ?_
  refine q_aload_n (pc' := 17) dX10_block_16 rfl rfl ?_
  refine q_iload_n (pc' := 18) dX10_block_17 rfl rfl ?_
  refine h_callV (pc' := 21) (M' := mX8_weigh) (As := [_]) dX10_block_18 iX8_weigh lX10_236 rfl rfl rfl rfl (Nat.le_of_ble_eq_true rfl) (Nat.le_of_ble_eq_true rfl) rfl rfl (c_weigh_194 h1.pl h1.five hj) (fun r m' hq => ?_)
  obtain ⟨rfl, f2, k2, W2, C2, M2⟩ := hq
  have h2 := h1.fr f2 (k2.mono (by decide)) (by decide)
  have k2 : Kp 0 [16] m m' := k1.trans (Kp.fr f2 (by decide))
  have f2 : Fr s_S9 m m' := (f1.mono (by decide)).trans (f2.mono (by decide))
  obtain ⟨m2, hm2⟩ : ∃ z, z = m' := ⟨_, rfl⟩
  subst hm2
  refine q_iload_n (pc' := 22) dX10_block_21 rfl rfl ?_
  by_cases hy : y.toInt < 0 ∨ 7 < y.toInt
  · refine q_tabOut (tgt := 121) dX10_block_22 hy (by decide) ?_
    refine q_ldc (pc' := 123) dX10_block_121 kX10_157 rfl ?_
    refine q_iret dX10_block_123 rfl rfl ⟨_, rfl, by unfold s_blk; rw [if_neg (by omega), if_neg (by omega), if_neg (by omega), if_neg (by omega), if_neg (by omega), if_neg (by omega), if_neg (by omega), if_neg (by omega)], ⟨false, h2⟩, f2, k2⟩
  have hy3 : y.toInt = 0 ∨ y.toInt = 1 ∨ y.toInt = 2 ∨ y.toInt = 3 ∨ y.toInt = 4 ∨ y.toInt = 5 ∨ y.toInt = 6 ∨ y.toInt = 7 := by omega
  rcases hy3 with z | z | z | z | z | z | z | z
  · refine q_tabIn (tgt := 68) dX10_block_22 (by omega) (by omega) (by rw [z]; rfl) (by decide) ?_
    refine q_aload_n (pc' := 69) dX10_block_68 rfl rfl ?_
    refine q_iload_n (pc' := 70) dX10_block_69 rfl rfl ?_
    refine h_callV (pc' := 73) (M' := mX8_sizeOf) (As := [_]) dX10_block_70 iX8_sizeOf lX10_239 rfl rfl rfl rfl (Nat.le_of_ble_eq_true rfl) (Nat.le_of_ble_eq_true rfl) rfl rfl (c_sizeOf_194 h2.pl hj) (fun r m' hq => ?_)
    obtain ⟨rfl, hmm⟩ := hq
    subst m'
    refine q_iret dX10_block_73 rfl rfl ⟨_, rfl, by rw [z]; rfl, ⟨false, h2⟩, f2, k2⟩
  · refine q_tabIn (tgt := 74) dX10_block_22 (by omega) (by omega) (by rw [z]; rfl) (by decide) ?_
    refine q_aload_n (pc' := 75) dX10_block_74 rfl rfl ?_
    refine h_getiE (pc' := 78) dX10_block_75 fX10_242 rfl rfl (W2.2.1) rfl ?_
    refine q_iret dX10_block_78 rfl rfl ⟨_, rfl, by rw [z]; rfl, ⟨false, h2⟩, f2, k2⟩
  · refine q_tabIn (tgt := 79) dX10_block_22 (by omega) (by omega) (by rw [z]; rfl) (by decide) ?_
    refine q_aload_n (pc' := 80) dX10_block_79 rfl rfl ?_
    refine h_getr (pc' := 83) dX10_block_80 fX10_64 rfl rfl rfl ?_
    refine q_aload_n (pc' := 84) dX10_block_83 rfl rfl ?_
    refine h_getiE (pc' := 87) dX10_block_84 fX10_245 rfl rfl (W2.1) rfl ?_
    refine h_callV (pc' := 90) (M' := mX4_code) (As := [_]) dX10_block_87 iX4_code lX10_233 rfl rfl rfl rfl (Nat.le_of_ble_eq_true rfl) (Nat.le_of_ble_eq_true rfl) rfl rfl (c_code hwp) (fun r m' hq => ?_)
    obtain ⟨rfl, hmm⟩ := hq
    subst m'
    rw [h2.2.1 _ hwp]
    refine q_iret dX10_block_90 rfl rfl ⟨_, rfl, by rw [z]; rfl, ⟨false, h2⟩, f2, k2⟩
  · refine q_tabIn (tgt := 91) dX10_block_22 (by omega) (by omega) (by rw [z]; rfl) (by decide) ?_
    refine q_aload_n (pc' := 92) dX10_block_91 rfl rfl ?_
    refine h_getiE (pc' := 95) dX10_block_92 fX10_248 rfl rfl (W2.2.2.1) rfl ?_
    refine q_iret dX10_block_95 rfl rfl ⟨_, rfl, by rw [z]; rfl, ⟨false, h2⟩, f2, k2⟩
  · refine q_tabIn (tgt := 96) dX10_block_22 (by omega) (by omega) (by rw [z]; rfl) (by decide) ?_
    refine q_aload_n (pc' := 97) dX10_block_96 rfl rfl ?_
    refine q_iload_n (pc' := 98) dX10_block_97 rfl rfl ?_
    refine h_callV (pc' := 101) (M' := mX8_splitCost) (As := [_]) dX10_block_98 iX8_splitCost lX10_251 rfl rfl rfl rfl (Nat.le_of_ble_eq_true rfl) (Nat.le_of_ble_eq_true rfl) rfl rfl (c_splitCost_194 h2.pl hj) (fun r m' hq => ?_)
    obtain ⟨rfl, f3, -⟩ := hq
    refine q_iret dX10_block_101 rfl rfl ⟨_, rfl, by rw [z]; rfl, ⟨false, h2.fr f3 (Kp.fr f3 (by decide)) (by decide)⟩, f2.trans (f3.mono (by decide)), k2.trans (Kp.fr f3 (by decide))⟩
  · refine q_tabIn (tgt := 102) dX10_block_22 (by omega) (by omega) (by rw [z]; rfl) (by decide) ?_
    refine q_aload_n (pc' := 103) dX10_block_102 rfl rfl ?_
    refine h_getiE (pc' := 106) dX10_block_103 fX10_254 rfl rfl (W2.2.2.2) rfl ?_
    refine q_iret dX10_block_106 rfl rfl ⟨_, rfl, by rw [z]; rfl, ⟨false, h2⟩, f2, k2⟩
  · refine q_tabIn (tgt := 107) dX10_block_22 (by omega) (by omega) (by rw [z]; rfl) (by decide) ?_
    refine q_aload_n (pc' := 108) dX10_block_107 rfl rfl ?_
    refine q_iload_n (pc' := 109) dX10_block_108 rfl rfl ?_
    refine h_callV (pc' := 112) (M' := mX8_widthOf) (As := [_]) dX10_block_109 iX8_widthOf lX10_257 rfl rfl rfl rfl (Nat.le_of_ble_eq_true rfl) (Nat.le_of_ble_eq_true rfl) rfl rfl (c_widthOf_194 h2.pl hj hwp W2.1) (fun r m' hq => ?_)
    obtain ⟨rfl, f3, k3, -⟩ := hq
    refine q_iret dX10_block_112 rfl rfl ⟨_, rfl, by rw [z]; rfl, ⟨false, h2.fr f3 (k3.mono (by decide)) (by decide)⟩, f2.trans (f3.mono (by decide)), k2.trans (Kp.fr f3 (by decide))⟩
  · refine q_tabIn (tgt := 113) dX10_block_22 (by omega) (by omega) (by rw [z]; rfl) (by decide) ?_
    refine q_aload_n (pc' := 114) dX10_block_113 rfl rfl ?_
    refine h_getr (pc' := 117) dX10_block_114 fX10_260 rfl rfl rfl ?_
    refine h_getiE (pc' := 120) dX10_block_117 fX10_264 rfl rfl ((show _ = nI (s_S n rl xs j).1 from C2.1)) rfl ?_
    refine q_iret dX10_block_120 rfl rfl ⟨_, rfl, by rw [z]; rfl, ⟨false, h2⟩, f2, k2⟩
