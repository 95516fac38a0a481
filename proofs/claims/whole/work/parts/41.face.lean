/-! ===== GuisePack's face: whole ===== -/
def s_whw (n : Nat) (rl : Nat → Nat) (xs : Nat → Int64) (j : Nat) (w : Int) : Int64 := if w = 0 then (s_dm n rl (s_ws xs) j (s_wp n rl (s_ws xs) (s_five n rl xs) j)).1 else if w = 1 then (s_dm n rl (s_ws xs) j (s_wp n rl (s_ws xs) (s_five n rl xs) j)).2.1 else if w = 2 then (s_us (fun i => s_ws xs (j * rl 0 + i) (s_wp n rl (s_ws xs) (s_five n rl xs) j)) (s_sz n rl j) (s_dm n rl (s_ws xs) j (s_wp n rl (s_ws xs) (s_five n rl xs) j)).1 (s_sz n rl j)).1 else -1000000
set_option maxHeartbeats 4000000 in
set_option maxRecDepth 20000 in
theorem c_whole {Z : q_Z} {m : q_Mm} {d : Nat} {n k : Nat} {st t : Bool} {x y : Int32} {rl : Nat → Nat} {xs : Nat → Int64} {nt : Nat → Int32} (h : Cls m st n k rl xs nt) (ht : m.1 0 14 = q_b t) : q_V (q_g Z) mX10_whole (d+6) 0 0 0 [some (.ref (q_ad Z 0)), some (.int x), some (.int y), none] [] (q_W Z m) (q_P Z fun r m2 => r = some (.long (if s_has t (s_nb n rl) x = true then s_whw n rl xs (s_i x) y.toInt else -1000000)) ∧ (∃ st2, Cls m2 st2 n k rl xs nt) ∧ Fr s_S9 m m2 ∧ Kp 0 [16] m m2) := by
  have hr := h.2.2.2.1.2.2.2.2.2.2.2
  have hnb := s_nb_le hr h.2.2.2.1.2.2.1
  refine q_aload_n (pc' := 1) dX10_whole_0 rfl rfl ?_
  refine q_iload_n (pc' := 2) dX10_whole_1 rfl rfl ?_
  refine h_callV (pc' := 5) (M' := mX10_hasBlock) (As := [_]) dX10_whole_2 iX10_hasBlock lX10_218 rfl rfl rfl rfl (Nat.le_of_ble_eq_true rfl) (Nat.le_of_ble_eq_true rfl) rfl rfl (c_hasBlock h.2.2.2.1 ht) (fun r m' hq => ?_)
  obtain ⟨rfl, hmm⟩ := hq
  subst m'
  refine q_if_neB (tgt := 12) (pc' := 8) dX10_whole_5 (by decide) rfl (fun c_5 => ?_) (fun c_5 => ?_)
  rotate_left
  · refine q_ldc2 (pc' := 11) dX10_whole_8 kX10_132 rfl ?_
    refine q_lret dX10_whole_11 rfl ⟨_, rfl, by rw [c_5, if_neg (by decide)], ⟨st, h⟩, Fr.rf, Kp.rf⟩
  obtain ⟨j, hx, hj⟩ := z_has c_5 (by omega)
  have e1 : s_i x = j := by rw [hx, s_i_n (by omega)]
  rw [c_5, if_pos rfl, e1, hx]
  have hto := told ht (by first | exact c_4 | exact s_has_t c_5 | assumption)
  refine q_aload_n (pc' := 13) dX10_whole_12 rfl rfl ?_
  refine h_callV (pc' := 16) (M' := mX10_current) (As := []) dX10_whole_13 iX10_current lX10_162 rfl rfl rfl rfl (Nat.le_of_ble_eq_true rfl) (Nat.le_of_ble_eq_true rfl) rfl rfl (c_cur h hto) (fun r m' hq => ?_)
  obtain ⟨rfl, f1, k1, h1⟩ := hq
  have hwp := s_wp_lt (n := n) hr (s_ws xs) (fun i hi => (h1.five.2.2.2 i hi).1) j
  obtain ⟨m1, hm1⟩ : ∃ z, z = m' := ⟨_, rfl⟩
  subst hm1
  refine q_astore_n (pc' := 17) (lv' := [_, _, _, _]) dX10_whole_16 (by decide) rfl rfl ?_
  refine q_aload_n (pc' := 18) dX10_whole_17 rfl rfl ?_
  refine q_iload_n (pc' := 19) dX10_whole_18 rfl rfl ?_
  refine h_callV (pc' := 22) (M' := mX8_weigh) (As := [_]) dX10_whole_19 iX8_weigh lX10_236 rfl rfl rfl rfl (Nat.le_of_ble_eq_true rfl) (Nat.le_of_ble_eq_true rfl) rfl rfl (c_weigh_194 h1.pl h1.five hj) (fun r m' hq => ?_)
  obtain ⟨rfl, f2, k2, W2, C2, M2⟩ := hq
  have h2 := h1.fr f2 (k2.mono (by decide)) (by decide)
  have k2 : Kp 0 [16] m m' := k1.trans (Kp.fr f2 (by decide))
  have f2 : Fr s_S9 m m' := (f1.mono (by decide)).trans (f2.mono (by decide))
  obtain ⟨m2, hm2⟩ : ∃ z, z = m' := ⟨_, rfl⟩
  subst hm2
  refine q_aload_n (pc' := 23) dX10_whole_22 rfl rfl ?_
  refine q_iload_n (pc' := 24) dX10_whole_23 rfl rfl ?_
  refine q_aload_n (pc' := 25) dX10_whole_24 rfl rfl ?_
  refine h_getiE (pc' := 28) dX10_whole_25 fX10_245 rfl rfl (W2.1) rfl ?_
  refine h_callV (pc' := 31) (M' := mX8_measureBlock) (As := [_, _]) dX10_whole_28 iX8_measureBlock lX10_269 rfl rfl rfl rfl (Nat.le_of_ble_eq_true rfl) (Nat.le_of_ble_eq_true rfl) rfl rfl (c_measureBlock_194 h2.pl hj hwp) (fun r m' hq => ?_)
  obtain ⟨rfl, f3, k3, M3⟩ := hq
  have h3 := h2.fr f3 (k3.mono (by decide)) (by decide)
  have w12 := (k3 12 (by decide)).trans W2.1
  have k3 : Kp 0 [16] m m' := k2.trans (Kp.fr f3 (by decide))
  have f3 : Fr s_S9 m m' := f2.trans (f3.mono (by decide))
  obtain ⟨m3, hm3⟩ : ∃ z, z = m' := ⟨_, rfl⟩
  subst hm3
  refine q_iload_n (pc' := 32) dX10_whole_31 rfl rfl ?_
  by_cases hy : y.toInt < 0 ∨ 2 < y.toInt
  · refine q_tabOut (tgt := 76) dX10_whole_32 hy (by decide) ?_
    refine q_ldc2 (pc' := 79) dX10_whole_76 kX10_132 rfl ?_
    refine q_lret dX10_whole_79 rfl ⟨_, rfl, by unfold s_whw; rw [if_neg (by omega), if_neg (by omega), if_neg (by omega)], ⟨false, h3⟩, f3, k3⟩
  have hy3 : y.toInt = 0 ∨ y.toInt = 1 ∨ y.toInt = 2 := by omega
  rcases hy3 with z | z | z
  · refine q_tabIn (tgt := 60) dX10_whole_32 (by omega) (by omega) (by rw [z]; rfl) (by decide) ?_
    refine q_aload_n (pc' := 61) dX10_whole_60 rfl rfl ?_
    refine h_getjE (pc' := 64) dX10_whole_61 fX10_273 rfl rfl (M3.1) rfl ?_
    refine q_lret dX10_whole_64 rfl ⟨_, rfl, by unfold s_whw; rw [if_pos z], ⟨false, h3⟩, f3, k3⟩
  · refine q_tabIn (tgt := 65) dX10_whole_32 (by omega) (by omega) (by rw [z]; rfl) (by decide) ?_
    refine q_aload_n (pc' := 66) dX10_whole_65 rfl rfl ?_
    refine h_getjE (pc' := 69) dX10_whole_66 fX10_277 rfl rfl (M3.2.1) rfl ?_
    refine q_lret dX10_whole_69 rfl ⟨_, rfl, by unfold s_whw; rw [if_neg (by omega), if_pos z], ⟨false, h3⟩, f3, k3⟩
  · refine q_tabIn (tgt := 70) dX10_whole_32 (by omega) (by omega) (by rw [z]; rfl) (by decide) ?_
    refine q_aload_n (pc' := 71) dX10_whole_70 rfl rfl ?_
    refine q_iload_n (pc' := 72) dX10_whole_71 rfl rfl ?_
    refine h_callV (pc' := 75) (M' := mX8_usualWhole) (As := [_]) dX10_whole_72 iX8_usualWhole lX10_280 rfl rfl rfl rfl (Nat.le_of_ble_eq_true rfl) (Nat.le_of_ble_eq_true rfl) rfl rfl (c_usualWhole_194 (g := fun i => s_ws xs (j * rl 0 + i) (s_wp n rl (s_ws xs) (s_five n rl xs) j)) h3.pl hj hwp w12 M3.1 (fun _ => rfl)) (fun r m' hq => ?_)
    obtain ⟨rfl, hmm⟩ := hq
    subst m'
    refine q_lret dX10_whole_75 rfl ⟨_, rfl, by unfold s_whw; rw [if_neg (by omega), if_neg (by omega), if_pos z], ⟨false, h3⟩, f3, k3⟩
