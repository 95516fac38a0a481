/-! ===== GuisePack's face: about ===== -/
def s_abt (n : Nat) (rl : Nat → Nat) (xs : Nat → Int64) (i : Nat) (w : Int) : Int32 := if w = 0 then q_b (s_fin (xs i)) else if w = 1 then (if s_find (fun p => !decide (s_wv (xs i) p = s_no)) (s_pn (rl 2 + 1) 0) 0 < s_pn (rl 2 + 1) 0 then nI (s_cd (s_find (fun p => !decide (s_wv (xs i) p = s_no)) (s_pn (rl 2 + 1) 0) 0) / 16) else -1) else if w = 2 then nI (s_cnt (fun p => !decide (s_wv (xs i) p = s_no)) (s_pn (rl 2 + 1) 0)) else if w = 3 then nI (i / rl 0) else if w = 4 then s_part (xs i) (rl 3) else if w = 5 then q_b (s_ex n rl xs (s_ws xs) (s_wp n rl (s_ws xs) (s_five n rl xs) (i / rl 0)) (i / rl 0) (s_wf n rl xs (s_ws xs) (s_five n rl xs) (i / rl 0)).1 (i - i / rl 0 * rl 0)) else if w = 6 then nI (s_first xs i) else -1000000
set_option maxHeartbeats 4000000 in
set_option maxRecDepth 20000 in
theorem c_about {Z : q_Z} {m : q_Mm} {d : Nat} {n k : Nat} {st t : Bool} {x y : Int32} {rl : Nat → Nat} {xs : Nat → Int64} {nt : Nat → Int32} (h : Cls m st n k rl xs nt) (ht : m.1 0 14 = q_b t) : q_V (q_g Z) mX10_about (d+6) 0 0 0 [some (.ref (q_ad Z 0)), some (.int x), some (.int y)] [] (q_W Z m) (q_P Z fun r m2 => r = some (.int (if s_has t n x = true then s_abt n rl xs (s_i x) y.toInt else -1000000)) ∧ (∃ st2, Cls m2 st2 n k rl xs nt) ∧ Fr s_S9 m m2 ∧ Kp 0 [16] m m2) := by
  have hr := h.2.2.2.1.2.2.2.2.2.2.2
  have hn := h.2.2.2.1.2.2.1
  have hpn := s_pn_le hr
  refine q_aload_n (pc' := 1) dX10_about_0 rfl rfl ?_
  refine q_iload_n (pc' := 2) dX10_about_1 rfl rfl ?_
  refine h_callV (pc' := 5) (M' := mX10_hasPlace) (As := [_]) dX10_about_2 iX10_hasPlace lX10_144 rfl rfl rfl rfl (Nat.le_of_ble_eq_true rfl) (Nat.le_of_ble_eq_true rfl) rfl rfl (c_hasPlace h.2.2.2.1 ht) (fun r m' hq => ?_)
  obtain ⟨rfl, hmm⟩ := hq
  subst m'
  refine q_if_neB (tgt := 11) (pc' := 8) dX10_about_5 (by decide) rfl (fun c_5 => ?_) (fun c_5 => ?_)
  rotate_left
  · refine q_ldc (pc' := 10) dX10_about_8 kX10_157 rfl ?_
    refine q_iret dX10_about_10 rfl rfl ⟨_, rfl, by rw [c_5, if_neg (by decide)], ⟨st, h⟩, Fr.rf, Kp.rf⟩
  obtain ⟨j, hx, hj⟩ := z_has c_5 (by omega)
  have e1 : s_i x = j := by rw [hx, s_i_n (by omega)]
  rw [c_5, if_pos rfl, e1, hx]
  refine q_iload_n (pc' := 12) dX10_about_11 rfl rfl ?_
  by_cases hy : y.toInt < 0 ∨ 6 < y.toInt
  · refine q_tabOut (tgt := 147) dX10_about_12 hy (by decide) ?_
    refine q_ldc (pc' := 149) dX10_about_147 kX10_157 rfl ?_
    refine q_iret dX10_about_149 rfl rfl ⟨_, rfl, by unfold s_abt; rw [if_neg (by omega), if_neg (by omega), if_neg (by omega), if_neg (by omega), if_neg (by omega), if_neg (by omega), if_neg (by omega)], ⟨st, h⟩, Fr.rf, Kp.rf⟩
  have hy3 : y.toInt = 0 ∨ y.toInt = 1 ∨ y.toInt = 2 ∨ y.toInt = 3 ∨ y.toInt = 4 ∨ y.toInt = 5 ∨ y.toInt = 6 := by omega
  rcases hy3 with z | z | z | z | z | z | z
  · refine q_tabIn (tgt := 56) dX10_about_12 (by omega) (by omega) (by rw [z]; rfl) (by decide) ?_
    rw [show s_abt n rl xs j y.toInt = q_b (s_fin (xs j)) by rw [z]; rfl]
    refine q_aload_n (pc' := 57) dX10_about_56 rfl rfl ?_
    refine h_getr (pc' := 60) dX10_about_57 fX10_45 rfl rfl rfl ?_
    refine h_getr (pc' := 63) dX10_about_60 fX10_154 rfl rfl rfl ?_
    refine q_iload_n (pc' := 64) dX10_about_63 rfl rfl ?_
    refine h_laldE (pc' := 65) dX10_about_64 rfl (rfl) (by omega) (by decide) (h.2.2.2.1.2.2.2.2.1 j hj) rfl ?_
    refine h_callS (pc' := 68) (M' := mX10_isFinite) (As := [_]) dX10_about_65 iX10_isFinite lX10_158 rfl rfl (Nat.le_of_ble_eq_true rfl) (Nat.le_of_ble_eq_true rfl) rfl rfl (c_isFinite) (fun r m' hq => ?_)
    obtain ⟨rfl, hmm⟩ := hq
    subst m'
    refine q_if_eqB (tgt := 75) (pc' := 71) dX10_about_68 (by decide) rfl (fun c_68 => ?_) (fun c_68 => ?_)
    · refine q_iconst (pc' := 76) (v := nI 0) dX10_about_75 rfl rfl ?_
      refine q_iret dX10_about_76 rfl rfl ⟨_, rfl, by rw [c_68]; rfl, ⟨st, h⟩, Fr.rf, Kp.rf⟩
    · refine q_iconst (pc' := 72) (v := nI 1) dX10_about_71 rfl rfl ?_
      refine q_goto (pc' := 76) dX10_about_72 (by decide) ?_
      refine q_iret dX10_about_76 rfl rfl ⟨_, rfl, by rw [c_68]; rfl, ⟨st, h⟩, Fr.rf, Kp.rf⟩
  · refine q_tabIn (tgt := 77) dX10_about_12 (by omega) (by omega) (by rw [z]; rfl) (by decide) ?_
    have hto := told ht (by first | exact c_4 | exact s_has_t c_5 | assumption)
    refine q_aload_n (pc' := 78) dX10_about_77 rfl rfl ?_
    refine q_iload_n (pc' := 79) dX10_about_78 rfl rfl ?_
    refine q_aload_n (pc' := 80) dX10_about_79 rfl rfl ?_
    refine h_callV (pc' := 83) (M' := mX10_current) (As := []) dX10_about_80 iX10_current lX10_162 rfl rfl rfl rfl (Nat.le_of_ble_eq_true rfl) (Nat.le_of_ble_eq_true rfl) rfl rfl (c_cur h hto) (fun r m' hq => ?_)
    obtain ⟨rfl, f1, k1, h1⟩ := hq
    obtain ⟨m1, hm1⟩ : ∃ z, z = m' := ⟨_, rfl⟩
    subst hm1
    refine h_callV (pc' := 86) (M' := mX8_pairs) (As := []) dX10_about_83 iX8_pairs lX10_166 rfl rfl rfl rfl (Nat.le_of_ble_eq_true rfl) (Nat.le_of_ble_eq_true rfl) rfl rfl (c_pairs_194 h1.pl) (fun r m' hq => ?_)
    obtain ⟨rfl, hmm⟩ := hq
    subst m'
    refine h_callV (pc' := 89) (M' := mX10_placesOf) (As := [_, _]) dX10_about_86 iX10_placesOf lX10_169 rfl rfl rfl rfl (Nat.le_of_ble_eq_true rfl) (Nat.le_of_ble_eq_true rfl) rfl rfl (c_placesOf (n := n) h1.2.1 (by omega) hpn (h1.known j hj)) (fun r m' hq => ?_)
    obtain ⟨rfl, hmm⟩ := hq
    subst m'
    refine q_iret dX10_about_89 rfl rfl ⟨_, rfl, by rw [z]; rfl, ⟨false, h1⟩, f1.mono (by decide), k1⟩
  · refine q_tabIn (tgt := 90) dX10_about_12 (by omega) (by omega) (by rw [z]; rfl) (by decide) ?_
    have hto := told ht (by first | exact c_4 | exact s_has_t c_5 | assumption)
    refine q_aload_n (pc' := 91) dX10_about_90 rfl rfl ?_
    refine q_iload_n (pc' := 92) dX10_about_91 rfl rfl ?_
    refine q_aload_n (pc' := 93) dX10_about_92 rfl rfl ?_
    refine h_callV (pc' := 96) (M' := mX10_current) (As := []) dX10_about_93 iX10_current lX10_162 rfl rfl rfl rfl (Nat.le_of_ble_eq_true rfl) (Nat.le_of_ble_eq_true rfl) rfl rfl (c_cur h hto) (fun r m' hq => ?_)
    obtain ⟨rfl, f1, k1, h1⟩ := hq
    obtain ⟨m1, hm1⟩ : ∃ z, z = m' := ⟨_, rfl⟩
    subst hm1
    refine h_callV (pc' := 99) (M' := mX8_pairs) (As := []) dX10_about_96 iX8_pairs lX10_166 rfl rfl rfl rfl (Nat.le_of_ble_eq_true rfl) (Nat.le_of_ble_eq_true rfl) rfl rfl (c_pairs_194 h1.pl) (fun r m' hq => ?_)
    obtain ⟨rfl, hmm⟩ := hq
    subst m'
    refine h_callV (pc' := 102) (M' := mX10_waysOf) (As := [_, _]) dX10_about_99 iX10_waysOf lX10_173 rfl rfl rfl rfl (Nat.le_of_ble_eq_true rfl) (Nat.le_of_ble_eq_true rfl) rfl rfl (c_waysOf (by omega) hpn (h1.known j hj)) (fun r m' hq => ?_)
    obtain ⟨rfl, hmm⟩ := hq
    subst m'
    refine q_iret dX10_about_102 rfl rfl ⟨_, rfl, by rw [z]; rfl, ⟨false, h1⟩, f1.mono (by decide), k1⟩
  · refine q_tabIn (tgt := 103) dX10_about_12 (by omega) (by omega) (by rw [z]; rfl) (by decide) ?_
    have hto := told ht (by first | exact c_4 | exact s_has_t c_5 | assumption)
    refine q_aload_n (pc' := 104) dX10_about_103 rfl rfl ?_
    refine h_callV (pc' := 107) (M' := mX10_current) (As := []) dX10_about_104 iX10_current lX10_162 rfl rfl rfl rfl (Nat.le_of_ble_eq_true rfl) (Nat.le_of_ble_eq_true rfl) rfl rfl (c_cur h hto) (fun r m' hq => ?_)
    obtain ⟨rfl, f1, k1, h1⟩ := hq
    obtain ⟨m1, hm1⟩ : ∃ z, z = m' := ⟨_, rfl⟩
    subst hm1
    refine q_iload_n (pc' := 108) dX10_about_107 rfl rfl ?_
    refine h_callV (pc' := 111) (M' := mX8_blockAt) (As := [_]) dX10_about_108 iX8_blockAt lX10_176 rfl rfl rfl rfl (Nat.le_of_ble_eq_true rfl) (Nat.le_of_ble_eq_true rfl) rfl rfl (c_blockAt_194 h1.pl (by omega)) (fun r m' hq => ?_)
    obtain ⟨rfl, hmm⟩ := hq
    subst m'
    refine q_iret dX10_about_111 rfl rfl ⟨_, rfl, by rw [z]; rfl, ⟨false, h1⟩, f1.mono (by decide), k1⟩
  · refine q_tabIn (tgt := 112) dX10_about_12 (by omega) (by omega) (by rw [z]; rfl) (by decide) ?_
    have hto := told ht (by first | exact c_4 | exact s_has_t c_5 | assumption)
    refine q_aload_n (pc' := 113) dX10_about_112 rfl rfl ?_
    refine h_callV (pc' := 116) (M' := mX10_current) (As := []) dX10_about_113 iX10_current lX10_162 rfl rfl rfl rfl (Nat.le_of_ble_eq_true rfl) (Nat.le_of_ble_eq_true rfl) rfl rfl (c_cur h hto) (fun r m' hq => ?_)
    obtain ⟨rfl, f1, k1, h1⟩ := hq
    obtain ⟨m1, hm1⟩ : ∃ z, z = m' := ⟨_, rfl⟩
    subst hm1
    refine q_iload_n (pc' := 117) dX10_about_116 rfl rfl ?_
    refine h_callV (pc' := 120) (M' := mX8_partAt) (As := [_]) dX10_about_117 iX8_partAt lX10_180 rfl rfl rfl rfl (Nat.le_of_ble_eq_true rfl) (Nat.le_of_ble_eq_true rfl) rfl rfl (c_partAt_194 h1.pl hj) (fun r m' hq => ?_)
    obtain ⟨rfl, hmm⟩ := hq
    subst m'
    refine q_iret dX10_about_120 rfl rfl ⟨_, rfl, by rw [z]; rfl, ⟨false, h1⟩, f1.mono (by decide), k1⟩
  · refine q_tabIn (tgt := 121) dX10_about_12 (by omega) (by omega) (by rw [z]; rfl) (by decide) ?_
    have hto := told ht (by first | exact c_4 | exact s_has_t c_5 | assumption)
    refine q_aload_n (pc' := 122) dX10_about_121 rfl rfl ?_
    refine h_callV (pc' := 125) (M' := mX10_current) (As := []) dX10_about_122 iX10_current lX10_162 rfl rfl rfl rfl (Nat.le_of_ble_eq_true rfl) (Nat.le_of_ble_eq_true rfl) rfl rfl (c_cur h hto) (fun r m' hq => ?_)
    obtain ⟨rfl, f1, k1, h1⟩ := hq
    obtain ⟨m1, hm1⟩ : ∃ z, z = m' := ⟨_, rfl⟩
    subst hm1
    refine q_iload_n (pc' := 126) dX10_about_125 rfl rfl ?_
    refine h_callV (pc' := 129) (M' := mX8_isException) (As := [_]) dX10_about_126 iX8_isException lX10_183 rfl rfl rfl rfl (Nat.le_of_ble_eq_true rfl) (Nat.le_of_ble_eq_true rfl) rfl rfl (c_isException_194 h1.pl h1.five hj) (fun r m' hq => ?_)
    obtain ⟨rfl, f2, k2⟩ := hq
    have h2 := h1.fr f2 (k2.mono (by decide)) (by decide)
    have k2 : Kp 0 [16] m m' := k1.trans (Kp.fr f2 (by decide))
    have f2 : Fr s_S9 m m' := (f1.mono (by decide)).trans (f2.mono (by decide))
    rw [show s_abt n rl xs j y.toInt = q_b (s_ex n rl xs (s_ws xs) (s_wp n rl (s_ws xs) (s_five n rl xs) (j / rl 0)) (j / rl 0) (s_wf n rl xs (s_ws xs) (s_five n rl xs) (j / rl 0)).1 (j - j / rl 0 * rl 0)) by rw [z]; rfl]
    refine q_if_eqB (tgt := 136) (pc' := 132) dX10_about_129 (by decide) rfl (fun c_129 => ?_) (fun c_129 => ?_)
    · refine q_iconst (pc' := 137) (v := nI 0) dX10_about_136 rfl rfl ?_
      refine q_iret dX10_about_137 rfl rfl ⟨_, rfl, by rw [c_129]; rfl, ⟨false, h2⟩, f2, k2⟩
    · refine q_iconst (pc' := 133) (v := nI 1) dX10_about_132 rfl rfl ?_
      refine q_goto (pc' := 137) dX10_about_133 (by decide) ?_
      refine q_iret dX10_about_137 rfl rfl ⟨_, rfl, by rw [c_129]; rfl, ⟨false, h2⟩, f2, k2⟩
  · refine q_tabIn (tgt := 138) dX10_about_12 (by omega) (by omega) (by rw [z]; rfl) (by decide) ?_
    refine q_aload_n (pc' := 139) dX10_about_138 rfl rfl ?_
    refine h_getr (pc' := 142) dX10_about_139 fX10_45 rfl rfl rfl ?_
    refine q_iload_n (pc' := 143) dX10_about_142 rfl rfl ?_
    refine h_callV (pc' := 146) (M' := mX2_firstLike) (As := [_]) dX10_about_143 iX2_firstLike lX10_186 rfl rfl rfl rfl (Nat.le_of_ble_eq_true rfl) (Nat.le_of_ble_eq_true rfl) rfl rfl (c_firstLike h.2.2.2.1 hj) (fun r m' hq => ?_)
    obtain ⟨rfl, hmm⟩ := hq
    subst m'
    refine q_iret dX10_about_146 rfl rfl ⟨_, rfl, by rw [z]; rfl, ⟨st, h⟩, Fr.rf, Kp.rf⟩
