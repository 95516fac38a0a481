/-! ===== BlockWriter, split and whole ===== -/
theorem s_bl8 : ∀ k : Fin 8, s_bl (nI k.1).toInt64 ≤ 3 := by decide +kernel
def s_cx (hi : Nat → Int32) (n : Nat) (x : Int32) : Nat := if s_code hi n x < n then s_code hi n x else 0
theorem z_mx {hi : Nat → Int32} {n : Nat} (x : Int32) (hn : n ≤ 8) : (if s_ci hi n x < nI 0 then nI 0 else s_ci hi n x) = nI (s_cx hi n x) := by
  unfold s_ci s_cx
  by_cases h : s_code hi n x < n
  · rw [if_pos h, if_pos h, if_neg (show ¬ nI (s_code hi n x) < nI 0 from nI_pos (by omega))]
  · rw [if_neg h, if_neg h, if_pos (by decide)]
/-- the bits of the VALUES of a BLOCK that is split: code and low part -/
def s_sb (hi : Nat → Int32) (n : Nat) (ps : Nat → Int32) (y : Nat → Int64) (cb lo : Nat) (q : s_B) : Nat → s_B
  | 0 => q
  | i + 1 => s_bits (y i) lo (s_bits (nI (s_cx hi n (ps i))).toInt64 cb (s_sb hi n ps y cb lo q i))
theorem s_sb_len (hi : Nat → Int32) (n : Nat) (ps : Nat → Int32) (y : Nat → Int64) (cb lo : Nat) (q : s_B) (h : q.2.2 < 8) : ∀ i, (s_sb hi n ps y cb lo q i).1.length * 8 + (s_sb hi n ps y cb lo q i).2.2 = q.1.length * 8 + q.2.2 + i * (cb + lo) ∧ (s_sb hi n ps y cb lo q i).2.2 < 8
  | 0 => by rw [Nat.zero_mul]; exact ⟨rfl, h⟩
  | i + 1 => by
    have ih := s_sb_len hi n ps y cb lo q h i
    have h1 := s_bits_len (nI (s_cx hi n (ps i))).toInt64 cb (s_sb hi n ps y cb lo q i) ih.2
    have h2 := s_bits_len (y i) lo _ h1.2
    rw [s_sb, Nat.add_mul]
    omega
theorem s_chk_congr {f g : Nat → Int32} : ∀ k, (∀ i, i < k → f i = g i) → s_chk f k = s_chk g k
  | 0, _ => rfl
  | k + 1, h => by unfold s_chk; rw [s_chk_congr k (fun i hi => h i (by omega)), h k (by omega)]
set_option maxHeartbeats 4000000 in
set_option maxRecDepth 20000 in
theorem c_splitOut_194 {Z : q_Z} {m : q_Mm} {d : Nat} {n bk k cb : Nat} {hi : Nat → Int32} {B B0 Q1 : List Nat} {P : Nat → Bool} {rl : Nat → Nat} {ys : Nat → Int64} {ws : Nat → Nat → Int64} (hB : Bw m (B, 0, 0)) (hl : B.length ≤ 20) (hP : Pl m 194 n rl ys ws) (hb : bk < s_nb n rl) (h15 : m.1 194 15 = nI (s_mk P (s_sz n rl bk))) (hk : m.1 199 1 = nI k) (hk8 : 1 ≤ k ∧ k ≤ 8) (hhi : ∀ j, j < k → m.2.2.1 200 j = hi j) (hcb : s_bl (nI (k - 1)).toInt64 = cb) (hB0 : B ++ [rl 3] ++ [k] ++ s_hi2 hi k ++ [s_cnt P (s_sz n rl bk)] = B0) (hQ : (s_fill (s_sb hi k (s_ps rl ys bk) (fun i => ys (bk * rl 0 + i)) cb (64 - rl 3) (B0, 0, 0) (s_sz n rl bk))).1 = Q1) : q_V (q_g Z) mX1_splitOut (d+4) 0 0 0 [some (.ref (q_ad Z 212)), some (.ref (q_ad Z 194)), some (.int (nI bk)), none, none, none, none] [] (q_W Z m) (q_P Z fun r m2 => r = none ∧ Fr [212, 8, 9] m m2 ∧ Bw m2 (Q1 ++ s_sx P (s_ps rl ys bk) (s_sz n rl bk), 0, 0)) := by
  have hr := hP.2.2.2.1
  have h3 := hr.2.2.2.1
  have hz := s_nb_in hr hb
  have h16 := s_sz16 (n := n) hr bk
  have hcn := s_cnt_le P (s_sz n rl bk)
  have hcb3 : cb ≤ 3 := hcb ▸ s_bl8 ⟨k - 1, by omega⟩
  have hh2 := s_hi2_len hi
  refine q_aload_n (pc' := 1) dX1_splitOut_0 rfl rfl ?_
  refine h_getr (pc' := 4) dX1_splitOut_1 fX1_107 rfl rfl rfl ?_
  refine q_iconst (pc' := 5) (v := nI 3) dX1_splitOut_4 rfl rfl ?_
  refine h_ialdE (pc' := 6) dX1_splitOut_5 rfl (rfl) (by omega) (by decide) (hP.2.2.1 3 (by decide)) rfl ?_
  refine q_istore_n (pc' := 7) (lv' := [_, _, _, _, _, _, _]) dX1_splitOut_6 (by decide) rfl rfl ?_
  refine q_aload_n (pc' := 8) dX1_splitOut_7 rfl rfl ?_
  refine h_getr (pc' := 11) dX1_splitOut_8 fX1_111 rfl rfl rfl ?_
  refine q_astore (pc' := 13) (lv' := [_, _, _, _, _, _, _]) dX1_splitOut_11 (by decide) rfl rfl ?_
  refine q_aload_n (pc' := 14) dX1_splitOut_13 rfl rfl ?_
  refine h_getr (pc' := 17) dX1_splitOut_14 fX1_9 rfl rfl rfl ?_
  refine q_iload_n (pc' := 18) dX1_splitOut_17 rfl rfl ?_
  refine h_callV (pc' := 21) (M' := mX5_append) (As := [_]) dX1_splitOut_18 iX5_append lX1_30 rfl rfl rfl rfl (Nat.le_of_ble_eq_true rfl) (Nat.le_of_ble_eq_true rfl) rfl rfl (c_append_8 (b := rl 3) hB.1 (by simp only []; omega) (z_b (by omega)) (by omega)) (fun r m' hq => ?_)
  obtain ⟨rfl, f1, O1⟩ := hq
  refine q_aload_n (pc' := 22) dX1_splitOut_21 rfl rfl ?_
  refine h_getr (pc' := 25) dX1_splitOut_22 fX1_9 rfl rfl rfl ?_
  refine q_aload (pc' := 27) dX1_splitOut_25 rfl rfl ?_
  refine h_getiE (pc' := 30) dX1_splitOut_27 fX1_115 rfl rfl ((congrFun (f1.i (by decide)) 1).trans hk) rfl ?_
  refine h_callV (pc' := 33) (M' := mX5_append) (As := [_]) dX1_splitOut_30 iX5_append lX1_30 rfl rfl rfl rfl (Nat.le_of_ble_eq_true rfl) (Nat.le_of_ble_eq_true rfl) rfl rfl (c_append_8 (b := k) O1 (by simp only [List.length_append, List.length_singleton]; omega) (z_b (by omega)) (by omega)) (fun r m' hq => ?_)
  obtain ⟨rfl, f2, O2⟩ := hq
  have f2 := f1.trans f2
  refine q_iconst (pc' := 34) (v := nI 0) dX1_splitOut_33 rfl rfl ?_
  refine q_istore (pc' := 36) (lv' := [_, _, _, _, _, _, _]) dX1_splitOut_34 (by decide) rfl rfl ?_
  suffices h : ∀ c j (m4 : q_Mm), j + c = k → Fr [8, 9] m m4 → Oct m4 8 (B ++ [rl 3] ++ [k] ++ s_hi2 hi j) → q_V (q_g Z) mX1_splitOut (d+4) 0 0 36 [some (.ref (q_ad Z 212)), some (.ref (q_ad Z 194)), some (.int (nI bk)), some (.int (nI (rl 3))), some (.ref (q_ad Z 199)), some (.int (nI j)), none] [] (q_W Z (m4)) (q_P Z fun r m2 => r = none ∧ Fr [212, 8, 9] m m2 ∧ Bw m2 (Q1 ++ s_sx P (s_ps rl ys bk) (s_sz n rl bk), 0, 0)) from h k 0 m' (by omega) f2 (by rw [show B ++ [rl 3] ++ [k] ++ s_hi2 hi 0 = B ++ [rl 3] ++ [k] from List.append_nil _]; exact O2)
  clear f2 f1 O1 O2
  intro c
  induction c with
  | succ c ih =>
    intro j m4 hj f4 O4
    have hjl := hh2 j
    have hb1 := z_by (hi j >>> (nI 8 &&& 31))
    have hb2 := z_by (hi j)
    refine q_iload (pc' := 38) dX1_splitOut_36 rfl rfl ?_
    refine q_aload (pc' := 40) dX1_splitOut_38 rfl rfl ?_
    refine h_getiE (pc' := 43) dX1_splitOut_40 fX1_115 rfl rfl ((congrFun (f4.i (by decide)) 1).trans hk) rfl ?_
    refine q_icmp_geN (tgt := 85) (pc' := 46) dX1_splitOut_43 (by decide) rfl (by omega) (fun c_43 => ?_) (fun c_43 => ?_)
    · omega
    refine q_aload_n (pc' := 47) dX1_splitOut_46 rfl rfl ?_
    refine h_getr (pc' := 50) dX1_splitOut_47 fX1_9 rfl rfl rfl ?_
    refine q_aload (pc' := 52) dX1_splitOut_50 rfl rfl ?_
    refine h_getr (pc' := 55) dX1_splitOut_52 fX1_120 rfl rfl rfl ?_
    refine q_iload (pc' := 57) dX1_splitOut_55 rfl rfl ?_
    refine h_ialdE (pc' := 58) dX1_splitOut_57 rfl (rfl) (by omega) (by decide) ((congrFun (f4.a (by decide)) j).trans (hhi j (by omega))) rfl ?_
    refine q_bipush (pc' := 60) (v := nI 8) dX1_splitOut_58 rfl rfl ?_
    refine q_ishr (pc' := 61) dX1_splitOut_60 rfl ?_
    refine h_callV (pc' := 64) (M' := mX5_append) (As := [_]) dX1_splitOut_61 iX5_append lX1_30 rfl rfl rfl rfl (Nat.le_of_ble_eq_true rfl) (Nat.le_of_ble_eq_true rfl) rfl rfl (c_append_8 O4 (by simp only [List.length_append, List.length_singleton]; omega) hb1.1 hb1.2) (fun r m' hq => ?_)
    obtain ⟨rfl, f5, O5⟩ := hq
    have f5 := f4.trans f5
    refine q_aload_n (pc' := 65) dX1_splitOut_64 rfl rfl ?_
    refine h_getr (pc' := 68) dX1_splitOut_65 fX1_9 rfl rfl rfl ?_
    refine q_aload (pc' := 70) dX1_splitOut_68 rfl rfl ?_
    refine h_getr (pc' := 73) dX1_splitOut_70 fX1_120 rfl rfl rfl ?_
    refine q_iload (pc' := 75) dX1_splitOut_73 rfl rfl ?_
    refine h_ialdE (pc' := 76) dX1_splitOut_75 rfl (rfl) (by omega) (by decide) ((congrFun (f5.a (by decide)) j).trans (hhi j (by omega))) rfl ?_
    refine h_callV (pc' := 79) (M' := mX5_append) (As := [_]) dX1_splitOut_76 iX5_append lX1_30 rfl rfl rfl rfl (Nat.le_of_ble_eq_true rfl) (Nat.le_of_ble_eq_true rfl) rfl rfl (c_append_8 O5 (by simp only [List.length_append, List.length_singleton]; omega) hb2.1 hb2.2) (fun r m' hq => ?_)
    obtain ⟨rfl, f6, O6⟩ := hq
    have f6 := f5.trans f6
    refine q_iincN (pc' := 82) (j := 1) (lv' := [_, _, _, _, _, _, _]) dX1_splitOut_79 rfl (by decide) rfl rfl ?_
    refine q_goto (pc' := 36) dX1_splitOut_82 (by decide) ?_
    refine ih (j + 1) _ (by omega) f6 ?_
    rw [show B ++ [rl 3] ++ [k] ++ s_hi2 hi (j + 1) = B ++ [rl 3] ++ [k] ++ s_hi2 hi j ++ [(hi j >>> (nI 8 &&& 31) &&& nI 255).toBitVec.toNat] ++ [(hi j &&& nI 255).toBitVec.toNat] by simp only [s_hi2, List.append_assoc]]
    exact O6
  | zero =>
  intro j m4 hj f4 O4
  obtain rfl : j = k := by omega
  have hjl := hh2 j
  refine q_iload (pc' := 38) dX1_splitOut_36 rfl rfl ?_
  refine q_aload (pc' := 40) dX1_splitOut_38 rfl rfl ?_
  refine h_getiE (pc' := 43) dX1_splitOut_40 fX1_115 rfl rfl ((congrFun (f4.i (by decide)) 1).trans hk) rfl ?_
  refine q_icmp_geN (tgt := 85) (pc' := 46) dX1_splitOut_43 (by decide) rfl (by omega) (fun c_43 => ?_) (fun c_43 => ?_)
  rotate_left
  · omega
  refine q_aload_n (pc' := 86) dX1_splitOut_85 rfl rfl ?_
  refine h_getr (pc' := 89) dX1_splitOut_86 fX1_9 rfl rfl rfl ?_
  refine q_aload_n (pc' := 90) dX1_splitOut_89 rfl rfl ?_
  refine h_getiE (pc' := 93) dX1_splitOut_90 fX1_86 rfl rfl ((congrFun (f4.i (by decide)) 15).trans h15) rfl ?_
  refine h_callS (pc' := 96) (M' := mJ6_bitCount_0f7a4) (As := [_]) dX1_splitOut_93 iJ6_bitCount_0f7a4 lX1_89 rfl rfl (Nat.le_of_ble_eq_true rfl) (Nat.le_of_ble_eq_true rfl) rfl rfl (c_bitCount) (fun r m' hq => ?_)
  obtain ⟨rfl, hmm⟩ := hq
  subst m'
  rw [s_bc_mk h16]
  refine h_callV (pc' := 99) (M' := mX5_append) (As := [_]) dX1_splitOut_96 iX5_append lX1_30 rfl rfl rfl rfl (Nat.le_of_ble_eq_true rfl) (Nat.le_of_ble_eq_true rfl) rfl rfl (c_append_8 (b := s_cnt P (s_sz n rl bk)) O4 (by simp only [List.length_append, List.length_singleton]; omega) (z_b (by omega)) (by omega)) (fun r m' hq => ?_)
  obtain ⟨rfl, f5, O5⟩ := hq
  have f5 := f4.trans f5
  have B5 := hB.o f5 (by decide) O5
  rw [hB0] at B5
  have hL : B0.length ≤ 39 := by
    rw [← hB0]; simp only [List.length_append, List.length_singleton]; omega
  have f5 : Fr [212, 8, 9] m m' := f5.mono (by decide)
  have hsd := s_sb_len hi j (s_ps rl ys bk) (fun i => ys (bk * rl 0 + i)) cb (64 - rl 3) (B0, 0, 0) (Nat.succ_pos 7)
  have hdl := s_sx_len P (s_ps rl ys bk)
  clear f4 O4 O5
  refine q_iconst (pc' := 100) (v := nI 0) dX1_splitOut_99 rfl rfl ?_
  refine q_istore (pc' := 102) (lv' := [_, _, _, _, _, _, _]) dX1_splitOut_100 (by decide) rfl rfl ?_
  suffices h : ∀ c i (m4 : q_Mm) w1, i + c = s_sz n rl bk → Fr [212, 8, 9] m m4 → Bw m4 (s_sb hi j (s_ps rl ys bk) (fun i => ys (bk * rl 0 + i)) cb (64 - rl 3) (B0, 0, 0) i) → q_V (q_g Z) mX1_splitOut (d+4) 0 0 102 [some (.ref (q_ad Z 212)), some (.ref (q_ad Z 194)), some (.int (nI bk)), some (.int (nI (rl 3))), some (.ref (q_ad Z 199)), some (.int (nI i)), w1] [] (q_W Z (m4)) (q_P Z fun r m2 => r = none ∧ Fr [212, 8, 9] m m2 ∧ Bw m2 (Q1 ++ s_sx P (s_ps rl ys bk) (s_sz n rl bk), 0, 0)) from h (s_sz n rl bk) 0 m' _ (by omega) f5 B5
  clear f5 B5
  intro c
  induction c with
  | succ c ih =>
    intro i m4 w1 hi4 f4 B4
    have hP4 := hP.fr f4 (congrFun (f4.i (by decide)) 4) (by decide) (by decide) (by decide) (by decide)
    have hjw : i * (cb + (64 - rl 3)) ≤ 16 * 63 := Nat.mul_le_mul (by omega) (by omega)
    have hs := hsd i
    simp only [] at hs
    have k4 : m4.1 199 1 = nI j := (congrFun (f4.i (by decide)) 1).trans hk
    refine q_iload (pc' := 104) dX1_splitOut_102 rfl rfl ?_
    refine q_aload_n (pc' := 105) dX1_splitOut_104 rfl rfl ?_
    refine q_iload_n (pc' := 106) dX1_splitOut_105 rfl rfl ?_
    refine h_callV (pc' := 109) (M' := mX8_sizeOf) (As := [_]) dX1_splitOut_106 iX8_sizeOf lX1_33 rfl rfl rfl rfl (Nat.le_of_ble_eq_true rfl) (Nat.le_of_ble_eq_true rfl) rfl rfl (c_sizeOf_194 hP4 hb) (fun r m' hq => ?_)
    obtain ⟨rfl, hmm⟩ := hq
    subst m'
    refine q_icmp_geN (tgt := 167) (pc' := 112) dX1_splitOut_109 (by decide) rfl (by omega) (fun c_109 => ?_) (fun c_109 => ?_)
    · omega
    refine q_aload_n (pc' := 113) dX1_splitOut_112 rfl rfl ?_
    refine q_iload_n (pc' := 114) dX1_splitOut_113 rfl rfl ?_
    refine h_callV (pc' := 117) (M' := mX8_startOf) (As := [_]) dX1_splitOut_114 iX8_startOf lX1_60 rfl rfl rfl rfl (Nat.le_of_ble_eq_true rfl) (Nat.le_of_ble_eq_true rfl) rfl rfl (c_startOf_194 hP4) (fun r m' hq => ?_)
    obtain ⟨rfl, hmm⟩ := hq
    subst m'
    refine q_iload (pc' := 119) dX1_splitOut_117 rfl rfl ?_
    refine q_iaddN (pc' := 120) dX1_splitOut_119 rfl ?_
    refine q_istore (pc' := 122) (lv' := [_, _, _, _, _, _, _]) dX1_splitOut_120 (by decide) rfl rfl ?_
    refine q_aload_n (pc' := 123) dX1_splitOut_122 rfl rfl ?_
    refine q_aload (pc' := 125) dX1_splitOut_123 rfl rfl ?_
    refine q_aload_n (pc' := 126) dX1_splitOut_125 rfl rfl ?_
    refine q_iload (pc' := 128) dX1_splitOut_126 rfl rfl ?_
    refine h_callV (pc' := 131) (M' := mX8_partAt) (As := [_]) dX1_splitOut_128 iX8_partAt lX1_123 rfl rfl rfl rfl (Nat.le_of_ble_eq_true rfl) (Nat.le_of_ble_eq_true rfl) rfl rfl (c_partAt_194 hP4 (by omega)) (fun r m' hq => ?_)
    obtain ⟨rfl, hmm⟩ := hq
    subst m'
    refine h_callV (pc' := 134) (M' := mX6_codeOf) (As := [_]) dX1_splitOut_131 iX6_codeOf lX1_126 rfl rfl rfl rfl (Nat.le_of_ble_eq_true rfl) (Nat.le_of_ble_eq_true rfl) rfl rfl (c_codeOf_199 (hi := hi) k4 hk8.2 (fun j hj => (congrFun (f4.a (by decide)) j).trans (hhi j hj))) (fun r m' hq => ?_)
    obtain ⟨rfl, hmm⟩ := hq
    subst m'
    refine q_iconst (pc' := 135) (v := nI 0) dX1_splitOut_134 rfl rfl ?_
    refine q_mmax (pc' := 138) dX1_splitOut_135 lX1_129 mmax_s mz_i mmax_c (Nat.le_of_ble_eq_true rfl) rfl ?_
    rw [z_mx _ hk8.2]
    refine q_i2l (pc' := 139) dX1_splitOut_138 rfl ?_
    refine q_aload (pc' := 141) dX1_splitOut_139 rfl rfl ?_
    refine h_callV (pc' := 144) (M' := mX6_codeBits) (As := []) dX1_splitOut_141 iX6_codeBits lX1_135 rfl rfl rfl rfl (Nat.le_of_ble_eq_true rfl) (Nat.le_of_ble_eq_true rfl) rfl rfl (c_codeBits_199 k4 hk8.1) (fun r m' hq => ?_)
    obtain ⟨rfl, hmm⟩ := hq
    subst m'
    rw [hcb]
    have hs2 := s_bits_len (nI (s_cx hi j (s_ps rl ys bk i))).toInt64 cb _ hs.2
    refine h_callV (pc' := 147) (M' := mX1_bitsOut) (As := [_, _]) dX1_splitOut_144 iX1_bitsOut lX1_56 rfl rfl rfl rfl (Nat.le_of_ble_eq_true rfl) (Nat.le_of_ble_eq_true rfl) rfl rfl (c_bitsOut B4 (by omega) (by omega)) (fun r m' hq => ?_)
    obtain ⟨rfl, f5, B5⟩ := hq
    have f5 := f4.trans f5
    have hP5 := hP.fr f5 (congrFun (f5.i (by decide)) 4) (by decide) (by decide) (by decide) (by decide)
    obtain ⟨m5, hm5⟩ : ∃ z, z = m' := ⟨_, rfl⟩
    subst hm5
    refine q_aload_n (pc' := 148) dX1_splitOut_147 rfl rfl ?_
    refine q_aload_n (pc' := 149) dX1_splitOut_148 rfl rfl ?_
    refine q_iload (pc' := 151) dX1_splitOut_149 rfl rfl ?_
    refine h_callV (pc' := 154) (M' := mX8_bitsAt) (As := [_]) dX1_splitOut_151 iX8_bitsAt lX1_63 rfl rfl rfl rfl (Nat.le_of_ble_eq_true rfl) (Nat.le_of_ble_eq_true rfl) rfl rfl (c_bitsAt_194 hP5 (by omega)) (fun r m' hq => ?_)
    obtain ⟨rfl, hmm⟩ := hq
    subst m'
    have B5 : Bw m5 (s_bits (nI (s_cx hi j (s_ps rl ys bk i))).toInt64 cb (s_sb hi j (s_ps rl ys bk) (fun i => ys (bk * rl 0 + i)) cb (64 - rl 3) (B0, 0, 0) i)) := B5
    refine q_bipush (pc' := 156) (v := nI 64) dX1_splitOut_154 rfl rfl ?_
    refine q_iload_n (pc' := 157) dX1_splitOut_156 rfl rfl ?_
    refine q_isubN (pc' := 158) dX1_splitOut_157 (by omega) rfl ?_
    refine h_callV (pc' := 161) (M' := mX1_bitsOut) (As := [_, _]) dX1_splitOut_158 iX1_bitsOut lX1_56 rfl rfl rfl rfl (Nat.le_of_ble_eq_true rfl) (Nat.le_of_ble_eq_true rfl) rfl rfl (c_bitsOut B5 (by omega) (by omega)) (fun r m' hq => ?_)
    obtain ⟨rfl, f6, B6⟩ := hq
    refine q_iincN (pc' := 164) (j := 1) (lv' := [_, _, _, _, _, _, _]) dX1_splitOut_161 rfl (by decide) rfl rfl ?_
    refine q_goto (pc' := 102) dX1_splitOut_164 (by decide) ?_
    exact ih (i + 1) _ _ (by omega) (f5.trans f6) B6
  | zero =>
  intro i m4 w1 hi4 f4 B4
  obtain rfl : s_sz n rl bk = i := by omega
  have hP4 := hP.fr f4 (congrFun (f4.i (by decide)) 4) (by decide) (by decide) (by decide) (by decide)
  have hjw : s_sz n rl bk * (cb + (64 - rl 3)) ≤ 16 * 63 := Nat.mul_le_mul (by omega) (by omega)
  have hs := hsd (s_sz n rl bk)
  have hfl := s_fill_len _ hs.2
  simp only [] at hs
  refine q_iload (pc' := 104) dX1_splitOut_102 rfl rfl ?_
  refine q_aload_n (pc' := 105) dX1_splitOut_104 rfl rfl ?_
  refine q_iload_n (pc' := 106) dX1_splitOut_105 rfl rfl ?_
  refine h_callV (pc' := 109) (M' := mX8_sizeOf) (As := [_]) dX1_splitOut_106 iX8_sizeOf lX1_33 rfl rfl rfl rfl (Nat.le_of_ble_eq_true rfl) (Nat.le_of_ble_eq_true rfl) rfl rfl (c_sizeOf_194 hP4 hb) (fun r m' hq => ?_)
  obtain ⟨rfl, hmm⟩ := hq
  subst m'
  refine q_icmp_geN (tgt := 167) (pc' := 112) dX1_splitOut_109 (by decide) rfl (by omega) (fun c_109 => ?_) (fun c_109 => ?_)
  rotate_left
  · omega
  refine q_aload_n (pc' := 168) dX1_splitOut_167 rfl rfl ?_
  refine h_callV (pc' := 171) (M' := mX1_fillingOut) (As := []) dX1_splitOut_168 iX1_fillingOut lX1_104 rfl rfl rfl rfl (Nat.le_of_ble_eq_true rfl) (Nat.le_of_ble_eq_true rfl) rfl rfl (c_fillingOut B4 (by omega)) (fun r m' hq => ?_)
  obtain ⟨rfl, f5, B5⟩ := hq
  have f5 : Fr [212, 8, 9] m m' := f4.trans f5
  have hq3 := hfl.1
  have hq2 := B5.2.2.2.1
  rw [hq3] at hq2
  have hQ2 : s_fill (s_sb hi j (s_ps rl ys bk) (fun i => ys (bk * rl 0 + i)) cb (64 - rl 3) (B0, 0, 0) (s_sz n rl bk)) = (Q1, 0, 0) := Prod.ext hQ (Prod.ext (by simp only []; omega) hq3)
  rw [hQ2] at B5
  have hql : Q1.length ≤ 166 := by have := hfl.2; rw [hQ2] at this; simp only [] at this; omega
  refine q_iconst (pc' := 172) (v := nI 0) dX1_splitOut_171 rfl rfl ?_
  refine q_istore (pc' := 174) (lv' := [_, _, _, _, _, _, _]) dX1_splitOut_172 (by decide) rfl rfl ?_
  suffices h : ∀ c i (m4 : q_Mm) w1, i + c = s_sz n rl bk → Fr [212, 8, 9] m m4 → Bw m4 (Q1 ++ s_sx P (s_ps rl ys bk) i, 0, 0) → q_V (q_g Z) mX1_splitOut (d+4) 0 0 174 [some (.ref (q_ad Z 212)), some (.ref (q_ad Z 194)), some (.int (nI bk)), some (.int (nI (rl 3))), some (.ref (q_ad Z 199)), some (.int (nI i)), w1] [] (q_W Z (m4)) (q_P Z fun r m2 => r = none ∧ Fr [212, 8, 9] m m2 ∧ Bw m2 (Q1 ++ s_sx P (s_ps rl ys bk) (s_sz n rl bk), 0, 0)) from h (s_sz n rl bk) 0 m' _ (by omega) f5 (by rw [show Q1 ++ s_sx P (s_ps rl ys bk) 0 = Q1 from List.append_nil Q1]; exact B5)
  clear f5 B5 f4 B4 hP4
  intro c
  induction c with
  | zero =>
    intro i m4 w1 hi4 f4 B4
    have hP4 := hP.fr f4 (congrFun (f4.i (by decide)) 4) (by decide) (by decide) (by decide) (by decide)
    obtain rfl : s_sz n rl bk = i := by omega
    refine q_iload (pc' := 176) dX1_splitOut_174 rfl rfl ?_
    refine q_aload_n (pc' := 177) dX1_splitOut_176 rfl rfl ?_
    refine q_iload_n (pc' := 178) dX1_splitOut_177 rfl rfl ?_
    refine h_callV (pc' := 181) (M' := mX8_sizeOf) (As := [_]) dX1_splitOut_178 iX8_sizeOf lX1_33 rfl rfl rfl rfl (Nat.le_of_ble_eq_true rfl) (Nat.le_of_ble_eq_true rfl) rfl rfl (c_sizeOf_194 hP4 hb) (fun r m' hq => ?_)
    obtain ⟨rfl, hmm⟩ := hq
    subst m'
    refine q_icmp_geN (tgt := 247) (pc' := 184) dX1_splitOut_181 (by decide) rfl (by omega) (fun c_181 => ?_) (fun c_181 => ?_)
    · refine q_vret dX1_splitOut_247 rfl ⟨_, rfl, rfl, f4, B4⟩
    · omega
  | succ c ih =>
    intro i m4 w1 hi4 f4 B4
    have hP4 := hP.fr f4 (congrFun (f4.i (by decide)) 4) (by decide) (by decide) (by decide) (by decide)
    have hdi := hdl i
    refine q_iload (pc' := 176) dX1_splitOut_174 rfl rfl ?_
    refine q_aload_n (pc' := 177) dX1_splitOut_176 rfl rfl ?_
    refine q_iload_n (pc' := 178) dX1_splitOut_177 rfl rfl ?_
    refine h_callV (pc' := 181) (M' := mX8_sizeOf) (As := [_]) dX1_splitOut_178 iX8_sizeOf lX1_33 rfl rfl rfl rfl (Nat.le_of_ble_eq_true rfl) (Nat.le_of_ble_eq_true rfl) rfl rfl (c_sizeOf_194 hP4 hb) (fun r m' hq => ?_)
    obtain ⟨rfl, hmm⟩ := hq
    subst m'
    refine q_icmp_geN (tgt := 247) (pc' := 184) dX1_splitOut_181 (by decide) rfl (by omega) (fun c_181 => ?_) (fun c_181 => ?_)
    · omega
    refine q_aload_n (pc' := 185) dX1_splitOut_184 rfl rfl ?_
    refine h_getiE (pc' := 188) dX1_splitOut_185 fX1_86 rfl rfl ((congrFun (f4.i (by decide)) 15).trans h15) rfl ?_
    refine q_iload (pc' := 190) dX1_splitOut_188 rfl rfl ?_
    refine q_ishr (pc' := 191) dX1_splitOut_190 rfl ?_
    refine q_iconst (pc' := 192) (v := nI 1) dX1_splitOut_191 rfl rfl ?_
    refine q_iand (pc' := 193) dX1_splitOut_192 rfl ?_
    rw [s_mk_b (by omega) (by omega)]
    by_cases hx : P i = true
    · have e : s_sx P (s_ps rl ys bk) (i + 1) = s_sx P (s_ps rl ys bk) i ++ [i] ++ [(s_ps rl ys bk i >>> (nI 8 &&& 31) &&& nI 255).toBitVec.toNat] ++ [(s_ps rl ys bk i &&& nI 255).toBitVec.toNat] := by rw [s_sx, if_pos hx]
      have hb1 := z_by (s_ps rl ys bk i >>> (nI 8 &&& 31))
      have hb2 := z_by (s_ps rl ys bk i)
      rw [if_pos ⟨by omega, hx⟩]
      refine q_iconst (pc' := 194) (v := nI 1) dX1_splitOut_193 rfl rfl ?_
      refine q_icmp_neN (tgt := 241) (pc' := 197) dX1_splitOut_194 (by decide) rfl (by omega) (fun c_194 => ?_) (fun c_194 => ?_)
      · exact absurd rfl c_194
      refine q_aload_n (pc' := 198) dX1_splitOut_197 rfl rfl ?_
      refine q_aload_n (pc' := 199) dX1_splitOut_198 rfl rfl ?_
      refine q_iload_n (pc' := 200) dX1_splitOut_199 rfl rfl ?_
      refine h_callV (pc' := 203) (M' := mX8_startOf) (As := [_]) dX1_splitOut_200 iX8_startOf lX1_60 rfl rfl rfl rfl (Nat.le_of_ble_eq_true rfl) (Nat.le_of_ble_eq_true rfl) rfl rfl (c_startOf_194 hP4) (fun r m' hq => ?_)
      obtain ⟨rfl, hmm⟩ := hq
      subst m'
      refine q_iload (pc' := 205) dX1_splitOut_203 rfl rfl ?_
      refine q_iaddN (pc' := 206) dX1_splitOut_205 rfl ?_
      refine h_callV (pc' := 209) (M' := mX8_partAt) (As := [_]) dX1_splitOut_206 iX8_partAt lX1_123 rfl rfl rfl rfl (Nat.le_of_ble_eq_true rfl) (Nat.le_of_ble_eq_true rfl) rfl rfl (c_partAt_194 hP4 (by omega)) (fun r m' hq => ?_)
      obtain ⟨rfl, hmm⟩ := hq
      subst m'
      refine q_istore (pc' := 211) (lv' := [_, _, _, _, _, _, _]) dX1_splitOut_209 (by decide) rfl rfl ?_
      refine q_aload_n (pc' := 212) dX1_splitOut_211 rfl rfl ?_
      refine h_getr (pc' := 215) dX1_splitOut_212 fX1_9 rfl rfl rfl ?_
      refine q_iload (pc' := 217) dX1_splitOut_215 rfl rfl ?_
      refine h_callV (pc' := 220) (M' := mX5_append) (As := [_]) dX1_splitOut_217 iX5_append lX1_30 rfl rfl rfl rfl (Nat.le_of_ble_eq_true rfl) (Nat.le_of_ble_eq_true rfl) rfl rfl (c_append_8 (b := i) B4.1 (by simp only [List.length_append]; omega) (z_b (by omega)) (by omega)) (fun r m' hq => ?_)
      obtain ⟨rfl, f5, O5⟩ := hq
      refine q_aload_n (pc' := 221) dX1_splitOut_220 rfl rfl ?_
      refine h_getr (pc' := 224) dX1_splitOut_221 fX1_9 rfl rfl rfl ?_
      refine q_iload (pc' := 226) dX1_splitOut_224 rfl rfl ?_
      refine q_bipush (pc' := 228) (v := nI 8) dX1_splitOut_226 rfl rfl ?_
      refine q_ishr (pc' := 229) dX1_splitOut_228 rfl ?_
      refine h_callV (pc' := 232) (M' := mX5_append) (As := [_]) dX1_splitOut_229 iX5_append lX1_30 rfl rfl rfl rfl (Nat.le_of_ble_eq_true rfl) (Nat.le_of_ble_eq_true rfl) rfl rfl (c_append_8 O5 (by simp only [List.length_append, List.length_singleton]; omega) hb1.1 hb1.2) (fun r m' hq => ?_)
      obtain ⟨rfl, f6, O6⟩ := hq
      have f6 := f5.trans f6
      refine q_aload_n (pc' := 233) dX1_splitOut_232 rfl rfl ?_
      refine h_getr (pc' := 236) dX1_splitOut_233 fX1_9 rfl rfl rfl ?_
      refine q_iload (pc' := 238) dX1_splitOut_236 rfl rfl ?_
      refine h_callV (pc' := 241) (M' := mX5_append) (As := [_]) dX1_splitOut_238 iX5_append lX1_30 rfl rfl rfl rfl (Nat.le_of_ble_eq_true rfl) (Nat.le_of_ble_eq_true rfl) rfl rfl (c_append_8 O6 (by simp only [List.length_append, List.length_singleton]; omega) hb2.1 hb2.2) (fun r m' hq => ?_)
      obtain ⟨rfl, f7, O7⟩ := hq
      have f7 := f6.trans f7
      have B7 := B4.o f7 (by decide) O7
      refine q_iincN (pc' := 244) (j := 1) (lv' := [_, _, _, _, _, _, _]) dX1_splitOut_241 rfl (by decide) rfl rfl ?_
      refine q_goto (pc' := 174) dX1_splitOut_244 (by decide) ?_
      refine ih (i + 1) _ _ (by omega) (f4.trans (f7.mono (by decide))) ?_
      rw [e, show Q1 ++ (s_sx P (s_ps rl ys bk) i ++ [i] ++ [(s_ps rl ys bk i >>> (nI 8 &&& 31) &&& nI 255).toBitVec.toNat] ++ [(s_ps rl ys bk i &&& nI 255).toBitVec.toNat]) = Q1 ++ s_sx P (s_ps rl ys bk) i ++ [i] ++ [(s_ps rl ys bk i >>> (nI 8 &&& 31) &&& nI 255).toBitVec.toNat] ++ [(s_ps rl ys bk i &&& nI 255).toBitVec.toNat] by simp only [List.append_assoc]]
      exact B7
    · have e : s_sx P (s_ps rl ys bk) (i + 1) = s_sx P (s_ps rl ys bk) i := by rw [s_sx, if_neg hx]
      rw [if_neg (fun z => hx z.2)]
      refine q_iconst (pc' := 194) (v := nI 1) dX1_splitOut_193 rfl rfl ?_
      refine q_icmp_neN (tgt := 241) (pc' := 197) dX1_splitOut_194 (by decide) rfl (by omega) (fun c_194 => ?_) (fun c_194 => ?_)
      · refine q_iincN (pc' := 244) (j := 1) (lv' := [_, _, _, _, _, _, _]) dX1_splitOut_241 rfl (by decide) rfl rfl ?_
        refine q_goto (pc' := 174) dX1_splitOut_244 (by decide) ?_
        refine ih (i + 1) _ _ (by omega) f4 ?_
        rw [e]
        exact B4
      · exact absurd c_194 (by decide)
set_option maxHeartbeats 4000000 in
set_option maxRecDepth 20000 in
theorem c_splitOut_203 {Z : q_Z} {m : q_Mm} {d : Nat} {n bk k cb : Nat} {hi : Nat → Int32} {B B0 Q1 : List Nat} {P : Nat → Bool} {rl : Nat → Nat} {ys : Nat → Int64} {ws : Nat → Nat → Int64} (hB : Bw m (B, 0, 0)) (hl : B.length ≤ 20) (hP : Pl m 203 n rl ys ws) (hb : bk < s_nb n rl) (h15 : m.1 203 15 = nI (s_mk P (s_sz n rl bk))) (hk : m.1 208 1 = nI k) (hk8 : 1 ≤ k ∧ k ≤ 8) (hhi : ∀ j, j < k → m.2.2.1 209 j = hi j) (hcb : s_bl (nI (k - 1)).toInt64 = cb) (hB0 : B ++ [rl 3] ++ [k] ++ s_hi2 hi k ++ [s_cnt P (s_sz n rl bk)] = B0) (hQ : (s_fill (s_sb hi k (s_ps rl ys bk) (fun i => ys (bk * rl 0 + i)) cb (64 - rl 3) (B0, 0, 0) (s_sz n rl bk))).1 = Q1) : q_V (q_g Z) mX1_splitOut (d+4) 0 0 0 [some (.ref (q_ad Z 212)), some (.ref (q_ad Z 203)), some (.int (nI bk)), none, none, none, none] [] (q_W Z m) (q_P Z fun r m2 => r = none ∧ Fr [212, 8, 9] m m2 ∧ Bw m2 (Q1 ++ s_sx P (s_ps rl ys bk) (s_sz n rl bk), 0, 0)) := by
  have hr := hP.2.2.2.1
  have h3 := hr.2.2.2.1
  have hz := s_nb_in hr hb
  have h16 := s_sz16 (n := n) hr bk
  have hcn := s_cnt_le P (s_sz n rl bk)
  have hcb3 : cb ≤ 3 := hcb ▸ s_bl8 ⟨k - 1, by omega⟩
  have hh2 := s_hi2_len hi
  refine q_aload_n (pc' := 1) dX1_splitOut_0 rfl rfl ?_
  refine h_getr (pc' := 4) dX1_splitOut_1 fX1_107 rfl rfl rfl ?_
  refine q_iconst (pc' := 5) (v := nI 3) dX1_splitOut_4 rfl rfl ?_
  refine h_ialdE (pc' := 6) dX1_splitOut_5 rfl (rfl) (by omega) (by decide) (hP.2.2.1 3 (by decide)) rfl ?_
  refine q_istore_n (pc' := 7) (lv' := [_, _, _, _, _, _, _]) dX1_splitOut_6 (by decide) rfl rfl ?_
  refine q_aload_n (pc' := 8) dX1_splitOut_7 rfl rfl ?_
  refine h_getr (pc' := 11) dX1_splitOut_8 fX1_111 rfl rfl rfl ?_
  refine q_astore (pc' := 13) (lv' := [_, _, _, _, _, _, _]) dX1_splitOut_11 (by decide) rfl rfl ?_
  refine q_aload_n (pc' := 14) dX1_splitOut_13 rfl rfl ?_
  refine h_getr (pc' := 17) dX1_splitOut_14 fX1_9 rfl rfl rfl ?_
  refine q_iload_n (pc' := 18) dX1_splitOut_17 rfl rfl ?_
  refine h_callV (pc' := 21) (M' := mX5_append) (As := [_]) dX1_splitOut_18 iX5_append lX1_30 rfl rfl rfl rfl (Nat.le_of_ble_eq_true rfl) (Nat.le_of_ble_eq_true rfl) rfl rfl (c_append_8 (b := rl 3) hB.1 (by simp only []; omega) (z_b (by omega)) (by omega)) (fun r m' hq => ?_)
  obtain ⟨rfl, f1, O1⟩ := hq
  refine q_aload_n (pc' := 22) dX1_splitOut_21 rfl rfl ?_
  refine h_getr (pc' := 25) dX1_splitOut_22 fX1_9 rfl rfl rfl ?_
  refine q_aload (pc' := 27) dX1_splitOut_25 rfl rfl ?_
  refine h_getiE (pc' := 30) dX1_splitOut_27 fX1_115 rfl rfl ((congrFun (f1.i (by decide)) 1).trans hk) rfl ?_
  refine h_callV (pc' := 33) (M' := mX5_append) (As := [_]) dX1_splitOut_30 iX5_append lX1_30 rfl rfl rfl rfl (Nat.le_of_ble_eq_true rfl) (Nat.le_of_ble_eq_true rfl) rfl rfl (c_append_8 (b := k) O1 (by simp only [List.length_append, List.length_singleton]; omega) (z_b (by omega)) (by omega)) (fun r m' hq => ?_)
  obtain ⟨rfl, f2, O2⟩ := hq
  have f2 := f1.trans f2
  refine q_iconst (pc' := 34) (v := nI 0) dX1_splitOut_33 rfl rfl ?_
  refine q_istore (pc' := 36) (lv' := [_, _, _, _, _, _, _]) dX1_splitOut_34 (by decide) rfl rfl ?_
  suffices h : ∀ c j (m4 : q_Mm), j + c = k → Fr [8, 9] m m4 → Oct m4 8 (B ++ [rl 3] ++ [k] ++ s_hi2 hi j) → q_V (q_g Z) mX1_splitOut (d+4) 0 0 36 [some (.ref (q_ad Z 212)), some (.ref (q_ad Z 203)), some (.int (nI bk)), some (.int (nI (rl 3))), some (.ref (q_ad Z 208)), some (.int (nI j)), none] [] (q_W Z (m4)) (q_P Z fun r m2 => r = none ∧ Fr [212, 8, 9] m m2 ∧ Bw m2 (Q1 ++ s_sx P (s_ps rl ys bk) (s_sz n rl bk), 0, 0)) from h k 0 m' (by omega) f2 (by rw [show B ++ [rl 3] ++ [k] ++ s_hi2 hi 0 = B ++ [rl 3] ++ [k] from List.append_nil _]; exact O2)
  clear f2 f1 O1 O2
  intro c
  induction c with
  | succ c ih =>
    intro j m4 hj f4 O4
    have hjl := hh2 j
    have hb1 := z_by (hi j >>> (nI 8 &&& 31))
    have hb2 := z_by (hi j)
    refine q_iload (pc' := 38) dX1_splitOut_36 rfl rfl ?_
    refine q_aload (pc' := 40) dX1_splitOut_38 rfl rfl ?_
    refine h_getiE (pc' := 43) dX1_splitOut_40 fX1_115 rfl rfl ((congrFun (f4.i (by decide)) 1).trans hk) rfl ?_
    refine q_icmp_geN (tgt := 85) (pc' := 46) dX1_splitOut_43 (by decide) rfl (by omega) (fun c_43 => ?_) (fun c_43 => ?_)
    · omega
    refine q_aload_n (pc' := 47) dX1_splitOut_46 rfl rfl ?_
    refine h_getr (pc' := 50) dX1_splitOut_47 fX1_9 rfl rfl rfl ?_
    refine q_aload (pc' := 52) dX1_splitOut_50 rfl rfl ?_
    refine h_getr (pc' := 55) dX1_splitOut_52 fX1_120 rfl rfl rfl ?_
    refine q_iload (pc' := 57) dX1_splitOut_55 rfl rfl ?_
    refine h_ialdE (pc' := 58) dX1_splitOut_57 rfl (rfl) (by omega) (by decide) ((congrFun (f4.a (by decide)) j).trans (hhi j (by omega))) rfl ?_
    refine q_bipush (pc' := 60) (v := nI 8) dX1_splitOut_58 rfl rfl ?_
    refine q_ishr (pc' := 61) dX1_splitOut_60 rfl ?_
    refine h_callV (pc' := 64) (M' := mX5_append) (As := [_]) dX1_splitOut_61 iX5_append lX1_30 rfl rfl rfl rfl (Nat.le_of_ble_eq_true rfl) (Nat.le_of_ble_eq_true rfl) rfl rfl (c_append_8 O4 (by simp only [List.length_append, List.length_singleton]; omega) hb1.1 hb1.2) (fun r m' hq => ?_)
    obtain ⟨rfl, f5, O5⟩ := hq
    have f5 := f4.trans f5
    refine q_aload_n (pc' := 65) dX1_splitOut_64 rfl rfl ?_
    refine h_getr (pc' := 68) dX1_splitOut_65 fX1_9 rfl rfl rfl ?_
    refine q_aload (pc' := 70) dX1_splitOut_68 rfl rfl ?_
    refine h_getr (pc' := 73) dX1_splitOut_70 fX1_120 rfl rfl rfl ?_
    refine q_iload (pc' := 75) dX1_splitOut_73 rfl rfl ?_
    refine h_ialdE (pc' := 76) dX1_splitOut_75 rfl (rfl) (by omega) (by decide) ((congrFun (f5.a (by decide)) j).trans (hhi j (by omega))) rfl ?_
    refine h_callV (pc' := 79) (M' := mX5_append) (As := [_]) dX1_splitOut_76 iX5_append lX1_30 rfl rfl rfl rfl (Nat.le_of_ble_eq_true rfl) (Nat.le_of_ble_eq_true rfl) rfl rfl (c_append_8 O5 (by simp only [List.length_append, List.length_singleton]; omega) hb2.1 hb2.2) (fun r m' hq => ?_)
    obtain ⟨rfl, f6, O6⟩ := hq
    have f6 := f5.trans f6
    refine q_iincN (pc' := 82) (j := 1) (lv' := [_, _, _, _, _, _, _]) dX1_splitOut_79 rfl (by decide) rfl rfl ?_
    refine q_goto (pc' := 36) dX1_splitOut_82 (by decide) ?_
    refine ih (j + 1) _ (by omega) f6 ?_
    rw [show B ++ [rl 3] ++ [k] ++ s_hi2 hi (j + 1) = B ++ [rl 3] ++ [k] ++ s_hi2 hi j ++ [(hi j >>> (nI 8 &&& 31) &&& nI 255).toBitVec.toNat] ++ [(hi j &&& nI 255).toBitVec.toNat] by simp only [s_hi2, List.append_assoc]]
    exact O6
  | zero =>
  intro j m4 hj f4 O4
  obtain rfl : j = k := by omega
  have hjl := hh2 j
  refine q_iload (pc' := 38) dX1_splitOut_36 rfl rfl ?_
  refine q_aload (pc' := 40) dX1_splitOut_38 rfl rfl ?_
  refine h_getiE (pc' := 43) dX1_splitOut_40 fX1_115 rfl rfl ((congrFun (f4.i (by decide)) 1).trans hk) rfl ?_
  refine q_icmp_geN (tgt := 85) (pc' := 46) dX1_splitOut_43 (by decide) rfl (by omega) (fun c_43 => ?_) (fun c_43 => ?_)
  rotate_left
  · omega
  refine q_aload_n (pc' := 86) dX1_splitOut_85 rfl rfl ?_
  refine h_getr (pc' := 89) dX1_splitOut_86 fX1_9 rfl rfl rfl ?_
  refine q_aload_n (pc' := 90) dX1_splitOut_89 rfl rfl ?_
  refine h_getiE (pc' := 93) dX1_splitOut_90 fX1_86 rfl rfl ((congrFun (f4.i (by decide)) 15).trans h15) rfl ?_
  refine h_callS (pc' := 96) (M' := mJ6_bitCount_0f7a4) (As := [_]) dX1_splitOut_93 iJ6_bitCount_0f7a4 lX1_89 rfl rfl (Nat.le_of_ble_eq_true rfl) (Nat.le_of_ble_eq_true rfl) rfl rfl (c_bitCount) (fun r m' hq => ?_)
  obtain ⟨rfl, hmm⟩ := hq
  subst m'
  rw [s_bc_mk h16]
  refine h_callV (pc' := 99) (M' := mX5_append) (As := [_]) dX1_splitOut_96 iX5_append lX1_30 rfl rfl rfl rfl (Nat.le_of_ble_eq_true rfl) (Nat.le_of_ble_eq_true rfl) rfl rfl (c_append_8 (b := s_cnt P (s_sz n rl bk)) O4 (by simp only [List.length_append, List.length_singleton]; omega) (z_b (by omega)) (by omega)) (fun r m' hq => ?_)
  obtain ⟨rfl, f5, O5⟩ := hq
  have f5 := f4.trans f5
  have B5 := hB.o f5 (by decide) O5
  rw [hB0] at B5
  have hL : B0.length ≤ 39 := by
    rw [← hB0]; simp only [List.length_append, List.length_singleton]; omega
  have f5 : Fr [212, 8, 9] m m' := f5.mono (by decide)
  have hsd := s_sb_len hi j (s_ps rl ys bk) (fun i => ys (bk * rl 0 + i)) cb (64 - rl 3) (B0, 0, 0) (Nat.succ_pos 7)
  have hdl := s_sx_len P (s_ps rl ys bk)
  clear f4 O4 O5
  refine q_iconst (pc' := 100) (v := nI 0) dX1_splitOut_99 rfl rfl ?_
  refine q_istore (pc' := 102) (lv' := [_, _, _, _, _, _, _]) dX1_splitOut_100 (by decide) rfl rfl ?_
  suffices h : ∀ c i (m4 : q_Mm) w1, i + c = s_sz n rl bk → Fr [212, 8, 9] m m4 → Bw m4 (s_sb hi j (s_ps rl ys bk) (fun i => ys (bk * rl 0 + i)) cb (64 - rl 3) (B0, 0, 0) i) → q_V (q_g Z) mX1_splitOut (d+4) 0 0 102 [some (.ref (q_ad Z 212)), some (.ref (q_ad Z 203)), some (.int (nI bk)), some (.int (nI (rl 3))), some (.ref (q_ad Z 208)), some (.int (nI i)), w1] [] (q_W Z (m4)) (q_P Z fun r m2 => r = none ∧ Fr [212, 8, 9] m m2 ∧ Bw m2 (Q1 ++ s_sx P (s_ps rl ys bk) (s_sz n rl bk), 0, 0)) from h (s_sz n rl bk) 0 m' _ (by omega) f5 B5
  clear f5 B5
  intro c
  induction c with
  | succ c ih =>
    intro i m4 w1 hi4 f4 B4
    have hP4 := hP.fr f4 (congrFun (f4.i (by decide)) 4) (by decide) (by decide) (by decide) (by decide)
    have hjw : i * (cb + (64 - rl 3)) ≤ 16 * 63 := Nat.mul_le_mul (by omega) (by omega)
    have hs := hsd i
    simp only [] at hs
    have k4 : m4.1 208 1 = nI j := (congrFun (f4.i (by decide)) 1).trans hk
    refine q_iload (pc' := 104) dX1_splitOut_102 rfl rfl ?_
    refine q_aload_n (pc' := 105) dX1_splitOut_104 rfl rfl ?_
    refine q_iload_n (pc' := 106) dX1_splitOut_105 rfl rfl ?_
    refine h_callV (pc' := 109) (M' := mX8_sizeOf) (As := [_]) dX1_splitOut_106 iX8_sizeOf lX1_33 rfl rfl rfl rfl (Nat.le_of_ble_eq_true rfl) (Nat.le_of_ble_eq_true rfl) rfl rfl (c_sizeOf_203 hP4 hb) (fun r m' hq => ?_)
    obtain ⟨rfl, hmm⟩ := hq
    subst m'
    refine q_icmp_geN (tgt := 167) (pc' := 112) dX1_splitOut_109 (by decide) rfl (by omega) (fun c_109 => ?_) (fun c_109 => ?_)
    · omega
    refine q_aload_n (pc' := 113) dX1_splitOut_112 rfl rfl ?_
    refine q_iload_n (pc' := 114) dX1_splitOut_113 rfl rfl ?_
    refine h_callV (pc' := 117) (M' := mX8_startOf) (As := [_]) dX1_splitOut_114 iX8_startOf lX1_60 rfl rfl rfl rfl (Nat.le_of_ble_eq_true rfl) (Nat.le_of_ble_eq_true rfl) rfl rfl (c_startOf_203 hP4) (fun r m' hq => ?_)
    obtain ⟨rfl, hmm⟩ := hq
    subst m'
    refine q_iload (pc' := 119) dX1_splitOut_117 rfl rfl ?_
    refine q_iaddN (pc' := 120) dX1_splitOut_119 rfl ?_
    refine q_istore (pc' := 122) (lv' := [_, _, _, _, _, _, _]) dX1_splitOut_120 (by decide) rfl rfl ?_
    refine q_aload_n (pc' := 123) dX1_splitOut_122 rfl rfl ?_
    refine q_aload (pc' := 125) dX1_splitOut_123 rfl rfl ?_
    refine q_aload_n (pc' := 126) dX1_splitOut_125 rfl rfl ?_
    refine q_iload (pc' := 128) dX1_splitOut_126 rfl rfl ?_
    refine h_callV (pc' := 131) (M' := mX8_partAt) (As := [_]) dX1_splitOut_128 iX8_partAt lX1_123 rfl rfl rfl rfl (Nat.le_of_ble_eq_true rfl) (Nat.le_of_ble_eq_true rfl) rfl rfl (c_partAt_203 hP4 (by omega)) (fun r m' hq => ?_)
    obtain ⟨rfl, hmm⟩ := hq
    subst m'
    refine h_callV (pc' := 134) (M' := mX6_codeOf) (As := [_]) dX1_splitOut_131 iX6_codeOf lX1_126 rfl rfl rfl rfl (Nat.le_of_ble_eq_true rfl) (Nat.le_of_ble_eq_true rfl) rfl rfl (c_codeOf_208 (hi := hi) k4 hk8.2 (fun j hj => (congrFun (f4.a (by decide)) j).trans (hhi j hj))) (fun r m' hq => ?_)
    obtain ⟨rfl, hmm⟩ := hq
    subst m'
    refine q_iconst (pc' := 135) (v := nI 0) dX1_splitOut_134 rfl rfl ?_
    refine q_mmax (pc' := 138) dX1_splitOut_135 lX1_129 mmax_s mz_i mmax_c (Nat.le_of_ble_eq_true rfl) rfl ?_
    rw [z_mx _ hk8.2]
    refine q_i2l (pc' := 139) dX1_splitOut_138 rfl ?_
    refine q_aload (pc' := 141) dX1_splitOut_139 rfl rfl ?_
    refine h_callV (pc' := 144) (M' := mX6_codeBits) (As := []) dX1_splitOut_141 iX6_codeBits lX1_135 rfl rfl rfl rfl (Nat.le_of_ble_eq_true rfl) (Nat.le_of_ble_eq_true rfl) rfl rfl (c_codeBits_208 k4 hk8.1) (fun r m' hq => ?_)
    obtain ⟨rfl, hmm⟩ := hq
    subst m'
    rw [hcb]
    have hs2 := s_bits_len (nI (s_cx hi j (s_ps rl ys bk i))).toInt64 cb _ hs.2
    refine h_callV (pc' := 147) (M' := mX1_bitsOut) (As := [_, _]) dX1_splitOut_144 iX1_bitsOut lX1_56 rfl rfl rfl rfl (Nat.le_of_ble_eq_true rfl) (Nat.le_of_ble_eq_true rfl) rfl rfl (c_bitsOut B4 (by omega) (by omega)) (fun r m' hq => ?_)
    obtain ⟨rfl, f5, B5⟩ := hq
    have f5 := f4.trans f5
    have hP5 := hP.fr f5 (congrFun (f5.i (by decide)) 4) (by decide) (by decide) (by decide) (by decide)
    obtain ⟨m5, hm5⟩ : ∃ z, z = m' := ⟨_, rfl⟩
    subst hm5
    refine q_aload_n (pc' := 148) dX1_splitOut_147 rfl rfl ?_
    refine q_aload_n (pc' := 149) dX1_splitOut_148 rfl rfl ?_
    refine q_iload (pc' := 151) dX1_splitOut_149 rfl rfl ?_
    refine h_callV (pc' := 154) (M' := mX8_bitsAt) (As := [_]) dX1_splitOut_151 iX8_bitsAt lX1_63 rfl rfl rfl rfl (Nat.le_of_ble_eq_true rfl) (Nat.le_of_ble_eq_true rfl) rfl rfl (c_bitsAt_203 hP5 (by omega)) (fun r m' hq => ?_)
    obtain ⟨rfl, hmm⟩ := hq
    subst m'
    have B5 : Bw m5 (s_bits (nI (s_cx hi j (s_ps rl ys bk i))).toInt64 cb (s_sb hi j (s_ps rl ys bk) (fun i => ys (bk * rl 0 + i)) cb (64 - rl 3) (B0, 0, 0) i)) := B5
    refine q_bipush (pc' := 156) (v := nI 64) dX1_splitOut_154 rfl rfl ?_
    refine q_iload_n (pc' := 157) dX1_splitOut_156 rfl rfl ?_
    refine q_isubN (pc' := 158) dX1_splitOut_157 (by omega) rfl ?_
    refine h_callV (pc' := 161) (M' := mX1_bitsOut) (As := [_, _]) dX1_splitOut_158 iX1_bitsOut lX1_56 rfl rfl rfl rfl (Nat.le_of_ble_eq_true rfl) (Nat.le_of_ble_eq_true rfl) rfl rfl (c_bitsOut B5 (by omega) (by omega)) (fun r m' hq => ?_)
    obtain ⟨rfl, f6, B6⟩ := hq
    refine q_iincN (pc' := 164) (j := 1) (lv' := [_, _, _, _, _, _, _]) dX1_splitOut_161 rfl (by decide) rfl rfl ?_
    refine q_goto (pc' := 102) dX1_splitOut_164 (by decide) ?_
    exact ih (i + 1) _ _ (by omega) (f5.trans f6) B6
  | zero =>
  intro i m4 w1 hi4 f4 B4
  obtain rfl : s_sz n rl bk = i := by omega
  have hP4 := hP.fr f4 (congrFun (f4.i (by decide)) 4) (by decide) (by decide) (by decide) (by decide)
  have hjw : s_sz n rl bk * (cb + (64 - rl 3)) ≤ 16 * 63 := Nat.mul_le_mul (by omega) (by omega)
  have hs := hsd (s_sz n rl bk)
  have hfl := s_fill_len _ hs.2
  simp only [] at hs
  refine q_iload (pc' := 104) dX1_splitOut_102 rfl rfl ?_
  refine q_aload_n (pc' := 105) dX1_splitOut_104 rfl rfl ?_
  refine q_iload_n (pc' := 106) dX1_splitOut_105 rfl rfl ?_
  refine h_callV (pc' := 109) (M' := mX8_sizeOf) (As := [_]) dX1_splitOut_106 iX8_sizeOf lX1_33 rfl rfl rfl rfl (Nat.le_of_ble_eq_true rfl) (Nat.le_of_ble_eq_true rfl) rfl rfl (c_sizeOf_203 hP4 hb) (fun r m' hq => ?_)
  obtain ⟨rfl, hmm⟩ := hq
  subst m'
  refine q_icmp_geN (tgt := 167) (pc' := 112) dX1_splitOut_109 (by decide) rfl (by omega) (fun c_109 => ?_) (fun c_109 => ?_)
  rotate_left
  · omega
  refine q_aload_n (pc' := 168) dX1_splitOut_167 rfl rfl ?_
  refine h_callV (pc' := 171) (M' := mX1_fillingOut) (As := []) dX1_splitOut_168 iX1_fillingOut lX1_104 rfl rfl rfl rfl (Nat.le_of_ble_eq_true rfl) (Nat.le_of_ble_eq_true rfl) rfl rfl (c_fillingOut B4 (by omega)) (fun r m' hq => ?_)
  obtain ⟨rfl, f5, B5⟩ := hq
  have f5 : Fr [212, 8, 9] m m' := f4.trans f5
  have hq3 := hfl.1
  have hq2 := B5.2.2.2.1
  rw [hq3] at hq2
  have hQ2 : s_fill (s_sb hi j (s_ps rl ys bk) (fun i => ys (bk * rl 0 + i)) cb (64 - rl 3) (B0, 0, 0) (s_sz n rl bk)) = (Q1, 0, 0) := Prod.ext hQ (Prod.ext (by simp only []; omega) hq3)
  rw [hQ2] at B5
  have hql : Q1.length ≤ 166 := by have := hfl.2; rw [hQ2] at this; simp only [] at this; omega
  refine q_iconst (pc' := 172) (v := nI 0) dX1_splitOut_171 rfl rfl ?_
  refine q_istore (pc' := 174) (lv' := [_, _, _, _, _, _, _]) dX1_splitOut_172 (by decide) rfl rfl ?_
  suffices h : ∀ c i (m4 : q_Mm) w1, i + c = s_sz n rl bk → Fr [212, 8, 9] m m4 → Bw m4 (Q1 ++ s_sx P (s_ps rl ys bk) i, 0, 0) → q_V (q_g Z) mX1_splitOut (d+4) 0 0 174 [some (.ref (q_ad Z 212)), some (.ref (q_ad Z 203)), some (.int (nI bk)), some (.int (nI (rl 3))), some (.ref (q_ad Z 208)), some (.int (nI i)), w1] [] (q_W Z (m4)) (q_P Z fun r m2 => r = none ∧ Fr [212, 8, 9] m m2 ∧ Bw m2 (Q1 ++ s_sx P (s_ps rl ys bk) (s_sz n rl bk), 0, 0)) from h (s_sz n rl bk) 0 m' _ (by omega) f5 (by rw [show Q1 ++ s_sx P (s_ps rl ys bk) 0 = Q1 from List.append_nil Q1]; exact B5)
  clear f5 B5 f4 B4 hP4
  intro c
  induction c with
  | zero =>
    intro i m4 w1 hi4 f4 B4
    have hP4 := hP.fr f4 (congrFun (f4.i (by decide)) 4) (by decide) (by decide) (by decide) (by decide)
    obtain rfl : s_sz n rl bk = i := by omega
    refine q_iload (pc' := 176) dX1_splitOut_174 rfl rfl ?_
    refine q_aload_n (pc' := 177) dX1_splitOut_176 rfl rfl ?_
    refine q_iload_n (pc' := 178) dX1_splitOut_177 rfl rfl ?_
    refine h_callV (pc' := 181) (M' := mX8_sizeOf) (As := [_]) dX1_splitOut_178 iX8_sizeOf lX1_33 rfl rfl rfl rfl (Nat.le_of_ble_eq_true rfl) (Nat.le_of_ble_eq_true rfl) rfl rfl (c_sizeOf_203 hP4 hb) (fun r m' hq => ?_)
    obtain ⟨rfl, hmm⟩ := hq
    subst m'
    refine q_icmp_geN (tgt := 247) (pc' := 184) dX1_splitOut_181 (by decide) rfl (by omega) (fun c_181 => ?_) (fun c_181 => ?_)
    · refine q_vret dX1_splitOut_247 rfl ⟨_, rfl, rfl, f4, B4⟩
    · omega
  | succ c ih =>
    intro i m4 w1 hi4 f4 B4
    have hP4 := hP.fr f4 (congrFun (f4.i (by decide)) 4) (by decide) (by decide) (by decide) (by decide)
    have hdi := hdl i
    refine q_iload (pc' := 176) dX1_splitOut_174 rfl rfl ?_
    refine q_aload_n (pc' := 177) dX1_splitOut_176 rfl rfl ?_
    refine q_iload_n (pc' := 178) dX1_splitOut_177 rfl rfl ?_
    refine h_callV (pc' := 181) (M' := mX8_sizeOf) (As := [_]) dX1_splitOut_178 iX8_sizeOf lX1_33 rfl rfl rfl rfl (Nat.le_of_ble_eq_true rfl) (Nat.le_of_ble_eq_true rfl) rfl rfl (c_sizeOf_203 hP4 hb) (fun r m' hq => ?_)
    obtain ⟨rfl, hmm⟩ := hq
    subst m'
    refine q_icmp_geN (tgt := 247) (pc' := 184) dX1_splitOut_181 (by decide) rfl (by omega) (fun c_181 => ?_) (fun c_181 => ?_)
    · omega
    refine q_aload_n (pc' := 185) dX1_splitOut_184 rfl rfl ?_
    refine h_getiE (pc' := 188) dX1_splitOut_185 fX1_86 rfl rfl ((congrFun (f4.i (by decide)) 15).trans h15) rfl ?_
    refine q_iload (pc' := 190) dX1_splitOut_188 rfl rfl ?_
    refine q_ishr (pc' := 191) dX1_splitOut_190 rfl ?_
    refine q_iconst (pc' := 192) (v := nI 1) dX1_splitOut_191 rfl rfl ?_
    refine q_iand (pc' := 193) dX1_splitOut_192 rfl ?_
    rw [s_mk_b (by omega) (by omega)]
    by_cases hx : P i = true
    · have e : s_sx P (s_ps rl ys bk) (i + 1) = s_sx P (s_ps rl ys bk) i ++ [i] ++ [(s_ps rl ys bk i >>> (nI 8 &&& 31) &&& nI 255).toBitVec.toNat] ++ [(s_ps rl ys bk i &&& nI 255).toBitVec.toNat] := by rw [s_sx, if_pos hx]
      have hb1 := z_by (s_ps rl ys bk i >>> (nI 8 &&& 31))
      have hb2 := z_by (s_ps rl ys bk i)
      rw [if_pos ⟨by omega, hx⟩]
      refine q_iconst (pc' := 194) (v := nI 1) dX1_splitOut_193 rfl rfl ?_
      refine q_icmp_neN (tgt := 241) (pc' := 197) dX1_splitOut_194 (by decide) rfl (by omega) (fun c_194 => ?_) (fun c_194 => ?_)
      · exact absurd rfl c_194
      refine q_aload_n (pc' := 198) dX1_splitOut_197 rfl rfl ?_
      refine q_aload_n (pc' := 199) dX1_splitOut_198 rfl rfl ?_
      refine q_iload_n (pc' := 200) dX1_splitOut_199 rfl rfl ?_
      refine h_callV (pc' := 203) (M' := mX8_startOf) (As := [_]) dX1_splitOut_200 iX8_startOf lX1_60 rfl rfl rfl rfl (Nat.le_of_ble_eq_true rfl) (Nat.le_of_ble_eq_true rfl) rfl rfl (c_startOf_203 hP4) (fun r m' hq => ?_)
      obtain ⟨rfl, hmm⟩ := hq
      subst m'
      refine q_iload (pc' := 205) dX1_splitOut_203 rfl rfl ?_
      refine q_iaddN (pc' := 206) dX1_splitOut_205 rfl ?_
      refine h_callV (pc' := 209) (M' := mX8_partAt) (As := [_]) dX1_splitOut_206 iX8_partAt lX1_123 rfl rfl rfl rfl (Nat.le_of_ble_eq_true rfl) (Nat.le_of_ble_eq_true rfl) rfl rfl (c_partAt_203 hP4 (by omega)) (fun r m' hq => ?_)
      obtain ⟨rfl, hmm⟩ := hq
      subst m'
      refine q_istore (pc' := 211) (lv' := [_, _, _, _, _, _, _]) dX1_splitOut_209 (by decide) rfl rfl ?_
      refine q_aload_n (pc' := 212) dX1_splitOut_211 rfl rfl ?_
      refine h_getr (pc' := 215) dX1_splitOut_212 fX1_9 rfl rfl rfl ?_
      refine q_iload (pc' := 217) dX1_splitOut_215 rfl rfl ?_
      refine h_callV (pc' := 220) (M' := mX5_append) (As := [_]) dX1_splitOut_217 iX5_append lX1_30 rfl rfl rfl rfl (Nat.le_of_ble_eq_true rfl) (Nat.le_of_ble_eq_true rfl) rfl rfl (c_append_8 (b := i) B4.1 (by simp only [List.length_append]; omega) (z_b (by omega)) (by omega)) (fun r m' hq => ?_)
      obtain ⟨rfl, f5, O5⟩ := hq
      refine q_aload_n (pc' := 221) dX1_splitOut_220 rfl rfl ?_
      refine h_getr (pc' := 224) dX1_splitOut_221 fX1_9 rfl rfl rfl ?_
      refine q_iload (pc' := 226) dX1_splitOut_224 rfl rfl ?_
      refine q_bipush (pc' := 228) (v := nI 8) dX1_splitOut_226 rfl rfl ?_
      refine q_ishr (pc' := 229) dX1_splitOut_228 rfl ?_
      refine h_callV (pc' := 232) (M' := mX5_append) (As := [_]) dX1_splitOut_229 iX5_append lX1_30 rfl rfl rfl rfl (Nat.le_of_ble_eq_true rfl) (Nat.le_of_ble_eq_true rfl) rfl rfl (c_append_8 O5 (by simp only [List.length_append, List.length_singleton]; omega) hb1.1 hb1.2) (fun r m' hq => ?_)
      obtain ⟨rfl, f6, O6⟩ := hq
      have f6 := f5.trans f6
      refine q_aload_n (pc' := 233) dX1_splitOut_232 rfl rfl ?_
      refine h_getr (pc' := 236) dX1_splitOut_233 fX1_9 rfl rfl rfl ?_
      refine q_iload (pc' := 238) dX1_splitOut_236 rfl rfl ?_
      refine h_callV (pc' := 241) (M' := mX5_append) (As := [_]) dX1_splitOut_238 iX5_append lX1_30 rfl rfl rfl rfl (Nat.le_of_ble_eq_true rfl) (Nat.le_of_ble_eq_true rfl) rfl rfl (c_append_8 O6 (by simp only [List.length_append, List.length_singleton]; omega) hb2.1 hb2.2) (fun r m' hq => ?_)
      obtain ⟨rfl, f7, O7⟩ := hq
      have f7 := f6.trans f7
      have B7 := B4.o f7 (by decide) O7
      refine q_iincN (pc' := 244) (j := 1) (lv' := [_, _, _, _, _, _, _]) dX1_splitOut_241 rfl (by decide) rfl rfl ?_
      refine q_goto (pc' := 174) dX1_splitOut_244 (by decide) ?_
      refine ih (i + 1) _ _ (by omega) (f4.trans (f7.mono (by decide))) ?_
      rw [e, show Q1 ++ (s_sx P (s_ps rl ys bk) i ++ [i] ++ [(s_ps rl ys bk i >>> (nI 8 &&& 31) &&& nI 255).toBitVec.toNat] ++ [(s_ps rl ys bk i &&& nI 255).toBitVec.toNat]) = Q1 ++ s_sx P (s_ps rl ys bk) i ++ [i] ++ [(s_ps rl ys bk i >>> (nI 8 &&& 31) &&& nI 255).toBitVec.toNat] ++ [(s_ps rl ys bk i &&& nI 255).toBitVec.toNat] by simp only [List.append_assoc]]
      exact B7
    · have e : s_sx P (s_ps rl ys bk) (i + 1) = s_sx P (s_ps rl ys bk) i := by rw [s_sx, if_neg hx]
      rw [if_neg (fun z => hx z.2)]
      refine q_iconst (pc' := 194) (v := nI 1) dX1_splitOut_193 rfl rfl ?_
      refine q_icmp_neN (tgt := 241) (pc' := 197) dX1_splitOut_194 (by decide) rfl (by omega) (fun c_194 => ?_) (fun c_194 => ?_)
      · refine q_iincN (pc' := 244) (j := 1) (lv' := [_, _, _, _, _, _, _]) dX1_splitOut_241 rfl (by decide) rfl rfl ?_
        refine q_goto (pc' := 174) dX1_splitOut_244 (by decide) ?_
        refine ih (i + 1) _ _ (by omega) f4 ?_
        rw [e]
        exact B4
      · exact absurd c_194 (by decide)
