/-! ===== the reference writes: split ===== -/
theorem z_cx {hi : Nat → Int32} {n : Nat} {x : Int32} (hn : n ≤ 16) : (if nI 0 < s_ci hi n x then s_ci hi n x else nI 0) = nI (s_cx hi n x) := by
  unfold s_ci s_cx
  by_cases h : s_code hi n x < n
  · rw [if_pos h, if_pos h]
    by_cases z : s_code hi n x = 0
    · rw [z, if_neg (by decide)]
    · rw [if_pos (by rw [z_lt, show (nI 0).toInt = 0 from rfl, z_n (show s_code hi n x < 2 ^ 31 by omega)]; omega)]
  · rw [if_neg h, if_neg h, if_neg (by decide)]
theorem s_bl7 : ∀ v : Fin 8, s_bl (nI v.1).toInt64 ≤ 3 := by decide +kernel
theorem hi2_s (h : Nat → Int32) (j : Nat) : s_hi2 h (j + 1) = s_hi2 h j ++ [(h j >>> (nI 8 &&& 31) &&& nI 255).toBitVec.toNat] ++ [(h j &&& nI 255).toBitVec.toNat] := rfl
set_option maxHeartbeats 4000000 in
set_option maxRecDepth 20000 in
theorem k_writeSplit {Z : q_Z} {m : q_Mm} {d : Nat} {L : List Nat} {n k : Nat} {g : Nat → Int64} {ps : Nat → Int32} {rl : Nat → Nat} {xs : Nat → Int64} (hV : MV m n rl xs) (hH : MH m k g) (hk : k ≤ 16) (hk1 : 1 ≤ k) (hps : ∀ i, i < k → s_part (g i) (rl 3) = ps i) (hO : MO m L) (hL : L.length = 2) (h42 : m.1 215 42 = nI 0) : q_V (q_g Z) mX11_writeSplit (d+3) 0 0 0 [some (.ref (q_ad Z 215)), none, none] [] (q_W Z m) (q_P Z fun r m2 => r = none ∧ Fr [215, 228, 229, 232] m m2 ∧ Kp 215 [28, 32, 41, 42] m m2 ∧ MO m2 ((s_fill (s_sb (s_ch ps k (s_often ps k) (rl 4)).2.2 (s_ch ps k (s_often ps k) (rl 4)).1 ps g (s_bl (nI ((s_ch ps k (s_often ps k) (rl 4)).1 - 1)).toInt64) (64 - rl 3) (L ++ [rl 3] ++ [(s_ch ps k (s_often ps k) (rl 4)).1] ++ s_hi2 (s_ch ps k (s_often ps k) (rl 4)).2.2 (s_ch ps k (s_often ps k) (rl 4)).1 ++ [s_cnt (fun i => !decide (s_code (s_ch ps k (s_often ps k) (rl 4)).2.2 (s_ch ps k (s_often ps k) (rl 4)).1 (ps i) < (s_ch ps k (s_often ps k) (rl 4)).1)) k], 0, 0) k)).1 ++ s_sx (fun i => !decide (s_code (s_ch ps k (s_often ps k) (rl 4)).2.2 (s_ch ps k (s_often ps k) (rl 4)).1 (ps i) < (s_ch ps k (s_often ps k) (rl 4)).1)) ps k)) := by
  have hok := hV.2.2.2.2
  have hS8 := s_ch_le ps k (s_often ps k) (rl 4)
  have hS1 : 1 ≤ (s_ch ps k (s_often ps k) (rl 4)).1 := by
    obtain ⟨j, hj⟩ : ∃ j, rl 4 = j + 1 := ⟨rl 4 - 1, by have := hok.2.2.2.2; omega⟩
    rw [hj]
    exact s_ch_pos ps k hk1 j
  have h4 := hok.2.2.2.2
  have h3 := hok.2.2.2.1
  refine q_aload_n (pc' := 1) dX11_writeSplit_0 rfl rfl ?_
  refine h_callV (pc' := 4) (M' := mX11_laySplit) (As := []) dX11_writeSplit_1 iX11_laySplit lX11_326 rfl rfl rfl rfl (Nat.le_of_ble_eq_true rfl) (Nat.le_of_ble_eq_true rfl) rfl rfl (k_laySplit hV hH hk hps) (fun r m' hq => ?_)
  generalize s_ch ps k (s_often ps k) (rl 4) = S at hq hS8 hS1 ⊢
  obtain ⟨rfl, f1, k1, R1, R2, R3⟩ := hq
  obtain ⟨M, hM⟩ : ∃ M, (fun i => !decide (s_code S.2.2 S.1 (ps i) < S.1)) = M := ⟨_, rfl⟩
  rw [hM] at R3 ⊢
  obtain ⟨cb, hcb⟩ : ∃ cb, s_bl (nI (S.1 - 1)).toInt64 = cb := ⟨_, rfl⟩
  have hcb64 : s_bl (nI (S.1 - 1)).toInt64 ≤ 3 := s_bl7 ⟨S.1 - 1, by omega⟩
  rw [hcb] at hcb64 ⊢
  have hcn := s_cnt_le M k
  have O1 : MO m' L := hO.fr f1 (k1 41 (by decide)) (by decide)
  have e42 : m'.1 215 42 = nI 0 := (k1 42 (by decide)).trans h42
  have H1 := hH.fr f1 (k1 25 (by decide)) (by decide)
  have hV1 := hV.fr f1 (k1 20 (by decide)) (by decide) (by decide)
  have f1 : Fr [215, 228, 229, 232] m m' := f1.mono (by decide)
  have k1 : Kp 215 [28, 32, 41, 42] m m' := k1.mono (by decide)
  obtain ⟨m1, hm1⟩ : ∃ z, z = m' := ⟨_, rfl⟩
  subst hm1
  refine q_aload_n (pc' := 5) dX11_writeSplit_4 rfl rfl ?_
  refine h_getr (pc' := 8) dX11_writeSplit_5 fX11_36 rfl rfl rfl ?_
  refine q_iconst (pc' := 9) (v := nI 3) dX11_writeSplit_8 rfl rfl ?_
  refine h_ialdE (pc' := 10) dX11_writeSplit_9 rfl (rfl) (by omega) (by decide) (hV1.2.2.2.1 3 (by decide)) rfl ?_
  refine q_istore_n (pc' := 11) (lv' := [_, _, _]) dX11_writeSplit_10 (by decide) rfl rfl ?_
  refine q_aload_n (pc' := 12) dX11_writeSplit_11 rfl rfl ?_
  refine q_iload_n (pc' := 13) dX11_writeSplit_12 rfl rfl ?_
  refine h_callV (pc' := 16) (M' := mX11_putByte) (As := [_]) dX11_writeSplit_13 iX11_putByte lX11_407 rfl rfl rfl rfl (Nat.le_of_ble_eq_true rfl) (Nat.le_of_ble_eq_true rfl) rfl rfl ((k_putByte O1 (by omega)).up (Nat.zero_le _)) (fun r m' hq => ?_)
  obtain ⟨rfl, f2, k2, j2, O2⟩ := hq
  rw [s_y_n (by omega)] at O2
  obtain ⟨m2, hm2⟩ : ∃ z, z = m' := ⟨_, rfl⟩
  subst hm2
  refine q_aload_n (pc' := 17) dX11_writeSplit_16 rfl rfl ?_
  refine q_aload_n (pc' := 18) dX11_writeSplit_17 rfl rfl ?_
  refine h_getiE (pc' := 21) dX11_writeSplit_18 fX11_320 rfl rfl ((k2 32 (by decide)).trans R1) rfl ?_
  refine h_callV (pc' := 24) (M' := mX11_putByte) (As := [_]) dX11_writeSplit_21 iX11_putByte lX11_407 rfl rfl rfl rfl (Nat.le_of_ble_eq_true rfl) (Nat.le_of_ble_eq_true rfl) rfl rfl ((k_putByte O2 (by rw [s_ln1]; omega)).up (Nat.zero_le _)) (fun r m' hq => ?_)
  obtain ⟨rfl, f3, k3, j3, O3⟩ := hq
  rw [s_y_n (by omega)] at O3
  have f13 : Fr [215, 232] m1 m' := f2.trans f3
  have k13 : Kp 215 [41] m1 m' := k2.trans k3
  clear f2 f3 k2 k3 j2 j3 O2
  have hl3 : (L ++ [rl 3] ++ [S.1]).length = 4 := by rw [s_ln1, s_ln1]; omega
  generalize hA : L ++ [rl 3] ++ [S.1] = A at O3 hl3 ⊢
  refine q_iconst (pc' := 25) (v := nI 0) dX11_writeSplit_24 rfl rfl ?_
  refine q_istore_n (pc' := 26) (lv' := [_, _, _]) dX11_writeSplit_25 (by decide) rfl rfl ?_
  suffices h1 : ∀ c i m4, i + c = S.1 → Fr [215, 232] m1 m4 → Kp 215 [41] m1 m4 → MO m4 (A ++ s_hi2 S.2.2 i) → q_V (q_g Z) mX11_writeSplit (d+3) 0 0 26 [some (.ref (q_ad Z 215)), some (.int (nI (rl 3))), some (.int (nI i))] [] (q_W Z (m4)) (q_P Z fun r m2 => r = none ∧ Fr [215, 228, 229, 232] m m2 ∧ Kp 215 [28, 32, 41, 42] m m2 ∧ MO m2 ((s_fill (s_sb S.2.2 S.1 ps g cb (64 - rl 3) (A ++ s_hi2 S.2.2 S.1 ++ [s_cnt M k], 0, 0) k)).1 ++ s_sx M ps k)) from h1 S.1 0 m' (Nat.zero_add _) f13 k13 (by show MO m' (A ++ []); rw [List.append_nil]; exact O3)
  intro c
  induction c with
  | succ c ih =>
    intro i m4 hi f4 k4 O4
    have ih := fun m5 => ih (i + 1) m5 (by omega)
    have hl4 := s_hi2_len S.2.2 i
    refine q_iload_n (pc' := 27) dX11_writeSplit_26 rfl rfl ?_
    refine q_aload_n (pc' := 28) dX11_writeSplit_27 rfl rfl ?_
    refine h_getiE (pc' := 31) dX11_writeSplit_28 fX11_320 rfl rfl ((k4 32 (by decide)).trans R1) rfl ?_
    refine q_icmp_geN (tgt := 50) (pc' := 34) dX11_writeSplit_31 (by decide) rfl (by omega) (fun c_31 => ?_) (fun c_31 => ?_)
    · omega
    refine q_aload_n (pc' := 35) dX11_writeSplit_34 rfl rfl ?_
    refine q_aload_n (pc' := 36) dX11_writeSplit_35 rfl rfl ?_
    refine h_getr (pc' := 39) dX11_writeSplit_36 fX11_48 rfl rfl rfl ?_
    refine q_iload_n (pc' := 40) dX11_writeSplit_39 rfl rfl ?_
    refine h_ialdE (pc' := 41) dX11_writeSplit_40 rfl (rfl) (by omega) (by decide) ((congrFun (f4.a (by decide)) i).trans (R2 i (by omega))) rfl ?_
    refine h_callV (pc' := 44) (M' := mX11_putTwo) (As := [_]) dX11_writeSplit_41 iX11_putTwo lX11_421 rfl rfl rfl rfl (Nat.le_of_ble_eq_true rfl) (Nat.le_of_ble_eq_true rfl) rfl rfl ((k_putTwo (d := d) O4 (by rw [List.length_append]; omega)).up (by omega)) (fun r m' hq => ?_)
    obtain ⟨rfl, f5, k5, j5, O5⟩ := hq
    rw [hi2_s, ← List.append_assoc, ← List.append_assoc] at ih
    refine q_iincN (pc' := 47) (j := 1) (lv' := [_, _, _]) dX11_writeSplit_44 rfl (by decide) rfl rfl ?_
    refine q_goto (pc' := 26) dX11_writeSplit_47 (by decide) ?_
    exact ih m' (f4.trans f5) (k4.trans k5) O5
  | zero =>
    intro i m4 hi f4 k4 O4
    have hi : i = S.1 := by omega
    rw [hi] at O4 ⊢
    have hl4 := s_hi2_len S.2.2 S.1
    refine q_iload_n (pc' := 27) dX11_writeSplit_26 rfl rfl ?_
    refine q_aload_n (pc' := 28) dX11_writeSplit_27 rfl rfl ?_
    refine h_getiE (pc' := 31) dX11_writeSplit_28 fX11_320 rfl rfl ((k4 32 (by decide)).trans R1) rfl ?_
    refine q_icmp_geN (tgt := 50) (pc' := 34) dX11_writeSplit_31 (by decide) rfl (by omega) (fun c_31 => ?_) (fun c_31 => ?_)
    rotate_left
    · omega
    refine q_aload_n (pc' := 51) dX11_writeSplit_50 rfl rfl ?_
    refine q_aload_n (pc' := 52) dX11_writeSplit_51 rfl rfl ?_
    refine h_getiE (pc' := 55) dX11_writeSplit_52 fX11_289 rfl rfl ((k4 28 (by decide)).trans R3) rfl ?_
    refine h_callS (pc' := 58) (M' := mX11_bits) (As := [_]) dX11_writeSplit_55 iX11_bits lX11_314 rfl rfl (Nat.le_of_ble_eq_true rfl) (Nat.le_of_ble_eq_true rfl) rfl rfl ((k_bits (by omega)).up (Nat.zero_le _)) (fun r m' hq => ?_)
    obtain ⟨rfl, hmm⟩ := hq
    subst m'
    refine h_callV (pc' := 61) (M' := mX11_putByte) (As := [_]) dX11_writeSplit_58 iX11_putByte lX11_407 rfl rfl rfl rfl (Nat.le_of_ble_eq_true rfl) (Nat.le_of_ble_eq_true rfl) rfl rfl ((k_putByte O4 (by rw [List.length_append]; omega)).up (Nat.zero_le _)) (fun r m' hq => ?_)
    obtain ⟨rfl, f6, k6, j6, O6⟩ := hq
    rw [s_y_n (by omega)] at O6
    have hl6 : (A ++ s_hi2 S.2.2 S.1 ++ [s_cnt M k]).length ≤ 21 := by rw [s_ln1, List.length_append]; omega
    generalize A ++ s_hi2 S.2.2 S.1 ++ [s_cnt M k] = B at O6 hl6 ⊢
    have f6 := f4.trans f6
    have k6 := k4.trans k6
    have R1 := (k6 32 (by decide)).trans R1
    have R3 := (k6 28 (by decide)).trans R3
    have e42 := (k6 42 (by decide)).trans e42
    have R2 : ∀ i, i < S.1 → m'.2.2.1 228 i = S.2.2 i := fun i hi => (congrFun (f6.a (by decide)) i).trans (R2 i hi)
    have H6 := H1.fr f6 (k6 25 (by decide)) (by decide)
    have hV6 := hV1.fr f6 (k6 20 (by decide)) (by decide) (by decide)
    have B6 := O6.b e42
    have f6 : Fr [215, 228, 229, 232] m m' := f1.trans (f6.mono (by decide))
    have k6 : Kp 215 [28, 32, 41, 42] m m' := k1.trans (k6.mono (by decide))
    clear f4 k4 O4 f13 k13 hV1 H1 hO
    obtain ⟨m6, hm6⟩ : ∃ z, z = m' := ⟨_, rfl⟩
    subst hm6
    have hb16 : ∀ i, i ≤ 16 → i * (cb + (64 - rl 3)) ≤ 16 * 63 := fun i hi => Nat.mul_le_mul hi (by omega)
    have two : ∀ c i m7, i + c = k → Fr [215, 232] m6 m7 → Kp 215 [41, 42] m6 m7 → MO m7 ((s_fill (s_sb S.2.2 S.1 ps g cb (64 - rl 3) (B, 0, 0) k)).1 ++ s_sx M ps i) → q_V (q_g Z) mX11_writeSplit (d+3) 0 0 122 [some (.ref (q_ad Z 215)), some (.int (nI (rl 3))), some (.int (nI i))] [] (q_W Z (m7)) (q_P Z fun r m2 => r = none ∧ Fr [215, 228, 229, 232] m m2 ∧ Kp 215 [28, 32, 41, 42] m m2 ∧ MO m2 ((s_fill (s_sb S.2.2 S.1 ps g cb (64 - rl 3) (B, 0, 0) k)).1 ++ s_sx M ps k)) := by
      intro c
      induction c with
      | zero =>
        intro i m7 hi f7 k7 O7
        have hik : i = k := by omega
        rw [hik] at O7
        refine q_iload_n (pc' := 123) dX11_writeSplit_122 rfl rfl ?_
        refine q_aload_n (pc' := 124) dX11_writeSplit_123 rfl rfl ?_
        refine h_getiE (pc' := 127) dX11_writeSplit_124 fX11_286 rfl rfl ((k7 25 (by decide)).trans H6.1) rfl ?_
        refine q_icmp_geN (tgt := 166) (pc' := 130) dX11_writeSplit_127 (by decide) rfl (by omega) (fun c_127 => ?_) (fun c_127 => ?_)
        rotate_left
        · omega
        refine q_vret dX11_writeSplit_166 rfl ⟨_, rfl, rfl, f6.trans (f7.mono (by decide)), k6.trans (k7.mono (by decide)), O7⟩
      | succ c ih =>
        intro i m7 hi f7 k7 O7
        have ih := fun m8 => ih (i + 1) m8 (by omega)
        have d1 := s_sb_len S.2.2 S.1 ps g cb (64 - rl 3) (B, 0, 0) (by show 0 < 8; omega) k
        have d2 := s_fill_len _ d1.2
        have d3 := s_sx_len M ps i
        have d4 := hb16 k hk
        have d1 : (s_sb S.2.2 S.1 ps g cb (64 - rl 3) (B, 0, 0) k).1.length * 8 + (s_sb S.2.2 S.1 ps g cb (64 - rl 3) (B, 0, 0) k).2.2 = B.length * 8 + 0 + k * (cb + (64 - rl 3)) := d1.1
        have h28 := (k7 28 (by decide)).trans R3
        have hV7 := hV6.fr f7 (k7 20 (by decide)) (by decide) (by decide)
        refine q_iload_n (pc' := 123) dX11_writeSplit_122 rfl rfl ?_
        refine q_aload_n (pc' := 124) dX11_writeSplit_123 rfl rfl ?_
        refine h_getiE (pc' := 127) dX11_writeSplit_124 fX11_286 rfl rfl ((k7 25 (by decide)).trans H6.1) rfl ?_
        refine q_icmp_geN (tgt := 166) (pc' := 130) dX11_writeSplit_127 (by decide) rfl (by omega) (fun c_127 => ?_) (fun c_127 => ?_)
        · omega
        refine q_aload_n (pc' := 131) dX11_writeSplit_130 rfl rfl ?_
        refine h_getiE (pc' := 134) dX11_writeSplit_131 fX11_289 rfl rfl (h28) rfl ?_
        refine q_iload_n (pc' := 135) dX11_writeSplit_134 rfl rfl ?_
        refine h_callS (pc' := 138) (M' := mX11_has) (As := [_, _]) dX11_writeSplit_135 iX11_has lX11_127 rfl rfl (Nat.le_of_ble_eq_true rfl) (Nat.le_of_ble_eq_true rfl) rfl rfl ((k_has (by omega) (by omega)).up (Nat.zero_le _)) (fun r m' hq => ?_)
        obtain ⟨rfl, hmm⟩ := hq
        subst m'
        rw [decide_eq_true (show i < k by omega), Bool.true_and]
        rw [show s_sx M ps (i + 1) = if M i = true then s_sx M ps i ++ [i] ++ [(ps i >>> (nI 8 &&& 31) &&& nI 255).toBitVec.toNat] ++ [(ps i &&& nI 255).toBitVec.toNat] else s_sx M ps i from rfl] at ih
        refine q_if_eqB (tgt := 160) (pc' := 141) dX11_writeSplit_138 (by decide) rfl (fun c_138 => ?_) (fun c_138 => ?_)
        · rw [if_neg (by rw [c_138]; decide)] at ih
          refine q_iincN (pc' := 163) (j := 1) (lv' := [_, _, _]) dX11_writeSplit_160 rfl (by decide) rfl rfl ?_
          refine q_goto (pc' := 122) dX11_writeSplit_163 (by decide) ?_
          exact ih m7 f7 k7 O7
        rw [if_pos c_138, ← List.append_assoc, ← List.append_assoc, ← List.append_assoc] at ih
        refine q_aload_n (pc' := 142) dX11_writeSplit_141 rfl rfl ?_
        refine q_iload_n (pc' := 143) dX11_writeSplit_142 rfl rfl ?_
        refine h_callV (pc' := 146) (M' := mX11_putByte) (As := [_]) dX11_writeSplit_143 iX11_putByte lX11_407 rfl rfl rfl rfl (Nat.le_of_ble_eq_true rfl) (Nat.le_of_ble_eq_true rfl) rfl rfl ((k_putByte O7 (by rw [List.length_append]; omega)).up (Nat.zero_le _)) (fun r m' hq => ?_)
        obtain ⟨rfl, f8, k8, j8, O8⟩ := hq
        rw [s_y_n (by omega)] at O8
        have f8 := f7.trans f8
        have k8 : Kp 215 [41, 42] m6 m' := k7.trans (k8.mono (by decide))
        have hV8 := hV6.fr f8 (k8 20 (by decide)) (by decide) (by decide)
        obtain ⟨m8, hm8⟩ : ∃ z, z = m' := ⟨_, rfl⟩
        subst hm8
        refine q_aload_n (pc' := 147) dX11_writeSplit_146 rfl rfl ?_
        refine q_aload_n (pc' := 148) dX11_writeSplit_147 rfl rfl ?_
        refine q_aload_n (pc' := 149) dX11_writeSplit_148 rfl rfl ?_
        refine h_getr (pc' := 152) dX11_writeSplit_149 fX11_45 rfl rfl rfl ?_
        refine q_iload_n (pc' := 153) dX11_writeSplit_152 rfl rfl ?_
        refine h_laldE (pc' := 154) dX11_writeSplit_153 rfl (rfl) (by omega) (by decide) ((congrFun (f8.l (by decide)) i).trans (H6.2 i (by omega))) rfl ?_
        refine h_callV (pc' := 157) (M' := mX11_partOf) (As := [_]) dX11_writeSplit_154 iX11_partOf lX11_317 rfl rfl rfl rfl (Nat.le_of_ble_eq_true rfl) (Nat.le_of_ble_eq_true rfl) rfl rfl ((k_partOf (d := d) hV8).up (by omega)) (fun r m' hq => ?_)
        obtain ⟨rfl, hmm⟩ := hq
        subst m'
        rw [hps i (by omega)]
        refine h_callV (pc' := 160) (M' := mX11_putTwo) (As := [_]) dX11_writeSplit_157 iX11_putTwo lX11_421 rfl rfl rfl rfl (Nat.le_of_ble_eq_true rfl) (Nat.le_of_ble_eq_true rfl) rfl rfl ((k_putTwo (d := d) O8 (by rw [s_ln1, List.length_append]; omega)).up (by omega)) (fun r m' hq => ?_)
        obtain ⟨rfl, f9, k9, j9, O9⟩ := hq
        refine q_iincN (pc' := 163) (j := 1) (lv' := [_, _, _]) dX11_writeSplit_160 rfl (by decide) rfl rfl ?_
        refine q_goto (pc' := 122) dX11_writeSplit_163 (by decide) ?_
        exact ih m' (f8.trans f9) (k8.trans (k9.mono (by decide))) O9
    refine q_iconst (pc' := 62) (v := nI 0) dX11_writeSplit_61 rfl rfl ?_
    refine q_istore_n (pc' := 63) (lv' := [_, _, _]) dX11_writeSplit_62 (by decide) rfl rfl ?_
    suffices h : ∀ c i m7, i + c = k → Fr [215, 232] m6 m7 → Kp 215 [41, 42] m6 m7 → MB m7 (s_sb S.2.2 S.1 ps g cb (64 - rl 3) (B, 0, 0) i) → q_V (q_g Z) mX11_writeSplit (d+3) 0 0 63 [some (.ref (q_ad Z 215)), some (.int (nI (rl 3))), some (.int (nI i))] [] (q_W Z (m7)) (q_P Z fun r m2 => r = none ∧ Fr [215, 228, 229, 232] m m2 ∧ Kp 215 [28, 32, 41, 42] m m2 ∧ MO m2 ((s_fill (s_sb S.2.2 S.1 ps g cb (64 - rl 3) (B, 0, 0) k)).1 ++ s_sx M ps k)) from h k 0 m6 (Nat.zero_add _) Fr.rf Kp.rf B6
    intro c
    induction c with
    | zero =>
      intro i m7 hi f7 k7 B7
      have hik : i = k := by omega
      rw [hik] at B7
      refine q_iload_n (pc' := 64) dX11_writeSplit_63 rfl rfl ?_
      refine q_aload_n (pc' := 65) dX11_writeSplit_64 rfl rfl ?_
      refine h_getiE (pc' := 68) dX11_writeSplit_65 fX11_286 rfl rfl ((k7 25 (by decide)).trans H6.1) rfl ?_
      refine q_icmp_geN (tgt := 120) (pc' := 71) dX11_writeSplit_68 (by decide) rfl (by omega) (fun c_68 => ?_) (fun c_68 => ?_)
      rotate_left
      · omega
      refine q_iconst (pc' := 121) (v := nI 0) dX11_writeSplit_120 rfl rfl ?_
      refine q_istore_n (pc' := 122) (lv' := [_, _, _]) dX11_writeSplit_121 (by decide) rfl rfl ?_
      exact two k 0 m7 (Nat.zero_add _) f7 k7 (by
        show MO m7 (_ ++ [])
        rw [List.append_nil]
        exact B7.o)
    | succ c ih =>
      intro i m7 hi f7 k7 B7
      have ih := fun m8 => ih (i + 1) m8 (by omega)
      have d1 := s_sb_len S.2.2 S.1 ps g cb (64 - rl 3) (B, 0, 0) (by show 0 < 8; omega) i
      have d2 := s_bits_len (nI (s_cx S.2.2 S.1 (ps i))).toInt64 cb _ d1.2
      have d4 := hb16 i (by omega)
      have d1 : (s_sb S.2.2 S.1 ps g cb (64 - rl 3) (B, 0, 0) i).1.length * 8 + (s_sb S.2.2 S.1 ps g cb (64 - rl 3) (B, 0, 0) i).2.2 = B.length * 8 + 0 + i * (cb + (64 - rl 3)) := d1.1
      have hV7 := hV6.fr f7 (k7 20 (by decide)) (by decide) (by decide)
      have R1 := (k7 32 (by decide)).trans R1
      have R2 : ∀ i, i < S.1 → m7.2.2.1 228 i = S.2.2 i := fun i hi => (congrFun (f7.a (by decide)) i).trans (R2 i hi)
      have hg : m7.2.2.2.1 227 i = g i := (congrFun (f7.l (by decide)) i).trans (H6.2 i (by omega))
      rw [show s_sb S.2.2 S.1 ps g cb (64 - rl 3) (B, 0, 0) (i + 1) = s_bits (g i) (64 - rl 3) (s_bits (nI (s_cx S.2.2 S.1 (ps i))).toInt64 cb (s_sb S.2.2 S.1 ps g cb (64 - rl 3) (B, 0, 0) i)) from rfl] at ih
      refine q_iload_n (pc' := 64) dX11_writeSplit_63 rfl rfl ?_
      refine q_aload_n (pc' := 65) dX11_writeSplit_64 rfl rfl ?_
      refine h_getiE (pc' := 68) dX11_writeSplit_65 fX11_286 rfl rfl ((k7 25 (by decide)).trans H6.1) rfl ?_
      refine q_icmp_geN (tgt := 120) (pc' := 71) dX11_writeSplit_68 (by decide) rfl (by omega) (fun c_68 => ?_) (fun c_68 => ?_)
      · omega
      refine q_aload_n (pc' := 72) dX11_writeSplit_71 rfl rfl ?_
      refine q_iconst (pc' := 73) (v := nI 0) dX11_writeSplit_72 rfl rfl ?_
      refine q_aload_n (pc' := 74) dX11_writeSplit_73 rfl rfl ?_
      refine q_aload_n (pc' := 75) dX11_writeSplit_74 rfl rfl ?_
      refine h_getr (pc' := 78) dX11_writeSplit_75 fX11_45 rfl rfl rfl ?_
      refine q_iload_n (pc' := 79) dX11_writeSplit_78 rfl rfl ?_
      refine h_laldE (pc' := 80) dX11_writeSplit_79 rfl (rfl) (by omega) (by decide) (hg) rfl ?_
      refine h_callV (pc' := 83) (M' := mX11_codeOf) (As := [_]) dX11_writeSplit_80 iX11_codeOf lX11_323 rfl rfl rfl rfl (Nat.le_of_ble_eq_true rfl) (Nat.le_of_ble_eq_true rfl) rfl rfl ((k_codeOf (d := d) hV7 R1 (by omega) R2).up (by omega)) (fun r m' hq => ?_)
      obtain ⟨rfl, hmm⟩ := hq
      subst m'
      rw [hps i (by omega)]
      refine q_mmax (pc' := 86) dX11_writeSplit_83 lX11_401 mmax_s mz_i mmax_c (Nat.le_of_ble_eq_true rfl) rfl ?_
      rw [z_cx (by omega)]
      refine q_i2l (pc' := 87) dX11_writeSplit_86 rfl ?_
      refine q_aload_n (pc' := 88) dX11_writeSplit_87 rfl rfl ?_
      refine h_getiE (pc' := 91) dX11_writeSplit_88 fX11_320 rfl rfl (R1) rfl ?_
      refine q_iconst (pc' := 92) (v := nI 1) dX11_writeSplit_91 rfl rfl ?_
      refine q_isubN (pc' := 93) dX11_writeSplit_92 (by omega) rfl ?_
      refine q_i2l (pc' := 94) dX11_writeSplit_93 rfl ?_
      refine h_callS (pc' := 97) (M' := mX11_widthOf) (As := [_]) dX11_writeSplit_94 iX11_widthOf lX11_217 rfl rfl (Nat.le_of_ble_eq_true rfl) (Nat.le_of_ble_eq_true rfl) rfl rfl (k_widthOf.up (Nat.zero_le _)) (fun r m' hq => ?_)
      obtain ⟨rfl, hmm⟩ := hq
      subst m'
      rw [hcb]
      refine h_callV (pc' := 100) (M' := mX11_putBits) (As := [_, _]) dX11_writeSplit_97 iX11_putBits lX11_417 rfl rfl rfl rfl (Nat.le_of_ble_eq_true rfl) (Nat.le_of_ble_eq_true rfl) rfl rfl ((k_putBits (d := d) B7 (by omega) (by omega)).up (by omega)) (fun r m' hq => ?_)
      obtain ⟨rfl, f8, k8, j8, B8⟩ := hq
      have f8 := f7.trans f8
      have k8 : Kp 215 [41, 42] m6 m' := k7.trans k8
      have hg : m'.2.2.2.1 227 i = g i := (congrFun (f8.l (by decide)) i).trans (H6.2 i (by omega))
      obtain ⟨m8, hm8⟩ : ∃ z, z = m' := ⟨_, rfl⟩
      subst hm8
      refine q_aload_n (pc' := 101) dX11_writeSplit_100 rfl rfl ?_
      refine q_aload_n (pc' := 102) dX11_writeSplit_101 rfl rfl ?_
      refine h_getr (pc' := 105) dX11_writeSplit_102 fX11_45 rfl rfl rfl ?_
      refine q_iload_n (pc' := 106) dX11_writeSplit_105 rfl rfl ?_
      refine h_laldE (pc' := 107) dX11_writeSplit_106 rfl (rfl) (by omega) (by decide) (hg) rfl ?_
      refine q_bipush (pc' := 109) (v := nI 64) dX11_writeSplit_107 rfl rfl ?_
      refine q_iload_n (pc' := 110) dX11_writeSplit_109 rfl rfl ?_
      refine q_isubN (pc' := 111) dX11_writeSplit_110 (by omega) rfl ?_
      refine h_callV (pc' := 114) (M' := mX11_putBits) (As := [_, _]) dX11_writeSplit_111 iX11_putBits lX11_417 rfl rfl rfl rfl (Nat.le_of_ble_eq_true rfl) (Nat.le_of_ble_eq_true rfl) rfl rfl ((k_putBits (d := d) B8 (by omega) (by omega)).up (by omega)) (fun r m' hq => ?_)
      obtain ⟨rfl, f9, k9, j9, B9⟩ := hq
      refine q_iincN (pc' := 117) (j := 1) (lv' := [_, _, _]) dX11_writeSplit_114 rfl (by decide) rfl rfl ?_
      refine q_goto (pc' := 63) dX11_writeSplit_117 (by decide) ?_
      exact ih m' (f8.trans f9) (k8.trans k9) B9
