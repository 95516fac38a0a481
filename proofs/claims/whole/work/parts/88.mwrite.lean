/-! ===== the reference writes: decimal ===== -/
theorem s_bit_z (k : Nat) : s_bit 0 k = 0 := by
  unfold s_bit
  have e : (0 : Int64).toUInt64 >>> ((nI k).toInt64.toUInt64 &&& Int64.toUInt64 63) = 0 := by
    refine UInt64.toNat_inj.mp ?_
    rw [UInt64.toNat_shiftRight]
    show 0 >>> _ = 0
    exact Nat.zero_shiftRight _
  rw [e]
  decide
theorem s_bits_z : ∀ n (L : List Nat) (v c : Nat), 1 ≤ n → c + n = 8 → s_bits 0 n (L, v, c) = (L ++ [v * 2 ^ n], 0, 0)
  | 0, _, _, _, h, _ => absurd h (by decide)
  | n + 1, L, v, c, _, hc => by
    rw [show s_bits 0 (n + 1) (L, v, c) = s_bits 0 n (s_push (L, v, c) (s_bit 0 n)) from rfl, s_bit_z]
    unfold s_push
    rcases Nat.eq_zero_or_pos n with q | q
    · subst q
      rw [if_pos (by show c = 7; omega)]
      show (L ++ [2 * v + 0], 0, 0) = (L ++ [v * 2 ^ 1], 0, 0)
      rw [show 2 * v + 0 = v * 2 ^ 1 by omega]
    · rw [if_neg (by show ¬ c = 7; omega)]
      rw [show s_bits 0 n (L, 2 * v + 0, c + 1) = _ from s_bits_z n L (2 * v + 0) (c + 1) q (by omega), Nat.pow_succ]
      rw [show (2 * v + 0) * 2 ^ n = v * (2 ^ n * 2) by rw [Nat.add_zero, Nat.mul_comm 2 v, Nat.mul_assoc, Nat.mul_comm 2]]
theorem s_fill_is {q : s_B} (h : q.2.2 < 8) : (s_fill q).1 = q.1 ++ if q.2.2 = 0 then [] else [q.2.1 * 2 ^ (8 - q.2.2)] := by
  unfold s_fill
  by_cases z : q.2.2 = 0
  · rw [if_neg (by omega), if_pos z, List.append_nil]
  · rw [if_pos (by omega), if_neg z, show s_bits 0 (8 - q.2.2) q = _ from s_bits_z (8 - q.2.2) q.1 q.2.1 q.2.2 (by omega) (by omega)]
theorem MB.o {m : q_Mm} {q : s_B} (h : MB m q) : MO m (s_fill q).1 := by
  rw [s_fill_is h.2.2.1]
  exact h.1
theorem MO.b {m : q_Mm} {L : List Nat} (h : MO m L) (e : m.1 215 42 = nI 0) : MB m (L, 0, 0) := by
  refine ⟨?_, ⟨0, e, rfl, by show 0 < 100000 + L.length * 8 + 0; omega⟩, by show 0 < 8; omega, by show 0 < 2 ^ 0; decide⟩
  show MO m (L ++ [])
  rw [List.append_nil]
  exact h
theorem MB.fr {S : List Nat} {m m2 : q_Mm} {q : s_B} (h : MB m q) (f : Fr S m m2) (k1 : m2.1 215 41 = m.1 215 41) (k2 : m2.1 215 42 = m.1 215 42) (h1 : 232 ∉ S) : MB m2 q := ⟨h.1.fr f k1 h1, by obtain ⟨w, a, b⟩ := h.2.1; exact ⟨w, k2.trans a, b⟩, h.2.2⟩
theorem s_ln1 (A : List Nat) (b : Nat) : (A ++ [b]).length = A.length + 1 := by rw [List.length_append]; rfl
set_option maxHeartbeats 4000000 in
set_option maxRecDepth 20000 in
theorem k_writeDecimal {Z : q_Z} {m : q_Mm} {d : Nat} {L : List Nat} {g : Nat → Int64} {k cd e f : Nat} (hM : MD m) (hH : MH m k g) (hk : k ≤ 16) (hcd : m.1 215 37 = nI cd) (hc : cd < 256) (hce : cd / 16 = e) (hcf : cd % 16 = f) (he : e < 15) (hf : f < 15) (hO : MO m L) (hL : L.length = 2) (h42 : m.1 215 42 = nI 0) : q_V (q_g Z) mX11_writeDecimal (d+4) 0 0 0 [some (.ref (q_ad Z 215)), none, none, none] [] (q_W Z m) (q_P Z fun r m2 => r = none ∧ Fr [215, 232] m m2 ∧ Kp 215 [23, 28, 29, 41, 42] m m2 ∧ MO m2 ((s_fill (s_db (fun i => s_w2 (g i) e f) (s_ms (fun i => s_w2 (g i) e f) k).1 (s_bl ((s_ms (fun i => s_w2 (g i) e f) k).2.1 - (s_ms (fun i => s_w2 (g i) e f) k).1)) (L ++ [e] ++ [f] ++ [s_cnt (fun i => decide (s_w2 (g i) e f = s_no)) k] ++ s_i8 (s_ms (fun i => s_w2 (g i) e f) k).1 ++ [s_bl ((s_ms (fun i => s_w2 (g i) e f) k).2.1 - (s_ms (fun i => s_w2 (g i) e f) k).1)], 0, 0) k)).1 ++ s_dx (fun i => decide (s_w2 (g i) e f = s_no)) g k)) := by
  obtain ⟨w, hw⟩ : ∃ w, (fun i => s_w2 (g i) e f) = w := ⟨_, rfl⟩
  have hwi : ∀ i, s_w2 (g i) e f = w i := fun i => congrFun hw i
  simp only [hwi]
  refine q_aload_n (pc' := 1) dX11_writeDecimal_0 rfl rfl ?_
  refine h_getiE (pc' := 4) dX11_writeDecimal_1 fX11_348 rfl rfl (hcd) rfl ?_
  refine q_bipush (pc' := 6) (v := nI 16) dX11_writeDecimal_4 rfl rfl ?_
  refine q_idivN (pc' := 7) dX11_writeDecimal_6 (by omega) rfl ?_
  refine q_istore_n (pc' := 8) (lv' := [_, _, _, _]) dX11_writeDecimal_7 (by decide) rfl rfl ?_
  refine q_aload_n (pc' := 9) dX11_writeDecimal_8 rfl rfl ?_
  refine h_getiE (pc' := 12) dX11_writeDecimal_9 fX11_348 rfl rfl (hcd) rfl ?_
  refine q_bipush (pc' := 14) (v := nI 16) dX11_writeDecimal_12 rfl rfl ?_
  refine q_iremN (pc' := 15) dX11_writeDecimal_14 (by omega) rfl ?_
  refine q_istore_n (pc' := 16) (lv' := [_, _, _, _]) dX11_writeDecimal_15 (by decide) rfl rfl ?_
  rw [hce, hcf]
  refine q_aload_n (pc' := 17) dX11_writeDecimal_16 rfl rfl ?_
  refine q_iload_n (pc' := 18) dX11_writeDecimal_17 rfl rfl ?_
  refine q_iload_n (pc' := 19) dX11_writeDecimal_18 rfl rfl ?_
  refine h_callV (pc' := 22) (M' := mX11_layDecimal) (As := [_, _]) dX11_writeDecimal_19 iX11_layDecimal lX11_307 rfl rfl rfl rfl (Nat.le_of_ble_eq_true rfl) (Nat.le_of_ble_eq_true rfl) rfl rfl (k_layDecimal hM hH hk he hf) (fun r m' hq => ?_)
  obtain ⟨rfl, f1, k1, L1⟩ := hq
  have L1 : ML m' (fun i => s_w2 (g i) e f) k := L1
  rw [hw] at L1
  obtain ⟨o28, o26, o27, o29⟩ := L1
  have hbl := s_bl_64 ((s_ms w k).2.1 - (s_ms w k).1)
  have hcn := s_cnt_le (fun i => decide (w i = s_no)) k
  obtain ⟨wd, hwd⟩ : ∃ wd, s_bl ((s_ms w k).2.1 - (s_ms w k).1) = wd := ⟨_, rfl⟩
  rw [hwd] at o29 hbl
  obtain ⟨ba, hba⟩ : ∃ ba, (s_ms w k).1 = ba := ⟨_, rfl⟩
  rw [hba] at o26
  have eta : s_ms (fun i => w i) k = s_ms w k := rfl
  rw [eta, hwd, hba]
  have O1 : MO m' L := hO.fr f1 (k1 41 (by decide)) (by decide)
  have e42 : m'.1 215 42 = nI 0 := (k1 42 (by decide)).trans h42
  have H1 := hH.fr f1 (k1 25 (by decide)) (by decide)
  have f1 : Fr [215, 232] m m' := f1.mono (by decide)
  have k1 : Kp 215 [23, 28, 29, 41, 42] m m' := k1.mono (by decide)
  obtain ⟨m1, hm1⟩ : ∃ z, z = m' := ⟨_, rfl⟩
  subst hm1
  refine q_aload_n (pc' := 23) dX11_writeDecimal_22 rfl rfl ?_
  refine q_iload_n (pc' := 24) dX11_writeDecimal_23 rfl rfl ?_
  refine h_callV (pc' := 27) (M' := mX11_putByte) (As := [_]) dX11_writeDecimal_24 iX11_putByte lX11_407 rfl rfl rfl rfl (Nat.le_of_ble_eq_true rfl) (Nat.le_of_ble_eq_true rfl) rfl rfl ((k_putByte O1 (by omega)).up (Nat.zero_le _)) (fun r m' hq => ?_)
  obtain ⟨rfl, f2, k2, j2, O2⟩ := hq
  rw [s_y_n (by omega)] at O2
  obtain ⟨m2, hm2⟩ : ∃ z, z = m' := ⟨_, rfl⟩
  subst hm2
  refine q_aload_n (pc' := 28) dX11_writeDecimal_27 rfl rfl ?_
  refine q_iload_n (pc' := 29) dX11_writeDecimal_28 rfl rfl ?_
  refine h_callV (pc' := 32) (M' := mX11_putByte) (As := [_]) dX11_writeDecimal_29 iX11_putByte lX11_407 rfl rfl rfl rfl (Nat.le_of_ble_eq_true rfl) (Nat.le_of_ble_eq_true rfl) rfl rfl ((k_putByte O2 (by rw [s_ln1]; omega)).up (Nat.zero_le _)) (fun r m' hq => ?_)
  obtain ⟨rfl, f3, k3, j3, O3⟩ := hq
  rw [s_y_n (by omega)] at O3
  have f13 : Fr [215, 232] m1 m' := f2.trans f3
  have k13 : Kp 215 [41] m1 m' := k2.trans k3
  have j13 : m'.2.1 = m1.2.1 := j3.trans j2
  clear f2 f3 k2 k3 j2 j3 O2
  obtain ⟨m3, hm3⟩ : ∃ z, z = m' := ⟨_, rfl⟩
  subst hm3
  refine q_aload_n (pc' := 33) dX11_writeDecimal_32 rfl rfl ?_
  refine q_aload_n (pc' := 34) dX11_writeDecimal_33 rfl rfl ?_
  refine h_getiE (pc' := 37) dX11_writeDecimal_34 fX11_289 rfl rfl ((k13 28 (by decide)).trans o28) rfl ?_
  refine h_callS (pc' := 40) (M' := mX11_bits) (As := [_]) dX11_writeDecimal_37 iX11_bits lX11_314 rfl rfl (Nat.le_of_ble_eq_true rfl) (Nat.le_of_ble_eq_true rfl) rfl rfl ((k_bits (by omega)).up (Nat.zero_le _)) (fun r m' hq => ?_)
  obtain ⟨rfl, hmm⟩ := hq
  subst m'
  refine h_callV (pc' := 43) (M' := mX11_putByte) (As := [_]) dX11_writeDecimal_40 iX11_putByte lX11_407 rfl rfl rfl rfl (Nat.le_of_ble_eq_true rfl) (Nat.le_of_ble_eq_true rfl) rfl rfl ((k_putByte O3 (by rw [s_ln1, s_ln1]; omega)).up (Nat.zero_le _)) (fun r m' hq => ?_)
  obtain ⟨rfl, f4, k4, j4, O4⟩ := hq
  rw [s_y_n (by omega)] at O4
  have f14 := f13.trans f4
  have k14 : Kp 215 [41] m1 m' := k13.trans k4
  have j14 : m'.2.1 = m1.2.1 := j4.trans j13
  obtain ⟨m4, hm4⟩ : ∃ z, z = m' := ⟨_, rfl⟩
  subst hm4
  refine q_aload_n (pc' := 44) dX11_writeDecimal_43 rfl rfl ?_
  refine q_aload_n (pc' := 45) dX11_writeDecimal_44 rfl rfl ?_
  refine h_getjE (pc' := 48) dX11_writeDecimal_45 fX11_292 rfl rfl ((congrFun (congrFun j14 215) 26).trans o26) rfl ?_
  refine h_callV (pc' := 51) (M' := mX11_putLong) (As := [_]) dX11_writeDecimal_48 iX11_putLong lX11_413 rfl rfl rfl rfl (Nat.le_of_ble_eq_true rfl) (Nat.le_of_ble_eq_true rfl) rfl rfl ((k_putLong (d := d) O4 (by rw [s_ln1, s_ln1, s_ln1]; omega)).up (by omega)) (fun r m' hq => ?_)
  obtain ⟨rfl, f5, k5, j5, O5⟩ := hq
  have f15 := f14.trans f5
  have k15 : Kp 215 [41] m1 m' := k14.trans k5
  have j15 : m'.2.1 = m1.2.1 := j5.trans j14
  obtain ⟨m5, hm5⟩ : ∃ z, z = m' := ⟨_, rfl⟩
  subst hm5
  refine q_aload_n (pc' := 52) dX11_writeDecimal_51 rfl rfl ?_
  refine q_aload_n (pc' := 53) dX11_writeDecimal_52 rfl rfl ?_
  refine h_getiE (pc' := 56) dX11_writeDecimal_53 fX11_304 rfl rfl ((k15 29 (by decide)).trans o29) rfl ?_
  refine h_callV (pc' := 59) (M' := mX11_putByte) (As := [_]) dX11_writeDecimal_56 iX11_putByte lX11_407 rfl rfl rfl rfl (Nat.le_of_ble_eq_true rfl) (Nat.le_of_ble_eq_true rfl) rfl rfl ((k_putByte O5 (by rw [List.length_append, s_ln1, s_ln1, s_ln1, s_i8_len]; omega)).up (Nat.zero_le _)) (fun r m' hq => ?_)
  obtain ⟨rfl, f6, k6, j6, O6⟩ := hq
  rw [s_y_n (by omega)] at O6
  have hl6 : (L ++ [e] ++ [f] ++ [s_cnt (fun i => decide (w i = s_no)) k] ++ s_i8 ba ++ [wd]).length = 14 := by rw [s_ln1, List.length_append, s_ln1, s_ln1, s_ln1, s_i8_len]; omega
  generalize L ++ [e] ++ [f] ++ [s_cnt (fun i => decide (w i = s_no)) k] ++ s_i8 ba ++ [wd] = A at O6 hl6 ⊢
  have f6 : Fr [215, 232] m m' := f1.trans (f15.trans f6)
  have j6 : m'.2.1 215 26 = ba := by rw [j6, j15]; exact o26
  have e28 : m'.1 215 28 = nI (s_mk (fun i => decide (w i = s_no)) k) := (k6 28 (by decide)).trans ((k15 28 (by decide)).trans o28)
  have e29 : m'.1 215 29 = nI wd := (k6 29 (by decide)).trans ((k15 29 (by decide)).trans o29)
  have e42 : m'.1 215 42 = nI 0 := (k6 42 (by decide)).trans ((k15 42 (by decide)).trans e42)
  have k6 : Kp 215 [23, 28, 29, 41, 42] m m' := k1.trans ((k15.trans k6).mono (by decide))
  have B6 := O6.b e42
  refine q_iconst (pc' := 60) (v := nI 0) dX11_writeDecimal_59 rfl rfl ?_
  refine q_istore_n (pc' := 61) (lv' := [_, _, _, _]) dX11_writeDecimal_60 (by decide) rfl rfl ?_
  have two : ∀ c i m7, i + c = k → Fr [215, 232] m m7 → Kp 215 [23, 28, 29, 41, 42] m m7 → m7.1 215 28 = nI (s_mk (fun i => decide (w i = s_no)) k) → MO m7 ((s_fill (s_db (fun i => w i) ba wd (A, 0, 0) k)).1 ++ s_dx (fun i => decide (w i = s_no)) g i) → q_V (q_g Z) mX11_writeDecimal (d+4) 0 0 117 [some (.ref (q_ad Z 215)), some (.int (nI e)), some (.int (nI f)), some (.int (nI i))] [] (q_W Z (m7)) (q_P Z fun r m2 => r = none ∧ Fr [215, 232] m m2 ∧ Kp 215 [23, 28, 29, 41, 42] m m2 ∧ MO m2 ((s_fill (s_db (fun i => w i) ba wd (A, 0, 0) k)).1 ++ s_dx (fun i => decide (w i = s_no)) g k)) := by
    intro c
    induction c with
    | zero =>
      intro i m7 hi f7 k7 h28 O7
      have hik : i = k := by omega
      rw [hik] at O7
      refine q_iload_n (pc' := 118) dX11_writeDecimal_117 rfl rfl ?_
      refine q_aload_n (pc' := 119) dX11_writeDecimal_118 rfl rfl ?_
      refine h_getiE (pc' := 122) dX11_writeDecimal_119 fX11_286 rfl rfl ((k7 25 (by decide)).trans hH.1) rfl ?_
      refine q_icmp_geN (tgt := 157) (pc' := 125) dX11_writeDecimal_122 (by decide) rfl (by omega) (fun c_122 => ?_) (fun c_122 => ?_)
      rotate_left
      · omega
      refine q_vret dX11_writeDecimal_157 rfl ⟨_, rfl, rfl, f7, k7, O7⟩
    | succ c ih =>
      intro i m7 hi f7 k7 h28 O7
      have ih := fun m8 => ih (i + 1) m8 (by omega)
      have d1 := s_db_len (fun i => w i) ba wd (A, 0, 0) (by show 0 < 8; omega) k
      have d2 := s_fill_len _ d1.2
      have d3 := s_dx_len (fun i => decide (w i = s_no)) g i
      have d4 : k * wd ≤ 16 * 64 := Nat.mul_le_mul hk hbl
      have d1 : (s_db (fun i => w i) ba wd (A, 0, 0) k).1.length * 8 + (s_db (fun i => w i) ba wd (A, 0, 0) k).2.2 = A.length * 8 + 0 + k * wd := d1.1
      refine q_iload_n (pc' := 118) dX11_writeDecimal_117 rfl rfl ?_
      refine q_aload_n (pc' := 119) dX11_writeDecimal_118 rfl rfl ?_
      refine h_getiE (pc' := 122) dX11_writeDecimal_119 fX11_286 rfl rfl ((k7 25 (by decide)).trans hH.1) rfl ?_
      refine q_icmp_geN (tgt := 157) (pc' := 125) dX11_writeDecimal_122 (by decide) rfl (by omega) (fun c_122 => ?_) (fun c_122 => ?_)
      · omega
      refine q_aload_n (pc' := 126) dX11_writeDecimal_125 rfl rfl ?_
      refine h_getiE (pc' := 129) dX11_writeDecimal_126 fX11_289 rfl rfl (h28) rfl ?_
      refine q_iload_n (pc' := 130) dX11_writeDecimal_129 rfl rfl ?_
      refine h_callS (pc' := 133) (M' := mX11_has) (As := [_, _]) dX11_writeDecimal_130 iX11_has lX11_127 rfl rfl (Nat.le_of_ble_eq_true rfl) (Nat.le_of_ble_eq_true rfl) rfl rfl ((k_has (by omega) (by omega)).up (Nat.zero_le _)) (fun r m' hq => ?_)
      obtain ⟨rfl, hmm⟩ := hq
      subst m'
      rw [decide_eq_true (show i < k by omega), Bool.true_and]
      rw [show s_dx (fun i => decide (w i = s_no)) g (i + 1) = if decide (w i = s_no) = true then s_dx (fun i => decide (w i = s_no)) g i ++ [i] ++ s_i8 (g i) else s_dx (fun i => decide (w i = s_no)) g i from rfl] at ih
      refine q_if_eqB (tgt := 151) (pc' := 136) dX11_writeDecimal_133 (by decide) rfl (fun c_133 => ?_) (fun c_133 => ?_)
      · rw [if_neg (by rw [c_133]; decide)] at ih
        refine q_iincN (pc' := 154) (j := 1) (lv' := [_, _, _, _]) dX11_writeDecimal_151 rfl (by decide) rfl rfl ?_
        refine q_goto (pc' := 117) dX11_writeDecimal_154 (by decide) ?_
        exact ih m7 f7 k7 h28 O7
      rw [if_pos c_133, ← List.append_assoc, ← List.append_assoc] at ih
      refine q_aload_n (pc' := 137) dX11_writeDecimal_136 rfl rfl ?_
      refine q_iload_n (pc' := 138) dX11_writeDecimal_137 rfl rfl ?_
      refine h_callV (pc' := 141) (M' := mX11_putByte) (As := [_]) dX11_writeDecimal_138 iX11_putByte lX11_407 rfl rfl rfl rfl (Nat.le_of_ble_eq_true rfl) (Nat.le_of_ble_eq_true rfl) rfl rfl ((k_putByte O7 (by rw [List.length_append]; omega)).up (Nat.zero_le _)) (fun r m' hq => ?_)
      obtain ⟨rfl, f8, k8, j8, O8⟩ := hq
      rw [s_y_n (by omega)] at O8
      have f8 := f7.trans f8
      have k8 : Kp 215 [23, 28, 29, 41, 42] m m' := k7.trans (k8.mono (by decide))
      have h28 : m'.1 215 28 = nI (s_mk (fun i => decide (w i = s_no)) k) := ((‹Kp 215 [41] m7 m'›) 28 (by decide)).trans h28
      obtain ⟨m8, hm8⟩ : ∃ z, z = m' := ⟨_, rfl⟩
      subst hm8
      refine q_aload_n (pc' := 142) dX11_writeDecimal_141 rfl rfl ?_
      refine q_aload_n (pc' := 143) dX11_writeDecimal_142 rfl rfl ?_
      refine h_getr (pc' := 146) dX11_writeDecimal_143 fX11_45 rfl rfl rfl ?_
      refine q_iload_n (pc' := 147) dX11_writeDecimal_146 rfl rfl ?_
      refine h_laldE (pc' := 148) dX11_writeDecimal_147 rfl (rfl) (by omega) (by decide) ((congrFun (f8.l (by decide)) i).trans (hH.2 i (by omega))) rfl ?_
      refine h_callV (pc' := 151) (M' := mX11_putLong) (As := [_]) dX11_writeDecimal_148 iX11_putLong lX11_413 rfl rfl rfl rfl (Nat.le_of_ble_eq_true rfl) (Nat.le_of_ble_eq_true rfl) rfl rfl ((k_putLong (d := d) O8 (by rw [s_ln1, List.length_append]; omega)).up (by omega)) (fun r m' hq => ?_)
      obtain ⟨rfl, f9, k9, j9, O9⟩ := hq
      refine q_iincN (pc' := 154) (j := 1) (lv' := [_, _, _, _]) dX11_writeDecimal_151 rfl (by decide) rfl rfl ?_
      refine q_goto (pc' := 117) dX11_writeDecimal_154 (by decide) ?_
      exact ih m' (f8.trans f9) (k8.trans (k9.mono (by decide))) ((k9 28 (by decide)).trans h28) O9
  suffices h : ∀ c i m7, i + c = k → Fr [215, 232] m m7 → Kp 215 [23, 28, 29, 41, 42] m m7 → m7.1 215 28 = nI (s_mk (fun i => decide (w i = s_no)) k) → m7.1 215 29 = nI wd → m7.2.1 215 26 = ba → MB m7 (s_db (fun i => w i) ba wd (A, 0, 0) i) → q_V (q_g Z) mX11_writeDecimal (d+4) 0 0 61 [some (.ref (q_ad Z 215)), some (.int (nI e)), some (.int (nI f)), some (.int (nI i))] [] (q_W Z (m7)) (q_P Z fun r m2 => r = none ∧ Fr [215, 232] m m2 ∧ Kp 215 [23, 28, 29, 41, 42] m m2 ∧ MO m2 ((s_fill (s_db (fun i => w i) ba wd (A, 0, 0) k)).1 ++ s_dx (fun i => decide (w i = s_no)) g k)) from h k 0 m' (Nat.zero_add _) f6 k6 e28 e29 j6 B6
  intro c
  induction c with
  | zero =>
    intro i m7 hi f7 k7 h28 h29 h26 B7
    have hik : i = k := by omega
    rw [hik] at B7
    refine q_iload_n (pc' := 62) dX11_writeDecimal_61 rfl rfl ?_
    refine q_aload_n (pc' := 63) dX11_writeDecimal_62 rfl rfl ?_
    refine h_getiE (pc' := 66) dX11_writeDecimal_63 fX11_286 rfl rfl ((k7 25 (by decide)).trans hH.1) rfl ?_
    refine q_icmp_geN (tgt := 115) (pc' := 69) dX11_writeDecimal_66 (by decide) rfl (by omega) (fun c_66 => ?_) (fun c_66 => ?_)
    rotate_left
    · omega
    refine q_iconst (pc' := 116) (v := nI 0) dX11_writeDecimal_115 rfl rfl ?_
    refine q_istore_n (pc' := 117) (lv' := [_, _, _, _]) dX11_writeDecimal_116 (by decide) rfl rfl ?_
    exact two k 0 m7 (Nat.zero_add _) f7 k7 h28 (by
      show MO m7 (_ ++ [])
      rw [List.append_nil]
      exact B7.o)
  | succ c ih =>
    intro i m7 hi f7 k7 h28 h29 h26 B7
    have ih := fun m8 => ih (i + 1) m8 (by omega)
    have d1 := (s_db_len (fun i => w i) ba wd (A, 0, 0) (by show 0 < 8; omega) i).1
    have d1 : (s_db (fun i => w i) ba wd (A, 0, 0) i).1.length * 8 + (s_db (fun i => w i) ba wd (A, 0, 0) i).2.2 = A.length * 8 + 0 + i * wd := d1
    have d4 : i * wd ≤ 16 * 64 := Nat.mul_le_mul (by omega) hbl
    refine q_iload_n (pc' := 62) dX11_writeDecimal_61 rfl rfl ?_
    refine q_aload_n (pc' := 63) dX11_writeDecimal_62 rfl rfl ?_
    refine h_getiE (pc' := 66) dX11_writeDecimal_63 fX11_286 rfl rfl ((k7 25 (by decide)).trans hH.1) rfl ?_
    refine q_icmp_geN (tgt := 115) (pc' := 69) dX11_writeDecimal_66 (by decide) rfl (by omega) (fun c_66 => ?_) (fun c_66 => ?_)
    · omega
    refine q_aload_n (pc' := 70) dX11_writeDecimal_69 rfl rfl ?_
    refine q_aload_n (pc' := 71) dX11_writeDecimal_70 rfl rfl ?_
    refine h_getiE (pc' := 74) dX11_writeDecimal_71 fX11_289 rfl rfl (h28) rfl ?_
    refine q_iload_n (pc' := 75) dX11_writeDecimal_74 rfl rfl ?_
    refine h_callS (pc' := 78) (M' := mX11_has) (As := [_, _]) dX11_writeDecimal_75 iX11_has lX11_127 rfl rfl (Nat.le_of_ble_eq_true rfl) (Nat.le_of_ble_eq_true rfl) rfl rfl ((k_has (by omega) (by omega)).up (Nat.zero_le _)) (fun r m' hq => ?_)
    obtain ⟨rfl, hmm⟩ := hq
    subst m'
    rw [decide_eq_true (show i < k by omega), Bool.true_and]
    rw [show s_db (fun i => w i) ba wd (A, 0, 0) (i + 1) = s_bits (if w i = s_no then 0 else w i - ba) wd (s_db (fun i => w i) ba wd (A, 0, 0) i) from rfl] at ih
    refine q_if_eqB (tgt := 85) (pc' := 81) dX11_writeDecimal_78 (by decide) rfl (fun c_78 => ?_) (fun c_78 => ?_)
    · have hn : ¬ w i = s_no := of_decide_eq_false c_78
      rw [if_neg hn] at ih
      have hM7 := hM.fr f7 (by decide) (by decide)
      refine q_aload_n (pc' := 86) dX11_writeDecimal_85 rfl rfl ?_
      refine q_aload_n (pc' := 87) dX11_writeDecimal_86 rfl rfl ?_
      refine h_getr (pc' := 90) dX11_writeDecimal_87 fX11_45 rfl rfl rfl ?_
      refine q_iload_n (pc' := 91) dX11_writeDecimal_90 rfl rfl ?_
      refine h_laldE (pc' := 92) dX11_writeDecimal_91 rfl (rfl) (by omega) (by decide) ((congrFun (f7.l (by decide)) i).trans (hH.2 i (by omega))) rfl ?_
      refine q_iload_n (pc' := 93) dX11_writeDecimal_92 rfl rfl ?_
      refine q_iload_n (pc' := 94) dX11_writeDecimal_93 rfl rfl ?_
      refine h_callV (pc' := 97) (M' := mX11_wholeOf) (As := [_, _, _]) dX11_writeDecimal_94 iX11_wholeOf lX11_274 rfl rfl rfl rfl (Nat.le_of_ble_eq_true rfl) (Nat.le_of_ble_eq_true rfl) rfl rfl ((k_wholeOf (d := d) hM7 he hf).up (by omega)) (fun r m' hq => ?_)
      obtain ⟨x, rfl, hx, f8, k8, j8, -⟩ := hq
      rw [hwi] at hx
      rw [hx hn]
      have h26 : m'.2.1 215 26 = ba := by rw [j8]; exact h26
      have h28 := (k8 28 (by decide)).trans h28
      have h29 := (k8 29 (by decide)).trans h29
      have B8 := B7.fr f8 (k8 41 (by decide)) (k8 42 (by decide)) (by decide)
      have f8 : Fr [215, 232] m m' := f7.trans (f8.mono (by decide))
      have k8 : Kp 215 [23, 28, 29, 41, 42] m m' := k7.trans (k8.mono (by decide))
      obtain ⟨m8, hm8⟩ : ∃ z, z = m' := ⟨_, rfl⟩
      subst hm8
      refine q_aload_n (pc' := 98) dX11_writeDecimal_97 rfl rfl ?_
      refine h_getjE (pc' := 101) dX11_writeDecimal_98 fX11_292 rfl rfl (h26) rfl ?_
      refine q_lsub (pc' := 102) dX11_writeDecimal_101 rfl ?_
      refine q_aload_n (pc' := 103) dX11_writeDecimal_102 rfl rfl ?_
      refine h_getiE (pc' := 106) dX11_writeDecimal_103 fX11_304 rfl rfl (h29) rfl ?_
      refine h_callV (pc' := 109) (M' := mX11_putBits) (As := [_, _]) dX11_writeDecimal_106 iX11_putBits lX11_417 rfl rfl rfl rfl (Nat.le_of_ble_eq_true rfl) (Nat.le_of_ble_eq_true rfl) rfl rfl ((k_putBits (d := d) B8 (by omega) hbl).up (by omega)) (fun r m' hq => ?_)
      obtain ⟨rfl, f9, k9, j9, B9⟩ := hq
      refine q_iincN (pc' := 112) (j := 1) (lv' := [_, _, _, _]) dX11_writeDecimal_109 rfl (by decide) rfl rfl ?_
      refine q_goto (pc' := 61) dX11_writeDecimal_112 (by decide) ?_
      exact ih m' (f8.trans f9) (k8.trans (k9.mono (by decide))) ((k9 28 (by decide)).trans h28) ((k9 29 (by decide)).trans h29) (by rw [j9]; exact h26) B9
    · have hn : w i = s_no := of_decide_eq_true c_78
      rw [if_pos hn] at ih
      refine q_lconst (pc' := 82) (v := 0) dX11_writeDecimal_81 rfl rfl ?_
      refine q_goto (pc' := 102) dX11_writeDecimal_82 (by decide) ?_
      refine q_aload_n (pc' := 103) dX11_writeDecimal_102 rfl rfl ?_
      refine h_getiE (pc' := 106) dX11_writeDecimal_103 fX11_304 rfl rfl (h29) rfl ?_
      refine h_callV (pc' := 109) (M' := mX11_putBits) (As := [_, _]) dX11_writeDecimal_106 iX11_putBits lX11_417 rfl rfl rfl rfl (Nat.le_of_ble_eq_true rfl) (Nat.le_of_ble_eq_true rfl) rfl rfl ((k_putBits (d := d) B7 (by omega) hbl).up (by omega)) (fun r m' hq => ?_)
      obtain ⟨rfl, f9, k9, j9, B9⟩ := hq
      refine q_iincN (pc' := 112) (j := 1) (lv' := [_, _, _, _]) dX11_writeDecimal_109 rfl (by decide) rfl rfl ?_
      refine q_goto (pc' := 61) dX11_writeDecimal_112 (by decide) ?_
      exact ih m' (f7.trans f9) (k7.trans (k9.mono (by decide))) ((k9 28 (by decide)).trans h28) ((k9 29 (by decide)).trans h29) (by rw [j9]; exact h26) B9
