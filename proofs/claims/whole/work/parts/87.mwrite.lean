/-! ===== the reference writes: bytes, bits ===== -/
theorem sg_app {L : List Nat} {b i : Nat} (h : i < L.length + 1) : s_sg (L ++ [b]) i = if i < L.length then s_sg L i else b := by
  unfold s_sg
  rw [List.getD_eq_getElem?_getD, List.getD_eq_getElem?_getD]
  split
  · rename_i z
    rw [List.getElem?_append_left z]
  · rename_i z
    rw [List.getElem?_append_right (by omega), show i - L.length = 0 by omega]
    rfl
def s_y (x : Int32) : Nat := x.toBitVec.toNat % 256
theorem z_byW (x : Int32) : (x &&& nI 255).toBitVec.toNat = s_y x := by
  rw [z_byte, show (nI (x.toBitVec.toNat % 256)).toBitVec.toNat = x.toBitVec.toNat % 256 % 2 ^ 32 from rfl, Nat.mod_eq_of_lt (by omega)]
  rfl
theorem s_y_n {n : Nat} (h : n < 256) : s_y (nI n) = n := by
  unfold s_y
  rw [show (nI n).toBitVec.toNat = n % 2 ^ 32 from rfl]
  omega
set_option maxHeartbeats 4000000 in
set_option maxRecDepth 20000 in
theorem k_putByte {Z : q_Z} {m : q_Mm} {d : Nat} {L : List Nat} {x : Int32} (h : MO m L) (hl : L.length < 320) : q_V (q_g Z) mX11_putByte (d) 0 0 0 [some (.ref (q_ad Z 215)), some (.int x)] [] (q_W Z m) (q_P Z fun r m2 => r = none ∧ Fr [215, 232] m m2 ∧ Kp 215 [41] m m2 ∧ m2.2.1 = m.2.1 ∧ MO m2 (L ++ [s_y x])) := by
  obtain ⟨h1, h2, h3⟩ := h
  refine q_aload_n (pc' := 1) dX11_putByte_0 rfl rfl ?_
  refine h_getr (pc' := 4) dX11_putByte_1 fX11_60 rfl rfl rfl ?_
  refine q_aload_n (pc' := 5) dX11_putByte_4 rfl rfl ?_
  refine h_getiE (pc' := 8) dX11_putByte_5 fX11_251 rfl rfl (h1) rfl ?_
  refine q_iload_n (pc' := 9) dX11_putByte_8 rfl rfl ?_
  refine q_sipush (pc' := 12) (v := nI 255) dX11_putByte_9 rfl rfl ?_
  refine q_iand (pc' := 13) dX11_putByte_12 rfl ?_
  refine h_iast (pc' := 14) dX11_putByte_13 rfl (rfl) (by omega) (by decide) rfl ?_
  refine q_aload_n (pc' := 15) dX11_putByte_14 rfl rfl ?_
  refine q_dup (pc' := 16) dX11_putByte_15 rfl rfl ?_
  refine h_getiE (pc' := 19) dX11_putByte_16 fX11_251 rfl rfl (h1) rfl ?_
  refine q_iconst (pc' := 20) (v := nI 1) dX11_putByte_19 rfl rfl ?_
  refine q_iaddN (pc' := 21) dX11_putByte_20 rfl ?_
  refine h_puti (pc' := 24) dX11_putByte_21 fX11_251 rfl rfl rfl rfl rfl ?_
  generalize hm9 : sI (sA m 232 (q_u (m.2.2.1 232) L.length (x &&& nI 255))) 215 41 (nI (L.length + 1)) = m9
  have f9 : Fr [215, 232] m m9 := hm9 ▸ (Fr.rf.A (by decide)).I (by decide)
  have k9 : Kp 215 [41] m m9 := hm9 ▸ kp_I Kp.rf (by decide)
  have O9 : MO m9 (L ++ [s_y x]) := by
    rw [← hm9]
    refine ⟨?_, by rw [List.length_append]; exact hl, fun i hi => ?_⟩
    · rw [List.length_append]; rfl
    · rw [List.length_append] at hi
      have hi : i < L.length + 1 := hi
      show q_u (m.2.2.1 232) L.length (x &&& nI 255) i = _
      rw [sg_app hi]
      by_cases z : i = L.length
      · rw [z, q_u_s, if_neg (Nat.lt_irrefl _), z_byte]; rfl
      · rw [q_u_n _ _ z, if_pos (by omega)]; exact h3 i (by omega)
  refine q_vret dX11_putByte_24 rfl ⟨_, rfl, rfl, f9, k9, by rw [← hm9]; rfl, O9⟩
theorem z_shW (v : Int64) (s : Int32) (k : Nat) (hs : (s.toInt64.toUInt64 &&& Int64.toUInt64 63).toNat % 64 = k) : s_y ((v.toUInt64 >>> (s.toInt64.toUInt64 &&& Int64.toUInt64 63)).toInt64.toInt32) = s_N v / 2 ^ k % 256 := by
  unfold s_y
  rw [Int64.toBitVec_toInt32, BitVec.signExtend_eq_setWidth_of_le _ (by decide), BitVec.toNat_setWidth]
  show (v.toUInt64 >>> (s.toInt64.toUInt64 &&& Int64.toUInt64 63)).toNat % 2 ^ 32 % 256 = _
  rw [UInt64.toNat_shiftRight, hs, Nat.shiftRight_eq_div_pow]
  show s_N v / 2 ^ k % 2 ^ 32 % 256 = _
  omega
theorem s_i8_N (v : Int64) : s_i8 v = [s_N v / 2 ^ 56 % 256, s_N v / 2 ^ 48 % 256, s_N v / 2 ^ 40 % 256, s_N v / 2 ^ 32 % 256, s_N v / 2 ^ 24 % 256, s_N v / 2 ^ 16 % 256, s_N v / 2 ^ 8 % 256, s_N v % 256] := by
  have h := s_N_lt v
  have e1 : (v.toUInt64 >>> ((nI 32).toInt64.toUInt64 &&& Int64.toUInt64 63)).toInt64.toInt32.toBitVec.toNat = s_N v / 2 ^ 32 := by
    rw [Int64.toBitVec_toInt32, BitVec.signExtend_eq_setWidth_of_le _ (by decide), BitVec.toNat_setWidth]
    show (v.toUInt64 >>> ((nI 32).toInt64.toUInt64 &&& Int64.toUInt64 63)).toNat % 2 ^ 32 = _
    rw [UInt64.toNat_shiftRight, show ((nI 32).toInt64.toUInt64 &&& Int64.toUInt64 63).toNat % 64 = 32 from rfl, Nat.shiftRight_eq_div_pow]
    show s_N v / 2 ^ 32 % 2 ^ 32 = _
    omega
  have e2 : v.toInt32.toBitVec.toNat = s_N v % 2 ^ 32 := by
    rw [Int64.toBitVec_toInt32, BitVec.signExtend_eq_setWidth_of_le _ (by decide), BitVec.toNat_setWidth]
    rfl
  unfold s_i8 s_i4
  rw [e1, e2]
  show [_, _, _, _, _, _, _, _] = _
  rw [show s_N v / 2 ^ 32 / 2 ^ 24 % 256 = s_N v / 2 ^ 56 % 256 by omega, show s_N v / 2 ^ 32 / 2 ^ 16 % 256 = s_N v / 2 ^ 48 % 256 by omega, show s_N v / 2 ^ 32 / 2 ^ 8 % 256 = s_N v / 2 ^ 40 % 256 by omega, show s_N v % 2 ^ 32 / 2 ^ 24 % 256 = s_N v / 2 ^ 24 % 256 by omega, show s_N v % 2 ^ 32 / 2 ^ 16 % 256 = s_N v / 2 ^ 16 % 256 by omega, show s_N v % 2 ^ 32 / 2 ^ 8 % 256 = s_N v / 2 ^ 8 % 256 by omega, show s_N v % 2 ^ 32 % 256 = s_N v % 256 by omega]
theorem s_app8 {L : List Nat} {a b c d e f g h : Nat} : L ++ [a] ++ [b] ++ [c] ++ [d] ++ [e] ++ [f] ++ [g] ++ [h] = L ++ [a, b, c, d, e, f, g, h] := by simp
set_option maxHeartbeats 4000000 in
set_option maxRecDepth 20000 in
theorem k_putLong {Z : q_Z} {m : q_Mm} {d : Nat} {L : List Nat} {v : Int64} (h : MO m L) (hl : L.length + 8 ≤ 320) : q_V (q_g Z) mX11_putLong (d+1) 0 0 0 [some (.ref (q_ad Z 215)), some (.long v), none, none] [] (q_W Z m) (q_P Z fun r m2 => r = none ∧ Fr [215, 232] m m2 ∧ Kp 215 [41] m m2 ∧ m2.2.1 = m.2.1 ∧ MO m2 (L ++ s_i8 v)) := by
  rw [s_i8_N, ← s_app8]
  have step : ∀ (k : Nat) (s : Int32) (L1 : List Nat) (m1 : q_Mm), k < 64 → (s.toInt64.toUInt64 &&& Int64.toUInt64 63).toNat % 64 = k → ¬ s < 0 → MO m1 L1 → L1.length < 320 → Fr [215, 232] m m1 → Kp 215 [41] m m1 → m1.2.1 = m.2.1 → (∀ m3, MO m3 (L1 ++ [s_N v / 2 ^ k % 256]) → Fr [215, 232] m m3 → Kp 215 [41] m m3 → m3.2.1 = m.2.1 → q_V (q_g Z) mX11_putLong (d+1) 0 0 3 [some (.ref (q_ad Z 215)), some (.long v), none, some (.int (s + Int32.ofInt (-8)))] [] (q_W Z (m3)) (q_P Z fun r m2 => r = none ∧ Fr [215, 232] m m2 ∧ Kp 215 [41] m m2 ∧ m2.2.1 = m.2.1 ∧ MO m2 (L ++ [s_N v / 2 ^ 56 % 256] ++ [s_N v / 2 ^ 48 % 256] ++ [s_N v / 2 ^ 40 % 256] ++ [s_N v / 2 ^ 32 % 256] ++ [s_N v / 2 ^ 24 % 256] ++ [s_N v / 2 ^ 16 % 256] ++ [s_N v / 2 ^ 8 % 256] ++ [s_N v % 256]))) → q_V (q_g Z) mX11_putLong (d+1) 0 0 3 [some (.ref (q_ad Z 215)), some (.long v), none, some (.int s)] [] (q_W Z (m1)) (q_P Z fun r m2 => r = none ∧ Fr [215, 232] m m2 ∧ Kp 215 [41] m m2 ∧ m2.2.1 = m.2.1 ∧ MO m2 (L ++ [s_N v / 2 ^ 56 % 256] ++ [s_N v / 2 ^ 48 % 256] ++ [s_N v / 2 ^ 40 % 256] ++ [s_N v / 2 ^ 32 % 256] ++ [s_N v / 2 ^ 24 % 256] ++ [s_N v / 2 ^ 16 % 256] ++ [s_N v / 2 ^ 8 % 256] ++ [s_N v % 256])) := by
    intro k s L1 m1 hk hs h0 O1 l1 f1 k1 j1 kk
    refine q_iload_n (pc' := 4) dX11_putLong_3 rfl rfl ?_
    refine q_if_lt (tgt := 21) (pc' := 7) dX11_putLong_4 (by decide) rfl (fun c_4 => ?_) (fun c_4 => ?_)
    · exact absurd c_4 h0
    refine q_aload_n (pc' := 8) dX11_putLong_7 rfl rfl ?_
    refine q_lload_n (pc' := 9) dX11_putLong_8 rfl rfl ?_
    refine q_iload_n (pc' := 10) dX11_putLong_9 rfl rfl ?_
    refine q_lushr (pc' := 11) dX11_putLong_10 rfl rfl ?_
    refine q_l2i (pc' := 12) dX11_putLong_11 rfl ?_
    refine h_callV (pc' := 15) (M' := mX11_putByte) (As := [_]) dX11_putLong_12 iX11_putByte lX11_407 rfl rfl rfl rfl (Nat.le_of_ble_eq_true rfl) (Nat.le_of_ble_eq_true rfl) rfl rfl (k_putByte O1 l1) (fun r m' hq => ?_)
    obtain ⟨rfl, f2, k2, j2, O2⟩ := hq
    rw [z_shW v s k hs] at O2
    refine q_iinc (pc' := 18) (lv' := [_, _, _, _]) dX11_putLong_15 rfl (by decide) rfl rfl ?_
    refine q_goto (pc' := 3) dX11_putLong_18 (by decide) ?_
    exact kk m' O2 (f1.trans f2) (k1.trans k2) (j2.trans j1)
  have ln : ∀ (A : List Nat) (b : Nat), (A ++ [b]).length = A.length + 1 := fun A b => by rw [List.length_append]; rfl
  refine q_bipush (pc' := 2) (v := nI 56) dX11_putLong_0 rfl rfl ?_
  refine q_istore_n (pc' := 3) (lv' := [_, _, _, _]) dX11_putLong_2 (by decide) rfl rfl ?_
  refine step 56 _ L m (by decide) (by decide) (by decide) h (by omega) Fr.rf Kp.rf rfl (fun m3 O3 f3 k3 j3 => ?_)
  refine step 48 _ _ m3 (by decide) (by decide) (by decide) O3 (by rw [ln]; omega) f3 k3 j3 (fun m4 O4 f4 k4 j4 => ?_)
  refine step 40 _ _ m4 (by decide) (by decide) (by decide) O4 (by rw [ln, ln]; omega) f4 k4 j4 (fun m5 O5 f5 k5 j5 => ?_)
  refine step 32 _ _ m5 (by decide) (by decide) (by decide) O5 (by rw [ln, ln, ln]; omega) f5 k5 j5 (fun m6 O6 f6 k6 j6 => ?_)
  refine step 24 _ _ m6 (by decide) (by decide) (by decide) O6 (by rw [ln, ln, ln, ln]; omega) f6 k6 j6 (fun m7 O7 f7 k7 j7 => ?_)
  refine step 16 _ _ m7 (by decide) (by decide) (by decide) O7 (by rw [ln, ln, ln, ln, ln]; omega) f7 k7 j7 (fun m8 O8 f8 k8 j8 => ?_)
  refine step 8 _ _ m8 (by decide) (by decide) (by decide) O8 (by rw [ln, ln, ln, ln, ln, ln]; omega) f8 k8 j8 (fun m9 O9 f9 k9 j9 => ?_)
  refine step 0 _ _ m9 (by decide) (by decide) (by decide) O9 (by rw [ln, ln, ln, ln, ln, ln, ln]; omega) f9 k9 j9 (fun m10 O10 f10 k10 j10 => ?_)
  rw [Nat.pow_zero, Nat.div_one] at O10
  refine q_iload_n (pc' := 4) dX11_putLong_3 rfl rfl ?_
  refine q_if_lt (tgt := 21) (pc' := 7) dX11_putLong_4 (by decide) rfl (fun c_4 => ?_) (fun c_4 => ?_)
  rotate_left
  · exact absurd (by decide) c_4
  refine q_vret dX11_putLong_21 rfl ⟨_, rfl, rfl, f10, k10, j10, O10⟩
set_option maxHeartbeats 4000000 in
set_option maxRecDepth 20000 in
theorem k_putTwo {Z : q_Z} {m : q_Mm} {d : Nat} {L : List Nat} {x : Int32} (h : MO m L) (hl : L.length + 2 ≤ 320) : q_V (q_g Z) mX11_putTwo (d+1) 0 0 0 [some (.ref (q_ad Z 215)), some (.int x)] [] (q_W Z m) (q_P Z fun r m2 => r = none ∧ Fr [215, 232] m m2 ∧ Kp 215 [41] m m2 ∧ m2.2.1 = m.2.1 ∧ MO m2 (L ++ [(x >>> (nI 8 &&& 31) &&& nI 255).toBitVec.toNat] ++ [(x &&& nI 255).toBitVec.toNat])) := by
  rw [z_byW, z_byW]
  refine q_aload_n (pc' := 1) dX11_putTwo_0 rfl rfl ?_
  refine q_iload_n (pc' := 2) dX11_putTwo_1 rfl rfl ?_
  refine q_bipush (pc' := 4) (v := nI 8) dX11_putTwo_2 rfl rfl ?_
  refine q_ishr (pc' := 5) dX11_putTwo_4 rfl ?_
  refine h_callV (pc' := 8) (M' := mX11_putByte) (As := [_]) dX11_putTwo_5 iX11_putByte lX11_407 rfl rfl rfl rfl (Nat.le_of_ble_eq_true rfl) (Nat.le_of_ble_eq_true rfl) rfl rfl (k_putByte h (by omega)) (fun r m' hq => ?_)
  obtain ⟨rfl, f1, k1, j1, O1⟩ := hq
  obtain ⟨m1, hm1⟩ : ∃ z, z = m' := ⟨_, rfl⟩
  subst hm1
  refine q_aload_n (pc' := 9) dX11_putTwo_8 rfl rfl ?_
  refine q_iload_n (pc' := 10) dX11_putTwo_9 rfl rfl ?_
  refine h_callV (pc' := 13) (M' := mX11_putByte) (As := [_]) dX11_putTwo_10 iX11_putByte lX11_407 rfl rfl rfl rfl (Nat.le_of_ble_eq_true rfl) (Nat.le_of_ble_eq_true rfl) rfl rfl (k_putByte O1 (by rw [List.length_append]; show L.length + 1 < 320; omega)) (fun r m' hq => ?_)
  obtain ⟨rfl, f2, k2, j2, O2⟩ := hq
  refine q_vret dX11_putTwo_13 rfl ⟨_, rfl, rfl, f1.trans f2, k1.trans k2, j2.trans j1, O2⟩
/-- what is written, with bits begun -/
def MB (m : q_Mm) (q : s_B) : Prop := MO m (q.1 ++ if q.2.2 = 0 then [] else [q.2.1 * 2 ^ (8 - q.2.2)]) ∧ (∃ w, m.1 215 42 = nI w ∧ w % 8 = q.2.2 ∧ w < 100000 + q.1.length * 8 + q.2.2) ∧ q.2.2 < 8 ∧ q.2.1 < 2 ^ q.2.2
theorem z_orb0 : ∀ k : Fin 8, ∀ b : Fin 2, ∀ a : Fin 128, a.1 * 2 ^ (k.1 + 1) < 256 → nI (a.1 * 2 ^ (k.1 + 1)) ||| nI b.1 <<< (nI k.1 &&& 31) = nI ((2 * a.1 + b.1) * 2 ^ k.1) := by decide +kernel
theorem z_orb {k a b : Nat} (hk : k < 8) (hb : b < 2) (h : a * 2 ^ (k + 1) < 256) : nI (a * 2 ^ (k + 1)) ||| nI b <<< (nI k &&& 31) = nI ((2 * a + b) * 2 ^ k) := by
  have ha : a < 128 := by
    have : a * 2 ≤ a * 2 ^ (k + 1) := Nat.mul_le_mul (Nat.le_refl _) (by rw [Nat.pow_succ]; have := Nat.two_pow_pos k; omega)
    omega
  exact z_orb0 ⟨k, hk⟩ ⟨b, hb⟩ ⟨a, ha⟩ h
theorem s_bit_I (v : Int64) (k : Nat) : ((v.toUInt64 >>> ((nI k).toInt64.toUInt64 &&& Int64.toUInt64 63)).toInt64 &&& 1).toInt32 = nI (s_bit v k) := by
  unfold s_bit
  refine Int32.toBitVec_inj.mp (BitVec.eq_of_toNat_eq ?_)
  show _ = (((v.toUInt64 >>> ((nI k).toInt64.toUInt64 &&& Int64.toUInt64 63)).toInt64 &&& 1).toInt32).toBitVec.toNat % 2 ^ 32
  exact (Nat.mod_eq_of_lt (BitVec.isLt _)).symm
theorem s_bit_2 (v : Int64) (k : Nat) : s_bit v k < 2 := by
  unfold s_bit
  rw [Int64.toBitVec_toInt32, BitVec.signExtend_eq_setWidth_of_le _ (by decide), BitVec.toNat_setWidth, Int64.toBitVec_and, BitVec.toNat_and, show (1 : Int64).toBitVec.toNat = 2 ^ 1 - 1 from rfl, Nat.and_two_pow_sub_one_eq_mod]
  omega
theorem z_decI (n : Nat) : nI n - nI 1 = nI n + Int32.ofInt (-1) := by
  rw [Int32.sub_eq_add_neg]
  congr 1
set_option maxHeartbeats 4000000 in
set_option maxRecDepth 20000 in
theorem k_putBits {Z : q_Z} {m : q_Mm} {d : Nat} {q : s_B} {v : Int64} {n : Nat} (h : MB m q) (hl : q.1.length * 8 + q.2.2 + n ≤ 2552) (hn : n ≤ 64) : q_V (q_g Z) mX11_putBits (d+1) 0 0 0 [some (.ref (q_ad Z 215)), some (.long v), none, some (.int (nI n)), none] [] (q_W Z m) (q_P Z fun r m2 => r = none ∧ Fr [215, 232] m m2 ∧ Kp 215 [41, 42] m m2 ∧ m2.2.1 = m.2.1 ∧ MB m2 (s_bits v n q)) := by
  obtain ⟨Q, hQ⟩ : ∃ Q, s_bits v n q = Q := ⟨_, rfl⟩
  rw [hQ]
  refine q_iload_n (pc' := 1) dX11_putBits_0 rfl rfl ?_
  refine q_iconst (pc' := 2) (v := nI 1) dX11_putBits_1 rfl rfl ?_
  refine q_isub (pc' := 3) dX11_putBits_2 rfl ?_
  refine q_istore (pc' := 5) (lv' := [_, _, _, _, _]) dX11_putBits_3 (by decide) rfl rfl ?_
  rw [z_decI]
  suffices hh : ∀ g q1 m1, g ≤ n → s_bits v g q1 = Q → q1.1.length * 8 + q1.2.2 + g ≤ 2552 → MB m1 q1 → Fr [215, 232] m m1 → Kp 215 [41, 42] m m1 → m1.2.1 = m.2.1 → q_V (q_g Z) mX11_putBits (d+1) 0 0 5 [some (.ref (q_ad Z 215)), some (.long v), none, some (.int (nI n)), some (.int (nI g + Int32.ofInt (-1)))] [] (q_W Z (m1)) (q_P Z fun r m2 => r = none ∧ Fr [215, 232] m m2 ∧ Kp 215 [41, 42] m m2 ∧ m2.2.1 = m.2.1 ∧ MB m2 Q) from hh n q m (Nat.le_refl _) hQ hl h Fr.rf Kp.rf rfl
  intro g
  induction g with
  | zero =>
    intro q1 m1 hg hs hle B1 f1 k1 j1
    have hs : q1 = Q := hs
    subst hs
    refine q_iload (pc' := 7) dX11_putBits_5 rfl rfl ?_
    refine q_if_lt (tgt := 73) (pc' := 10) dX11_putBits_7 (by decide) rfl (fun c_7 => ?_) (fun c_7 => ?_)
    rotate_left
    · exact absurd (by decide) c_7
    refine q_vret dX11_putBits_73 rfl ⟨_, rfl, rfl, f1, k1, j1, B1⟩
  | succ g ih =>
    intro q1 m1 hg hs hle B1 f1 k1 j1
    have hs : s_bits v g (s_push q1 (s_bit v g)) = Q := hs
    obtain ⟨hO, ⟨w, h42, hw8, hw⟩, hc8, hv2⟩ := B1
    have hb2 := s_bit_2 v g
    rw [show nI (g + 1) + Int32.ofInt (-1) = nI g from pk_m1 g]
    have hpl := s_push_len q1 (s_bit v g) hc8
    -- the last byte begun
    have go : ∀ m2 : q_Mm, Fr [215, 232] m m2 → Kp 215 [41, 42] m m2 → m2.2.1 = m.2.1 → m2.1 215 42 = nI w → MO m2 (q1.1 ++ [q1.2.1 * 2 ^ (8 - q1.2.2)]) → q_V (q_g Z) mX11_putBits (d+1) 0 0 25 [some (.ref (q_ad Z 215)), some (.long v), none, some (.int (nI n)), some (.int (nI g))] [] (q_W Z (m2)) (q_P Z fun r m2 => r = none ∧ Fr [215, 232] m m2 ∧ Kp 215 [41, 42] m m2 ∧ m2.2.1 = m.2.1 ∧ MB m2 Q) := by
      intro m2 f2 k2 j2 e42 O2
      have hlen : (q1.1 ++ [q1.2.1 * 2 ^ (8 - q1.2.2)]).length = q1.1.length + 1 := by rw [List.length_append]; rfl
      have e41 : m2.1 215 41 = nI (q1.1.length + 1) := by rw [O2.1, hlen]
      have el : m2.2.2.1 232 (q1.1.length + 1 - 1) = nI (q1.2.1 * 2 ^ (8 - q1.2.2)) := by
        rw [Nat.add_sub_cancel, O2.2.2 _ (by rw [hlen]; omega), sg_app (by omega), if_neg (Nat.lt_irrefl _)]
      have hlt : q1.2.1 * 2 ^ (8 - q1.2.2) < 256 := by
        have : q1.2.1 * 2 ^ (8 - q1.2.2) < 2 ^ q1.2.2 * 2 ^ (8 - q1.2.2) := Nat.mul_lt_mul_of_pos_right hv2 (Nat.two_pow_pos _)
        rw [← Nat.pow_add, show q1.2.2 + (8 - q1.2.2) = 8 by omega] at this
        exact this
      refine q_aload_n (pc' := 26) dX11_putBits_25 rfl rfl ?_
      refine h_getr (pc' := 29) dX11_putBits_26 fX11_60 rfl rfl rfl ?_
      refine q_aload_n (pc' := 30) dX11_putBits_29 rfl rfl ?_
      refine h_getiE (pc' := 33) dX11_putBits_30 fX11_251 rfl rfl (e41) rfl ?_
      refine q_iconst (pc' := 34) (v := nI 1) dX11_putBits_33 rfl rfl ?_
      refine q_isubN (pc' := 35) dX11_putBits_34 (by omega) rfl ?_
      refine q_dup2_11 (pc' := 36) dX11_putBits_35 rfl rfl rfl ?_
      refine h_ialdE (pc' := 37) dX11_putBits_36 rfl (rfl) (by omega) (by decide) (el) rfl ?_
      refine q_lload_n (pc' := 38) dX11_putBits_37 rfl rfl ?_
      refine q_iload (pc' := 40) dX11_putBits_38 rfl rfl ?_
      refine q_lushr (pc' := 41) dX11_putBits_40 rfl rfl ?_
      refine q_lconst (pc' := 42) (v := 1) dX11_putBits_41 rfl rfl ?_
      refine q_land (pc' := 43) dX11_putBits_42 rfl ?_
      refine q_l2i (pc' := 44) dX11_putBits_43 rfl ?_
      refine q_bipush (pc' := 46) (v := nI 7) dX11_putBits_44 rfl rfl ?_
      refine q_aload_n (pc' := 47) dX11_putBits_46 rfl rfl ?_
      refine h_getiE (pc' := 50) dX11_putBits_47 fX11_410 rfl rfl (e42) rfl ?_
      refine q_bipush (pc' := 52) (v := nI 8) dX11_putBits_50 rfl rfl ?_
      refine q_iremN (pc' := 53) dX11_putBits_52 (by omega) rfl ?_
      refine q_isubN (pc' := 54) dX11_putBits_53 (by omega) rfl ?_
      rw [hw8, s_bit_I]
      have he : 8 - q1.2.2 = (7 - q1.2.2) + 1 := by omega
      rw [he] at hlt ⊢
      refine q_ishl (pc' := 55) dX11_putBits_54 rfl ?_
      refine q_ior (pc' := 56) dX11_putBits_55 rfl ?_
      rw [z_orb (by omega) hb2 hlt]
      refine h_iast (pc' := 57) dX11_putBits_56 rfl (rfl) (by omega) (by decide) rfl ?_
      refine q_aload_n (pc' := 58) dX11_putBits_57 rfl rfl ?_
      refine q_dup (pc' := 59) dX11_putBits_58 rfl rfl ?_
      refine h_getiE (pc' := 62) dX11_putBits_59 fX11_410 rfl rfl (e42) rfl ?_
      refine q_iconst (pc' := 63) (v := nI 1) dX11_putBits_62 rfl rfl ?_
      refine q_iaddN (pc' := 64) dX11_putBits_63 rfl ?_
      refine h_puti (pc' := 67) dX11_putBits_64 fX11_410 rfl rfl rfl rfl rfl ?_
      refine q_iinc (pc' := 70) (lv' := [_, _, _, _, _]) dX11_putBits_67 rfl (by decide) rfl rfl ?_
      refine q_goto (pc' := 5) dX11_putBits_70 (by decide) ?_
      generalize hm9 : sI (sA m2 232 (q_u (m2.2.2.1 232) (q1.1.length + 1 - 1) (nI ((2 * q1.2.1 + s_bit v g) * 2 ^ (7 - q1.2.2))))) 215 42 (nI (w + 1)) = m9
      have f9 : Fr [215, 232] m m9 := hm9 ▸ (f2.A (by decide)).I (by decide)
      have k9 : Kp 215 [41, 42] m m9 := hm9 ▸ kp_I k2 (by decide)
      have O9 : MO m9 (q1.1 ++ [(2 * q1.2.1 + s_bit v g) * 2 ^ (7 - q1.2.2)]) := by
        rw [← hm9]
        refine ⟨?_, by rw [List.length_append]; show q1.1.length + 1 ≤ 320; omega, fun i hi => ?_⟩
        · rw [List.length_append]; exact e41
        · rw [List.length_append] at hi
          have hi : i < q1.1.length + 1 := hi
          show q_u (m2.2.2.1 232) (q1.1.length + 1 - 1) (nI ((2 * q1.2.1 + s_bit v g) * 2 ^ (7 - q1.2.2))) i = _
          rw [sg_app hi, Nat.add_sub_cancel]
          by_cases z : i = q1.1.length
          · rw [z, q_u_s, if_neg (Nat.lt_irrefl _)]
          · rw [q_u_n _ _ z, if_pos (by omega), O2.2.2 i (by rw [hlen]; omega), sg_app (by omega), if_pos (by omega)]
      have e429 : m9.1 215 42 = nI (w + 1) := hm9 ▸ rfl
      refine ih (s_push q1 (s_bit v g)) m9 (by omega) hs (by omega) ?_ f9 k9 (by rw [← hm9]; exact j2)
      unfold s_push
      by_cases h7 : q1.2.2 = 7
      · rw [if_pos h7]
        rw [h7, show 7 - 7 = 0 from rfl, Nat.pow_zero, Nat.mul_one] at O9
        refine ⟨?_, ⟨w + 1, e429, by show (w + 1) % 8 = 0; omega, ?_⟩, by show 0 < 8; omega, by show 0 < 2 ^ 0; decide⟩
        · show MO m9 ((q1.1 ++ [2 * q1.2.1 + s_bit v g]) ++ [])
          rw [List.append_nil]
          exact O9
        · show w + 1 < 100000 + (q1.1 ++ [2 * q1.2.1 + s_bit v g]).length * 8 + 0
          rw [List.length_append]
          show w + 1 < 100000 + (q1.1.length + 1) * 8 + 0
          omega
      · rw [if_neg h7]
        refine ⟨?_, ⟨w + 1, e429, by show (w + 1) % 8 = q1.2.2 + 1; omega, by show w + 1 < 100000 + q1.1.length * 8 + (q1.2.2 + 1); omega⟩, by show q1.2.2 + 1 < 8; omega, ?_⟩
        · show MO m9 (q1.1 ++ if q1.2.2 + 1 = 0 then [] else [(2 * q1.2.1 + s_bit v g) * 2 ^ (8 - (q1.2.2 + 1))])
          rw [if_neg (Nat.succ_ne_zero _), show 8 - (q1.2.2 + 1) = 7 - q1.2.2 by omega]
          exact O9
        · show 2 * q1.2.1 + s_bit v g < 2 ^ (q1.2.2 + 1)
          rw [Nat.pow_succ]
          omega
    refine q_iload (pc' := 7) dX11_putBits_5 rfl rfl ?_
    refine q_if_lt (tgt := 73) (pc' := 10) dX11_putBits_7 (by decide) rfl (fun c_7 => ?_) (fun c_7 => ?_)
    · exact absurd c_7 (by rw [z_lt, z_n (by omega), z_0]; omega)
    refine q_aload_n (pc' := 11) dX11_putBits_10 rfl rfl ?_
    refine h_getiE (pc' := 14) dX11_putBits_11 fX11_410 rfl rfl (h42) rfl ?_
    refine q_bipush (pc' := 16) (v := nI 8) dX11_putBits_14 rfl rfl ?_
    refine q_iremN (pc' := 17) dX11_putBits_16 (by omega) rfl ?_
    refine q_if_neN (tgt := 25) (pc' := 20) dX11_putBits_17 (by decide) rfl (by omega) (fun c_17 => ?_) (fun c_17 => ?_)
    · rw [if_neg (by omega)] at hO
      exact go m1 f1 k1 j1 h42 hO
    · have hc0 : q1.2.2 = 0 := by omega
      have hv0 : q1.2.1 = 0 := by rw [hc0] at hv2; omega
      rw [if_pos hc0, List.append_nil] at hO
      refine q_aload_n (pc' := 21) dX11_putBits_20 rfl rfl ?_
      refine q_iconst (pc' := 22) (v := nI 0) dX11_putBits_21 rfl rfl ?_
      refine h_callV (pc' := 25) (M' := mX11_putByte) (As := [_]) dX11_putBits_22 iX11_putByte lX11_407 rfl rfl rfl rfl (Nat.le_of_ble_eq_true rfl) (Nat.le_of_ble_eq_true rfl) rfl rfl (k_putByte hO (by omega)) (fun r m' hq => ?_)
      obtain ⟨rfl, f2, k2, j2, O2⟩ := hq
      refine go m' (f1.trans f2) (k1.trans (k2.mono (by decide))) (j2.trans j1) ((k2 42 (by decide)).trans h42) ?_
      rw [hv0, Nat.zero_mul]
      exact O2
