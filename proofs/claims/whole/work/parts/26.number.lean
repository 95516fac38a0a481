/-! ===== Doubles.numberOf ===== -/
def s_N (v : Int64) : Nat := v.toUInt64.toNat
def s_E (v : Int64) : Nat := s_N v / 2 ^ 52 % 2048
def s_T (v : Int64) : Nat := s_N v % 2 ^ 52
theorem s_N_lt (v : Int64) : s_N v < 2 ^ 64 := v.toUInt64.toNat_lt
theorem s_N_bv (v : Int64) : v.toBitVec.toNat = s_N v := rfl
theorem s_N_inj {v w : Int64} (h : s_N v = s_N w) : v = w := Int64.toBitVec_inj.mp (BitVec.eq_of_toNat_eq h)
theorem s_N_neg (v : Int64) : v < 0 ↔ 2 ^ 63 ≤ s_N v := by
  rw [Int64.lt_iff_toInt_lt, show (0 : Int64).toInt = 0 from rfl, show v.toInt = v.toBitVec.toInt from rfl, BitVec.toInt_eq_toNat_cond, s_N_bv]
  have := s_N_lt v
  split <;> omega
theorem s_N_pos {v : Int64} {n : Nat} (h : s_N v = n) (hn : n < 2 ^ 63) : v.toInt = n := by
  rw [show v.toInt = v.toBitVec.toInt from rfl, BitVec.toInt_eq_toNat_cond, s_N_bv, h, if_pos (by omega)]
theorem s_N_of (n : Nat) (h : n < 2 ^ 64) : s_N (Int64.ofNat n) = n := Nat.mod_eq_of_lt h
theorem w_and52 (x K : Nat) : x &&& (K * 2 ^ 52) = (x / 2 ^ 52 &&& K) * 2 ^ 52 := by
  have h1 := @Nat.shiftRight_and_distrib 52 x (K * 2 ^ 52)
  rw [Nat.shiftRight_eq_div_pow, Nat.shiftRight_eq_div_pow, Nat.shiftRight_eq_div_pow, Nat.mul_div_cancel _ (Nat.two_pow_pos 52)] at h1
  have h2 := @Nat.and_mod_two_pow x (K * 2 ^ 52) 52
  rw [Nat.mul_mod_left, Nat.and_zero] at h2
  omega
theorem s_fin_E (v : Int64) : s_fin v = decide (s_E v ≠ 2047) := by
  have e : s_N (v &&& s_inf) = s_E v * 2 ^ 52 := by
    show (v &&& s_inf).toBitVec.toNat = _
    rw [Int64.toBitVec_and, BitVec.toNat_and, show s_inf.toBitVec.toNat = 2047 * 2 ^ 52 from rfl, s_N_bv, w_and52, show (2047 : Nat) = 2 ^ 11 - 1 from rfl, Nat.and_two_pow_sub_one_eq_mod]
    rfl
  have e2 : s_N s_inf = 2047 * 2 ^ 52 := rfl
  unfold s_fin
  by_cases h : s_E v = 2047
  · rw [decide_eq_true (s_N_inj (by rw [e, e2, h])), decide_eq_false (fun z => z h)]; rfl
  · rw [decide_eq_false (fun z => h (by rw [z] at e; omega)), decide_eq_true h]; rfl
theorem z_exp (v : Int64) : (v.toUInt64 >>> ((nI 52).toInt64.toUInt64 &&& Int64.toUInt64 63)).toInt64.toInt32 &&& nI 2047 = nI (s_E v) := by
  rw [show nI 2047 = 2047 from rfl, pk_and _ 11 rfl]
  congr 1
  have h := s_N_lt v
  have e : (v.toUInt64 >>> ((nI 52).toInt64.toUInt64 &&& Int64.toUInt64 63)).toInt64.toInt32.toBitVec.toNat = s_N v / 2 ^ 52 := by
    rw [Int64.toBitVec_toInt32, BitVec.signExtend_eq_setWidth_of_le _ (by decide), BitVec.toNat_setWidth]
    show (v.toUInt64 >>> ((nI 52).toInt64.toUInt64 &&& Int64.toUInt64 63)).toNat % 2 ^ 32 = _
    rw [UInt64.toNat_shiftRight, show ((nI 52).toInt64.toUInt64 &&& Int64.toUInt64 63).toNat % 64 = 52 from rfl, Nat.shiftRight_eq_div_pow]
    show s_N v / 2 ^ 52 % 2 ^ 32 = _
    omega
  rw [e]
  rfl
theorem z_frac (v : Int64) : s_N (v &&& 4503599627370495) = s_T v := by
  show (v &&& 4503599627370495).toBitVec.toNat = _
  rw [Int64.toBitVec_and, BitVec.toNat_and, show (4503599627370495 : Int64).toBitVec.toNat = 2 ^ 52 - 1 from rfl, s_N_bv, Nat.and_two_pow_sub_one_eq_mod]
  rfl
theorem z_full (v : Int64) : s_N ((v &&& 4503599627370495) + 4503599627370495 + 1) = 2 ^ 52 + s_T v := by
  have h := z_frac v
  have hT : s_T v < 2 ^ 52 := Nat.mod_lt _ (by decide)
  show ((v &&& 4503599627370495) + 4503599627370495 + 1).toBitVec.toNat = _
  rw [Int64.toBitVec_add, Int64.toBitVec_add, BitVec.toNat_add, BitVec.toNat_add, s_N_bv, h, show (4503599627370495 : Int64).toBitVec.toNat = 2 ^ 52 - 1 from rfl, show (1 : Int64).toBitVec.toNat = 1 from rfl]
  omega
theorem dv_l2dN {v : Int64} {n : Nat} (h : s_N v = n) (hn : n < 2 ^ 53) : q_dv (FP.l2d v) false (n * 2 ^ 1074) := by
  have e := s_N_pos h (by omega)
  have := dv_l2d (v := v) (by rw [e, Int.natAbs_natCast]; exact hn)
  rw [e, Int.natAbs_natCast, decide_eq_false (by omega)] at this
  exact this
theorem z_neg {a b : Nat} : -(nI a - nI b) = nI b - nI a := Int32.neg_sub
theorem w_xor63 (a : Nat) : (a ^^^ 2 ^ 63) % 2 ^ 63 = a % 2 ^ 63 ∧ (a ^^^ 2 ^ 63) / 2 ^ 63 = a / 2 ^ 63 ^^^ 1 := by
  have h1 := @Nat.shiftRight_xor_distrib 63 a (2 ^ 63)
  rw [Nat.shiftRight_eq_div_pow, Nat.shiftRight_eq_div_pow, Nat.shiftRight_eq_div_pow, Nat.div_self (Nat.two_pow_pos 63)] at h1
  have h2 := @Nat.xor_mod_two_pow a (2 ^ 63) 63
  rw [Nat.mod_self, Nat.xor_zero] at h2
  exact ⟨h2, h1⟩
theorem dv_of {x : UInt64} {s : Bool} {N : Nat} (h : q_dv x s N) : x.toNat / 2 ^ 52 % 2048 ≠ 2047 ∧ s = decide (2 ^ 63 ≤ x.toNat) ∧ N = s_mag x.toNat := by
  have h0 : x.toNat / 2 ^ 52 % 2048 ≠ 2047 := by
    intro z
    obtain ⟨c, q, h1, -⟩ := h
    have e : FP.Core.val64 x = FP.Core.decode FP.Core.b64 x.toNat := rfl
    rw [FP.Core.decode, if_pos (show FP.Core.fieldE FP.Core.b64 x.toNat = FP.Core.b64.exps - 1 from z)] at e
    rw [e] at h1
    split at h1 <;> cases h1
  obtain ⟨c, q, h1, h2⟩ := h
  obtain ⟨d, r, h3, h4⟩ := dv_bits h0
  rw [h1] at h3
  cases h3
  exact ⟨h0, rfl, h2.symm.trans h4⟩
theorem dv_neg' {x : UInt64} {s : Bool} {N : Nat} (hx : q_dv x s N) : q_dv (FP.dneg x) (!s) N := by
  obtain ⟨h1, h2, h3⟩ := dv_of hx
  have hlt := x.toNat_lt
  have e : (FP.dneg x).toNat = x.toNat ^^^ 2 ^ 63 := by
    show (x ^^^ 0x8000000000000000).toNat = _
    rw [UInt64.toNat_xor]; rfl
  obtain ⟨e1, e2⟩ := w_xor63 x.toNat
  rw [← e] at e1 e2
  have hd : x.toNat / 2 ^ 63 = 0 ∨ x.toNat / 2 ^ 63 = 1 := by omega
  have e3 : (FP.dneg x).toNat / 2 ^ 63 = 1 - x.toNat / 2 ^ 63 := by rw [e2]; rcases hd with z | z <;> rw [z] <;> rfl
  have f1 : (FP.dneg x).toNat / 2 ^ 52 % 2048 = x.toNat / 2 ^ 52 % 2048 := by omega
  have f2 : (FP.dneg x).toNat % 2 ^ 52 = x.toNat % 2 ^ 52 := by omega
  have := dv_bits (x := FP.dneg x) (by rw [f1]; exact h1)
  have e4 : s_mag (FP.dneg x).toNat = N := by rw [h3]; unfold s_mag; rw [f1, f2]
  have e5 : decide (2 ^ 63 ≤ (FP.dneg x).toNat) = !s := by
    rw [h2]
    by_cases z : 2 ^ 63 ≤ x.toNat
    · rw [decide_eq_true z, decide_eq_false (by omega)]; rfl
    · rw [decide_eq_false z, decide_eq_true (by omega)]; rfl
  rw [e4, e5] at this
  exact this
def s_num (v : Int64) : UInt64 := if v = s_minus then FP.dconst0 else v.toUInt64
theorem dv_num {v : Int64} (h : s_fin v = true) : q_dv v.toUInt64 (decide (v < 0)) (s_mag (s_N v)) := by
  rw [s_fin_E, decide_eq_true_iff] at h
  have := dv_bits (x := v.toUInt64) h
  rw [show decide (v < 0) = decide (2 ^ 63 ≤ s_N v) from decide_eq_decide.mpr (s_N_neg v)]
  exact this
theorem dv_cmp0 {y : UInt64} {N : Nat} (h : q_dv y false N) : FP.dcmp y FP.dconst0 = some (if N = 0 then .eq else .gt) := by
  have := dv_cmp h dv_0
  rw [show FP.dcmp y FP.dconst0 = FP.Core.dcmp y FP.Core.dconst0 from rfl, this]
  congr 1
  show compare ((N : Nat) : Int) 0 = _
  by_cases z : N = 0
  · rw [if_pos z, z]; rfl
  · rw [if_neg z]
    exact Int.compare_eq_gt.mpr (by omega)
set_option maxHeartbeats 4000000 in
set_option maxRecDepth 20000 in
theorem c_numberOf {Z : q_Z} {m : q_Mm} {d : Nat} {v : Int64} (hD : DblOk m) (hf : s_fin v = true) : q_V (q_g Z) mX3_numberOf (d+1) 0 0 0 [some (.ref (q_ad Z 1)), some (.long v), none, none, none, none, none, none] [] (q_W Z m) (q_P Z fun r m2 => r = some (.double (s_num v)) ∧ m2 = m) := by
  have hT : s_T v < 2 ^ 52 := Nat.mod_lt _ (by decide)
  have hE : s_E v < 2048 := Nat.mod_lt _ (by decide)
  have hE2 : s_E v ≠ 2047 := by rw [s_fin_E, decide_eq_true_iff] at hf; exact hf
  have hn := dv_num hf
  have hNl := s_N_lt v
  have hs := s_N_neg v
  have hmn : v = s_minus ↔ s_N v = 2 ^ 63 := ⟨fun z => by rw [z]; rfl, fun z => s_N_inj (by rw [z]; rfl)⟩
  have hmag : s_mag (s_N v) = if s_E v = 0 then s_T v else (2 ^ 52 + s_T v) * 2 ^ (s_E v - 1) := rfl
  have hEd : s_E v = s_N v / 2 ^ 52 % 2048 := rfl
  have hTd : s_T v = s_N v % 2 ^ 52 := rfl
  have hmag0 : s_mag (s_N v) = 0 → v < 0 → v = s_minus := by
    intro z h
    rw [hmn]
    rw [hmag] at z
    split at z
    · have := hs.mp h
      omega
    · have h1 := Nat.two_pow_pos (s_E v - 1)
      have h2 := Nat.mul_pos (show 0 < 2 ^ 52 + s_T v by omega) h1
      omega
  have hmagm : v = s_minus → s_mag (s_N v) = 0 := fun z => by rw [z]; rfl
  have fin : ∀ y, q_dv y false (s_mag (s_N v)) → q_V (q_g Z) mX3_numberOf (d+1) 0 0 54 [some (.ref (q_ad Z 1)), some (.long v), none, some (.int (nI (s_E v))), some (.long (v &&& 4503599627370495)), none, some (.double y), none] [] (q_W Z (m)) (q_P Z fun r m2 => r = some (.double (s_num v)) ∧ m2 = m) := by
    intro y hy
    refine q_lload_n (pc' := 55) dX3_numberOf_54 rfl rfl ?_
    refine q_lconst (pc' := 56) (v := 0) dX3_numberOf_55 rfl rfl ?_
    refine q_lcmp (pc' := 57) dX3_numberOf_56 rfl ?_
    refine q_if_geL (tgt := 73) (pc' := 60) dX3_numberOf_57 (by decide) rfl (fun c_57 => ?_) (fun c_57 => ?_)
    · have hv : ¬ v = s_minus := fun z => c_57 (z ▸ by decide)
      rw [decide_eq_false c_57] at hn
      refine q_dload (pc' := 75) dX3_numberOf_73 rfl rfl ?_
      refine q_dret dX3_numberOf_75 rfl ⟨_, rfl, by unfold s_num; rw [if_neg hv, dv_unique hy hn], rfl⟩
    · rw [decide_eq_true c_57] at hn
      refine q_dload (pc' := 62) dX3_numberOf_60 rfl rfl ?_
      refine q_dconst0 (pc' := 63) dX3_numberOf_62 rfl ?_
      refine q_dcmp (pc' := 64) dX3_numberOf_63 rfl ?_
      rw [dv_cmp0 hy]
      by_cases z : s_mag (s_N v) = 0
      · have hv := hmag0 z c_57
        rw [if_pos z]
        rw [z] at hy
        refine q_if_le (tgt := 73) (pc' := 67) dX3_numberOf_64 (by decide) rfl (fun c_64 => ?_) (fun c_64 => ?_)
        · refine q_dload (pc' := 75) dX3_numberOf_73 rfl rfl ?_
          refine q_dret dX3_numberOf_75 rfl ⟨_, rfl, by unfold s_num; rw [if_pos hv, dv_unique hy dv_0]; rfl, rfl⟩
        · exact absurd (by decide) c_64
      · have hv : ¬ v = s_minus := fun q => z (hmagm q)
        rw [if_neg z]
        refine q_if_le (tgt := 73) (pc' := 67) dX3_numberOf_64 (by decide) rfl (fun c_64 => ?_) (fun c_64 => ?_)
        · exact absurd c_64 (by decide)
        · refine q_dload (pc' := 69) dX3_numberOf_67 rfl rfl ?_
          refine q_dneg (pc' := 70) dX3_numberOf_69 rfl ?_
          refine q_goto (pc' := 75) dX3_numberOf_70 (by decide) ?_
          refine q_dret dX3_numberOf_75 rfl ⟨_, rfl, by unfold s_num; rw [if_neg hv, ← dv_unique (dv_neg' hy) hn], rfl⟩
  refine q_lload_n (pc' := 1) dX3_numberOf_0 rfl rfl ?_
  refine q_bipush (pc' := 3) (v := nI 52) dX3_numberOf_1 rfl rfl ?_
  refine q_lushr (pc' := 4) dX3_numberOf_3 rfl rfl ?_
  refine q_l2i (pc' := 5) dX3_numberOf_4 rfl ?_
  refine q_sipush (pc' := 8) (v := nI 2047) dX3_numberOf_5 rfl rfl ?_
  refine q_iand (pc' := 9) dX3_numberOf_8 rfl ?_
  rw [z_exp]
  refine q_istore_n (pc' := 10) (lv' := [_, _, _, _, _, _, _, _]) dX3_numberOf_9 (by decide) rfl rfl ?_
  refine q_lload_n (pc' := 11) dX3_numberOf_10 rfl rfl ?_
  refine q_ldc2 (pc' := 14) dX3_numberOf_11 kX3_30 rfl ?_
  refine q_land (pc' := 15) dX3_numberOf_14 rfl ?_
  refine q_lstore (pc' := 17) (lv' := [_, _, _, _, _, _, _, _]) dX3_numberOf_15 (by decide) rfl rfl ?_
  refine q_iload_n (pc' := 18) dX3_numberOf_17 rfl rfl ?_
  refine q_if_neN (tgt := 34) (pc' := 21) dX3_numberOf_18 (by decide) rfl (by omega) (fun c_18 => ?_) (fun c_18 => ?_)
  · have hx := dv_l2dN (z_full v) (by omega)
    refine q_aload_n (pc' := 35) dX3_numberOf_34 rfl rfl ?_
    refine q_lload (pc' := 37) dX3_numberOf_35 rfl rfl ?_
    refine q_ldc2 (pc' := 40) dX3_numberOf_37 kX3_30 rfl ?_
    refine q_ladd (pc' := 41) dX3_numberOf_40 rfl ?_
    refine q_lconst (pc' := 42) (v := 1) dX3_numberOf_41 rfl rfl ?_
    refine q_ladd (pc' := 43) dX3_numberOf_42 rfl ?_
    refine q_l2d (pc' := 44) dX3_numberOf_43 rfl ?_
    refine q_iload_n (pc' := 45) dX3_numberOf_44 rfl rfl ?_
    refine q_sipush (pc' := 48) (v := nI 1075) dX3_numberOf_45 rfl rfl ?_
    refine q_isub (pc' := 49) dX3_numberOf_48 rfl ?_
    rcases Nat.lt_or_ge (s_E v) 1075 with h | h
    · have hv : ¬ 0 ≤ nI (s_E v) - nI 1075 := by
        rw [Int32.le_iff_toInt_le, show (0 : Int32).toInt = 0 from rfl, pk_sub_toInt (by omega) (by omega)]
        omega
      refine h_callV (pc' := 52) (M' := mX3_scaled) (As := [_, _]) dX3_numberOf_49 iX3_scaled lX3_32 rfl rfl rfl rfl (Nat.le_of_ble_eq_true rfl) (Nat.le_of_ble_eq_true rfl) rfl rfl (c_down (n := 1075 - s_E v) (b := s_E v - 1) hD (by rw [show s_E v - 1 + (1075 - s_E v) = 1074 by omega]; exact hx) (by omega) (by omega) (by omega) ⟨hv, by rw [z_neg, pk_sub (by omega)]⟩) (fun r m' hq => ?_)
      obtain ⟨⟨y, rfl, hy⟩, rfl⟩ := hq
      refine q_dstore (pc' := 54) (lv' := [_, _, _, _, _, _, _, _]) dX3_numberOf_52 (by decide) rfl rfl ?_
      exact fin y (by rw [hmag, if_neg (by omega)]; exact hy)
    · refine h_callV (pc' := 52) (M' := mX3_scaled) (As := [_, _]) dX3_numberOf_49 iX3_scaled lX3_32 rfl rfl rfl rfl (Nat.le_of_ble_eq_true rfl) (Nat.le_of_ble_eq_true rfl) rfl rfl (c_up (n := s_E v - 1075) (b := 1074) hD hx (by omega) (by omega) (pk_sub (by omega))) (fun r m' hq => ?_)
      obtain ⟨⟨y, rfl, hy⟩, rfl⟩ := hq
      refine q_dstore (pc' := 54) (lv' := [_, _, _, _, _, _, _, _]) dX3_numberOf_52 (by decide) rfl rfl ?_
      exact fin y (by rw [hmag, if_neg (by omega), show s_E v - 1 = 1074 + (s_E v - 1075) by omega]; exact hy)
  · have hx := dv_l2dN (z_frac v) (by omega)
    have hv : ¬ (0 : Int32) ≤ -1074 := by decide
    refine q_aload_n (pc' := 22) dX3_numberOf_21 rfl rfl ?_
    refine q_lload (pc' := 24) dX3_numberOf_22 rfl rfl ?_
    refine q_l2d (pc' := 25) dX3_numberOf_24 rfl ?_
    refine q_sipush (pc' := 28) (v := (-1074)) dX3_numberOf_25 rfl rfl ?_
    refine h_callV (pc' := 31) (M' := mX3_scaled) (As := [_, _]) dX3_numberOf_28 iX3_scaled lX3_32 rfl rfl rfl rfl (Nat.le_of_ble_eq_true rfl) (Nat.le_of_ble_eq_true rfl) rfl rfl (c_down (n := 1074) (b := 0) hD (by rw [Nat.zero_add]; exact hx) (by omega) (by omega) (by omega) ⟨hv, by decide⟩) (fun r m' hq => ?_)
    obtain ⟨⟨y, rfl, hy⟩, rfl⟩ := hq
    refine q_goto (pc' := 52) dX3_numberOf_31 (by decide) ?_
    refine q_dstore (pc' := 54) (lv' := [_, _, _, _, _, _, _, _]) dX3_numberOf_52 (by decide) rfl rfl ?_
    exact fin y (by rw [hmag, if_pos (by omega)]; rw [Nat.pow_zero, Nat.mul_one] at hy; exact hy)
