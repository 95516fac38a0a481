/-! ===== the count of bits: words and numbers ===== -/
theorem N_u (x : Int64) (s : Int32) (k : Nat) (hs : (s.toInt64.toUInt64 &&& Int64.toUInt64 63).toNat % 64 = k) : s_N (x.toUInt64 >>> (s.toInt64.toUInt64 &&& Int64.toUInt64 63)).toInt64 = s_N x / 2 ^ k := by
  show (x.toUInt64 >>> (s.toInt64.toUInt64 &&& Int64.toUInt64 63)).toNat = _
  rw [UInt64.toNat_shiftRight, hs, Nat.shiftRight_eq_div_pow]
  rfl
theorem N_and (a b : Int64) : s_N (a &&& b) = s_N a &&& s_N b := by
  show (a &&& b).toBitVec.toNat = _
  rw [Int64.toBitVec_and, BitVec.toNat_and]
  rfl
theorem N_sub {a b : Int64} (h : s_N b ≤ s_N a) : s_N (a - b) = s_N a - s_N b := by
  have h1 := s_N_lt a
  show (a - b).toBitVec.toNat = _
  rw [Int64.toBitVec_sub, BitVec.toNat_sub, s_N_bv, s_N_bv]
  omega
theorem N_add {a b : Int64} (h : s_N a + s_N b < 2 ^ 64) : s_N (a + b) = s_N a + s_N b := by
  show (a + b).toBitVec.toNat = _
  rw [Int64.toBitVec_add, BitVec.toNat_add, s_N_bv, s_N_bv]
  omega
theorem N_i (x : Int64) : x.toInt32 &&& nI 127 = nI (s_N x % 128) := by
  apply Int32.toBitVec_inj.mp
  apply BitVec.eq_of_toNat_eq
  rw [Int32.toBitVec_and, BitVec.toNat_and, pk_tn (show 127 < 2 ^ 32 by decide), pk_tn (by omega), Int64.toBitVec_toInt32, BitVec.signExtend_eq_setWidth_of_le _ (by decide), BitVec.toNat_setWidth, Nat.and_two_pow_sub_one_eq_mod _ 7, s_N_bv]
  omega
theorem s_pc64 (v : Nat) : s_pc 64 v = s_pc 8 (v % 256) + (s_pc 8 (v / 256 % 256) + (s_pc 8 (v / 256 / 256 % 256) + (s_pc 8 (v / 256 / 256 / 256 % 256) + (s_pc 8 (v / 256 / 256 / 256 / 256 % 256) + (s_pc 8 (v / 256 / 256 / 256 / 256 / 256 % 256) + (s_pc 8 (v / 256 / 256 / 256 / 256 / 256 / 256 % 256) + s_pc 8 (v / 256 / 256 / 256 / 256 / 256 / 256 / 256 % 256))))))) := by
  rw [show s_pc 64 v = _ from w_pcs 56 v, show s_pc 56 (v / 256) = _ from w_pcs 48 (v / 256), show s_pc 48 (v / 256 / 256) = _ from w_pcs 40 (v / 256 / 256), show s_pc 40 (v / 256 / 256 / 256) = _ from w_pcs 32 (v / 256 / 256 / 256), show s_pc 32 (v / 256 / 256 / 256 / 256) = _ from w_pcs 24 (v / 256 / 256 / 256 / 256), show s_pc 24 (v / 256 / 256 / 256 / 256 / 256) = _ from w_pcs 16 (v / 256 / 256 / 256 / 256 / 256), show s_pc 16 (v / 256 / 256 / 256 / 256 / 256 / 256) = _ from w_pcs 8 (v / 256 / 256 / 256 / 256 / 256 / 256), show s_pc 8 (v / 256 / 256 / 256 / 256 / 256 / 256 / 256) = _ from w_pcs 0 (v / 256 / 256 / 256 / 256 / 256 / 256 / 256)]
  rfl
