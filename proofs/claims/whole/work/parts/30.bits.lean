/-! ===== Doubles.bitsOf ===== -/
theorem z_oi (n : Nat) : nI n = Int32.ofInt n := (Int32.ofInt_eq_ofNat).symm
theorem z_oa (i : Int) (t : Nat) : Int32.ofInt i + nI t = Int32.ofInt (i + t) := by rw [z_oi, ← Int32.ofInt_add]
theorem z_os (i : Int) (t : Nat) : Int32.ofInt i - nI t = Int32.ofInt (i - t) := by rw [z_oi, ← Int32.ofInt_sub]
theorem s_N_or {w : Int64} (h : s_N w < 2 ^ 63) : s_N ((-9223372036854775808 : Int64) ||| w) = 2 ^ 63 + s_N w := by
  show ((-9223372036854775808 : Int64) ||| w).toBitVec.toNat = _
  rw [Int64.toBitVec_or, BitVec.toNat_or, show (-9223372036854775808 : Int64).toBitVec.toNat = 2 ^ 63 from rfl]
  have := Nat.two_pow_add_eq_or_of_lt (i := 63) h 1
  rw [Nat.mul_one] at this
  exact this.symm
theorem s_N_or0 (w : Int64) : (0 : Int64) ||| w = w := by
  apply Int64.toBitVec_inj.mp
  rw [Int64.toBitVec_or]
  exact BitVec.zero_or
theorem z_asm {E c : Nat} (hE : E < 2047) (hc : 2 ^ 52 ≤ c) (hc2 : c < 2 ^ 53) : s_N (((nI E).toInt64 <<< ((nI 52).toInt64 &&& 63)) + Int64.ofInt (c : Nat) - 4503599627370496) = E * 2 ^ 52 + (c - 2 ^ 52) := by
  have e1 : s_N ((nI E).toInt64 <<< ((nI 52).toInt64 &&& 63)) = E * 2 ^ 52 := by
    show ((nI E).toInt64.toBitVec <<< (((nI 52).toInt64 &&& 63).toBitVec.smod 64)).toNat = _
    rw [show ((nI 52).toInt64 &&& 63).toBitVec.smod 64 = 52#64 from by decide, BitVec.shiftLeft_eq', BitVec.toNat_shiftLeft, nI_l (by omega), Nat.shiftLeft_eq, show (lN E).toBitVec.toNat = E from s_N_of E (by omega), show (52#64).toNat = 52 from rfl]
    omega
  have e2 : s_N (Int64.ofInt (c : Nat)) = c := by
    rw [Int64.ofInt_eq_ofNat]
    exact s_N_of c (by omega)
  show (_ + _ - (4503599627370496 : Int64)).toBitVec.toNat = _
  rw [Int64.toBitVec_sub, Int64.toBitVec_add, BitVec.toNat_sub, BitVec.toNat_add, show (4503599627370496 : Int64).toBitVec.toNat = 2 ^ 52 from rfl]
  show (2 ^ 64 - 2 ^ 52 + (s_N ((nI E).toInt64 <<< ((nI 52).toInt64 &&& 63)) + s_N (Int64.ofInt (c : Nat))) % 2 ^ 64) % 2 ^ 64 = _
  rw [e1, e2]
  omega
theorem dv_sig {s : Bool} {N : Nat} (h : s = false ∨ N = 0) : FP.Core.signed s N = (N : Int) := by
  rcases h with z | z
  · rw [z]; rfl
  · rw [z]; cases s <;> rfl
theorem dv_cmpN {x y : UInt64} {s : Bool} {N M : Nat} (hx : q_dv x s N) (h : s = false ∨ N = 0) (hy : q_dv y false M) : FP.dcmp x y = some (compare (N : Int) (M : Int)) := by
  have := dv_cmp hx hy
  rw [dv_sig h] at this
  exact this
theorem z_cv (N M : Nat) (op : CmpOp) : (Op.cmpValue (some (compare (N : Int) (M : Int))) op ≤ 0 ↔ N ≤ M) ∧ (Op.cmpValue (some (compare (N : Int) (M : Int))) op < 0 ↔ N < M) ∧ (0 ≤ Op.cmpValue (some (compare (N : Int) (M : Int))) op ↔ M ≤ N) := by
  rcases Nat.lt_trichotomy N M with h | h | h
  · rw [Int.compare_eq_lt.mpr (by omega)]
    exact ⟨⟨fun _ => by omega, fun _ => by cases op <;> decide⟩, ⟨fun _ => h, fun _ => by cases op <;> decide⟩, ⟨fun z => absurd z (by cases op <;> decide), fun _ => by omega⟩⟩
  · rw [h, Int.compare_eq_eq.mpr rfl]
    exact ⟨⟨fun _ => by omega, fun _ => by cases op <;> decide⟩, ⟨fun z => absurd z (by cases op <;> decide), fun z => absurd z (Nat.lt_irrefl _)⟩, ⟨fun _ => by omega, fun _ => by cases op <;> decide⟩⟩
  · rw [Int.compare_eq_gt.mpr (by omega)]
    exact ⟨⟨fun z => absurd z (by cases op <;> decide), fun _ => by omega⟩, ⟨fun z => absurd z (by cases op <;> decide), fun _ => by omega⟩, ⟨fun _ => by omega, fun _ => by cases op <;> decide⟩⟩
theorem dv_d2l0 {x : UInt64} {s : Bool} (h : q_dv x s 0) : FP.d2l x = 0 := by
  cases s with
  | false => exact (dv_d2l h (by rw [Nat.zero_div]; exact Nat.two_pow_pos 63)).trans (by rw [Nat.zero_div]; rfl)
  | true => rw [dv_unique h (y := 9223372036854775808) (by have := dv_bits (x := 9223372036854775808) (by decide); exact this)]; decide +kernel
theorem dv_c (x : UInt64) {N : Nat} (h : x.toNat / 2 ^ 52 % 2048 ≠ 2047) (h0 : x.toNat < 2 ^ 63) (hN : s_mag x.toNat = N) : q_dv x false N := by
  have := dv_bits h
  rw [decide_eq_false (by omega), hN] at this
  exact this
def s_b (x : UInt64) : Int64 := if x.toNat = 2 ^ 63 then 0 else x.toInt64
theorem dv_MAX : q_dv 9218868437227405311 false ((2 ^ 52 + 4503599627370495) * 2 ^ 2045) := dv_c _ (by decide) (by decide) (by unfold s_mag; rw [show (9218868437227405311 : UInt64).toNat / 2 ^ 52 % 2048 = 2046 from by decide, show (9218868437227405311 : UInt64).toNat % 2 ^ 52 = 4503599627370495 from by decide, if_neg (by decide), show 2046 - 1 = 2045 from rfl])
theorem dv_MIN : q_dv 4503599627370496 false (2 ^ 52) := dv_c _ (by decide) (by decide) (by unfold s_mag; rw [show (4503599627370496 : UInt64).toNat / 2 ^ 52 % 2048 = 1 from by decide, if_neg (by decide)]; rfl)
theorem dv_two : q_dv 4611686018427387904 false (2 ^ 52 * 2 ^ 1023) := dv_c _ (by decide) (by decide) (by unfold s_mag; rw [show (4611686018427387904 : UInt64).toNat / 2 ^ 52 % 2048 = 1024 from by decide, show (4611686018427387904 : UInt64).toNat % 2 ^ 52 = 0 from by decide, if_neg (by decide), show 1024 - 1 = 1023 from rfl, Nat.add_zero])
theorem dv_p52 : q_dv 4841369599423283200 false (2 ^ (1074 + 52)) := by
  have := dv_c 4841369599423283200 (by decide) (by decide) (N := 2 ^ 52 * 2 ^ 1074) (by unfold s_mag; rw [show (4841369599423283200 : UInt64).toNat / 2 ^ 52 % 2048 = 1075 from by decide, show (4841369599423283200 : UInt64).toNat % 2 ^ 52 = 0 from by decide, if_neg (by decide), show 1075 - 1 = 1074 from rfl, Nat.add_zero])
  rw [← Nat.pow_add, Nat.add_comm 52] at this
  exact this
theorem s_lt_pow {c b e : Nat} (h1 : 2 ^ 52 ≤ c) (h2 : c < 2 ^ 53) : (2 ^ e ≤ c * 2 ^ b ↔ e ≤ b + 52) := by
  constructor
  · intro h
    rcases Nat.lt_or_ge (b + 52) e with z | z
    · have h3 : c * 2 ^ b < 2 ^ 53 * 2 ^ b := Nat.mul_lt_mul_of_pos_right h2 (Nat.two_pow_pos b)
      rw [← Nat.pow_add] at h3
      have h4 : 2 ^ (53 + b) ≤ 2 ^ e := Nat.pow_le_pow_right (by decide) (by omega)
      omega
    · exact z
  · intro h
    have h3 : 2 ^ 52 * 2 ^ b ≤ c * 2 ^ b := Nat.mul_le_mul_right _ h1
    rw [← Nat.pow_add] at h3
    have h4 : 2 ^ e ≤ 2 ^ (52 + b) := Nat.pow_le_pow_right (by decide) (by omega)
    omega
