/-! ===== what is made of a whole number by powers of ten is never a zero with a first bit of 1 ===== -/
theorem zm_pow {k : Nat} (hk : k ≤ 2045) : ∃ V : FP.Core.Datum, FP.Core.fits FP.Core.b64 V ∧ FP.Core.zmag FP.Core.b64 V = 2 ^ k := by
  obtain ⟨c2, q2, h1, h2⟩ := dv_rep false (c := 0) (by decide) k hk 1 (by decide)
  refine ⟨_, h1, ?_⟩
  show c2 * 2 ^ (q2 - FP.Core.b64.qmin).toNat = 2 ^ k
  rw [show q2 - FP.Core.b64.qmin = q2 + 1074 by rw [show FP.Core.b64.qmin = -1074 from rfl]; omega, h2, Nat.one_mul]
theorem zm_l2d {w : Int64} (hw : w ≠ 0) : 2 ^ 1074 ≤ FP.Core.zmag FP.Core.b64 (FP.Core.val64 (FP.l2d w)) := by
  have h0 : 1 ≤ w.toInt.natAbs := by
    rcases Nat.eq_zero_or_pos w.toInt.natAbs with q | q
    · exact absurd (Int64.toInt_inj.mp (by rw [Int.natAbs_eq_zero.mp q]; rfl)) hw
    · exact q
  obtain ⟨V, h1, h2⟩ := zm_pow (k := 1074) (by decide)
  rw [show FP.Core.val64 (FP.l2d w) = FP.Core.roundRatio FP.Core.b64 (decide (w.toInt < 0)) w.toInt.natAbs 1 0 from FP.Core.val64_l2d w, ← h2]
  refine FP.Core.zmag_roundRatio_ge FP.Core.good_b64 (e0 := -1074) (by decide) h1 (by decide) (by decide) ?_
  rw [h2]
  rw [show (FP.Core.b64.qmin - -1074).toNat = 0 from by decide, Nat.pow_zero, Nat.mul_one, Nat.mul_one]
  unfold FP.Core.inUnits
  rw [show ((0 : Int) - -1074).toNat = 1074 from by decide]
  exact Nat.le_mul_of_pos_left _ h0
theorem zm_mul {x y : UInt64} {a b : Nat} (hx : 2 ^ a ≤ FP.Core.zmag FP.Core.b64 (FP.Core.val64 x)) (hy : 2 ^ b ≤ FP.Core.zmag FP.Core.b64 (FP.Core.val64 y)) (hf : q_nz y = true) (h : 1074 ≤ a + b) (h2 : a + b - 1074 ≤ 2045) : 2 ^ (a + b - 1074) ≤ FP.Core.zmag FP.Core.b64 (FP.Core.val64 (FP.dmul x y)) := by
  obtain ⟨t, d, r, e, hd⟩ := q_nz_fin hf
  rw [show FP.Core.val64 (FP.dmul x y) = _ from FP.Core.val64_dmul x y]
  have fx := FP.Core.val64_fits x
  have fy := FP.Core.val64_fits y
  rw [e] at hy fy ⊢
  cases hv : FP.Core.val64 x with
  | nan =>
    rw [hv] at hx
    have hx : 2 ^ a ≤ 0 := hx
    have := Nat.two_pow_pos a
    omega
  | inf s =>
    show _ ≤ FP.Core.zmag FP.Core.b64 (FP.Core.round FP.Core.b64 (if d = 0 then .nan else .inf (s != t)))
    rw [if_neg hd]
    show _ ≤ FP.Core.b64.tails * 2 ^ (FP.Core.b64.exps - 2)
    rw [show FP.Core.b64.tails = 2 ^ 52 from by decide, show FP.Core.b64.exps - 2 = 2046 from by decide, ← Nat.pow_add]
    exact Nat.pow_le_pow_right (by decide) (by omega)
  | fin s c q =>
    rw [hv] at hx fx
    obtain ⟨V, g1, g2⟩ := zm_pow (k := a + b - 1074) h2
    show _ ≤ FP.Core.zmag FP.Core.b64 (FP.Core.roundRatio FP.Core.b64 (s != t) (c * d) 1 (q + r))
    have q1 : -1074 ≤ q := fx.2.1
    have r1 : -1074 ≤ r := fy.2.1
    rw [← g2]
    refine FP.Core.zmag_roundRatio_ge FP.Core.good_b64 (e0 := -2148) (by decide) g1 (by decide) (by omega) ?_
    rw [g2]
    have hx : 2 ^ a ≤ c * 2 ^ (q - -1074).toNat := hx
    have hy : 2 ^ b ≤ d * 2 ^ (r - -1074).toNat := hy
    rw [show (FP.Core.b64.qmin - -2148).toNat = 1074 from by decide]
    unfold FP.Core.inUnits
    have e1 : (q + r - -2148).toNat = (q - -1074).toNat + (r - -1074).toNat := by omega
    have e2 : c * d * 2 ^ (q + r - -2148).toNat = (c * 2 ^ (q - -1074).toNat) * (d * 2 ^ (r - -1074).toNat) := by
      rw [e1, Nat.pow_add]
      ac_rfl
    have e3 : 2 ^ (a + b - 1074) * 2 ^ 1074 * 1 = 2 ^ a * 2 ^ b := by
      rw [Nat.mul_one, ← Nat.pow_add, ← Nat.pow_add, show a + b - 1074 + 1074 = a + b by omega]
    rw [e2, e3]
    exact Nat.mul_le_mul hx hy
theorem zm_tn : ∀ k : Fin 15, 2 ^ 1074 ≤ FP.Core.zmag FP.Core.b64 (FP.Core.val64 (s_tn k.1)) := by decide +kernel
theorem zm_th : ∀ k : Fin 15, 2 ^ 1027 ≤ FP.Core.zmag FP.Core.b64 (FP.Core.val64 (s_th k.1)) := by decide +kernel
theorem dec_0 : ∀ e f : Fin 15, (s_dec 0 e.1 f.1).toNat = 0 := by decide +kernel
theorem zm_m0 : FP.Core.zmag FP.Core.b64 (FP.Core.val64 9223372036854775808) = 0 := by decide +kernel
theorem dec_pos (w : Int64) {e f : Nat} (he : e < 15) (hf : f < 15) : s_b (s_dec w e f) = (s_dec w e f).toInt64 := by
  unfold s_b
  refine if_neg (fun z => ?_)
  by_cases hw : w = 0
  · rw [hw, dec_0 ⟨e, he⟩ ⟨f, hf⟩] at z
    exact absurd z (by decide)
  · have h1 := zm_mul (zm_l2d hw) (zm_tn ⟨f, hf⟩) (nz_tn ⟨f, hf⟩) (by decide) (by decide)
    have h2 := zm_mul h1 (zm_th ⟨e, he⟩) (nz_th ⟨e, he⟩) (by decide) (by decide)
    have h3 : s_dec w e f = 9223372036854775808 := UInt64.toNat_inj.mp (by rw [z]; rfl)
    have h2 : 2 ^ (1074 + 1074 - 1074 + 1027 - 1074) ≤ FP.Core.zmag FP.Core.b64 (FP.Core.val64 (s_dec w e f)) := h2
    rw [h3, zm_m0] at h2
    have := Nat.two_pow_pos (1074 + 1074 - 1074 + 1027 - 1074)
    omega
