/-! ===== Doubles.bitsOf ===== -/
theorem s_mag_le {n : Nat} (h : n / 2 ^ 52 % 2048 ≠ 2047) : s_mag n ≤ (2 ^ 52 + 4503599627370495) * 2 ^ 2045 := by
  have hE : n / 2 ^ 52 % 2048 < 2048 := Nat.mod_lt _ (by decide)
  have hT : n % 2 ^ 52 < 2 ^ 52 := Nat.mod_lt _ (by decide)
  unfold s_mag
  split
  · have h1 : (2 ^ 52 + 4503599627370495) * 1 ≤ (2 ^ 52 + 4503599627370495) * 2 ^ 2045 := Nat.mul_le_mul_left _ (Nat.two_pow_pos _)
    omega
  · exact Nat.mul_le_mul (by omega) (Nat.pow_le_pow_right (by decide) (by omega))
set_option maxHeartbeats 4000000 in
set_option maxRecDepth 20000 in
theorem c_bitsOfFin {Z : q_Z} {m : q_Mm} {d : Nat} {x : UInt64} {s : Bool} {N : Nat} (hD : DblOk m) (hx : q_dv x s N) : q_V (q_g Z) mX3_bitsOf (d+1) 0 0 0 [some (.ref (q_ad Z 1)), some (.double x), none, none, none, none, none, none, none, none] [] (q_W Z m) (q_P Z fun r m2 => r = some (.long (s_b x)) ∧ m2 = m) := by
  obtain ⟨hE, hs, hNm⟩ := dv_of hx
  have hxl := x.toNat_lt
  have hEl : x.toNat / 2 ^ 52 % 2048 < 2048 := Nat.mod_lt _ (by decide)
  have hTl : x.toNat % 2 ^ 52 < 2 ^ 52 := Nat.mod_lt _ (by decide)
  have hmx : N ≤ (2 ^ 52 + 4503599627370495) * 2 ^ 2045 := hNm ▸ s_mag_le hE
  have mid : ∀ (sgn : Int64) (z : UInt64) (s' : Bool), q_dv z s' N → (s' = false ∨ N = 0) → (∀ w, s_N w = x.toNat % 2 ^ 63 → sgn ||| w = s_b x) → q_V (q_g Z) mX3_bitsOf (d+1) 0 0 28 [some (.ref (q_ad Z 1)), some (.double x), none, some (.long sgn), none, some (.double z), none, none, none, none] [] (q_W Z (m)) (q_P Z fun r m2 => r = some (.long (s_b x)) ∧ m2 = m) := by
    intro sgn z s' hz hs' hres
    refine q_dload (pc' := 30) dX3_bitsOf_28 rfl rfl ?_
    refine q_ldc2d (pc' := 33) dX3_bitsOf_30 kX3_38 rfl ?_
    refine q_dcmp (pc' := 34) dX3_bitsOf_33 rfl ?_
    rw [dv_cmpN hz hs' dv_MAX]
    refine q_if_le (tgt := 43) (pc' := 37) dX3_bitsOf_34 (by decide) rfl (fun c_34 => ?_) (fun c_34 => ?_)
    rotate_left
    · rw [(z_cv _ _ _).1] at c_34
      exact absurd hmx c_34
    refine q_dload (pc' := 45) dX3_bitsOf_43 rfl rfl ?_
    refine q_ldc2d (pc' := 48) dX3_bitsOf_45 kX3_42 rfl ?_
    refine q_dcmp (pc' := 49) dX3_bitsOf_48 rfl ?_
    rw [dv_cmpN hz hs' dv_MIN]
    by_cases hE0 : x.toNat / 2 ^ 52 % 2048 = 0
    · have hN2 : N = x.toNat % 2 ^ 52 := by rw [hNm]; unfold s_mag; rw [if_pos hE0]
      refine q_if_ge (tgt := 65) (pc' := 52) dX3_bitsOf_49 (by decide) rfl (fun c_49 => ?_) (fun c_49 => ?_)
      · rw [(z_cv _ _ _).2.2] at c_49
        omega
      refine q_lload_n (pc' := 53) dX3_bitsOf_52 rfl rfl ?_
      refine q_aload_n (pc' := 54) dX3_bitsOf_53 rfl rfl ?_
      refine q_dload (pc' := 56) dX3_bitsOf_54 rfl rfl ?_
      refine q_sipush (pc' := 59) (v := nI 1074) dX3_bitsOf_56 rfl rfl ?_
      refine h_callV (pc' := 62) (M' := mX3_scaled) (As := [_, _]) dX3_bitsOf_59 iX3_scaled lX3_32 rfl rfl rfl rfl (Nat.le_of_ble_eq_true rfl) (Nat.le_of_ble_eq_true rfl) rfl rfl (c_up (n := 1074) (b := 0) (co := N) hD (by rw [Nat.pow_zero, Nat.mul_one]; exact hz) (by omega) (by omega) rfl) (fun r m' hq => ?_)
      obtain ⟨⟨y, rfl, hy⟩, hmm⟩ := hq
      subst m'
      rw [Nat.zero_add] at hy
      have e : FP.d2l y = Int64.ofNat N := by
        rcases hs' with q | q
        · rw [q] at hy
          rw [show FP.d2l y = _ from dv_d2l hy (by rw [Nat.mul_div_cancel _ (Nat.two_pow_pos 1074)]; omega), Nat.mul_div_cancel _ (Nat.two_pow_pos 1074), Int64.ofInt_eq_ofNat]
        · rw [q, Nat.zero_mul] at hy
          rw [dv_d2l0 hy, q]; rfl
      refine q_d2l (pc' := 63) dX3_bitsOf_62 rfl ?_
      rw [e]
      refine q_lor (pc' := 64) dX3_bitsOf_63 rfl ?_
      refine q_lret dX3_bitsOf_64 rfl ⟨_, rfl, congrArg (fun w => some (Value.long w)) (hres _ ((s_N_of N (by omega)).trans (by omega))), rfl⟩
    · have hN2 : N = (2 ^ 52 + x.toNat % 2 ^ 52) * 2 ^ (x.toNat / 2 ^ 52 % 2048 - 1) := by rw [hNm]; unfold s_mag; rw [if_neg hE0]
      have hp := Nat.two_pow_pos (x.toNat / 2 ^ 52 % 2048 - 1)
      have hge : (2 ^ 52 + x.toNat % 2 ^ 52) * 1 ≤ N := by rw [hN2]; exact Nat.mul_le_mul_left _ hp
      have hsf : s' = false := by rcases hs' with q | q; exact q; omega
      rw [hsf, hN2] at hz
      refine q_if_ge (tgt := 65) (pc' := 52) dX3_bitsOf_49 (by decide) rfl (fun c_49 => ?_) (fun c_49 => ?_)
      rotate_left
      · rw [(z_cv _ _ _).2.2] at c_49
        omega
      have lp := c_bitsNorm (Z := Z) (m := m) (d := d) (x := x) (co := 2 ^ 52 + x.toNat % 2 ^ 52) (b := x.toNat / 2 ^ 52 % 2048 - 1) (E := x.toNat / 2 ^ 52 % 2048) hD ⟨by omega, by omega⟩ ⟨by omega, by omega⟩ rfl (by omega) hres 10 (x.toNat / 2 ^ 52 % 2048 - 1) z (Nat.le_refl _) (by omega) (by omega) hz
      rw [Int.sub_self] at lp
      refine q_iconst (pc' := 66) (v := nI 0) dX3_bitsOf_65 rfl rfl ?_
      refine q_istore (pc' := 68) (lv' := [_, _, _, _, _, _, _, _, _, _]) dX3_bitsOf_66 (by decide) rfl rfl ?_
      refine q_bipush (pc' := 70) (v := nI 9) dX3_bitsOf_68 rfl rfl ?_
      refine q_istore (pc' := 72) (lv' := [_, _, _, _, _, _, _, _, _, _]) dX3_bitsOf_70 (by decide) rfl rfl ?_
      exact lp
  by_cases hsg : s = false ∨ N = 0
  · have hres : ∀ w, s_N w = x.toNat % 2 ^ 63 → (0 : Int64) ||| w = s_b x := by
      intro w hw
      rw [s_N_or0]
      unfold s_b
      by_cases q : x.toNat = 2 ^ 63
      · rw [if_pos q]
        exact s_N_inj (by rw [hw, q]; rfl)
      · rw [if_neg q]
        refine s_N_inj (hw.trans ?_)
        show x.toNat % 2 ^ 63 = x.toNat
        rcases hsg with y | y
        · rw [y] at hs
          have := of_decide_eq_false hs.symm
          omega
        · rw [hNm] at y
          unfold s_mag at y
          split at y
          · omega
          · have := Nat.mul_pos (show 0 < 2 ^ 52 + x.toNat % 2 ^ 52 by omega) (Nat.two_pow_pos (x.toNat / 2 ^ 52 % 2048 - 1))
            omega
    have hc := dv_cmpN hx hsg dv_0
    have hc : FP.dcmp x FP.dconst0 = some (compare (N : Int) ((0 : Nat) : Int)) := hc
    refine q_dload_n (pc' := 1) dX3_bitsOf_0 rfl rfl ?_
    refine q_dconst0 (pc' := 2) dX3_bitsOf_1 rfl ?_
    refine q_dcmp (pc' := 3) dX3_bitsOf_2 rfl ?_
    rw [hc]
    refine q_if_ge (tgt := 12) (pc' := 6) dX3_bitsOf_3 (by decide) rfl (fun c_3 => ?_) (fun c_3 => ?_)
    rotate_left
    · rw [(z_cv _ _ _).2.2] at c_3
      exact absurd (Nat.zero_le N) c_3
    refine q_lconst (pc' := 13) (v := 0) dX3_bitsOf_12 rfl rfl ?_
    refine q_lstore_n (pc' := 14) (lv' := [_, _, _, _, _, _, _, _, _, _]) dX3_bitsOf_13 (by decide) rfl rfl ?_
    refine q_dload_n (pc' := 15) dX3_bitsOf_14 rfl rfl ?_
    refine q_dconst0 (pc' := 16) dX3_bitsOf_15 rfl ?_
    refine q_dcmp (pc' := 17) dX3_bitsOf_16 rfl ?_
    rw [hc]
    refine q_if_ge (tgt := 25) (pc' := 20) dX3_bitsOf_17 (by decide) rfl (fun c_17 => ?_) (fun c_17 => ?_)
    rotate_left
    · rw [(z_cv _ _ _).2.2] at c_17
      exact absurd (Nat.zero_le N) c_17
    refine q_dload_n (pc' := 26) dX3_bitsOf_25 rfl rfl ?_
    refine q_dstore (pc' := 28) (lv' := [_, _, _, _, _, _, _, _, _, _]) dX3_bitsOf_26 (by decide) rfl rfl ?_
    exact mid 0 x s hx hsg hres
  · have hst : s = true := by cases s; exact absurd (Or.inl rfl) hsg; rfl
    have hN0 : N ≠ 0 := fun q => hsg (Or.inr q)
    have hx63 : 2 ^ 63 ≤ x.toNat := by rw [hst] at hs; exact of_decide_eq_true hs.symm
    have hxn : x.toNat ≠ 2 ^ 63 := fun q => hN0 (by rw [hNm, q]; decide)
    have hres : ∀ w, s_N w = x.toNat % 2 ^ 63 → (-9223372036854775808 : Int64) ||| w = s_b x := by
      intro w hw
      unfold s_b
      rw [if_neg hxn]
      refine s_N_inj ((s_N_or (by omega)).trans ?_)
      show _ = x.toNat
      omega
    have hc : FP.dcmp x FP.dconst0 = some .lt := by
      have := dv_cmp hx dv_0
      rw [show FP.dcmp x FP.dconst0 = _ from this, hst]
      congr 1
      refine Int.compare_eq_lt.mpr ?_
      show -(N : Int) < 0
      omega
    have hz := dv_neg' hx
    rw [hst] at hz
    refine q_dload_n (pc' := 1) dX3_bitsOf_0 rfl rfl ?_
    refine q_dconst0 (pc' := 2) dX3_bitsOf_1 rfl ?_
    refine q_dcmp (pc' := 3) dX3_bitsOf_2 rfl ?_
    rw [hc]
    refine q_if_ge (tgt := 12) (pc' := 6) dX3_bitsOf_3 (by decide) rfl (fun c_3 => ?_) (fun c_3 => ?_)
    · exact absurd c_3 (by decide)
    refine q_ldc2 (pc' := 9) dX3_bitsOf_6 kX3_36 rfl ?_
    refine q_goto (pc' := 13) dX3_bitsOf_9 (by decide) ?_
    refine q_lstore_n (pc' := 14) (lv' := [_, _, _, _, _, _, _, _, _, _]) dX3_bitsOf_13 (by decide) rfl rfl ?_
    refine q_dload_n (pc' := 15) dX3_bitsOf_14 rfl rfl ?_
    refine q_dconst0 (pc' := 16) dX3_bitsOf_15 rfl ?_
    refine q_dcmp (pc' := 17) dX3_bitsOf_16 rfl ?_
    rw [hc]
    refine q_if_ge (tgt := 25) (pc' := 20) dX3_bitsOf_17 (by decide) rfl (fun c_17 => ?_) (fun c_17 => ?_)
    · exact absurd c_17 (by decide)
    refine q_dload_n (pc' := 21) dX3_bitsOf_20 rfl rfl ?_
    refine q_dneg (pc' := 22) dX3_bitsOf_21 rfl ?_
    refine q_goto (pc' := 26) dX3_bitsOf_22 (by decide) ?_
    refine q_dstore (pc' := 28) (lv' := [_, _, _, _, _, _, _, _, _, _]) dX3_bitsOf_26 (by decide) rfl rfl ?_
    exact mid _ _ false hz (Or.inl rfl) hres
