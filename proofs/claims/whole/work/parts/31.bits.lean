/-! ===== Doubles.bitsOf of a finite number ===== -/
set_option maxHeartbeats 4000000 in
theorem c_bitsNorm {Z : q_Z} {m : q_Mm} {d : Nat} {x : UInt64} {co b E : Nat} (hD : DblOk m) (hco : 2 ^ 52 ≤ co ∧ co < 2 ^ 53) (hE : 1 ≤ E ∧ E ≤ 2046) (hb : b = E - 1) (hN : x.toNat % 2 ^ 63 = E * 2 ^ 52 + (co - 2 ^ 52)) {sgn : Int64} (hres : ∀ w, s_N w = x.toNat % 2 ^ 63 → sgn ||| w = s_b x) : ∀ (c b' : Nat) (z : UInt64), c ≤ 10 → b' < 1022 + 2 ^ c → 1022 < b' + 2 ^ c → q_dv z false (co * 2 ^ b') → q_V (q_g Z) mX3_bitsOf (d + 1) 0 0 72 [some (.ref (q_ad Z 1)), some (.double x), none, some (.long sgn), none, some (.double z), none, some (.int (Int32.ofInt ((b : Int) - (b' : Int)))), some (.int (nI c - nI 1)), none] [] (q_W Z m) (q_P Z fun r m2 => r = some (.long (s_b x)) ∧ m2 = m) := by
  intro c
  induction c with
  | zero =>
    intro b' z hc h1 h2 hz
    rw [Nat.pow_zero] at h1 h2
    obtain rfl : b' = 1022 := by omega
    have hm := dv_up hz dv_p52 hco.2 (by omega)
    have e1 : FP.d2l (FP.dmul z 4841369599423283200) = Int64.ofInt (co : Nat) := by
      rw [show FP.d2l (FP.dmul z 4841369599423283200) = _ from dv_d2l hm (by rw [show 1022 + 52 = 1074 from rfl, Nat.mul_div_cancel _ (Nat.two_pow_pos 1074)]; omega), show 1022 + 52 = 1074 from rfl, Nat.mul_div_cancel _ (Nat.two_pow_pos 1074)]
    have e2 : Int32.ofInt ((b : Int) - ((1022 : Nat) : Int)) + nI 1023 = nI E := by
      rw [z_oa, z_oi]
      congr 1
      omega
    refine q_iload (pc' := 74) dX3_bitsOf_72 rfl rfl ?_
    refine q_if_lt (tgt := 158) (pc' := 77) dX3_bitsOf_74 (by decide) rfl (fun c_74 => ?_) (fun c_74 => ?_)
    rotate_left
    · exact absurd (by decide) c_74
    refine q_dload (pc' := 160) dX3_bitsOf_158 rfl rfl ?_
    refine q_ldc2d (pc' := 163) dX3_bitsOf_160 kX3_44 rfl ?_
    refine q_dmul (pc' := 164) dX3_bitsOf_163 (dv_ok hm) rfl ?_
    refine q_d2l (pc' := 165) dX3_bitsOf_164 rfl ?_
    rw [e1]
    refine q_lstore (pc' := 167) (lv' := [_, _, _, _, _, _, _, _, _, _]) dX3_bitsOf_165 (by decide) rfl rfl ?_
    refine q_lload_n (pc' := 168) dX3_bitsOf_167 rfl rfl ?_
    refine q_iload (pc' := 170) dX3_bitsOf_168 rfl rfl ?_
    refine q_sipush (pc' := 173) (v := nI 1023) dX3_bitsOf_170 rfl rfl ?_
    refine q_iadd (pc' := 174) dX3_bitsOf_173 rfl ?_
    rw [e2]
    refine q_i2l (pc' := 175) dX3_bitsOf_174 rfl ?_
    refine q_bipush (pc' := 177) (v := nI 52) dX3_bitsOf_175 rfl rfl ?_
    refine q_lshl (pc' := 178) dX3_bitsOf_177 rfl rfl ?_
    refine q_lload (pc' := 180) dX3_bitsOf_178 rfl rfl ?_
    refine q_ladd (pc' := 181) dX3_bitsOf_180 rfl ?_
    refine q_ldc2 (pc' := 184) dX3_bitsOf_181 kX3_46 rfl ?_
    refine q_lsub (pc' := 185) dX3_bitsOf_184 rfl ?_
    refine q_lor (pc' := 186) dX3_bitsOf_185 rfl ?_
    refine q_lret dX3_bitsOf_186 rfl ⟨_, rfl, congrArg (fun w => some (Value.long w)) (hres _ ((z_asm (by omega) hco.1 hco.2).trans hN.symm)), rfl⟩
  | succ k ih =>
    intro b' z hc h1 h2 hz
    have hu := (hD.1 k (by omega)).1
    have hd := (hD.1 k (by omega)).2
    have hp := Nat.two_pow_pos k
    have h9 : 2 ^ k ≤ 2 ^ 9 := Nat.pow_le_pow_right (by decide) (by omega)
    rw [Nat.pow_succ] at h1 h2
    have hsh : nI 1 <<< (nI k &&& 31) = nI (2 ^ k) := by rw [pk_shlN (nI k &&& 31) k (z_sm k (by omega)) (by omega), Nat.one_mul]
    have ih := fun b' z => ih b' z (by omega)
    generalize 2 ^ k = t at *
    rw [pk_sub (by omega), Nat.add_sub_cancel]
    refine q_iload (pc' := 74) dX3_bitsOf_72 rfl rfl ?_
    refine q_if_lt (tgt := 158) (pc' := 77) dX3_bitsOf_74 (by decide) rfl (fun c_74 => ?_) (fun c_74 => ?_)
    · exact absurd c_74 (nI_pos (by omega))
    refine q_dload (pc' := 79) dX3_bitsOf_77 rfl rfl ?_
    refine q_aload_n (pc' := 80) dX3_bitsOf_79 rfl rfl ?_
    refine h_getr (pc' := 83) dX3_bitsOf_80 fX3_18 rfl rfl rfl ?_
    refine q_iload (pc' := 85) dX3_bitsOf_83 rfl rfl ?_
    refine h_dald (pc' := 86) dX3_bitsOf_85 rfl (rfl) (by omega) (by decide) rfl ?_
    refine q_dcmp (pc' := 87) dX3_bitsOf_86 rfl ?_
    rw [dv_cmpN hz (Or.inl rfl) hu]
    refine q_if_lt (tgt := 114) (pc' := 90) dX3_bitsOf_87 (by decide) rfl (fun c_87 => ?_) (fun c_87 => ?_)
    rotate_left
    · rw [(z_cv _ _ _).2.1, Nat.not_lt, s_lt_pow hco.1 hco.2] at c_87
      have hm := dv_dn (y := z) (c := co) (e := b' - t) (k := t) (by rw [Nat.sub_add_cancel (by omega)]; exact hz) hd hco.2 (by omega) (by omega)
      refine q_dload (pc' := 92) dX3_bitsOf_90 rfl rfl ?_
      refine q_aload_n (pc' := 93) dX3_bitsOf_92 rfl rfl ?_
      refine h_getr (pc' := 96) dX3_bitsOf_93 fX3_21 rfl rfl rfl ?_
      refine q_iload (pc' := 98) dX3_bitsOf_96 rfl rfl ?_
      refine h_dald (pc' := 99) dX3_bitsOf_98 rfl (rfl) (by omega) (by decide) rfl ?_
      refine q_dmul (pc' := 100) dX3_bitsOf_99 (dv_ok hm) rfl ?_
      refine q_dstore (pc' := 102) (lv' := [_, _, _, _, _, _, _, _, _, _]) dX3_bitsOf_100 (by decide) rfl rfl ?_
      refine q_iload (pc' := 104) dX3_bitsOf_102 rfl rfl ?_
      refine q_iconst (pc' := 105) (v := nI 1) dX3_bitsOf_104 rfl rfl ?_
      refine q_iload (pc' := 107) dX3_bitsOf_105 rfl rfl ?_
      refine q_ishl (pc' := 108) dX3_bitsOf_107 rfl ?_
      rw [hsh]
      refine q_iadd (pc' := 109) dX3_bitsOf_108 rfl ?_
      rw [z_oa, show (b : Int) - (b' : Int) + (t : Int) = (b : Int) - ((b' - t : Nat) : Int) by omega]
      refine q_istore (pc' := 111) (lv' := [_, _, _, _, _, _, _, _, _, _]) dX3_bitsOf_109 (by decide) rfl rfl ?_
      refine q_goto (pc' := 152) dX3_bitsOf_111 (by decide) ?_
      refine q_iinc (pc' := 155) (lv' := [_, _, _, _, _, _, _, _, _, _]) dX3_bitsOf_152 rfl (by decide) rfl rfl ?_
      refine q_goto (pc' := 72) dX3_bitsOf_155 (by decide) ?_
      rw [z_m1]
      exact ih (b' - t) _ (by omega) (by omega) hm
    · rw [(z_cv _ _ _).2.1, ← Nat.not_le, s_lt_pow hco.1 hco.2] at c_87
      have h2t := dv_dn (y := 4611686018427387904) (c := 2 ^ 52) (e := 1023 - t) (k := t) (by rw [Nat.sub_add_cancel (by omega)]; exact dv_two) hd (by decide) (by omega) (by omega)
      rw [← Nat.pow_add] at h2t
      refine q_dload (pc' := 116) dX3_bitsOf_114 rfl rfl ?_
      refine q_ldc2d (pc' := 119) dX3_bitsOf_116 kX3_26 rfl ?_
      refine q_aload_n (pc' := 120) dX3_bitsOf_119 rfl rfl ?_
      refine h_getr (pc' := 123) dX3_bitsOf_120 fX3_21 rfl rfl rfl ?_
      refine q_iload (pc' := 125) dX3_bitsOf_123 rfl rfl ?_
      refine h_dald (pc' := 126) dX3_bitsOf_125 rfl (rfl) (by omega) (by decide) rfl ?_
      refine q_dmul (pc' := 127) dX3_bitsOf_126 (dv_ok h2t) rfl ?_
      refine q_dcmp (pc' := 128) dX3_bitsOf_127 rfl ?_
      rw [dv_cmpN hz (Or.inl rfl) h2t]
      refine q_if_ge (tgt := 152) (pc' := 131) dX3_bitsOf_128 (by decide) rfl (fun c_128 => ?_) (fun c_128 => ?_)
      · rw [(z_cv _ _ _).2.2, s_lt_pow hco.1 hco.2] at c_128
        refine q_iinc (pc' := 155) (lv' := [_, _, _, _, _, _, _, _, _, _]) dX3_bitsOf_152 rfl (by decide) rfl rfl ?_
        refine q_goto (pc' := 72) dX3_bitsOf_155 (by decide) ?_
        rw [z_m1]
        exact ih b' z (by omega) (by omega) hz
      · rw [(z_cv _ _ _).2.2, s_lt_pow hco.1 hco.2] at c_128
        have hm := dv_up hz hu hco.2 (by omega)
        refine q_dload (pc' := 133) dX3_bitsOf_131 rfl rfl ?_
        refine q_aload_n (pc' := 134) dX3_bitsOf_133 rfl rfl ?_
        refine h_getr (pc' := 137) dX3_bitsOf_134 fX3_18 rfl rfl rfl ?_
        refine q_iload (pc' := 139) dX3_bitsOf_137 rfl rfl ?_
        refine h_dald (pc' := 140) dX3_bitsOf_139 rfl (rfl) (by omega) (by decide) rfl ?_
        refine q_dmul (pc' := 141) dX3_bitsOf_140 (dv_ok hm) rfl ?_
        refine q_dstore (pc' := 143) (lv' := [_, _, _, _, _, _, _, _, _, _]) dX3_bitsOf_141 (by decide) rfl rfl ?_
        refine q_iload (pc' := 145) dX3_bitsOf_143 rfl rfl ?_
        refine q_iconst (pc' := 146) (v := nI 1) dX3_bitsOf_145 rfl rfl ?_
        refine q_iload (pc' := 148) dX3_bitsOf_146 rfl rfl ?_
        refine q_ishl (pc' := 149) dX3_bitsOf_148 rfl ?_
        rw [hsh]
        refine q_isub (pc' := 150) dX3_bitsOf_149 rfl ?_
        rw [z_os, show (b : Int) - (b' : Int) - (t : Int) = (b : Int) - ((b' + t : Nat) : Int) by omega]
        refine q_istore (pc' := 152) (lv' := [_, _, _, _, _, _, _, _, _, _]) dX3_bitsOf_150 (by decide) rfl rfl ?_
        refine q_iinc (pc' := 155) (lv' := [_, _, _, _, _, _, _, _, _, _]) dX3_bitsOf_152 rfl (by decide) rfl rfl ?_
        refine q_goto (pc' := 72) dX3_bitsOf_155 (by decide) ?_
        rw [z_m1]
        exact ih (b' + t) _ (by omega) (by omega) hm
