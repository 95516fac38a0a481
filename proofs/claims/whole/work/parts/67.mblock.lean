/-! ===== the reference: SPLIT ===== -/
theorem z_mask : ∀ h : Fin 17, 4 ≤ h.1 → ((1 <<< ((nI (64 - h.1)).toInt64 &&& 63) - 1 : Int64)).toBitVec.toNat = 2 ^ (64 - h.1) - 1 := by decide +kernel
theorem z_us64 : ∀ h : Fin 64, ((nI h.1).toInt64.toUInt64 &&& Int64.toUInt64 63).toNat % 64 = h.1 := by decide +kernel
theorem z_keep {v : Int64} {h : Nat} (hh : 4 ≤ h ∧ h ≤ 16) : ((v <<< ((nI h).toInt64 &&& 63)).toUInt64 >>> ((nI h).toInt64.toUInt64 &&& Int64.toUInt64 63)).toInt64 = v &&& (1 <<< ((nI (64 - h)).toInt64 &&& 63) - 1) := by
  apply s_N_inj
  have e1 : s_N (v <<< ((nI h).toInt64 &&& 63)) = s_N v * 2 ^ h % 2 ^ 64 := by
    show (v.toBitVec <<< (((nI h).toInt64 &&& 63).toBitVec.smod 64)).toNat = _
    rw [z_sh64 ⟨h, by omega⟩, BitVec.shiftLeft_eq', BitVec.toNat_shiftLeft, Nat.shiftLeft_eq, BitVec.toNat_ofNat, Nat.mod_eq_of_lt (show h < 2 ^ 64 by omega)]
    rfl
  have e2 : s_N ((v <<< ((nI h).toInt64 &&& 63)).toUInt64 >>> ((nI h).toInt64.toUInt64 &&& Int64.toUInt64 63)).toInt64 = s_N (v <<< ((nI h).toInt64 &&& 63)) / 2 ^ h := by
    show ((v <<< ((nI h).toInt64 &&& 63)).toUInt64 >>> ((nI h).toInt64.toUInt64 &&& Int64.toUInt64 63)).toNat = _
    rw [UInt64.toNat_shiftRight, z_us64 ⟨h, by omega⟩, Nat.shiftRight_eq_div_pow]
    rfl
  have e3 : s_N (v &&& (1 <<< ((nI (64 - h)).toInt64 &&& 63) - 1)) = s_N v % 2 ^ (64 - h) := by
    show (v &&& (1 <<< ((nI (64 - h)).toInt64 &&& 63) - 1)).toBitVec.toNat = _
    rw [Int64.toBitVec_and, BitVec.toNat_and, z_mask ⟨h, by omega⟩ hh.1, Nat.and_two_pow_sub_one_eq_mod]
    rfl
  have e4 : 2 ^ 64 = 2 ^ (64 - h) * 2 ^ h := by rw [← Nat.pow_add]; congr 1; omega
  rw [e2, e1, e3, e4, Nat.mul_mod_mul_right, Nat.mul_div_cancel _ (Nat.two_pow_pos h)]
set_option maxHeartbeats 4000000 in
set_option maxRecDepth 20000 in
theorem k_readSplit {Z : q_Z} {m : q_Mm} {d : Nat} {B : List Nat} {a sz : Nat} (hT : MT m B) (hK : Kb m B a) (hsz : m.1 215 12 = nI sz) (hz : sz ≤ 16) : q_V (q_g Z) mX11_readSplit (d+3) 0 0 0 [some (.ref (q_ad Z 215)), none, none, none, none, none, none, none, none, none] [] (q_W Z m) (q_P Z fun r m2 => r = none ∧ Ko m m2 B [221, 222] [14] (s_sIn B sz a).1 (s_sIn B sz a).2.1 ∧ ((s_sIn B sz a).1 = true → ∀ i, i < sz → m2.2.2.2.1 221 i = (s_sIn B sz a).2.2 i)) := by
  have hb := hT.2.1
  have hb2 := hT.2.2.2
  have hal := hK.2.2.2
  obtain ⟨R, hR⟩ : ∃ R, s_sIn B sz a = R := ⟨_, rfl⟩
  rw [hR]
  unfold s_sIn at hR
  have w186 : ∀ g k lo m1 h pt od cb u7 u8 u9 x, k + g = od → od ≤ sz → lo ≤ sz - od + k → x ≤ 320 → R.1 = false → R.2.1 = x → Fr [215, 221, 222] m m1 → Kp 215 [5, 6, 13, 14] m m1 → m1.1 215 6 = nI x → q_V (q_g Z) mX11_readSplit (d+3) 0 0 186 [some (.ref (q_ad Z 215)), some (.int h), some (.int pt), some (.int (nI od)), some (.int cb), some (.int (nI lo)), some (.int (nI k)), u7, u8, u9] [] (q_W Z (m1)) (q_P Z fun r m2 => r = none ∧ Ko m m2 B [221, 222] [14] R.1 R.2.1 ∧ (R.1 = true → ∀ i, i < sz → m2.2.2.2.1 221 i = R.2.2 i)) := by
    intro g
    induction g with
    | zero =>
      intro k lo m1 h pt od cb u7 u8 u9 x hk hod hlo hx r1 r2 f1 k1 e6
      refine q_iload (pc' := 188) dX11_readSplit_186 rfl rfl ?_
      refine q_iload_n (pc' := 189) dX11_readSplit_188 rfl rfl ?_
      refine q_icmp_geN (tgt := 255) (pc' := 192) dX11_readSplit_189 (by decide) rfl (by omega) (fun c_189 => ?_) (fun c_189 => ?_)
      · refine q_vret dX11_readSplit_255 rfl ⟨_, rfl, rfl, ⟨f1, k1, by rw [r1, r2]; exact e6⟩, fun z => by rw [r1] at z; cases z⟩
      · omega
    | succ g ih =>
      intro k lo m1 h pt od cb u7 u8 u9 x hk hod hlo hx r1 r2 f1 k1 e6
      refine q_iload (pc' := 188) dX11_readSplit_186 rfl rfl ?_
      refine q_iload_n (pc' := 189) dX11_readSplit_188 rfl rfl ?_
      refine q_icmp_geN (tgt := 255) (pc' := 192) dX11_readSplit_189 (by decide) rfl (by omega) (fun c_189 => ?_) (fun c_189 => ?_)
      · omega
      refine q_aload_n (pc' := 193) dX11_readSplit_192 rfl rfl ?_
      refine q_iload (pc' := 195) dX11_readSplit_193 rfl rfl ?_
      refine q_aload_n (pc' := 196) dX11_readSplit_195 rfl rfl ?_
      refine h_getiE (pc' := 199) dX11_readSplit_196 fX11_197 rfl rfl ((k1 12 (by decide)).trans hsz) rfl ?_
      refine q_iload_n (pc' := 200) dX11_readSplit_199 rfl rfl ?_
      refine q_isubN (pc' := 201) dX11_readSplit_200 (by omega) rfl ?_
      refine q_iload (pc' := 203) dX11_readSplit_201 rfl rfl ?_
      refine q_iaddN (pc' := 204) dX11_readSplit_203 rfl ?_
      refine h_callV (pc' := 207) (M' := mX11_byteIn) (As := [_, _]) dX11_readSplit_204 iX11_byteIn lX11_191 rfl rfl rfl rfl (Nat.le_of_ble_eq_true rfl) (Nat.le_of_ble_eq_true rfl) rfl rfl ((k_byteW e6 (z_m1n (by omega))).up (Nat.zero_le _)) (fun r m' hq => ?_)
      obtain ⟨rfl, hmm⟩ := hq
      subst m'
      refine q_istore (pc' := 209) (lv' := [_, _, _, _, _, _, _, _, _, _]) dX11_readSplit_207 (by decide) rfl rfl ?_
      refine q_aload_n (pc' := 210) dX11_readSplit_209 rfl rfl ?_
      refine q_iload_n (pc' := 211) dX11_readSplit_210 rfl rfl ?_
      refine h_callV (pc' := 214) (M' := mX11_two) (As := [_]) dX11_readSplit_211 iX11_two lX11_214 rfl rfl rfl rfl (Nat.le_of_ble_eq_true rfl) (Nat.le_of_ble_eq_true rfl) rfl rfl ((k_twoW (d := d) e6 (z_m1n (by omega))).up (by omega)) (fun r m' hq => ?_)
      obtain ⟨⟨y, rfl⟩, hmm⟩ := hq
      subst m'
      refine q_i2l (pc' := 215) dX11_readSplit_214 rfl ?_
      refine q_lstore (pc' := 217) (lv' := [_, _, _, _, _, _, _, _, _, _]) dX11_readSplit_215 (by decide) rfl rfl ?_
      refine q_aload_n (pc' := 218) dX11_readSplit_217 rfl rfl ?_
      refine h_getr (pc' := 221) dX11_readSplit_218 fX11_27 rfl rfl rfl ?_
      refine q_iload (pc' := 223) dX11_readSplit_221 rfl rfl ?_
      refine q_lload (pc' := 225) dX11_readSplit_223 rfl rfl ?_
      refine q_bipush (pc' := 227) (v := nI 64) dX11_readSplit_225 rfl rfl ?_
      refine q_iload_n (pc' := 228) dX11_readSplit_227 rfl rfl ?_
      refine q_isub (pc' := 229) dX11_readSplit_228 rfl ?_
      refine q_lshl (pc' := 230) dX11_readSplit_229 rfl rfl ?_
      refine q_aload_n (pc' := 231) dX11_readSplit_230 rfl rfl ?_
      refine h_getr (pc' := 234) dX11_readSplit_231 fX11_27 rfl rfl rfl ?_
      refine q_iload (pc' := 236) dX11_readSplit_234 rfl rfl ?_
      refine h_lald (pc' := 237) dX11_readSplit_236 rfl (rfl) (by omega) (by decide) rfl ?_
      refine q_iload_n (pc' := 238) dX11_readSplit_237 rfl rfl ?_
      refine q_lshl (pc' := 239) dX11_readSplit_238 rfl rfl ?_
      refine q_iload_n (pc' := 240) dX11_readSplit_239 rfl rfl ?_
      refine q_lushr (pc' := 241) dX11_readSplit_240 rfl rfl ?_
      refine q_lor (pc' := 242) dX11_readSplit_241 rfl ?_
      refine h_last (pc' := 243) dX11_readSplit_242 rfl (rfl) (by omega) (by decide) rfl ?_
      refine q_iload (pc' := 245) dX11_readSplit_243 rfl rfl ?_
      refine q_iconst (pc' := 246) (v := nI 1) dX11_readSplit_245 rfl rfl ?_
      refine q_iaddN (pc' := 247) dX11_readSplit_246 rfl ?_
      refine q_istore (pc' := 249) (lv' := [_, _, _, _, _, _, _, _, _, _]) dX11_readSplit_247 (by decide) rfl rfl ?_
      refine q_iincN (pc' := 252) (j := 1) (lv' := [_, _, _, _, _, _, _, _, _, _]) dX11_readSplit_249 rfl (by decide) rfl rfl ?_
      refine q_goto (pc' := 186) dX11_readSplit_252 (by decide) ?_
      exact ih (k + 1) (lo + 1) _ h pt od cb _ _ _ x (by omega) hod (by omega) hx r1 r2 (f1.L (by decide)) k1 e6
  have w176 : ∀ m1 h pt od cb u5 u6 u7 u8 u9 x, od ≤ sz → x ≤ 320 → R.1 = false → R.2.1 = x → Fr [215, 221, 222] m m1 → Kp 215 [5, 6, 13, 14] m m1 → m1.1 215 6 = nI x → (∃ b, b < 100000 ∧ m1.1 215 14 = nI b) → q_V (q_g Z) mX11_readSplit (d+3) 0 0 176 [some (.ref (q_ad Z 215)), some (.int h), some (.int pt), some (.int (nI od)), some (.int cb), some (.int u5), u6, u7, u8, u9] [] (q_W Z (m1)) (q_P Z fun r m2 => r = none ∧ Ko m m2 B [221, 222] [14] R.1 R.2.1 ∧ (R.1 = true → ∀ i, i < sz → m2.2.2.2.1 221 i = R.2.2 i)) := by
    intro m1 h pt od cb u5 u6 u7 u8 u9 x hod hx r1 r2 f1 k1 e6 eb
    refine q_aload_n (pc' := 177) dX11_readSplit_176 rfl rfl ?_
    refine h_callV (pc' := 180) (M' := mX11_endBits) (As := []) dX11_readSplit_177 iX11_endBits lX11_211 rfl rfl rfl rfl (Nat.le_of_ble_eq_true rfl) (Nat.le_of_ble_eq_true rfl) rfl rfl ((k_endW e6 (z_m1n (by omega)) eb).up (Nat.zero_le _)) (fun r m' hq => ?_)
    obtain ⟨rfl, hmm⟩ := hq
    subst m'
    refine q_iconst (pc' := 181) (v := nI 0) dX11_readSplit_180 rfl rfl ?_
    refine q_istore (pc' := 183) (lv' := [_, _, _, _, _, _, _, _, _, _]) dX11_readSplit_181 (by decide) rfl rfl ?_
    refine q_iconst (pc' := 184) (v := nI 0) dX11_readSplit_183 rfl rfl ?_
    refine q_istore (pc' := 186) (lv' := [_, _, _, _, _, _, _, _, _, _]) dX11_readSplit_184 (by decide) rfl rfl ?_
    exact w186 od 0 0 m1 h pt od cb _ _ _ x (by omega) hod (by omega) hx r1 r2 f1 k1 e6
  have w67 : ∀ m1 h pt od cb j u6 u7 u8 u9 x, od ≤ sz → x ≤ 320 → R.1 = false → R.2.1 = x → Fr [215, 221, 222] m m1 → Kp 215 [5, 6, 13, 14] m m1 → m1.1 215 6 = nI x → (∃ b, b < 100000 ∧ m1.1 215 14 = nI b) → j ≤ sz → q_V (q_g Z) mX11_readSplit (d+3) 0 0 67 [some (.ref (q_ad Z 215)), some (.int h), some (.int pt), some (.int (nI od)), some (.int cb), some (.int (nI j)), u6, u7, u8, u9] [] (q_W Z (m1)) (q_P Z fun r m2 => r = none ∧ Ko m m2 B [221, 222] [14] R.1 R.2.1 ∧ (R.1 = true → ∀ i, i < sz → m2.2.2.2.1 221 i = R.2.2 i)) := by
    intro m1 h pt od cb j u6 u7 u8 u9 x hod hx r1 r2 f1 k1 e6 eb hj
    refine q_iload (pc' := 69) dX11_readSplit_67 rfl rfl ?_
    refine q_aload_n (pc' := 70) dX11_readSplit_69 rfl rfl ?_
    refine h_getiE (pc' := 73) dX11_readSplit_70 fX11_197 rfl rfl ((k1 12 (by decide)).trans hsz) rfl ?_
    refine q_icmp_geN (tgt := 176) (pc' := 76) dX11_readSplit_73 (by decide) rfl (by omega) (fun c_73 => ?_) (fun c_73 => ?_)
    · exact w176 m1 h pt od cb _ _ _ _ _ x hod hx r1 r2 f1 k1 e6 eb
    refine q_aload_n (pc' := 77) dX11_readSplit_76 rfl rfl ?_
    refine h_getiE (pc' := 80) dX11_readSplit_77 fX11_110 rfl rfl (e6) rfl ?_
    refine q_iconst (pc' := 81) (v := (-1)) dX11_readSplit_80 rfl rfl ?_
    refine q_icmp_ne (tgt := 176) (pc' := 84) dX11_readSplit_81 (by decide) rfl (fun c_81 => ?_) (fun c_81 => ?_)
    · exact w176 m1 h pt od cb _ _ _ _ _ x hod hx r1 r2 f1 k1 e6 eb
    · exact absurd c_81 (z_m1n (by omega))
  have w50 : ∀ m1 h pt od u4 u5 u6 u7 u8 u9 x, od ≤ sz → x ≤ 320 → R.1 = false → R.2.1 = x → Fr [215, 221, 222] m m1 → Kp 215 [5, 6, 13, 14] m m1 → m1.1 215 6 = nI x → q_V (q_g Z) mX11_readSplit (d+3) 0 0 50 [some (.ref (q_ad Z 215)), some (.int h), some (.int pt), some (.int (nI od)), u4, u5, u6, u7, u8, u9] [] (q_W Z (m1)) (q_P Z fun r m2 => r = none ∧ Ko m m2 B [221, 222] [14] R.1 R.2.1 ∧ (R.1 = true → ∀ i, i < sz → m2.2.2.2.1 221 i = R.2.2 i)) := by
    intro m1 h pt od u4 u5 u6 u7 u8 u9 x hod hx r1 r2 f1 k1 e6
    refine q_iload_n (pc' := 51) dX11_readSplit_50 rfl rfl ?_
    refine q_iconst (pc' := 52) (v := nI 1) dX11_readSplit_51 rfl rfl ?_
    refine q_isub (pc' := 53) dX11_readSplit_52 rfl ?_
    refine q_i2l (pc' := 54) dX11_readSplit_53 rfl ?_
    refine h_callS (pc' := 57) (M' := mX11_widthOf) (As := [_]) dX11_readSplit_54 iX11_widthOf lX11_217 rfl rfl (Nat.le_of_ble_eq_true rfl) (Nat.le_of_ble_eq_true rfl) rfl rfl (k_widthOf.up (Nat.zero_le _)) (fun r m' hq => ?_)
    obtain ⟨rfl, hmm⟩ := hq
    subst m'
    refine q_istore (pc' := 59) (lv' := [_, _, _, _, _, _, _, _, _, _]) dX11_readSplit_57 (by decide) rfl rfl ?_
    refine q_aload_n (pc' := 60) dX11_readSplit_59 rfl rfl ?_
    refine q_iconst (pc' := 61) (v := nI 0) dX11_readSplit_60 rfl rfl ?_
    refine h_puti (pc' := 64) dX11_readSplit_61 fX11_194 rfl rfl rfl rfl rfl ?_
    refine q_iconst (pc' := 65) (v := nI 0) dX11_readSplit_64 rfl rfl ?_
    refine q_istore (pc' := 67) (lv' := [_, _, _, _, _, _, _, _, _, _]) dX11_readSplit_65 (by decide) rfl rfl ?_
    exact w67 _ h pt od _ 0 _ _ _ _ x hod hx r1 r2 (f1.I (by decide)) (kp_I k1 (by decide)) e6 ⟨0, by decide, rfl⟩ (by omega)
  have w40 : ∀ m1 h pt u3 u4 u5 u6 u7 u8 u9 x, x ≤ 320 → R.1 = false → R.2.1 = x → Fr [215, 221, 222] m m1 → Kp 215 [5, 6, 13, 14] m m1 → m1.1 215 6 = nI x → q_V (q_g Z) mX11_readSplit (d+3) 0 0 40 [some (.ref (q_ad Z 215)), some (.int h), some (.int pt), u3, u4, u5, u6, u7, u8, u9] [] (q_W Z (m1)) (q_P Z fun r m2 => r = none ∧ Ko m m2 B [221, 222] [14] R.1 R.2.1 ∧ (R.1 = true → ∀ i, i < sz → m2.2.2.2.1 221 i = R.2.2 i)) := by
    intro m1 h pt u3 u4 u5 u6 u7 u8 u9 x hx r1 r2 f1 k1 e6
    refine q_aload_n (pc' := 41) dX11_readSplit_40 rfl rfl ?_
    refine q_iconst (pc' := 42) (v := nI 0) dX11_readSplit_41 rfl rfl ?_
    refine q_aload_n (pc' := 43) dX11_readSplit_42 rfl rfl ?_
    refine h_getiE (pc' := 46) dX11_readSplit_43 fX11_197 rfl rfl ((k1 12 (by decide)).trans hsz) rfl ?_
    refine h_callV (pc' := 49) (M' := mX11_byteIn) (As := [_, _]) dX11_readSplit_46 iX11_byteIn lX11_191 rfl rfl rfl rfl (Nat.le_of_ble_eq_true rfl) (Nat.le_of_ble_eq_true rfl) rfl rfl ((k_byteW e6 (z_m1n (by omega))).up (Nat.zero_le _)) (fun r m' hq => ?_)
    obtain ⟨rfl, hmm⟩ := hq
    subst m'
    refine q_istore_n (pc' := 50) (lv' := [_, _, _, _, _, _, _, _, _, _]) dX11_readSplit_49 (by decide) rfl rfl ?_
    exact w50 m1 h pt 0 u4 u5 u6 u7 u8 u9 x (by omega) hx r1 r2 f1 k1 e6
  have w18 : ∀ g k m1 h pt x, k + g = pt → pt ≤ 8 → x ≤ 320 → R.1 = false → R.2.1 = x → Fr [215, 221, 222] m m1 → Kp 215 [5, 6, 13, 14] m m1 → m1.1 215 6 = nI x → q_V (q_g Z) mX11_readSplit (d+3) 0 0 18 [some (.ref (q_ad Z 215)), some (.int h), some (.int (nI pt)), some (.int (nI k)), none, none, none, none, none, none] [] (q_W Z (m1)) (q_P Z fun r m2 => r = none ∧ Ko m m2 B [221, 222] [14] R.1 R.2.1 ∧ (R.1 = true → ∀ i, i < sz → m2.2.2.2.1 221 i = R.2.2 i)) := by
    intro g
    induction g with
    | zero =>
      intro k m1 h pt x hk hp hx r1 r2 f1 k1 e6
      refine q_iload_n (pc' := 19) dX11_readSplit_18 rfl rfl ?_
      refine q_iload_n (pc' := 20) dX11_readSplit_19 rfl rfl ?_
      refine q_icmp_geN (tgt := 40) (pc' := 23) dX11_readSplit_20 (by decide) rfl (by omega) (fun c_20 => ?_) (fun c_20 => ?_)
      · exact w40 m1 h _ _ _ _ _ _ _ _ x hx r1 r2 f1 k1 e6
      · omega
    | succ g ih =>
      intro k m1 h pt x hk hp hx r1 r2 f1 k1 e6
      refine q_iload_n (pc' := 19) dX11_readSplit_18 rfl rfl ?_
      refine q_iload_n (pc' := 20) dX11_readSplit_19 rfl rfl ?_
      refine q_icmp_geN (tgt := 40) (pc' := 23) dX11_readSplit_20 (by decide) rfl (by omega) (fun c_20 => ?_) (fun c_20 => ?_)
      · omega
      refine q_aload_n (pc' := 24) dX11_readSplit_23 rfl rfl ?_
      refine h_getr (pc' := 27) dX11_readSplit_24 fX11_30 rfl rfl rfl ?_
      refine q_iload_n (pc' := 28) dX11_readSplit_27 rfl rfl ?_
      refine q_aload_n (pc' := 29) dX11_readSplit_28 rfl rfl ?_
      refine q_iload_n (pc' := 30) dX11_readSplit_29 rfl rfl ?_
      refine h_callV (pc' := 33) (M' := mX11_two) (As := [_]) dX11_readSplit_30 iX11_two lX11_214 rfl rfl rfl rfl (Nat.le_of_ble_eq_true rfl) (Nat.le_of_ble_eq_true rfl) rfl rfl ((k_twoW (d := d) e6 (z_m1n (by omega))).up (by omega)) (fun r m' hq => ?_)
      obtain ⟨⟨y, rfl⟩, hmm⟩ := hq
      subst m'
      refine h_iast (pc' := 34) dX11_readSplit_33 rfl (rfl) (by omega) (by decide) rfl ?_
      refine q_iincN (pc' := 37) (j := 1) (lv' := [_, _, _, _, _, _, _, _, _, _]) dX11_readSplit_34 rfl (by decide) rfl rfl ?_
      refine q_goto (pc' := 18) dX11_readSplit_37 (by decide) ?_
      exact ih (k + 1) _ h pt x (by omega) hp hx r1 r2 (f1.A (by decide)) k1 e6
  have n186 : ∀ g k lo b G m1 h pt od cb u7 u8 u9, k + g = od → od ≤ sz → lo ≤ sz - od + k → 4 ≤ h ∧ h ≤ 16 → Fr [215, 221, 222] m m1 → Kp 215 [5, 6, 13, 14] m m1 → Kb m1 B b → (∀ i, i < sz → m1.2.2.2.1 221 i = G i) → s_sxr B sz h g lo b G = R → q_V (q_g Z) mX11_readSplit (d+3) 0 0 186 [some (.ref (q_ad Z 215)), some (.int (nI h)), some (.int pt), some (.int (nI od)), some (.int cb), some (.int (nI lo)), some (.int (nI k)), u7, u8, u9] [] (q_W Z (m1)) (q_P Z fun r m2 => r = none ∧ Ko m m2 B [221, 222] [14] R.1 R.2.1 ∧ (R.1 = true → ∀ i, i < sz → m2.2.2.2.1 221 i = R.2.2 i)) := by
    intro g
    induction g with
    | zero =>
      intro k lo b G m1 h pt od cb u7 u8 u9 hk hod hlo hh f1 k1 K1 hG hs
      have hs : (true, b, G) = R := hs
      subst hs
      refine q_iload (pc' := 188) dX11_readSplit_186 rfl rfl ?_
      refine q_iload_n (pc' := 189) dX11_readSplit_188 rfl rfl ?_
      refine q_icmp_geN (tgt := 255) (pc' := 192) dX11_readSplit_189 (by decide) rfl (by omega) (fun c_189 => ?_) (fun c_189 => ?_)
      · refine q_vret dX11_readSplit_255 rfl ⟨_, rfl, rfl, ⟨f1, k1, K1⟩, fun _ => hG⟩
      · omega
    | succ g ih =>
      intro k lo b G m1 h pt od cb u7 u8 u9 hk hod hlo hh f1 k1 K1 hG hs
      unfold s_sxr at hs
      have hT1 := hT.fr f1 (k1 4 (by decide)) (by decide)
      have hbl := K1.2.2.2
      have hcb := s_sgb hb2 b
      refine q_iload (pc' := 188) dX11_readSplit_186 rfl rfl ?_
      refine q_iload_n (pc' := 189) dX11_readSplit_188 rfl rfl ?_
      refine q_icmp_geN (tgt := 255) (pc' := 192) dX11_readSplit_189 (by decide) rfl (by omega) (fun c_189 => ?_) (fun c_189 => ?_)
      · omega
      refine q_aload_n (pc' := 193) dX11_readSplit_192 rfl rfl ?_
      refine q_iload (pc' := 195) dX11_readSplit_193 rfl rfl ?_
      refine q_aload_n (pc' := 196) dX11_readSplit_195 rfl rfl ?_
      refine h_getiE (pc' := 199) dX11_readSplit_196 fX11_197 rfl rfl ((k1 12 (by decide)).trans hsz) rfl ?_
      refine q_iload_n (pc' := 200) dX11_readSplit_199 rfl rfl ?_
      refine q_isubN (pc' := 201) dX11_readSplit_200 (by omega) rfl ?_
      refine q_iload (pc' := 203) dX11_readSplit_201 rfl rfl ?_
      refine q_iaddN (pc' := 204) dX11_readSplit_203 rfl ?_
      rw [show sz - od + k = sz - (g + 1) by omega]
      refine h_callV (pc' := 207) (M' := mX11_byteIn) (As := [_, _]) dX11_readSplit_204 iX11_byteIn lX11_191 rfl rfl rfl rfl (Nat.le_of_ble_eq_true rfl) (Nat.le_of_ble_eq_true rfl) rfl rfl ((k_byteIn (d := d) hT1 K1 (by omega) (by omega)).up (by omega)) (fun r m' hq => ?_)
      obtain ⟨f2, h2⟩ := hq
      have f3 : Fr [215, 221, 222] m m' := f1.trans (f2.mono (by decide))
      by_cases ho : s_oc B b lo (sz - (g + 1)) = true
      · rw [if_pos ho] at h2 hs
        obtain ⟨rfl, k2, K2⟩ := h2
        have hlt := s_oc_lt ho
        have k3 : Kp 215 [5, 6, 13, 14] m m' := k1.trans (k2.mono (by decide))
        have hT2 := hT.fr f3 (k3 4 (by decide)) (by decide)
        have hle3 := s_hat_le (B := B) (h := h) (a := b + 1) (by omega)
        obtain ⟨m2, hm2⟩ : ∃ z, z = m' := ⟨_, rfl⟩
        subst hm2
        refine q_istore (pc' := 209) (lv' := [_, _, _, _, _, _, _, _, _, _]) dX11_readSplit_207 (by decide) rfl rfl ?_
        refine q_aload_n (pc' := 210) dX11_readSplit_209 rfl rfl ?_
        refine q_iload_n (pc' := 211) dX11_readSplit_210 rfl rfl ?_
        refine h_callV (pc' := 214) (M' := mX11_two) (As := [_]) dX11_readSplit_211 iX11_two lX11_214 rfl rfl rfl rfl (Nat.le_of_ble_eq_true rfl) (Nat.le_of_ble_eq_true rfl) rfl rfl (k_two hT2 K2 hh) (fun r m' hq => ?_)
        obtain ⟨⟨y, rfl, hy⟩, f4, k4, h4⟩ := hq
        have f5 : Fr [215, 221, 222] m m' := f3.trans (f4.mono (by decide))
        have k5 : Kp 215 [5, 6, 13, 14] m m' := k3.trans (k4.mono (by decide))
        have hv3 : m'.2.2.2.1 221 (s_sg B b) = G (s_sg B b) := (congrFun (f4.l (by decide)) _).trans ((congrFun (f2.l (by decide)) _).trans (hG _ (by omega)))
        refine q_i2l (pc' := 215) dX11_readSplit_214 rfl ?_
        refine q_lstore (pc' := 217) (lv' := [_, _, _, _, _, _, _, _, _, _]) dX11_readSplit_215 (by decide) rfl rfl ?_
        refine q_aload_n (pc' := 218) dX11_readSplit_217 rfl rfl ?_
        refine h_getr (pc' := 221) dX11_readSplit_218 fX11_27 rfl rfl rfl ?_
        refine q_iload (pc' := 223) dX11_readSplit_221 rfl rfl ?_
        refine q_lload (pc' := 225) dX11_readSplit_223 rfl rfl ?_
        refine q_bipush (pc' := 227) (v := nI 64) dX11_readSplit_225 rfl rfl ?_
        refine q_iload_n (pc' := 228) dX11_readSplit_227 rfl rfl ?_
        refine q_isubN (pc' := 229) dX11_readSplit_228 (by omega) rfl ?_
        refine q_lshl (pc' := 230) dX11_readSplit_229 rfl rfl ?_
        refine q_aload_n (pc' := 231) dX11_readSplit_230 rfl rfl ?_
        refine h_getr (pc' := 234) dX11_readSplit_231 fX11_27 rfl rfl rfl ?_
        refine q_iload (pc' := 236) dX11_readSplit_234 rfl rfl ?_
        refine h_laldE (pc' := 237) dX11_readSplit_236 rfl (rfl) (by omega) (by decide) (hv3) rfl ?_
        refine q_iload_n (pc' := 238) dX11_readSplit_237 rfl rfl ?_
        refine q_lshl (pc' := 239) dX11_readSplit_238 rfl rfl ?_
        refine q_iload_n (pc' := 240) dX11_readSplit_239 rfl rfl ?_
        refine q_lushr (pc' := 241) dX11_readSplit_240 rfl rfl ?_
        rw [z_keep hh]
        refine q_lor (pc' := 242) dX11_readSplit_241 rfl ?_
        refine h_last (pc' := 243) dX11_readSplit_242 rfl (rfl) (by omega) (by decide) rfl ?_
        refine q_iload (pc' := 245) dX11_readSplit_243 rfl rfl ?_
        refine q_iconst (pc' := 246) (v := nI 1) dX11_readSplit_245 rfl rfl ?_
        refine q_iaddN (pc' := 247) dX11_readSplit_246 rfl ?_
        refine q_istore (pc' := 249) (lv' := [_, _, _, _, _, _, _, _, _, _]) dX11_readSplit_247 (by decide) rfl rfl ?_
        refine q_iincN (pc' := 252) (j := 1) (lv' := [_, _, _, _, _, _, _, _, _, _]) dX11_readSplit_249 rfl (by decide) rfl rfl ?_
        refine q_goto (pc' := 186) dX11_readSplit_252 (by decide) ?_
        by_cases h8 : s_hok2 B h (b + 1) = true
        · rw [if_pos h8] at hs h4
          obtain ⟨hat, -⟩ := s_hok2_at h8
          have hlt2 := s_h2_lt h8
          have hp16 := Nat.pow_le_pow_right (show 0 < 2 by decide) hh.2
          rw [hat] at h4
          refine ih (k + 1) _ _ _ _ h pt od cb _ _ _ (by omega) hod (by omega) hh (f5.L (by decide)) k5 h4 (fun i hi => ?_) hs
          show q_u (m'.2.2.2.1 221) (s_sg B b) _ i = q_u G (s_sg B b) _ i
          by_cases z : i = s_sg B b
          · rw [z, q_u_s, q_u_s, hy h8, nI_l (by omega)]; rfl
          · rw [q_u_n _ _ z, q_u_n _ _ z]
            exact (congrFun (f4.l (by decide)) i).trans ((congrFun (f2.l (by decide)) i).trans (hG i hi))
        · rw [if_neg h8] at hs h4
          exact w186 g (k + 1) _ _ _ _ od cb _ _ _ (s_hat B h (b + 1)) (by omega) hod (by omega) (by omega) (by rw [← hs]) (by rw [← hs]) (f5.L (by decide)) k5 h4
      · rw [if_neg ho] at h2 hs
        obtain ⟨rfl, k2, e2⟩ := h2
        have k3 : Kp 215 [5, 6, 13, 14] m m' := k1.trans (k2.mono (by decide))
        refine q_istore (pc' := 209) (lv' := [_, _, _, _, _, _, _, _, _, _]) dX11_readSplit_207 (by decide) rfl rfl ?_
        refine q_aload_n (pc' := 210) dX11_readSplit_209 rfl rfl ?_
        refine q_iload_n (pc' := 211) dX11_readSplit_210 rfl rfl ?_
        refine h_callV (pc' := 214) (M' := mX11_two) (As := [_]) dX11_readSplit_211 iX11_two lX11_214 rfl rfl rfl rfl (Nat.le_of_ble_eq_true rfl) (Nat.le_of_ble_eq_true rfl) rfl rfl ((k_twoW (d := d) e2 (z_m1n (by omega))).up (by omega)) (fun r m' hq => ?_)
        obtain ⟨⟨y, rfl⟩, hmm⟩ := hq
        subst hmm
        refine q_i2l (pc' := 215) dX11_readSplit_214 rfl ?_
        refine q_lstore (pc' := 217) (lv' := [_, _, _, _, _, _, _, _, _, _]) dX11_readSplit_215 (by decide) rfl rfl ?_
        refine q_aload_n (pc' := 218) dX11_readSplit_217 rfl rfl ?_
        refine h_getr (pc' := 221) dX11_readSplit_218 fX11_27 rfl rfl rfl ?_
        refine q_iload (pc' := 223) dX11_readSplit_221 rfl rfl ?_
        refine q_lload (pc' := 225) dX11_readSplit_223 rfl rfl ?_
        refine q_bipush (pc' := 227) (v := nI 64) dX11_readSplit_225 rfl rfl ?_
        refine q_iload_n (pc' := 228) dX11_readSplit_227 rfl rfl ?_
        refine q_isub (pc' := 229) dX11_readSplit_228 rfl ?_
        refine q_lshl (pc' := 230) dX11_readSplit_229 rfl rfl ?_
        refine q_aload_n (pc' := 231) dX11_readSplit_230 rfl rfl ?_
        refine h_getr (pc' := 234) dX11_readSplit_231 fX11_27 rfl rfl rfl ?_
        refine q_iload (pc' := 236) dX11_readSplit_234 rfl rfl ?_
        refine h_lald (pc' := 237) dX11_readSplit_236 rfl (rfl) (by omega) (by decide) rfl ?_
        refine q_iload_n (pc' := 238) dX11_readSplit_237 rfl rfl ?_
        refine q_lshl (pc' := 239) dX11_readSplit_238 rfl rfl ?_
        refine q_iload_n (pc' := 240) dX11_readSplit_239 rfl rfl ?_
        refine q_lushr (pc' := 241) dX11_readSplit_240 rfl rfl ?_
        refine q_lor (pc' := 242) dX11_readSplit_241 rfl ?_
        refine h_last (pc' := 243) dX11_readSplit_242 rfl (rfl) (by omega) (by decide) rfl ?_
        refine q_iload (pc' := 245) dX11_readSplit_243 rfl rfl ?_
        refine q_iconst (pc' := 246) (v := nI 1) dX11_readSplit_245 rfl rfl ?_
        refine q_iaddN (pc' := 247) dX11_readSplit_246 rfl ?_
        refine q_istore (pc' := 249) (lv' := [_, _, _, _, _, _, _, _, _, _]) dX11_readSplit_247 (by decide) rfl rfl ?_
        refine q_iincN (pc' := 252) (j := 1) (lv' := [_, _, _, _, _, _, _, _, _, _]) dX11_readSplit_249 rfl (by decide) rfl rfl ?_
        refine q_goto (pc' := 186) dX11_readSplit_252 (by decide) ?_
        exact w186 g (k + 1) (lo + 1) _ _ _ od cb _ _ _ b (by omega) hod (by omega) (by omega) (by rw [← hs]) (by rw [← hs]) (f3.L (by decide)) k3 e2
  refine q_aload_n (pc' := 1) dX11_readSplit_0 rfl rfl ?_
  refine q_iconst (pc' := 2) (v := nI 4) dX11_readSplit_1 rfl rfl ?_
  refine q_bipush (pc' := 4) (v := nI 16) dX11_readSplit_2 rfl rfl ?_
  refine h_callV (pc' := 7) (M' := mX11_byteIn) (As := [_, _]) dX11_readSplit_4 iX11_byteIn lX11_191 rfl rfl rfl rfl (Nat.le_of_ble_eq_true rfl) (Nat.le_of_ble_eq_true rfl) rfl rfl ((k_byteIn (d := d) hT hK (by decide) (by decide)).up (by omega)) (fun r m' hq => ?_)
  obtain ⟨f1, h1⟩ := hq
  have g1 : Fr [215, 221, 222] m m' := f1.mono (by decide)
  by_cases o1 : s_oc B a 4 16 = true
  rotate_left
  · rw [if_neg o1] at h1 hR
    obtain ⟨rfl, k1, e1⟩ := h1
    refine q_istore_n (pc' := 8) (lv' := [_, _, _, _, _, _, _, _, _, _]) dX11_readSplit_7 (by decide) rfl rfl ?_
    refine q_aload_n (pc' := 9) dX11_readSplit_8 rfl rfl ?_
    refine q_iconst (pc' := 10) (v := nI 1) dX11_readSplit_9 rfl rfl ?_
    refine q_bipush (pc' := 12) (v := nI 8) dX11_readSplit_10 rfl rfl ?_
    refine h_callV (pc' := 15) (M' := mX11_byteIn) (As := [_, _]) dX11_readSplit_12 iX11_byteIn lX11_191 rfl rfl rfl rfl (Nat.le_of_ble_eq_true rfl) (Nat.le_of_ble_eq_true rfl) rfl rfl ((k_byteW e1 (z_m1n (by omega))).up (Nat.zero_le _)) (fun r m' hq => ?_)
    obtain ⟨rfl, hmm⟩ := hq
    subst hmm
    refine q_istore_n (pc' := 16) (lv' := [_, _, _, _, _, _, _, _, _, _]) dX11_readSplit_15 (by decide) rfl rfl ?_
    refine q_iconst (pc' := 17) (v := nI 0) dX11_readSplit_16 rfl rfl ?_
    refine q_istore_n (pc' := 18) (lv' := [_, _, _, _, _, _, _, _, _, _]) dX11_readSplit_17 (by decide) rfl rfl ?_
    exact w18 1 0 _ _ 1 a rfl (by decide) (by omega) (by rw [← hR]) (by rw [← hR]) g1 (k1.mono (by decide)) e1
  rw [if_pos o1] at h1 hR
  obtain ⟨rfl, k1, K1⟩ := h1
  have l1 := s_oc_lt o1
  have hT1 := hT.fr f1 (k1 4 (by decide)) (by decide)
  have hle1 := K1.2.2.2
  obtain ⟨m1, hm1⟩ : ∃ z, z = m' := ⟨_, rfl⟩
  subst hm1
  refine q_istore_n (pc' := 8) (lv' := [_, _, _, _, _, _, _, _, _, _]) dX11_readSplit_7 (by decide) rfl rfl ?_
  refine q_aload_n (pc' := 9) dX11_readSplit_8 rfl rfl ?_
  refine q_iconst (pc' := 10) (v := nI 1) dX11_readSplit_9 rfl rfl ?_
  refine q_bipush (pc' := 12) (v := nI 8) dX11_readSplit_10 rfl rfl ?_
  refine h_callV (pc' := 15) (M' := mX11_byteIn) (As := [_, _]) dX11_readSplit_12 iX11_byteIn lX11_191 rfl rfl rfl rfl (Nat.le_of_ble_eq_true rfl) (Nat.le_of_ble_eq_true rfl) rfl rfl ((k_byteIn (d := d) hT1 K1 (by decide) (by decide)).up (by omega)) (fun r m' hq => ?_)
  obtain ⟨f2, h2⟩ := hq
  have g2 : Fr [215, 221, 222] m m' := g1.trans (f2.mono (by decide))
  by_cases o2 : s_oc B (a + 1) 1 8 = true
  rotate_left
  · rw [if_neg o2] at h2 hR
    obtain ⟨rfl, k2, e2⟩ := h2
    refine q_istore_n (pc' := 16) (lv' := [_, _, _, _, _, _, _, _, _, _]) dX11_readSplit_15 (by decide) rfl rfl ?_
    refine q_iconst (pc' := 17) (v := nI 0) dX11_readSplit_16 rfl rfl ?_
    refine q_istore_n (pc' := 18) (lv' := [_, _, _, _, _, _, _, _, _, _]) dX11_readSplit_17 (by decide) rfl rfl ?_
    exact w18 1 0 _ _ 1 (a + 1) rfl (by decide) (by omega) (by rw [← hR]) (by rw [← hR]) g2 ((k1.mono (by decide)).trans (k2.mono (by decide))) e2
  rw [if_pos o2] at h2 hR
  obtain ⟨rfl, k2, K2⟩ := h2
  have l2 := s_oc_lt o2
  have k2 : Kp 215 [5, 6, 13, 14] m m' := (k1.mono (by decide)).trans (k2.mono (by decide))
  obtain ⟨h, hh9⟩ : ∃ h, s_sg B a = h := ⟨_, rfl⟩
  obtain ⟨pt, hpt⟩ : ∃ pt, s_sg B (a + 1) = pt := ⟨_, rfl⟩
  rw [hh9, hpt] at hR
  rw [hh9, hpt]
  rw [hh9] at l1
  rw [hpt] at l2
  have hh : 4 ≤ h ∧ h ≤ 16 := l1.2
  have hpt8 : 1 ≤ pt ∧ pt ≤ 8 := l2.2
  have hp64 : 2 ^ h * 2 ^ (64 - h) = 2 ^ 64 := by rw [← Nat.pow_add]; congr 1; omega
  have hp16 := Nat.pow_le_pow_right (show 0 < 2 by decide) hh.2
  obtain ⟨S, hS⟩ : ∃ S, s_prs B h pt (a + 1 + 1) = S := ⟨_, rfl⟩
  rw [hS] at hR
  obtain ⟨hi, hhi⟩ : ∃ hi : Nat → Nat, (fun j => s_h2 B (a + 1 + 1 + 2 * j)) = hi := ⟨_, rfl⟩
  rw [hhi] at hR
  have hhe : ∀ j, s_h2 B (a + 1 + 1 + 2 * j) = hi j := fun j => congrFun hhi j
  have after : ∀ m3, Fr [215, 221, 222] m m3 → Kp 215 [5, 6, 13, 14] m m3 → S.1 = true → Kb m3 B S.2 → (∀ j, j < pt → m3.2.2.1 222 j = nI (hi j) ∧ hi j < 2 ^ h) → q_V (q_g Z) mX11_readSplit (d+3) 0 0 40 [some (.ref (q_ad Z 215)), some (.int (nI h)), some (.int (nI pt)), some (.int (nI pt)), none, none, none, none, none, none] [] (q_W Z (m3)) (q_P Z fun r m2 => r = none ∧ Ko m m2 B [221, 222] [14] R.1 R.2.1 ∧ (R.1 = true → ∀ i, i < sz → m2.2.2.2.1 221 i = R.2.2 i)) := by
    intro m3 f3 k3 s1 K3 hv
    rw [if_pos s1] at hR
    have hT3 := hT.fr f3 (k3 4 (by decide)) (by decide)
    have hbl := K3.2.2.2
    have hcs := s_sgb hb2 S.2
    refine q_aload_n (pc' := 41) dX11_readSplit_40 rfl rfl ?_
    refine q_iconst (pc' := 42) (v := nI 0) dX11_readSplit_41 rfl rfl ?_
    refine q_aload_n (pc' := 43) dX11_readSplit_42 rfl rfl ?_
    refine h_getiE (pc' := 46) dX11_readSplit_43 fX11_197 rfl rfl ((k3 12 (by decide)).trans hsz) rfl ?_
    refine h_callV (pc' := 49) (M' := mX11_byteIn) (As := [_, _]) dX11_readSplit_46 iX11_byteIn lX11_191 rfl rfl rfl rfl (Nat.le_of_ble_eq_true rfl) (Nat.le_of_ble_eq_true rfl) rfl rfl ((k_byteIn (d := d) hT3 K3 (by decide) (by omega)).up (by omega)) (fun r m' hq => ?_)
    obtain ⟨f4, h4⟩ := hq
    have f4 : Fr [215, 221, 222] m m' := f3.trans (f4.mono (by decide))
    by_cases o4 : s_oc B S.2 0 sz = true
    rotate_left
    · rw [if_neg o4] at h4 hR
      obtain ⟨rfl, k4, e4⟩ := h4
      refine q_istore_n (pc' := 50) (lv' := [_, _, _, _, _, _, _, _, _, _]) dX11_readSplit_49 (by decide) rfl rfl ?_
      exact w50 _ _ _ 0 _ _ _ _ _ _ S.2 (by omega) (by omega) (by rw [← hR]) (by rw [← hR]) f4 (k3.trans (k4.mono (by decide))) e4
    rw [if_pos o4] at h4 hR
    obtain ⟨rfl, k4, K4⟩ := h4
    have l4 := s_oc_lt o4
    have k4 : Kp 215 [5, 6, 13, 14] m m' := k3.trans (k4.mono (by decide))
    obtain ⟨od, hod⟩ : ∃ od, s_sg B S.2 = od := ⟨_, rfl⟩
    rw [hod] at hR l4
    rw [hod]
    obtain ⟨b, hbb⟩ : ∃ b, S.2 + 1 = b := ⟨_, rfl⟩
    rw [hbb] at hR K4
    have hv4 : ∀ j, j < pt → m'.2.2.1 222 j = nI (hi j) ∧ hi j < 2 ^ h := fun j hj => ⟨(congrFun (‹Fr [215] m3 m'›.a (by decide)) j).trans (hv j hj).1, (hv j hj).2⟩
    have hbl4 := K4.2.2.2
    obtain ⟨m4, hm4⟩ : ∃ z, z = m' := ⟨_, rfl⟩
    subst hm4
    refine q_istore_n (pc' := 50) (lv' := [_, _, _, _, _, _, _, _, _, _]) dX11_readSplit_49 (by decide) rfl rfl ?_
    refine q_iload_n (pc' := 51) dX11_readSplit_50 rfl rfl ?_
    refine q_iconst (pc' := 52) (v := nI 1) dX11_readSplit_51 rfl rfl ?_
    refine q_isubN (pc' := 53) dX11_readSplit_52 (by omega) rfl ?_
    refine q_i2l (pc' := 54) dX11_readSplit_53 rfl ?_
    refine h_callS (pc' := 57) (M' := mX11_widthOf) (As := [_]) dX11_readSplit_54 iX11_widthOf lX11_217 rfl rfl (Nat.le_of_ble_eq_true rfl) (Nat.le_of_ble_eq_true rfl) rfl rfl (k_widthOf.up (Nat.zero_le _)) (fun r m' hq => ?_)
    obtain ⟨rfl, hmm⟩ := hq
    subst m'
    rw [nI_l (show pt - 1 < 2 ^ 31 by omega)]
    have hcb8 : s_bl (lN (pt - 1)) ≤ 3 := by
      have := s_bl8 ⟨pt - 1, by omega⟩
      rw [← nI_l (show pt - 1 < 2 ^ 31 by omega)]
      exact this
    unfold s_cdw at hR
    obtain ⟨cb, hcb⟩ : ∃ cb, s_bl (lN (pt - 1)) = cb := ⟨_, rfl⟩
    rw [hcb] at hR hcb8 ⊢
    refine q_istore (pc' := 59) (lv' := [_, _, _, _, _, _, _, _, _, _]) dX11_readSplit_57 (by decide) rfl rfl ?_
    refine q_aload_n (pc' := 60) dX11_readSplit_59 rfl rfl ?_
    refine q_iconst (pc' := 61) (v := nI 0) dX11_readSplit_60 rfl rfl ?_
    refine h_puti (pc' := 64) dX11_readSplit_61 fX11_194 rfl rfl rfl rfl rfl ?_
    refine q_iconst (pc' := 65) (v := nI 0) dX11_readSplit_64 rfl rfl ?_
    refine q_istore (pc' := 67) (lv' := [_, _, _, _, _, _, _, _, _, _]) dX11_readSplit_65 (by decide) rfl rfl ?_
    obtain ⟨Q, hQ⟩ : ∃ Q, s_cds B pt h cb hi sz (8 * b) 0 (fun _ => 0) = Q := ⟨_, rfl⟩
    have hQp : Q.1 = true → Q.2.2.1 ≤ 8 * B.length := fun z => by subst hQ; exact s_cds_p _ _ _ _ (by omega) z
    rw [hQ] at hR
    have loop : ∀ k p c i G m5 u6 u7 u8 u9, i + k = sz → p = 8 * b + c → p ≤ 8 * B.length → Fr [215, 221, 222] m m5 → Kp 215 [5, 6, 13, 14] m m5 → Kb m5 B b → m5.1 215 14 = nI c → (∀ j, j < i → m5.2.2.2.1 221 j = G j) → (∀ j, j < pt → m5.2.2.1 222 j = nI (hi j)) → s_cds B pt h cb hi k p i G = Q → q_V (q_g Z) mX11_readSplit (d+3) 0 0 67 [some (.ref (q_ad Z 215)), some (.int (nI h)), some (.int (nI pt)), some (.int (nI od)), some (.int (nI cb)), some (.int (nI i)), u6, u7, u8, u9] [] (q_W Z (m5)) (q_P Z fun r m2 => r = none ∧ Ko m m2 B [221, 222] [14] R.1 R.2.1 ∧ (R.1 = true → ∀ i, i < sz → m2.2.2.2.1 221 i = R.2.2 i)) := by
      intro k
      induction k with
      | zero =>
        intro p c i G m5 u6 u7 u8 u9 hik hpc hp f5 k5 K5 e14 hG hH hs
        have hs : (true, 0, p, G) = Q := hs
        subst hs
        obtain rfl : i = sz := by omega
        have hT5 := hT.fr f5 (k5 4 (by decide)) (by decide)
        refine q_iload (pc' := 69) dX11_readSplit_67 rfl rfl ?_
        refine q_aload_n (pc' := 70) dX11_readSplit_69 rfl rfl ?_
        refine h_getiE (pc' := 73) dX11_readSplit_70 fX11_197 rfl rfl ((k5 12 (by decide)).trans hsz) rfl ?_
        refine q_icmp_geN (tgt := 176) (pc' := 76) dX11_readSplit_73 (by decide) rfl (by omega) (fun c_73 => ?_) (fun c_73 => ?_)
        rotate_left
        · omega
        refine q_aload_n (pc' := 177) dX11_readSplit_176 rfl rfl ?_
        refine h_callV (pc' := 180) (M' := mX11_endBits) (As := []) dX11_readSplit_177 iX11_endBits lX11_211 rfl rfl rfl rfl (Nat.le_of_ble_eq_true rfl) (Nat.le_of_ble_eq_true rfl) rfl rfl (k_endBits hT5 K5 e14 (by omega)) (fun r m' hq => ?_)
        obtain ⟨rfl, f7, k7, h7⟩ := hq
        rw [← hpc] at h7
        have f8 : Fr [215, 221, 222] m m' := f5.trans (f7.mono (by decide))
        have k8 : Kp 215 [5, 6, 13, 14] m m' := k5.trans k7
        have hfle := s_fat_le (B := B) hp
        refine q_iconst (pc' := 181) (v := nI 0) dX11_readSplit_180 rfl rfl ?_
        refine q_istore (pc' := 183) (lv' := [_, _, _, _, _, _, _, _, _, _]) dX11_readSplit_181 (by decide) rfl rfl ?_
        refine q_iconst (pc' := 184) (v := nI 0) dX11_readSplit_183 rfl rfl ?_
        refine q_istore (pc' := 186) (lv' := [_, _, _, _, _, _, _, _, _, _]) dX11_readSplit_184 (by decide) rfl rfl ?_
        rw [if_pos rfl] at hR
        cases hfl : s_fl B p with
        | true =>
          rw [hfl, if_pos rfl] at h7 hR
          exact n186 od 0 0 _ _ m' h _ od (nI cb) _ _ _ (by omega) (by omega) (by omega) hh f8 k8 h7 (fun j hj => (congrFun (f7.l (by decide)) j).trans (hG j hj)) hR
        | false =>
          rw [hfl] at h7 hR
          rw [if_neg (by simp)] at h7 hR
          exact w186 od 0 0 m' _ _ od (nI cb) _ _ _ _ (by omega) (by omega) (by omega) (by omega) (by rw [← hR]) (by rw [← hR]) f8 k8 h7
      | succ k ih =>
        intro p c i G m5 u6 u7 u8 u9 hik hpc hp f5 k5 K5 e14 hG hH hs
        unfold s_cds at hs
        have hT5 := hT.fr f5 (k5 4 (by decide)) (by decide)
        refine q_iload (pc' := 69) dX11_readSplit_67 rfl rfl ?_
        refine q_aload_n (pc' := 70) dX11_readSplit_69 rfl rfl ?_
        refine h_getiE (pc' := 73) dX11_readSplit_70 fX11_197 rfl rfl ((k5 12 (by decide)).trans hsz) rfl ?_
        refine q_icmp_geN (tgt := 176) (pc' := 76) dX11_readSplit_73 (by decide) rfl (by omega) (fun c_73 => ?_) (fun c_73 => ?_)
        · omega
        refine q_aload_n (pc' := 77) dX11_readSplit_76 rfl rfl ?_
        refine h_getiE (pc' := 80) dX11_readSplit_77 fX11_110 rfl rfl (K5.2.2.1) rfl ?_
        refine q_iconst (pc' := 81) (v := (-1)) dX11_readSplit_80 rfl rfl ?_
        refine q_icmp_ne (tgt := 176) (pc' := 84) dX11_readSplit_81 (by decide) rfl (fun c_81 => ?_) (fun c_81 => ?_)
        · exact absurd rfl c_81
        refine q_aload_n (pc' := 85) dX11_readSplit_84 rfl rfl ?_
        refine q_iload (pc' := 87) dX11_readSplit_85 rfl rfl ?_
        refine h_callV (pc' := 90) (M' := mX11_takeBits) (As := [_]) dX11_readSplit_87 iX11_takeBits lX11_203 rfl rfl rfl rfl (Nat.le_of_ble_eq_true rfl) (Nat.le_of_ble_eq_true rfl) rfl rfl ((k_takeBits hT5 K5.1 e14 K5.2.2.1 (by omega) (by omega)).up (Nat.zero_le _)) (fun r m' hq => ?_)
        obtain ⟨⟨y, rfl, hy⟩, f7, k7, h6, h14, b9, hb9, h149⟩ := hq
        rw [← hpc] at hy h6 h14
        have f8 : Fr [215, 221, 222] m m' := f5.trans (f7.mono (by decide))
        have k8 : Kp 215 [5, 6, 13, 14] m m' := k5.trans (k7.mono (by decide))
        have wz : ∀ m9 x v u7 u8 u9, Fr [215, 221, 222] m m9 → Kp 215 [5, 6, 13, 14] m m9 → x ≤ 320 → R.1 = false → R.2.1 = x → m9.1 215 6 = nI x → (∃ b, b < 100000 ∧ m9.1 215 14 = nI b) → q_V (q_g Z) mX11_readSplit (d+3) 0 0 125 [some (.ref (q_ad Z 215)), some (.int (nI h)), some (.int (nI pt)), some (.int (nI od)), some (.int (nI cb)), some (.int (nI i)), some (.int v), u7, u8, u9] [] (q_W Z (m9)) (q_P Z fun r m2 => r = none ∧ Ko m m2 B [221, 222] [14] R.1 R.2.1 ∧ (R.1 = true → ∀ i, i < sz → m2.2.2.2.1 221 i = R.2.2 i)) := by
          intro m9 x v u7 u8 u9 f9 k9 hx r1 r2 e6 eb
          refine q_aload_n (pc' := 126) dX11_readSplit_125 rfl rfl ?_
          refine q_bipush (pc' := 128) (v := nI 64) dX11_readSplit_126 rfl rfl ?_
          refine q_iload_n (pc' := 129) dX11_readSplit_128 rfl rfl ?_
          refine q_isub (pc' := 130) dX11_readSplit_129 rfl ?_
          refine h_callV (pc' := 133) (M' := mX11_takeBits) (As := [_]) dX11_readSplit_130 iX11_takeBits lX11_203 rfl rfl rfl rfl (Nat.le_of_ble_eq_true rfl) (Nat.le_of_ble_eq_true rfl) rfl rfl ((k_takeW e6 (z_m1n (by omega))).up (Nat.zero_le _)) (fun r m' hq => ?_)
          obtain ⟨⟨y, rfl⟩, hmm⟩ := hq
          subst m'
          refine q_lstore (pc' := 135) (lv' := [_, _, _, _, _, _, _, _, _, _]) dX11_readSplit_133 (by decide) rfl rfl ?_
          refine q_aload_n (pc' := 136) dX11_readSplit_135 rfl rfl ?_
          refine h_getr (pc' := 139) dX11_readSplit_136 fX11_27 rfl rfl rfl ?_
          refine q_iload (pc' := 141) dX11_readSplit_139 rfl rfl ?_
          refine q_aload_n (pc' := 142) dX11_readSplit_141 rfl rfl ?_
          refine h_getiE (pc' := 145) dX11_readSplit_142 fX11_110 rfl rfl (e6) rfl ?_
          refine q_iconst (pc' := 146) (v := (-1)) dX11_readSplit_145 rfl rfl ?_
          refine q_icmp_ne (tgt := 168) (pc' := 149) dX11_readSplit_146 (by decide) rfl (fun c_146 => ?_) (fun c_146 => ?_)
          rotate_left
          · exact absurd c_146 (z_m1n (by omega))
          refine q_lconst (pc' := 169) (v := 0) dX11_readSplit_168 rfl rfl ?_
          refine h_last (pc' := 170) dX11_readSplit_169 rfl (rfl) (by omega) (by decide) rfl ?_
          refine q_iincN (pc' := 173) (j := 1) (lv' := [_, _, _, _, _, _, _, _, _, _]) dX11_readSplit_170 rfl (by decide) rfl rfl ?_
          refine q_goto (pc' := 67) dX11_readSplit_173 (by decide) ?_
          exact w67 _ _ _ od _ (i + 1) _ _ _ _ x (by omega) hx r1 r2 (f9.L (by decide)) k9 e6 eb (by omega)
        by_cases hin : p + cb ≤ 8 * B.length
        rotate_left
        · rw [if_neg hin] at h6 hs
          subst hs
          rw [if_neg (by simp)] at hR
          refine q_l2i (pc' := 91) dX11_readSplit_90 rfl ?_
          refine q_istore (pc' := 93) (lv' := [_, _, _, _, _, _, _, _, _, _]) dX11_readSplit_91 (by decide) rfl rfl ?_
          refine q_aload_n (pc' := 94) dX11_readSplit_93 rfl rfl ?_
          refine h_getiE (pc' := 97) dX11_readSplit_94 fX11_110 rfl rfl (h6) rfl ?_
          refine q_iconst (pc' := 98) (v := (-1)) dX11_readSplit_97 rfl rfl ?_
          refine q_icmp_ne (tgt := 125) (pc' := 101) dX11_readSplit_98 (by decide) rfl (fun c_98 => ?_) (fun c_98 => ?_)
          rotate_left
          · exact absurd c_98 (z_m1n (by omega))
          exact wz m' B.length _ _ _ _ f8 k8 (by omega) (by rw [← hR]) (by rw [← hR]; simp) h6 ⟨b9, by omega, h149⟩
        rw [if_pos hin] at h6 hs
        have hy := hy hin
        have h14 := h14 hin
        have hbn := s_bn_lt B p cb
        have hpw : 2 ^ cb ≤ 2 ^ 3 := Nat.pow_le_pow_right (by decide) hcb8
        rw [hy]
        refine q_l2i (pc' := 91) dX11_readSplit_90 rfl ?_
        rw [z_l2i (by omega)]
        refine q_istore (pc' := 93) (lv' := [_, _, _, _, _, _, _, _, _, _]) dX11_readSplit_91 (by decide) rfl rfl ?_
        refine q_aload_n (pc' := 94) dX11_readSplit_93 rfl rfl ?_
        refine h_getiE (pc' := 97) dX11_readSplit_94 fX11_110 rfl rfl (h6) rfl ?_
        refine q_iconst (pc' := 98) (v := (-1)) dX11_readSplit_97 rfl rfl ?_
        refine q_icmp_ne (tgt := 125) (pc' := 101) dX11_readSplit_98 (by decide) rfl (fun c_98 => ?_) (fun c_98 => ?_)
        · exact absurd rfl c_98
        have K7 : Kb m' B b := ⟨(k7 5 (by decide)).trans K5.1, (k7 13 (by decide)).trans K5.2.1, h6, K5.2.2.2⟩
        refine q_iload (pc' := 103) dX11_readSplit_101 rfl rfl ?_
        refine q_iload_n (pc' := 104) dX11_readSplit_103 rfl rfl ?_
        refine q_icmp_ltN (tgt := 125) (pc' := 107) dX11_readSplit_104 (by decide) rfl (by omega) (fun c_104 => ?_) (fun c_104 => ?_)
        rotate_left
        · rw [if_neg (by omega)] at hs
          subst hs
          rw [if_neg (by simp)] at hR
          have hp1 : 1 ≤ cb := by
            rcases Nat.eq_zero_or_pos cb with q | q
            · rw [q] at c_104
              have : s_bn B p 0 = 0 := rfl
              omega
            · exact q
          refine q_aload_n (pc' := 108) dX11_readSplit_107 rfl rfl ?_
          refine q_aload_n (pc' := 109) dX11_readSplit_108 rfl rfl ?_
          refine h_getiE (pc' := 112) dX11_readSplit_109 fX11_103 rfl rfl (K7.1) rfl ?_
          refine q_aload_n (pc' := 113) dX11_readSplit_112 rfl rfl ?_
          refine h_getiE (pc' := 116) dX11_readSplit_113 fX11_194 rfl rfl (h14) rfl ?_
          refine q_iconst (pc' := 117) (v := nI 1) dX11_readSplit_116 rfl rfl ?_
          refine q_isubN (pc' := 118) dX11_readSplit_117 (by omega) rfl ?_
          refine q_bipush (pc' := 120) (v := nI 8) dX11_readSplit_118 rfl rfl ?_
          refine q_idivN (pc' := 121) dX11_readSplit_120 (by omega) rfl ?_
          refine q_iaddN (pc' := 122) dX11_readSplit_121 rfl ?_
          rw [show b + (c + cb - 1) / 8 = (p + cb - 1) / 8 by omega]
          refine h_puti (pc' := 125) dX11_readSplit_122 fX11_110 rfl rfl rfl rfl rfl ?_
          refine wz _ ((p + cb - 1) / 8) _ _ _ _ (f8.I (by decide)) (kp_I k8 (by decide)) (by omega) (by rw [← hR]) (by rw [← hR]; simp) rfl ⟨c + cb, by omega, h14⟩
        rw [if_pos c_104] at hs
        have hT7 := hT.fr f8 (k8 4 (by decide)) (by decide)
        obtain ⟨m7, hm7⟩ : ∃ z, z = m' := ⟨_, rfl⟩
        subst hm7
        refine q_aload_n (pc' := 126) dX11_readSplit_125 rfl rfl ?_
        refine q_bipush (pc' := 128) (v := nI 64) dX11_readSplit_126 rfl rfl ?_
        refine q_iload_n (pc' := 129) dX11_readSplit_128 rfl rfl ?_
        refine q_isubN (pc' := 130) dX11_readSplit_129 (by omega) rfl ?_
        refine h_callV (pc' := 133) (M' := mX11_takeBits) (As := [_]) dX11_readSplit_130 iX11_takeBits lX11_203 rfl rfl rfl rfl (Nat.le_of_ble_eq_true rfl) (Nat.le_of_ble_eq_true rfl) rfl rfl ((k_takeBits hT7 K7.1 h14 K7.2.2.1 (by omega) (by omega)).up (Nat.zero_le _)) (fun r m' hq => ?_)
        obtain ⟨⟨y2, rfl, hy2⟩, f9, k9, h69, h149', b8, hb8, h148⟩ := hq
        rw [show 8 * b + (c + cb) = p + cb by omega] at hy2 h69 h149'
        have f10 : Fr [215, 221, 222] m m' := f8.trans (f9.mono (by decide))
        have k10 : Kp 215 [5, 6, 13, 14] m m' := k8.trans (k9.mono (by decide))
        refine q_lstore (pc' := 135) (lv' := [_, _, _, _, _, _, _, _, _, _]) dX11_readSplit_133 (by decide) rfl rfl ?_
        by_cases hin2 : p + cb + (64 - h) ≤ 8 * B.length
        rotate_left
        · rw [if_neg hin2] at h69 hs
          subst hs
          rw [if_neg (by simp)] at hR
          refine q_aload_n (pc' := 136) dX11_readSplit_135 rfl rfl ?_
          refine h_getr (pc' := 139) dX11_readSplit_136 fX11_27 rfl rfl rfl ?_
          refine q_iload (pc' := 141) dX11_readSplit_139 rfl rfl ?_
          refine q_aload_n (pc' := 142) dX11_readSplit_141 rfl rfl ?_
          refine h_getiE (pc' := 145) dX11_readSplit_142 fX11_110 rfl rfl (h69) rfl ?_
          refine q_iconst (pc' := 146) (v := (-1)) dX11_readSplit_145 rfl rfl ?_
          refine q_icmp_ne (tgt := 168) (pc' := 149) dX11_readSplit_146 (by decide) rfl (fun c_146 => ?_) (fun c_146 => ?_)
          rotate_left
          · exact absurd c_146 (z_m1n (by omega))
          refine q_lconst (pc' := 169) (v := 0) dX11_readSplit_168 rfl rfl ?_
          refine h_last (pc' := 170) dX11_readSplit_169 rfl (rfl) (by omega) (by decide) rfl ?_
          refine q_iincN (pc' := 173) (j := 1) (lv' := [_, _, _, _, _, _, _, _, _, _]) dX11_readSplit_170 rfl (by decide) rfl rfl ?_
          refine q_goto (pc' := 67) dX11_readSplit_173 (by decide) ?_
          exact w67 _ _ _ od _ (i + 1) _ _ _ _ B.length (by omega) (by omega) (by rw [← hR]) (by rw [← hR]; simp) (f10.L (by decide)) k10 h69 ⟨b8, by omega, h148⟩ (by omega)
        rw [if_pos hin2] at h69 hs
        have hy2 := hy2 hin2
        have h149' := h149' hin2
        have hbl2 := s_bn_lt B (p + cb) (64 - h)
        have hvl := (hv4 _ c_104).2
        have hmul : (hi (s_bn B p cb) + 1) * 2 ^ (64 - h) ≤ 2 ^ h * 2 ^ (64 - h) := Nat.mul_le_mul_right _ hvl
        rw [hp64, Nat.succ_mul] at hmul
        rw [hy2]
        refine q_aload_n (pc' := 136) dX11_readSplit_135 rfl rfl ?_
        refine h_getr (pc' := 139) dX11_readSplit_136 fX11_27 rfl rfl rfl ?_
        refine q_iload (pc' := 141) dX11_readSplit_139 rfl rfl ?_
        refine q_aload_n (pc' := 142) dX11_readSplit_141 rfl rfl ?_
        refine h_getiE (pc' := 145) dX11_readSplit_142 fX11_110 rfl rfl (h69) rfl ?_
        refine q_iconst (pc' := 146) (v := (-1)) dX11_readSplit_145 rfl rfl ?_
        refine q_icmp_ne (tgt := 168) (pc' := 149) dX11_readSplit_146 (by decide) rfl (fun c_146 => ?_) (fun c_146 => ?_)
        · exact absurd rfl c_146
        refine q_aload_n (pc' := 150) dX11_readSplit_149 rfl rfl ?_
        refine h_getr (pc' := 153) dX11_readSplit_150 fX11_30 rfl rfl rfl ?_
        refine q_iload (pc' := 155) dX11_readSplit_153 rfl rfl ?_
        refine h_ialdE (pc' := 156) dX11_readSplit_155 rfl (rfl) (by omega) (by decide) ((congrFun (f9.a (by decide)) _).trans ((congrFun (f7.a (by decide)) _).trans (hH _ c_104))) rfl ?_
        refine q_i2l (pc' := 157) dX11_readSplit_156 rfl ?_
        rw [nI_l (by omega)]
        refine q_bipush (pc' := 159) (v := nI 64) dX11_readSplit_157 rfl rfl ?_
        refine q_iload_n (pc' := 160) dX11_readSplit_159 rfl rfl ?_
        refine q_isubN (pc' := 161) dX11_readSplit_160 (by omega) rfl ?_
        refine q_lshl (pc' := 162) dX11_readSplit_161 rfl rfl ?_
        refine q_lload (pc' := 164) dX11_readSplit_162 rfl rfl ?_
        refine q_lor (pc' := 165) dX11_readSplit_164 rfl ?_
        rw [z_lo (by omega) (by omega) hbl2]
        refine q_goto (pc' := 169) dX11_readSplit_165 (by decide) ?_
        refine h_last (pc' := 170) dX11_readSplit_169 rfl (rfl) (by omega) (by decide) rfl ?_
        refine q_iincN (pc' := 173) (j := 1) (lv' := [_, _, _, _, _, _, _, _, _, _]) dX11_readSplit_170 rfl (by decide) rfl rfl ?_
        refine q_goto (pc' := 67) dX11_readSplit_173 (by decide) ?_
        refine ih _ (c + cb + (64 - h)) (i + 1) _ _ _ _ _ _ (by omega) (by omega) hin2 (f10.L (by decide)) k10 ⟨(k9 5 (by decide)).trans K7.1, (k9 13 (by decide)).trans K7.2.1, h69, K7.2.2.2⟩ h149' (fun j hj => ?_) (fun j hj => (congrFun (f9.a (by decide)) j).trans ((congrFun (f7.a (by decide)) j).trans (hH j hj))) hs
        show q_u (m'.2.2.2.1 221) i _ j = q_u G i _ j
        by_cases z : j = i
        · rw [z, q_u_s, q_u_s]
        · rw [q_u_n _ _ z, q_u_n _ _ z]
          exact (congrFun (f9.l (by decide)) j).trans ((congrFun (f7.l (by decide)) j).trans (hG j (by omega)))
    exact loop sz (8 * b) 0 0 (fun _ => 0) _ _ _ _ _ (by omega) rfl (by omega) (f4.I (by decide)) (kp_I k4 (by decide)) K4 rfl (fun j hj => absurd hj (by omega)) (fun j hj => (hv4 j hj).1) hQ
  obtain ⟨m2, hm2⟩ : ∃ z, z = m' := ⟨_, rfl⟩
  subst hm2
  refine q_istore_n (pc' := 16) (lv' := [_, _, _, _, _, _, _, _, _, _]) dX11_readSplit_15 (by decide) rfl rfl ?_
  refine q_iconst (pc' := 17) (v := nI 0) dX11_readSplit_16 rfl rfl ?_
  refine q_istore_n (pc' := 18) (lv' := [_, _, _, _, _, _, _, _, _, _]) dX11_readSplit_17 (by decide) rfl rfl ?_
  suffices hl2 : ∀ k j b m3, j + k = pt → b = a + 1 + 1 + 2 * j → Fr [215, 221, 222] m m3 → Kp 215 [5, 6, 13, 14] m m3 → Kb m3 B b → (∀ i, i < j → m3.2.2.1 222 i = nI (hi i) ∧ hi i < 2 ^ h) → s_prs B h k b = S → q_V (q_g Z) mX11_readSplit (d+3) 0 0 18 [some (.ref (q_ad Z 215)), some (.int (nI h)), some (.int (nI pt)), some (.int (nI j)), none, none, none, none, none, none] [] (q_W Z (m3)) (q_P Z fun r m2 => r = none ∧ Ko m m2 B [221, 222] [14] R.1 R.2.1 ∧ (R.1 = true → ∀ i, i < sz → m2.2.2.2.1 221 i = R.2.2 i)) from hl2 pt 0 (a + 1 + 1) m2 (by omega) rfl g2 k2 K2 (fun i hi => absurd hi (by omega)) hS
  intro k
  induction k with
  | zero =>
    intro j b m3 hj hbj f3 k3 K3 hv hs
    have hs : (true, b) = S := hs
    obtain rfl : j = pt := by omega
    refine q_iload_n (pc' := 19) dX11_readSplit_18 rfl rfl ?_
    refine q_iload_n (pc' := 20) dX11_readSplit_19 rfl rfl ?_
    refine q_icmp_geN (tgt := 40) (pc' := 23) dX11_readSplit_20 (by decide) rfl (by omega) (fun c_20 => ?_) (fun c_20 => ?_)
    · exact after m3 f3 k3 (by rw [← hs]) (by rw [← hs]; exact K3) hv
    · omega
  | succ k ih =>
    intro j b m3 hj hbj f3 k3 K3 hv hs
    unfold s_prs at hs
    have hT3 := hT.fr f3 (k3 4 (by decide)) (by decide)
    have hle := s_hat_le (B := B) (h := h) (a := b) K3.2.2.2
    refine q_iload_n (pc' := 19) dX11_readSplit_18 rfl rfl ?_
    refine q_iload_n (pc' := 20) dX11_readSplit_19 rfl rfl ?_
    refine q_icmp_geN (tgt := 40) (pc' := 23) dX11_readSplit_20 (by decide) rfl (by omega) (fun c_20 => ?_) (fun c_20 => ?_)
    · omega
    refine q_aload_n (pc' := 24) dX11_readSplit_23 rfl rfl ?_
    refine h_getr (pc' := 27) dX11_readSplit_24 fX11_30 rfl rfl rfl ?_
    refine q_iload_n (pc' := 28) dX11_readSplit_27 rfl rfl ?_
    refine q_aload_n (pc' := 29) dX11_readSplit_28 rfl rfl ?_
    refine q_iload_n (pc' := 30) dX11_readSplit_29 rfl rfl ?_
    refine h_callV (pc' := 33) (M' := mX11_two) (As := [_]) dX11_readSplit_30 iX11_two lX11_214 rfl rfl rfl rfl (Nat.le_of_ble_eq_true rfl) (Nat.le_of_ble_eq_true rfl) rfl rfl (k_two hT3 K3 hh) (fun r m' hq => ?_)
    obtain ⟨⟨y, rfl, hy⟩, f4, k4, h4⟩ := hq
    have f5 : Fr [215, 221, 222] m m' := f3.trans (f4.mono (by decide))
    have k5 : Kp 215 [5, 6, 13, 14] m m' := k3.trans (k4.mono (by decide))
    refine h_iast (pc' := 34) dX11_readSplit_33 rfl (rfl) (by omega) (by decide) rfl ?_
    refine q_iincN (pc' := 37) (j := 1) (lv' := [_, _, _, _, _, _, _, _, _, _]) dX11_readSplit_34 rfl (by decide) rfl rfl ?_
    refine q_goto (pc' := 18) dX11_readSplit_37 (by decide) ?_
    by_cases h8 : s_hok2 B h b = true
    · rw [if_pos h8] at hs h4
      obtain ⟨hat, -⟩ := s_hok2_at h8
      rw [hat] at h4
      have hlt2 := s_h2_lt h8
      refine ih (j + 1) _ _ (by omega) (by omega) (f5.A (by decide)) k5 h4 (fun i hi2 => ?_) hs
      by_cases z : i = j
      · refine ⟨?_, by rw [z, ← hhe, ← hbj]; exact hlt2⟩
        show q_u (m'.2.2.1 222) j _ i = _
        rw [z, q_u_s, hy h8, ← hhe, ← hbj]
      · refine ⟨?_, (hv i (by omega)).2⟩
        show q_u (m'.2.2.1 222) j _ i = _
        rw [q_u_n _ _ z]
        exact (congrFun (f4.a (by decide)) i).trans (hv i (by omega)).1
    · rw [if_neg h8] at hs h4
      subst hs
      rw [if_neg (by simp)] at hR
      exact w18 k (j + 1) _ _ pt _ (by omega) (by omega) (by omega) (by rw [← hR]) (by rw [← hR]) (f5.A (by decide)) k5 h4
