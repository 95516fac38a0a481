/-! ===== R of a VALUE by a PAIR, in the reference ===== -/
theorem snl_fin {v : Int64} (h : s_fin v = true) : vn_snl2d v = false := by
  rw [s_fin_E] at h
  have hE := of_decide_eq_true h
  have hN := s_N_lt v
  unfold s_E at hE
  have : ¬ (v.toUInt64 &&& 0x7fffffffffffffff > 0x7ff0000000000000) := by
    intro z
    have z := UInt64.lt_iff_toNat_lt.mp z
    rw [FP.Core.mask_toNat, show v.toUInt64.toNat = s_N v from rfl] at z
    have z : 9218868437227405312 < s_N v % 2 ^ 63 := z
    omega
  unfold vn_snl2d
  rw [decide_eq_false this]
  rfl
def s_w2 (v : Int64) (e f : Nat) : Int64 := if s_able v = true then s_whole (s_num v) e f else s_no
theorem s_wv_2 (v : Int64) (p : Nat) : s_wv v p = s_w2 v (s_cd p / 16) (s_cd p % 16) := rfl
theorem s_w2_inf {v : Int64} {e f : Nat} (h : s_fin v = false) : s_w2 v e f = s_no := by
  unfold s_w2 s_able
  rw [h]
  rfl
theorem s_w2_able {v : Int64} {e f : Nat} (h : s_fin v = true) (hm : v ≠ s_minus) : s_w2 v e f = s_whole v.toUInt64 e f := by
  unfold s_w2 s_able s_num
  rw [h, decide_eq_false hm, if_neg hm]
  rfl
theorem s_w2_minus {e f : Nat} : s_w2 s_minus e f = s_no := by
  unfold s_w2 s_able
  rw [decide_eq_true rfl, Bool.not_true, Bool.and_false]
  rfl
theorem s_w2_a {v : Int64} {e f : Nat} (h : s_fin v = true) (c : Op.cmpValue (FP.dcmp (s_mv v.toUInt64 e f) 14060238036650688512) .l ≤ 0) : s_w2 v e f = s_no := by
  by_cases hm : v = s_minus
  · rw [hm]; exact s_w2_minus
  · rw [s_w2_able h hm]; exact s_whole_a c
theorem s_w2_b {v : Int64} {e f : Nat} (h : s_fin v = true) (c : ¬ Op.cmpValue (FP.dcmp (s_mv v.toUInt64 e f) 14060238036650688512) .l ≤ 0) (g : 0 ≤ Op.cmpValue (FP.dcmp (s_mv v.toUInt64 e f) 4836865999795912704) .g) : s_w2 v e f = s_no := by
  by_cases hm : v = s_minus
  · rw [hm]; exact s_w2_minus
  · rw [s_w2_able h hm]; exact s_whole_b c g
theorem rd_no {x : UInt64} {e f : Nat} (h3 : FP.Core.val64 (FP.dsub (FP.dadd (s_mv x e f) s_MG) s_MG) ≠ .nan) (c : ¬ Op.cmpValue (FP.dcmp (s_mv x e f) 14060238036650688512) .l ≤ 0) (g : ¬ 0 ≤ Op.cmpValue (FP.dcmp (s_mv x e f) 4836865999795912704) .g) : s_rd x e f ≠ s_no := by
  have c1 : FP.Core.dcmp (s_mv x e f) 14060238036650688512 = some .gt := by
    rw [show FP.dcmp (s_mv x e f) 14060238036650688512 = FP.Core.dcmp (s_mv x e f) 14060238036650688512 from rfl] at c
    cases h : FP.Core.dcmp (s_mv x e f) 14060238036650688512 with
    | none => rw [h] at c; exact absurd (by decide) c
    | some o =>
      rw [h] at c
      cases o with
      | lt => exact absurd (by decide) c
      | eq => exact absurd (by decide) c
      | gt => rfl
  have g1 : FP.Core.dcmp (s_mv x e f) 4836865999795912704 = some .lt := by
    rw [show FP.dcmp (s_mv x e f) 4836865999795912704 = FP.Core.dcmp (s_mv x e f) 4836865999795912704 from rfl] at g
    cases h : FP.Core.dcmp (s_mv x e f) 4836865999795912704 with
    | none => rw [h] at g; exact absurd (by decide) g
    | some o =>
      rw [h] at g
      cases o with
      | lt => rfl
      | eq => exact absurd (by decide) g
      | gt => exact absurd (by decide) g
  obtain ⟨n1, n2⟩ := FP.Core.dcmp_some c1
  obtain ⟨-, n3⟩ := FP.Core.dcmp_some g1
  rw [FP.Core.dcmp_gt_key n1 n2] at c1
  rw [FP.Core.dcmp_lt_key n1 n3] at g1
  have k1 : FP.Core.dkey 14060238036650688512 = -(1074 * 2 ^ 52) := by decide +kernel
  have k2 : FP.Core.dkey 4836865999795912704 = 1074 * 2 ^ 52 := by decide +kernel
  rw [k1] at c1
  rw [k2] at g1
  have hm : (s_mv x e f).toNat % 2 ^ 63 < 1076 * 2 ^ 52 := by
    have := (s_mv x e f).toNat_lt
    unfold FP.Core.dkey at c1 g1
    split at c1 <;> omega
  have hM : s_MG.toNat % 2 ^ 63 < 1076 * 2 ^ 52 := by decide +kernel
  have a1 := FP.Core.dadd_mag hm hM (by decide)
  have a2 := FP.Core.dsub_mag (K := 1078) (b := s_MG) a1 (Nat.lt_trans hM (by decide)) (by decide)
  have z1 := FP.Core.zmag_bits h3
  have v1 := FP.Core.d2l_val h3
  have hu : FP.Core.unitsOf FP.Core.b64 ((FP.dsub (FP.dadd (s_mv x e f) s_MG) s_MG).toNat % 2 ^ 63) < 2 ^ 52 * 2 ^ (1080 - 1) := by
    have e := FP.Core.unitsOf_start (f := FP.Core.b64) (K := 1080) (by decide)
    rw [FP.Core.tails_b64] at e
    rw [← e]
    exact FP.Core.unitsOf_lt a2
  rw [← z1] at hu
  have hd : FP.Core.zmag FP.Core.b64 (FP.Core.val64 (FP.dsub (FP.dadd (s_mv x e f) s_MG) s_MG)) / FP.Core.one64 < 2 ^ 57 := by
    unfold FP.Core.one64
    refine Nat.div_lt_of_lt_mul ?_
    rw [← Nat.pow_add] at hu ⊢
    rw [show 52 + (1080 - 1) = 1074 + 57 from rfl] at hu
    exact hu
  intro hn
  have hn : FP.Core.d2l (FP.dsub (FP.dadd (s_mv x e f) s_MG) s_MG) = s_no := hn
  rw [hn] at v1
  generalize FP.Core.zmag FP.Core.b64 (FP.Core.val64 (FP.dsub (FP.dadd (s_mv x e f) s_MG) s_MG)) / FP.Core.one64 = N at v1 hd
  have v1 : -2 ^ 63 = max (-2 ^ 63) (min (2 ^ 63 - 1) (FP.Core.signed (FP.Core.sgn (FP.Core.val64 (FP.dsub (FP.dadd (s_mv x e f) s_MG) s_MG))) N)) := v1
  generalize FP.Core.sgn (FP.Core.val64 (FP.dsub (FP.dadd (s_mv x e f) s_MG) s_MG)) = s at v1
  unfold FP.Core.signed at v1
  split at v1 <;> omega
theorem s_w2_c {v : Int64} {e f : Nat} (h : s_fin v = true) (he : e < 15) (hf : f < 15) (h3 : FP.Core.val64 (FP.dsub (FP.dadd (s_mv v.toUInt64 e f) s_MG) s_MG) ≠ .nan) (c : ¬ Op.cmpValue (FP.dcmp (s_mv v.toUInt64 e f) 14060238036650688512) .l ≤ 0) (g : ¬ 0 ≤ Op.cmpValue (FP.dcmp (s_mv v.toUInt64 e f) 4836865999795912704) .g) : (if (s_dec (s_rd v.toUInt64 e f) e f).toInt64 = v then s_w2 v e f = s_rd v.toUInt64 e f ∧ s_w2 v e f ≠ s_no else s_w2 v e f = s_no) := by
  have nd := nn_dec2 (s_rd v.toUInt64 e f) he hf
  have nr := rd_no h3 c g
  have nx := dv_nn (dv_num h)
  have hp : (s_dec (s_rd v.toUInt64 e f) e f).toNat ≠ 2 ^ 63 := by
    intro z
    have := dec_pos (s_rd v.toUInt64 e f) he hf
    unfold s_b at this
    rw [if_pos z] at this
    have t : s_N (0 : Int64) = s_N (s_dec (s_rd v.toUInt64 e f) e f).toInt64 := congrArg s_N this
    rw [show s_N (s_dec (s_rd v.toUInt64 e f) e f).toInt64 = (s_dec (s_rd v.toUInt64 e f) e f).toNat from rfl, z] at t
    exact absurd t (by decide)
  by_cases hm : v = s_minus
  · subst hm
    rw [if_neg (fun z => hp ?_)]
    · exact s_w2_minus
    · have t := congrArg s_N z
      exact t.trans (by decide)
  rw [s_w2_able h hm]
  split
  · rename_i z
    have hx : s_dec (s_rd v.toUInt64 e f) e f = v.toUInt64 := congrArg Int64.toUInt64 z
    have hd : Op.cmpValue (FP.dcmp (s_dec (s_rd v.toUInt64 e f) e f) v.toUInt64) .l = 0 := by
      rw [hx, dv_self nx]
      rfl
    rw [s_whole_d c g hd]
    exact ⟨rfl, nr⟩
  · rename_i z
    refine s_whole_c c g (fun q => z ?_)
    have hd : FP.Core.dcmp (s_dec (s_rd v.toUInt64 e f) e f) v.toUInt64 = some .eq := by
      rw [show FP.dcmp (s_dec (s_rd v.toUInt64 e f) e f) v.toUInt64 = FP.Core.dcmp (s_dec (s_rd v.toUInt64 e f) e f) v.toUInt64 from rfl] at q
      cases h : FP.Core.dcmp (s_dec (s_rd v.toUInt64 e f) e f) v.toUInt64 with
      | none => rw [h] at q; exact absurd q (by decide)
      | some o =>
        rw [h] at q
        cases o with
        | lt => exact absurd q (by decide)
        | eq => rfl
        | gt => exact absurd q (by decide)
    rw [FP.Core.dcmp_eq_key nd nx] at hd
    have h1 := (s_dec (s_rd v.toUInt64 e f) e f).toNat_lt
    have h2 := s_N_lt v
    have h4 : s_N v ≠ 2 ^ 63 := fun y => hm (s_N_inj (y.trans (by decide)))
    have h5 : (s_dec (s_rd v.toUInt64 e f) e f).toNat = s_N v := by
      unfold FP.Core.dkey at hd
      rw [show v.toUInt64.toNat = s_N v from rfl] at hd
      split at hd <;> split at hd <;> omega
    exact s_N_inj h5
set_option maxHeartbeats 4000000 in
set_option maxRecDepth 20000 in
theorem k_wholeOf {Z : q_Z} {m : q_Mm} {d : Nat} {v : Int64} {e f : Nat} (hM : MD m) (he : e < 15) (hf : f < 15) : q_V (q_g Z) mX11_wholeOf (d+2) 0 0 0 [some (.ref (q_ad Z 215)), some (.long v), none, some (.int (nI e)), some (.int (nI f)), none, none, none, none, none, none] [] (q_W Z m) (q_P Z fun r m2 => ∃ x, r = some (.long x) ∧ (s_w2 v e f ≠ s_no → x = s_w2 v e f) ∧ Fr [215] m m2 ∧ Kp 215 [23] m m2 ∧ m2.2 = m.2 ∧ m2.1 215 23 = q_b (!decide (s_w2 v e f = s_no))) := by
  refine q_aload_n (pc' := 1) dX11_wholeOf_0 rfl rfl ?_
  refine q_iconst (pc' := 2) (v := nI 0) dX11_wholeOf_1 rfl rfl ?_
  refine h_puti (pc' := 5) dX11_wholeOf_2 fX11_257 rfl rfl (rfl) rfl rfl ?_
  refine q_lload_n (pc' := 6) dX11_wholeOf_5 rfl rfl ?_
  refine h_callS (pc' := 9) (M' := mX11_isFinite) (As := [_]) dX11_wholeOf_6 iX11_isFinite lX11_260 rfl rfl (Nat.le_of_ble_eq_true rfl) (Nat.le_of_ble_eq_true rfl) rfl rfl (k_isFinite.up (Nat.zero_le _)) (fun r m' hq => ?_)
  obtain ⟨rfl, hmm⟩ := hq
  subst m'
  have f0 : Fr [215] m (sI m 215 23 (nI 0)) := Fr.rf.I (by decide)
  have k0 : Kp 215 [23] m (sI m 215 23 (nI 0)) := kp_I Kp.rf (by decide)
  refine q_if_neB (tgt := 14) (pc' := 12) dX11_wholeOf_9 (by decide) rfl (fun c_9 => ?_) (fun c_9 => ?_)
  rotate_left
  · have h := s_w2_inf (e := e) (f := f) c_9
    refine q_lconst (pc' := 13) (v := 0) dX11_wholeOf_12 rfl rfl ?_
    refine q_lret dX11_wholeOf_13 rfl ⟨_, rfl, _, rfl, fun z => absurd h z, f0, k0, rfl, by rw [h, decide_eq_true rfl]; rfl⟩
  have nx := dv_nn (dv_num c_9)
  have h1 := nn_mul nx (nz_tn ⟨e, he⟩)
  have h2 := nn_mul h1 (nz_th ⟨f, hf⟩)
  have h3 := nn_add h2 nz_MG
  have h4 := nn_sub h3 nz_MG
  refine q_lload_n (pc' := 15) dX11_wholeOf_14 rfl rfl ?_
  refine q_l2double (pc' := 18) dX11_wholeOf_15 lX11_264 dz_nl2d dz_sl2d dz_i (snl_fin c_9) (Nat.le_of_ble_eq_true rfl) rfl ?_
  refine q_aload_n (pc' := 19) dX11_wholeOf_18 rfl rfl ?_
  refine h_getr (pc' := 22) dX11_wholeOf_19 fX11_9 rfl rfl rfl ?_
  refine q_iload_n (pc' := 23) dX11_wholeOf_22 rfl rfl ?_
  refine h_daldE (pc' := 24) dX11_wholeOf_23 rfl (rfl) (by omega) (by decide) ((hM e he).1) rfl ?_
  refine q_dmul (pc' := 25) dX11_wholeOf_24 (dv_n64 h1) rfl ?_
  refine q_dstore (pc' := 27) (lv' := [_, _, _, _, _, _, _, _, _, _, _]) dX11_wholeOf_25 (by decide) rfl rfl ?_
  refine q_dload (pc' := 29) dX11_wholeOf_27 rfl rfl ?_
  refine q_aload_n (pc' := 30) dX11_wholeOf_29 rfl rfl ?_
  refine h_getr (pc' := 33) dX11_wholeOf_30 fX11_13 rfl rfl rfl ?_
  refine q_iload (pc' := 35) dX11_wholeOf_33 rfl rfl ?_
  refine h_daldE (pc' := 36) dX11_wholeOf_35 rfl (rfl) (by omega) (by decide) ((hM f hf).2) rfl ?_
  refine q_dmul (pc' := 37) dX11_wholeOf_36 (dv_n64 h2) rfl ?_
  refine q_dstore (pc' := 39) (lv' := [_, _, _, _, _, _, _, _, _, _, _]) dX11_wholeOf_37 (by decide) rfl rfl ?_
  refine q_dload (pc' := 41) dX11_wholeOf_39 rfl rfl ?_
  refine q_ldc2d (pc' := 44) dX11_wholeOf_41 kX11_268 rfl ?_
  refine q_dcmp (pc' := 45) dX11_wholeOf_44 rfl ?_
  refine q_if_le (tgt := 57) (pc' := 48) dX11_wholeOf_45 (by decide) rfl (fun c_45 => ?_) (fun c_45 => ?_)
  · have h := s_w2_a (e := e) (f := f) c_9 c_45
    refine q_lconst (pc' := 58) (v := 0) dX11_wholeOf_57 rfl rfl ?_
    refine q_lret dX11_wholeOf_58 rfl ⟨_, rfl, _, rfl, fun z => absurd h z, f0, k0, rfl, by rw [h, decide_eq_true rfl]; rfl⟩
  refine q_dload (pc' := 50) dX11_wholeOf_48 rfl rfl ?_
  refine q_ldc2d (pc' := 53) dX11_wholeOf_50 kX11_270 rfl ?_
  refine q_dcmp (pc' := 54) dX11_wholeOf_53 rfl ?_
  refine q_if_lt (tgt := 59) (pc' := 57) dX11_wholeOf_54 (by decide) rfl (fun c_54 => ?_) (fun c_54 => ?_)
  rotate_left
  · have h := s_w2_b (e := e) (f := f) c_9 c_45 (by rw [z_le, z_0]; rw [z_lt, z_0] at c_54; exact Int.not_lt.mp c_54)
    refine q_lconst (pc' := 58) (v := 0) dX11_wholeOf_57 rfl rfl ?_
    refine q_lret dX11_wholeOf_58 rfl ⟨_, rfl, _, rfl, fun z => absurd h z, f0, k0, rfl, by rw [h, decide_eq_true rfl]; rfl⟩
  have hc := s_w2_c c_9 he hf h4 c_45 (by rw [z_le, z_0]; rw [z_lt, z_0] at c_54; exact Int.not_le.mpr c_54)
  have hM1 : MD (sI m 215 23 (nI 0)) := hM
  refine q_dload (pc' := 61) dX11_wholeOf_59 rfl rfl ?_
  refine q_ldc2d (pc' := 64) dX11_wholeOf_61 kX11_272 rfl ?_
  refine q_dadd (pc' := 65) dX11_wholeOf_64 (dv_n64 h3) rfl ?_
  refine q_dstore (pc' := 67) (lv' := [_, _, _, _, _, _, _, _, _, _, _]) dX11_wholeOf_65 (by decide) rfl rfl ?_
  refine q_dload (pc' := 69) dX11_wholeOf_67 rfl rfl ?_
  refine q_ldc2d (pc' := 72) dX11_wholeOf_69 kX11_272 rfl ?_
  refine q_dsub (pc' := 73) dX11_wholeOf_72 (dv_n64 h4) rfl ?_
  refine q_dstore (pc' := 75) (lv' := [_, _, _, _, _, _, _, _, _, _, _]) dX11_wholeOf_73 (by decide) rfl rfl ?_
  refine q_dload (pc' := 77) dX11_wholeOf_75 rfl rfl ?_
  refine q_d2l (pc' := 78) dX11_wholeOf_77 rfl ?_
  refine q_lstore (pc' := 80) (lv' := [_, _, _, _, _, _, _, _, _, _, _]) dX11_wholeOf_78 (by decide) rfl rfl ?_
  refine q_aload_n (pc' := 81) dX11_wholeOf_80 rfl rfl ?_
  refine q_aload_n (pc' := 82) dX11_wholeOf_81 rfl rfl ?_
  refine q_lload (pc' := 84) dX11_wholeOf_82 rfl rfl ?_
  refine q_iload_n (pc' := 85) dX11_wholeOf_84 rfl rfl ?_
  refine q_iload (pc' := 87) dX11_wholeOf_85 rfl rfl ?_
  refine h_callV (pc' := 90) (M' := mX11_unguised) (As := [_, _, _]) dX11_wholeOf_87 iX11_unguised lX11_207 rfl rfl rfl rfl (Nat.le_of_ble_eq_true rfl) (Nat.le_of_ble_eq_true rfl) rfl rfl ((k_unguised (w := s_rd v.toUInt64 e f) hM1 he hf).up (Nat.zero_le _)) (fun r m' hq => ?_)
  obtain ⟨rfl, hmm⟩ := hq
  subst m'
  have nd := nn_dec2 (s_rd v.toUInt64 e f) he hf
  refine h_callS (pc' := 93) (M' := mJxe99ae_doubleToLongBits_ccdee) (As := [_]) dX11_wholeOf_90 iJxe99ae_doubleToLongBits_ccdee lX11_153 rfl rfl (Nat.le_of_ble_eq_true rfl) (Nat.le_of_ble_eq_true rfl) rfl rfl (k_d2l nd) (fun r m' hq => ?_)
  obtain ⟨rfl, hmm⟩ := hq
  subst m'
  refine q_lload_n (pc' := 94) dX11_wholeOf_93 rfl rfl ?_
  refine q_lcmp (pc' := 95) dX11_wholeOf_94 rfl ?_
  refine q_if_neL (tgt := 102) (pc' := 98) dX11_wholeOf_95 (by decide) rfl (fun c_95 => ?_) (fun c_95 => ?_)
  · rw [if_neg c_95] at hc
    refine q_iconst (pc' := 103) (v := nI 0) dX11_wholeOf_102 rfl rfl ?_
    refine h_puti (pc' := 106) dX11_wholeOf_103 fX11_257 rfl rfl (rfl) rfl rfl ?_
    refine q_lload (pc' := 108) dX11_wholeOf_106 rfl rfl ?_
    refine q_lret dX11_wholeOf_108 rfl ⟨_, rfl, _, rfl, fun z => absurd hc z, f0.I (by decide), kp_I k0 (by decide), rfl, by rw [hc, decide_eq_true rfl]; rfl⟩
  · rw [if_pos c_95] at hc
    refine q_iconst (pc' := 99) (v := nI 1) dX11_wholeOf_98 rfl rfl ?_
    refine q_goto (pc' := 103) dX11_wholeOf_99 (by decide) ?_
    refine h_puti (pc' := 106) dX11_wholeOf_103 fX11_257 rfl rfl (rfl) rfl rfl ?_
    refine q_lload (pc' := 108) dX11_wholeOf_106 rfl rfl ?_
    refine q_lret dX11_wholeOf_108 rfl ⟨_, rfl, _, rfl, fun z => hc.1.symm, f0.I (by decide), kp_I k0 (by decide), rfl, by rw [decide_eq_false hc.2]; rfl⟩
set_option maxHeartbeats 4000000 in
set_option maxRecDepth 20000 in
theorem k_isFit {Z : q_Z} {m : q_Mm} {d : Nat} {v : Int64} {e f : Nat} (hM : MD m) (he : e < 15) (hf : f < 15) : q_V (q_g Z) mX11_isFit (d+3) 0 0 0 [some (.ref (q_ad Z 215)), some (.long v), none, some (.int (nI e)), some (.int (nI f))] [] (q_W Z m) (q_P Z fun r m2 => r = some (.int (q_b (!decide (s_w2 v e f = s_no)))) ∧ Fr [215] m m2 ∧ Kp 215 [23] m m2) := by
  refine q_aload_n (pc' := 1) dX11_isFit_0 rfl rfl ?_
  refine q_lload_n (pc' := 2) dX11_isFit_1 rfl rfl ?_
  refine q_iload_n (pc' := 3) dX11_isFit_2 rfl rfl ?_
  refine q_iload (pc' := 5) dX11_isFit_3 rfl rfl ?_
  refine h_callV (pc' := 8) (M' := mX11_wholeOf) (As := [_, _, _]) dX11_isFit_5 iX11_wholeOf lX11_274 rfl rfl rfl rfl (Nat.le_of_ble_eq_true rfl) (Nat.le_of_ble_eq_true rfl) rfl rfl (k_wholeOf hM he hf) (fun r m' hq => ?_)
  obtain ⟨x, rfl, hx, f1, k1, -, h23⟩ := hq
  refine q_pop2 (pc' := 9) dX11_isFit_8 rfl rfl ?_
  refine q_aload_n (pc' := 10) dX11_isFit_9 rfl rfl ?_
  refine h_getiE (pc' := 13) dX11_isFit_10 fX11_257 rfl rfl (h23) rfl ?_
  refine q_iret dX11_isFit_13 rfl (by first | exact q_nb0 | exact q_nb1 | exact q_nb _) ⟨_, rfl, rfl, f1, k1⟩
