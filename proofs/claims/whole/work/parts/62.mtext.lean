/-! ===== the reference: VALUES, the TEXT ===== -/
theorem dv_self {x : UInt64} (hx : FP.Core.val64 x ≠ .nan) : FP.dcmp x x = some .eq := by
  cases h : FP.Core.val64 x with
  | nan => exact absurd h hx
  | inf s =>
    cases s with
    | false => rw [FP.Core.val64_inj hx (h.trans w_infv.1.symm)]; decide +kernel
    | true => rw [FP.Core.val64_inj hx (h.trans w_infv.2.symm)]; decide +kernel
  | fin s c q =>
    have := dv_cmp (x := x) (y := x) ⟨c, q, h, rfl⟩ ⟨c, q, h, rfl⟩
    rw [show FP.dcmp x x = FP.Core.dcmp x x from rfl, this]
    exact congrArg some (Int.compare_eq_eq.mpr rfl)
set_option maxHeartbeats 4000000 in
set_option maxRecDepth 20000 in
theorem k_isNaN {Z : q_Z} {m : q_Mm} {d : Nat} {x : UInt64} (hx : FP.Core.val64 x ≠ .nan) : q_V (q_g Z) mJxe99ae_isNaN_b9ae7 (d) 0 0 0 [some (.double x), none] [] (q_W Z m) (q_P Z fun r m2 => r = some (.int (q_b false)) ∧ m2 = m) := by
  refine q_dload_n (pc' := 1) dJxe99ae_isNaN_b9ae7_0 rfl rfl ?_
  refine q_dload_n (pc' := 2) dJxe99ae_isNaN_b9ae7_1 rfl rfl ?_
  refine q_dcmp (pc' := 3) dJxe99ae_isNaN_b9ae7_2 rfl ?_
  rw [dv_self hx]
  refine q_if_eq (tgt := 10) (pc' := 6) dJxe99ae_isNaN_b9ae7_3 (by decide) rfl (fun c_3 => ?_) (fun c_3 => ?_)
  rotate_left
  · exact absurd (by decide) c_3
  refine q_iconst (pc' := 11) (v := nI 0) dJxe99ae_isNaN_b9ae7_10 rfl rfl ?_
  refine q_iret dJxe99ae_isNaN_b9ae7_11 rfl (by first | exact q_nb0 | exact q_nb1 | exact q_nb _) ⟨_, rfl, rfl, rfl⟩
set_option maxHeartbeats 4000000 in
set_option maxRecDepth 20000 in
theorem k_d2l {Z : q_Z} {m : q_Mm} {d : Nat} {x : UInt64} (hx : FP.Core.val64 x ≠ .nan) : q_V (q_g Z) mJxe99ae_doubleToLongBits_ccdee (d+1) 0 0 0 [some (.double x), none] [] (q_W Z m) (q_P Z fun r m2 => r = some (.long x.toInt64) ∧ m2 = m) := by
  refine q_dload_n (pc' := 1) dJxe99ae_doubleToLongBits_ccdee_0 rfl rfl ?_
  refine h_callS (pc' := 4) (M' := mJxe99ae_isNaN_b9ae7) (As := [_]) dJxe99ae_doubleToLongBits_ccdee_1 iJxe99ae_isNaN_b9ae7 lJxe99ae_122 rfl rfl (Nat.le_of_ble_eq_true rfl) (Nat.le_of_ble_eq_true rfl) rfl rfl (k_isNaN hx) (fun r m' hq => ?_)
  obtain ⟨rfl, hmm⟩ := hq
  subst m'
  refine q_if_neB (tgt := 12) (pc' := 7) dJxe99ae_doubleToLongBits_ccdee_4 (by decide) rfl (fun c_4 => ?_) (fun c_4 => ?_)
  · cases c_4
  refine q_dload_n (pc' := 8) dJxe99ae_doubleToLongBits_ccdee_7 rfl rfl ?_
  refine q_d2raw (pc' := 11) dJxe99ae_doubleToLongBits_ccdee_8 lJxe99ae_134 dz_nraw dz_sraw dz_i (Nat.le_of_ble_eq_true rfl) rfl ?_
  refine q_lret dJxe99ae_doubleToLongBits_ccdee_11 rfl ⟨_, rfl, rfl, rfl⟩
set_option maxHeartbeats 4000000 in
set_option maxRecDepth 20000 in
theorem k_readBits {Z : q_Z} {m : q_Mm} {d : Nat} {B : List Nat} {a : Nat} (hT : MT m B) (ha : m.1 215 5 = nI a) (hl : a ≤ 320) (hw : m.1 215 6 = -1) : q_V (q_g Z) mX11_readBits (d+2) 0 0 0 [some (.ref (q_ad Z 215)), none, none, none] [] (q_W Z m) (q_P Z fun r m2 => ∃ x, r = some (.long x) ∧ Kw m m2 (s_he B a) (if s_hok B a = true then -1 else nI (s_he B a)) ∧ (s_hok B a = true → x = s_hv B a (s_he B a - a))) := by
  have hb := hT.2.1
  have hb2 := hT.2.2.2
  have hhe := s_he_le hl hb
  refine q_lconst (pc' := 1) (v := 0) dX11_readBits_0 rfl rfl ?_
  refine q_lstore_n (pc' := 2) (lv' := [_, _, _, _]) dX11_readBits_1 (by decide) rfl rfl ?_
  refine q_iconst (pc' := 3) (v := nI 0) dX11_readBits_2 rfl rfl ?_
  refine q_istore_n (pc' := 4) (lv' := [_, _, _, _]) dX11_readBits_3 (by decide) rfl rfl ?_
  have bad : ∀ c m1, Kw m m1 (a + c) (-1) → s_he B a = a + c → s_hok B a = false → q_V (q_g Z) mX11_readBits (d+2) 0 0 65 [some (.ref (q_ad Z 215)), some (.long (s_hv B a c)), none, some (.int (nI c))] [] (q_W Z (m1)) (q_P Z fun r m2 => ∃ x, r = some (.long x) ∧ Kw m m2 (s_he B a) (if s_hok B a = true then -1 else nI (s_he B a)) ∧ (s_hok B a = true → x = s_hv B a (s_he B a - a))) := by
    intro c m1 t1 hs ho
    refine q_aload_n (pc' := 66) dX11_readBits_65 rfl rfl ?_
    refine h_callV (pc' := 69) (M' := mX11_bad) (As := []) dX11_readBits_66 iX11_bad lX11_120 rfl rfl rfl rfl (Nat.le_of_ble_eq_true rfl) (Nat.le_of_ble_eq_true rfl) rfl rfl ((k_bad t1.2.2.1 rfl).up (Nat.zero_le _)) (fun r m' hq => ?_)
    obtain ⟨rfl, hmm⟩ := hq
    subst m'
    rw [t1.2.2.2, if_pos rfl, ho, hs]
    refine q_lload_n (pc' := 70) dX11_readBits_69 rfl rfl ?_
    exact q_lret dX11_readBits_70 rfl ⟨_, rfl, _, rfl, by rw [if_neg (by decide)]; exact t1.bad, fun z => by cases z⟩
  have stop : ∀ c m1, c ≤ 16 → a + c ≤ 320 → Kw m m1 (a + c) (-1) → s_he B a = a + c → q_V (q_g Z) mX11_readBits (d+2) 0 0 50 [some (.ref (q_ad Z 215)), some (.long (s_hv B a c)), none, some (.int (nI c))] [] (q_W Z (m1)) (q_P Z fun r m2 => ∃ x, r = some (.long x) ∧ Kw m m2 (s_he B a) (if s_hok B a = true then -1 else nI (s_he B a)) ∧ (s_hok B a = true → x = s_hv B a (s_he B a - a))) := by
    intro c m1 hc hc2 t1 hs
    have hx := s_hex_le (s_sg B (a + c))
    refine q_iload_n (pc' := 51) dX11_readBits_50 rfl rfl ?_
    refine q_if_eqN (tgt := 65) (pc' := 54) dX11_readBits_51 (by decide) rfl (by omega) (fun c_51 => ?_) (fun c_51 => ?_)
    · exact bad c m1 t1 hs (by unfold s_hok; rw [hs, decide_eq_false (by omega)]; rfl)
    refine q_aload_n (pc' := 55) dX11_readBits_54 rfl rfl ?_
    refine h_callV (pc' := 58) (M' := mX11_here) (As := []) dX11_readBits_55 iX11_here lX11_106 rfl rfl rfl rfl (Nat.le_of_ble_eq_true rfl) (Nat.le_of_ble_eq_true rfl) rfl rfl ((k_here (hT.kw t1) t1.2.2.1 hc2).up (Nat.zero_le _)) (fun r m' hq => ?_)
    obtain ⟨rfl, hmm⟩ := hq
    subst m'
    refine h_callS (pc' := 61) (M' := mX11_hexOf) (As := [_]) dX11_readBits_58 iX11_hexOf lX11_141 rfl rfl (Nat.le_of_ble_eq_true rfl) (Nat.le_of_ble_eq_true rfl) rfl rfl ((k_hexOf (d := d) hb2).up (by omega)) (fun r m' hq => ?_)
    obtain ⟨rfl, hmm⟩ := hq
    subst m'
    refine q_iconst (pc' := 62) (v := (-1)) dX11_readBits_61 rfl rfl ?_
    refine q_icmp_eq (tgt := 69) (pc' := 65) dX11_readBits_62 (by decide) rfl (fun c_62 => ?_) (fun c_62 => ?_)
    · have hx16 : s_hex (s_sg B (a + c)) = 16 := by
        rcases Nat.lt_or_ge (s_hex (s_sg B (a + c))) 16 with q | q
        · rw [if_pos q] at c_62; exact absurd c_62 (z_m1n (by omega))
        · omega
      have ho : s_hok B a = true := by unfold s_hok; rw [hs, decide_eq_true (show a < a + c by omega), decide_eq_true hx16]; rfl
      rw [ho, hs]
      refine q_lload_n (pc' := 70) dX11_readBits_69 rfl rfl ?_
      exact q_lret dX11_readBits_70 rfl ⟨_, rfl, _, rfl, t1, fun _ => by rw [Nat.add_sub_cancel_left]⟩
    · have hx16 : ¬ s_hex (s_sg B (a + c)) = 16 := fun q => c_62 (if_neg (by omega))
      exact bad c m1 t1 hs (by unfold s_hok; rw [hs, decide_eq_false hx16]; simp)
  suffices h : ∀ g c m1, c + g = 16 → a + c ≤ 320 → Kw m m1 (a + c) (-1) → s_find (fun j => decide (s_hex (s_sg B j) = 16)) g (a + c) = s_he B a → q_V (q_g Z) mX11_readBits (d+2) 0 0 4 [some (.ref (q_ad Z 215)), some (.long (s_hv B a c)), none, some (.int (nI c))] [] (q_W Z (m1)) (q_P Z fun r m2 => ∃ x, r = some (.long x) ∧ Kw m m2 (s_he B a) (if s_hok B a = true then -1 else nI (s_he B a)) ∧ (s_hok B a = true → x = s_hv B a (s_he B a - a))) from h 16 0 m rfl hl ((Ka.rf ha).kw hw) rfl
  intro g
  induction g with
  | zero =>
    intro c m1 hc hc2 t1 hs
    have hs : a + c = s_he B a := hs
    refine q_iload_n (pc' := 5) dX11_readBits_4 rfl rfl ?_
    refine q_bipush (pc' := 7) (v := nI 16) dX11_readBits_5 rfl rfl ?_
    refine q_icmp_geN (tgt := 50) (pc' := 10) dX11_readBits_7 (by decide) rfl (by omega) (fun c_7 => ?_) (fun c_7 => ?_)
    · exact stop c m1 (by omega) hc2 t1 hs.symm
    · omega
  | succ g ih =>
    intro c m1 hc hc2 t1 hs
    have hx := s_hex_le (s_sg B (a + c))
    refine q_iload_n (pc' := 5) dX11_readBits_4 rfl rfl ?_
    refine q_bipush (pc' := 7) (v := nI 16) dX11_readBits_5 rfl rfl ?_
    refine q_icmp_geN (tgt := 50) (pc' := 10) dX11_readBits_7 (by decide) rfl (by omega) (fun c_7 => ?_) (fun c_7 => ?_)
    · omega
    refine q_aload_n (pc' := 11) dX11_readBits_10 rfl rfl ?_
    refine h_callV (pc' := 14) (M' := mX11_here) (As := []) dX11_readBits_11 iX11_here lX11_106 rfl rfl rfl rfl (Nat.le_of_ble_eq_true rfl) (Nat.le_of_ble_eq_true rfl) rfl rfl ((k_here (hT.kw t1) t1.2.2.1 hc2).up (Nat.zero_le _)) (fun r m' hq => ?_)
    obtain ⟨rfl, hmm⟩ := hq
    subst m'
    refine h_callS (pc' := 17) (M' := mX11_hexOf) (As := [_]) dX11_readBits_14 iX11_hexOf lX11_141 rfl rfl (Nat.le_of_ble_eq_true rfl) (Nat.le_of_ble_eq_true rfl) rfl rfl ((k_hexOf (d := d) hb2).up (by omega)) (fun r m' hq => ?_)
    obtain ⟨rfl, hmm⟩ := hq
    subst m'
    refine q_iconst (pc' := 18) (v := (-1)) dX11_readBits_17 rfl rfl ?_
    refine q_icmp_eq (tgt := 50) (pc' := 21) dX11_readBits_18 (by decide) rfl (fun c_18 => ?_) (fun c_18 => ?_)
    · have hx16 : s_hex (s_sg B (a + c)) = 16 := by
        rcases Nat.lt_or_ge (s_hex (s_sg B (a + c))) 16 with q | q
        · rw [if_pos q] at c_18; exact absurd c_18 (z_m1n (by omega))
        · omega
      rw [s_find_t (decide_eq_true hx16)] at hs
      exact stop c m1 (by omega) hc2 t1 hs.symm
    · have hx16 : s_hex (s_sg B (a + c)) < 16 := by
        rcases Nat.lt_or_ge (s_hex (s_sg B (a + c))) 16 with q | q
        · exact q
        · exact absurd (if_neg (by omega)) c_18
      rw [s_find_f (decide_eq_false (by omega))] at hs
      have hin := s_hex_in hx16
      refine q_lload_n (pc' := 22) dX11_readBits_21 rfl rfl ?_
      refine q_iconst (pc' := 23) (v := nI 4) dX11_readBits_22 rfl rfl ?_
      refine q_lshl (pc' := 24) dX11_readBits_23 rfl rfl ?_
      refine q_aload_n (pc' := 25) dX11_readBits_24 rfl rfl ?_
      refine h_callV (pc' := 28) (M' := mX11_here) (As := []) dX11_readBits_25 iX11_here lX11_106 rfl rfl rfl rfl (Nat.le_of_ble_eq_true rfl) (Nat.le_of_ble_eq_true rfl) rfl rfl ((k_here (hT.kw t1) t1.2.2.1 hc2).up (Nat.zero_le _)) (fun r m' hq => ?_)
      obtain ⟨rfl, hmm⟩ := hq
      subst m'
      refine h_callS (pc' := 31) (M' := mX11_hexOf) (As := [_]) dX11_readBits_28 iX11_hexOf lX11_141 rfl rfl (Nat.le_of_ble_eq_true rfl) (Nat.le_of_ble_eq_true rfl) rfl rfl ((k_hexOf (d := d) hb2).up (by omega)) (fun r m' hq => ?_)
      obtain ⟨rfl, hmm⟩ := hq
      subst m'
      rw [if_pos hx16]
      refine q_i2l (pc' := 32) dX11_readBits_31 rfl ?_
      refine q_lor (pc' := 33) dX11_readBits_32 rfl ?_
      refine q_lstore_n (pc' := 34) (lv' := [_, _, _, _]) dX11_readBits_33 (by decide) rfl rfl ?_
      refine q_aload_n (pc' := 35) dX11_readBits_34 rfl rfl ?_
      refine q_dup (pc' := 36) dX11_readBits_35 rfl rfl ?_
      refine h_getiE (pc' := 39) dX11_readBits_36 fX11_103 rfl rfl (t1.2.2.1) rfl ?_
      refine q_iconst (pc' := 40) (v := nI 1) dX11_readBits_39 rfl rfl ?_
      refine q_iaddN (pc' := 41) dX11_readBits_40 rfl ?_
      refine h_puti (pc' := 44) dX11_readBits_41 fX11_103 rfl rfl rfl rfl rfl ?_
      refine q_iincN (pc' := 47) (j := 1) (lv' := [_, _, _, _]) dX11_readBits_44 rfl (by decide) rfl rfl ?_
      refine q_goto (pc' := 4) dX11_readBits_47 (by decide) ?_
      exact ih (c + 1) _ (by omega) (by omega) t1.at hs
theorem z_dig10 {x : Int64} {c : Nat} (h : 48 ≤ c) (h2 : c < 1000) : x + (nI c).toInt64 - 48 = x + (nI c - nI 48).toInt64 := by
  rw [pk_sub h, nI_l (by omega), nI_l (by omega), show (48 : Int64) = lN 48 from rfl]
  have e : lN c = lN (c - 48) + lN 48 := by rw [z_ladd]; congr 1; omega
  rw [e, ← Int64.add_assoc, Int64.add_sub_cancel]
/-- the reference's reading of digits: its place, what is wrong, the digits -/
def Kd (m m2 : q_Mm) (a : Nat) (w : Int32) (v : Int64) : Prop := Fr [215] m m2 ∧ Kp 215 [5, 6] m m2 ∧ m2.1 215 5 = nI a ∧ m2.1 215 6 = w ∧ m2.2.1 215 10 = v
theorem Kd.w {m m2 : q_Mm} {a : Nat} {w : Int32} {v : Int64} (h : Kd m m2 a w v) : Kw m m2 a w := ⟨h.1, h.2.1, h.2.2.1, h.2.2.2.1⟩
set_option maxHeartbeats 4000000 in
set_option maxRecDepth 20000 in
theorem k_readDigits {Z : q_Z} {m : q_Mm} {d : Nat} {B : List Nat} {a : Nat} {v : Int64} (hT : MT m B) (ha : m.1 215 5 = nI a) (hl : a ≤ 320) (hw : m.1 215 6 = -1) (hv : m.2.1 215 10 = v) : q_V (q_g Z) mX11_readDigits (d+1) 0 0 0 [some (.ref (q_ad Z 215)), none] [] (q_W Z m) (q_P Z fun r m2 => r = some (.int (nI (s_de B 9 a - a))) ∧ Kd m m2 (s_de B 9 a) (if s_dok B 9 a = true then -1 else nI (s_de B 9 a)) (s_dv B a v (s_de B 9 a - a))) := by
  have hb := hT.2.1
  have hb2 := hT.2.2.2
  refine q_iconst (pc' := 1) (v := nI 0) dX11_readDigits_0 rfl rfl ?_
  refine q_istore_n (pc' := 2) (lv' := [_, _]) dX11_readDigits_1 (by decide) rfl rfl ?_
  have bad : ∀ c m1, Kd m m1 (a + c) (-1) (s_dv B a v c) → s_de B 9 a = a + c → s_dok B 9 a = false → q_V (q_g Z) mX11_readDigits (d+1) 0 0 70 [some (.ref (q_ad Z 215)), some (.int (nI c))] [] (q_W Z (m1)) (q_P Z fun r m2 => r = some (.int (nI (s_de B 9 a - a))) ∧ Kd m m2 (s_de B 9 a) (if s_dok B 9 a = true then -1 else nI (s_de B 9 a)) (s_dv B a v (s_de B 9 a - a))) := by
    intro c m1 t1 hs ho
    refine q_aload_n (pc' := 71) dX11_readDigits_70 rfl rfl ?_
    refine h_callV (pc' := 74) (M' := mX11_bad) (As := []) dX11_readDigits_71 iX11_bad lX11_120 rfl rfl rfl rfl (Nat.le_of_ble_eq_true rfl) (Nat.le_of_ble_eq_true rfl) rfl rfl ((k_bad t1.2.2.1 rfl).up (Nat.zero_le _)) (fun r m' hq => ?_)
    obtain ⟨rfl, hmm⟩ := hq
    subst m'
    rw [t1.2.2.2.1, if_pos rfl, ho, hs, Nat.add_sub_cancel_left, if_neg (by decide)]
    refine q_iload_n (pc' := 75) dX11_readDigits_74 rfl rfl ?_
    exact q_iret dX11_readDigits_75 rfl rfl ⟨_, rfl, rfl, t1.1.I (by decide), kp_I t1.2.1 (by decide), t1.2.2.1, rfl, t1.2.2.2.2⟩
  have stop : ∀ c m1, a + c ≤ 320 → c ≤ 9 → Kd m m1 (a + c) (-1) (s_dv B a v c) → s_de B 9 a = a + c → q_V (q_g Z) mX11_readDigits (d+1) 0 0 56 [some (.ref (q_ad Z 215)), some (.int (nI c))] [] (q_W Z (m1)) (q_P Z fun r m2 => r = some (.int (nI (s_de B 9 a - a))) ∧ Kd m m2 (s_de B 9 a) (if s_dok B 9 a = true then -1 else nI (s_de B 9 a)) (s_dv B a v (s_de B 9 a - a))) := by
    intro c m1 hc2 hc t1 hs
    refine q_iload_n (pc' := 57) dX11_readDigits_56 rfl rfl ?_
    refine q_if_eqN (tgt := 70) (pc' := 60) dX11_readDigits_57 (by decide) rfl (by omega) (fun c_57 => ?_) (fun c_57 => ?_)
    · exact bad c m1 t1 hs (by unfold s_dok; rw [hs, decide_eq_false (by omega)]; rfl)
    refine q_aload_n (pc' := 61) dX11_readDigits_60 rfl rfl ?_
    refine h_callV (pc' := 64) (M' := mX11_here) (As := []) dX11_readDigits_61 iX11_here lX11_106 rfl rfl rfl rfl (Nat.le_of_ble_eq_true rfl) (Nat.le_of_ble_eq_true rfl) rfl rfl ((k_here (hT.kw t1.w) t1.2.2.1 hc2).up (Nat.zero_le _)) (fun r m' hq => ?_)
    obtain ⟨rfl, hmm⟩ := hq
    subst m'
    refine h_callS (pc' := 67) (M' := mX11_isDigit) (As := [_]) dX11_readDigits_64 iX11_isDigit lX11_113 rfl rfl (Nat.le_of_ble_eq_true rfl) (Nat.le_of_ble_eq_true rfl) rfl rfl ((k_dig hb2 (a + c)).up (Nat.zero_le _)) (fun r m' hq => ?_)
    obtain ⟨rfl, hmm⟩ := hq
    subst m'
    refine q_if_eqB (tgt := 74) (pc' := 70) dX11_readDigits_67 (by decide) rfl (fun c_67 => ?_) (fun c_67 => ?_)
    · have ho : s_dok B 9 a = true := by unfold s_dok; rw [hs, c_67, decide_eq_true (by omega)]; rfl
      rw [ho, hs, Nat.add_sub_cancel_left, if_pos rfl]
      refine q_iload_n (pc' := 75) dX11_readDigits_74 rfl rfl ?_
      exact q_iret dX11_readDigits_75 rfl rfl ⟨_, rfl, rfl, t1⟩
    · exact bad c m1 t1 hs (by unfold s_dok; rw [hs, c_67]; simp)
  suffices h : ∀ g c m1, c + g = 9 → a + c ≤ 320 → Kd m m1 (a + c) (-1) (s_dv B a v c) → s_find (fun j => !s_dig (s_sg B j)) g (a + c) = s_de B 9 a → q_V (q_g Z) mX11_readDigits (d+1) 0 0 2 [some (.ref (q_ad Z 215)), some (.int (nI c))] [] (q_W Z (m1)) (q_P Z fun r m2 => r = some (.int (nI (s_de B 9 a - a))) ∧ Kd m m2 (s_de B 9 a) (if s_dok B 9 a = true then -1 else nI (s_de B 9 a)) (s_dv B a v (s_de B 9 a - a))) from h 9 0 m rfl hl ⟨Fr.rf, Kp.rf, ha, hw, hv⟩ rfl
  intro g
  induction g with
  | zero =>
    intro c m1 hc hc2 t1 hs
    have hs : a + c = s_de B 9 a := hs
    refine q_iload_n (pc' := 3) dX11_readDigits_2 rfl rfl ?_
    refine q_bipush (pc' := 5) (v := nI 9) dX11_readDigits_3 rfl rfl ?_
    refine q_icmp_geN (tgt := 56) (pc' := 8) dX11_readDigits_5 (by decide) rfl (by omega) (fun c_5 => ?_) (fun c_5 => ?_)
    · exact stop c m1 hc2 (by omega) t1 hs.symm
    · omega
  | succ g ih =>
    intro c m1 hc hc2 t1 hs
    refine q_iload_n (pc' := 3) dX11_readDigits_2 rfl rfl ?_
    refine q_bipush (pc' := 5) (v := nI 9) dX11_readDigits_3 rfl rfl ?_
    refine q_icmp_geN (tgt := 56) (pc' := 8) dX11_readDigits_5 (by decide) rfl (by omega) (fun c_5 => ?_) (fun c_5 => ?_)
    · omega
    refine q_aload_n (pc' := 9) dX11_readDigits_8 rfl rfl ?_
    refine h_callV (pc' := 12) (M' := mX11_here) (As := []) dX11_readDigits_9 iX11_here lX11_106 rfl rfl rfl rfl (Nat.le_of_ble_eq_true rfl) (Nat.le_of_ble_eq_true rfl) rfl rfl ((k_here (hT.kw t1.w) t1.2.2.1 hc2).up (Nat.zero_le _)) (fun r m' hq => ?_)
    obtain ⟨rfl, hmm⟩ := hq
    subst m'
    refine h_callS (pc' := 15) (M' := mX11_isDigit) (As := [_]) dX11_readDigits_12 iX11_isDigit lX11_113 rfl rfl (Nat.le_of_ble_eq_true rfl) (Nat.le_of_ble_eq_true rfl) rfl rfl ((k_dig hb2 (a + c)).up (Nat.zero_le _)) (fun r m' hq => ?_)
    obtain ⟨rfl, hmm⟩ := hq
    subst m'
    refine q_if_eqB (tgt := 56) (pc' := 18) dX11_readDigits_15 (by decide) rfl (fun c_15 => ?_) (fun c_15 => ?_)
    · rw [s_find_t (by rw [c_15]; rfl)] at hs
      exact stop c m1 hc2 (by omega) t1 hs.symm
    · rw [s_find_f (by rw [c_15]; rfl)] at hs
      have hin := s_dig_in c_15
      have hd1 := c_15
      unfold s_dig at hd1
      have hd1 := of_decide_eq_true hd1
      refine q_aload_n (pc' := 19) dX11_readDigits_18 rfl rfl ?_
      refine q_ldc2 (pc' := 22) dX11_readDigits_19 kX11_90 rfl ?_
      refine q_aload_n (pc' := 23) dX11_readDigits_22 rfl rfl ?_
      refine h_getjE (pc' := 26) dX11_readDigits_23 fX11_144 rfl rfl (t1.2.2.2.2) rfl ?_
      refine q_lmul (pc' := 27) dX11_readDigits_26 rfl ?_
      refine q_aload_n (pc' := 28) dX11_readDigits_27 rfl rfl ?_
      refine h_callV (pc' := 31) (M' := mX11_here) (As := []) dX11_readDigits_28 iX11_here lX11_106 rfl rfl rfl rfl (Nat.le_of_ble_eq_true rfl) (Nat.le_of_ble_eq_true rfl) rfl rfl ((k_here (hT.kw t1.w) t1.2.2.1 hc2).up (Nat.zero_le _)) (fun r m' hq => ?_)
      obtain ⟨rfl, hmm⟩ := hq
      subst m'
      rw [show s_hr B (a + c) = nI (s_sg B (a + c)) from if_pos hin]
      refine q_i2l (pc' := 32) dX11_readDigits_31 rfl ?_
      refine q_ladd (pc' := 33) dX11_readDigits_32 rfl ?_
      refine q_ldc2 (pc' := 36) dX11_readDigits_33 kX11_148 rfl ?_
      refine q_lsub (pc' := 37) dX11_readDigits_36 rfl ?_
      rw [z_dig10 hd1.1 (by omega)]
      refine h_putj (pc' := 40) dX11_readDigits_37 fX11_144 rfl rfl rfl rfl rfl ?_
      refine q_aload_n (pc' := 41) dX11_readDigits_40 rfl rfl ?_
      refine q_dup (pc' := 42) dX11_readDigits_41 rfl rfl ?_
      refine h_getiE (pc' := 45) dX11_readDigits_42 fX11_103 rfl rfl (t1.2.2.1) rfl ?_
      refine q_iconst (pc' := 46) (v := nI 1) dX11_readDigits_45 rfl rfl ?_
      refine q_iaddN (pc' := 47) dX11_readDigits_46 rfl ?_
      refine h_puti (pc' := 50) dX11_readDigits_47 fX11_103 rfl rfl rfl rfl rfl ?_
      refine q_iincN (pc' := 53) (j := 1) (lv' := [_, _]) dX11_readDigits_50 rfl (by decide) rfl rfl ?_
      refine q_goto (pc' := 2) dX11_readDigits_53 (by decide) ?_
      exact ih (c + 1) _ (by omega) (by omega) ⟨(t1.1.J (by decide)).I (by decide), kp_I (kp_J t1.2.1) (by decide), rfl, t1.2.2.2.1, rfl⟩ hs
/-- of sign +, and a number -/
def q_sp (d : FP.Core.Datum) : Prop := match d with
  | .nan => False
  | .inf s => s = false
  | .fin s _ _ => s = false
theorem sp_ratio (f : FP.Core.Fmt) (A B : Nat) (e : Int) : q_sp (FP.Core.roundRatio f false A B e) := by
  unfold FP.Core.roundRatio
  split
  · exact rfl
  · unfold FP.Core.roundAt FP.Core.settle
    split <;> unfold FP.Core.bound <;> split <;> exact rfl
theorem sp_pos {x : UInt64} (h : q_sp (FP.Core.val64 x)) : x.toNat < 2 ^ 63 := by
  cases e : FP.Core.val64 x with
  | nan => rw [e] at h; exact absurd h id
  | inf s =>
    rw [e] at h
    have h : s = false := h
    subst h
    rw [FP.Core.val64_inj (by rw [e]; exact fun z => by cases z) (e.trans w_infv.1.symm)]
    decide
  | fin s c q =>
    rw [e] at h
    have h : s = false := h
    subst h
    have := (dv_of (x := x) ⟨c, q, e, rfl⟩).2.1
    have := of_decide_eq_false this.symm
    omega
theorem sp_tn : ∀ k : Fin 15, (match FP.Core.val64 (s_tn k.1) with | .fin s _ _ => s | _ => true) = false := by decide +kernel
theorem sp_l2d {n : Nat} (hn : n < 2 ^ 63) : q_sp (FP.Core.val64 (FP.l2d (lN n))) := by
  rw [show FP.Core.val64 (FP.l2d (lN n)) = _ from FP.Core.val64_l2d (lN n)]
  show q_sp (FP.Core.roundRatio FP.Core.b64 (decide ((lN n).toInt < 0)) _ 1 0)
  rw [pk_lT hn, decide_eq_false (by omega)]
  exact sp_ratio _ _ _ _
theorem sp_div {x : UInt64} {k : Nat} (hx : q_sp (FP.Core.val64 x)) (hk : k < 15) : q_sp (FP.Core.val64 (FP.ddiv x (s_tn k))) := by
  obtain ⟨t, d, r, e, hd⟩ := q_nz_fin (nz_tn ⟨k, hk⟩)
  have hs := sp_tn ⟨k, hk⟩
  rw [e] at hs
  have hs : t = false := hs
  subst hs
  rw [show FP.Core.val64 (FP.ddiv x (s_tn k)) = _ from FP.Core.val64_ddiv x (s_tn k), e]
  cases h : FP.Core.val64 x with
  | nan => rw [h] at hx; exact absurd hx id
  | inf s =>
    rw [h] at hx
    have hx : s = false := hx
    subst hx
    exact rfl
  | fin s c q =>
    rw [h] at hx
    have hx : s = false := hx
    subst hx
    show q_sp (if d = 0 then (if c = 0 then FP.Core.Datum.nan else .inf (false != false)) else FP.Core.roundRatio FP.Core.b64 (false != false) c d (q - r))
    rw [if_neg hd]
    exact sp_ratio _ _ _ _
theorem dv_div_pos {n k : Nat} (hn : n < 2 ^ 63) (hk : k < 15) : (FP.ddiv (FP.l2d (lN n)) (s_tn k)).toNat < 2 ^ 63 := sp_pos (sp_div (sp_l2d hn) hk)
theorem s_b_pos {x : UInt64} (h : x.toNat < 2 ^ 63) : s_b x = x.toInt64 := by
  unfold s_b
  rw [if_neg (by omega)]
theorem dneg_bits {x : UInt64} : (FP.dneg x).toInt64 = x.toInt64 ^^^ s_minus := by
  apply Int64.toBitVec_inj.mp
  rw [Int64.toBitVec_xor]
  show (x ^^^ 0x8000000000000000).toBitVec = x.toBitVec ^^^ s_minus.toBitVec
  rw [UInt64.toBitVec_xor]
  rfl
theorem nn_neg {x : UInt64} (h : FP.Core.val64 x ≠ .nan) : FP.Core.val64 (FP.dneg x) ≠ .nan := by
  rw [FP.val64_dneg]
  cases e : FP.Core.val64 x with
  | nan => exact absurd e h
  | inf s => exact fun z => by cases z
  | fin s c q => exact fun z => by cases z
theorem s_dN_lt {B : List Nat} {b v : Nat} : ∀ n, (∀ j, j < n → s_dig (s_sg B (b + j)) = true) → s_dN B b v n < (v + 1) * 10 ^ n
  | 0, _ => by show v < (v + 1) * 1; omega
  | n + 1, h => by
    have ih := s_dN_lt (v := v) n (fun j hj => h j (by omega))
    have h1 := h n (by omega)
    unfold s_dig at h1
    have h1 := of_decide_eq_true h1
    rw [Nat.pow_succ, ← Nat.mul_assoc]
    show 10 * s_dN B b v n + (s_sg B (b + n) - 48) < _
    omega
theorem s_dN_18 {B : List Nat} {a b k1 k2 : Nat} (h1 : ∀ j, j < k1 → s_dig (s_sg B (a + j)) = true) (h2 : ∀ j, j < k2 → s_dig (s_sg B (b + j)) = true) (l1 : k1 ≤ 9) (l2 : k2 ≤ 9) : s_dN B b (s_dN B a 0 k1) k2 < 2 ^ 63 := by
  have q1 := s_dN_lt (v := 0) k1 h1
  have q2 := s_dN_lt (v := s_dN B a 0 k1) k2 h2
  have p1 : 10 ^ k1 ≤ 10 ^ 9 := Nat.pow_le_pow_right (by decide) l1
  have p2 : 10 ^ k2 ≤ 10 ^ 9 := Nat.pow_le_pow_right (by decide) l2
  have p3 : (s_dN B a 0 k1 + 1) * 10 ^ k2 ≤ 10 ^ 9 * 10 ^ 9 := Nat.mul_le_mul (by omega) p2
  omega
set_option maxHeartbeats 4000000 in
set_option maxRecDepth 20000 in
theorem k_readDecimal {Z : q_Z} {m : q_Mm} {d : Nat} {B : List Nat} {a : Nat} {mi : Bool} (hM : MD m) (hT : MT m B) (ha : m.1 215 5 = nI a) (hl : a ≤ 320) (hw : m.1 215 6 = -1) : q_V (q_g Z) mX11_readDecimal (d+2) 0 0 0 [some (.ref (q_ad Z 215)), some (.int (q_b mi)), none, none, none] [] (q_W Z m) (q_P Z fun r m2 => ∃ x, r = some (.long x) ∧ Kw m m2 (s_nAt B a) (if s_nOk B a = true then -1 else nI (s_nAt B a)) ∧ (s_nOk B a = true → x = s_sgn mi (s_nV B a))) := by
  have hb := hT.2.1
  have hb2 := hT.2.2.2
  have hde := s_de_le (B := B) (k := 9) hl hb
  have hge := s_find_ge (fun j => !s_dig (s_sg B j)) 9 a
  have hle := s_find_le (fun j => !s_dig (s_sg B j)) 9 a
  have fin : ∀ (m1 : q_Mm) (bh : Nat) (v : Int64), Kd m m1 (s_nAt B a) (if s_nOk B a = true then -1 else nI (s_nAt B a)) v → bh ≤ 9 → (s_nOk B a = true → (∃ n, n < 2 ^ 63 ∧ v = lN n) ∧ s_nV B a = s_b (FP.ddiv (FP.l2d v) (s_tn bh))) → q_V (q_g Z) mX11_readDecimal (d+2) 0 0 44 [some (.ref (q_ad Z 215)), some (.int (q_b mi)), some (.int (nI bh)), none, none] [] (q_W Z (m1)) (q_P Z fun r m2 => ∃ x, r = some (.long x) ∧ Kw m m2 (s_nAt B a) (if s_nOk B a = true then -1 else nI (s_nAt B a)) ∧ (s_nOk B a = true → x = s_sgn mi (s_nV B a))) := by
    intro m1 bh v t1 hbh hv
    have nn := nn_div (nn_l2d v) (nz_tn ⟨bh, by omega⟩)
    have nn2 := nn_neg nn
    refine q_aload_n (pc' := 45) dX11_readDecimal_44 rfl rfl ?_
    refine h_getjE (pc' := 48) dX11_readDecimal_45 fX11_144 rfl rfl (t1.2.2.2.2) rfl ?_
    refine q_l2d (pc' := 49) dX11_readDecimal_48 rfl ?_
    refine q_aload_n (pc' := 50) dX11_readDecimal_49 rfl rfl ?_
    refine h_getr (pc' := 53) dX11_readDecimal_50 fX11_9 rfl rfl rfl ?_
    refine q_iload_n (pc' := 54) dX11_readDecimal_53 rfl rfl ?_
    refine h_daldE (pc' := 55) dX11_readDecimal_54 rfl (rfl) (by omega) (by decide) (((hM.fr t1.1 (by decide) (by decide)) bh (by omega)).1) rfl ?_
    refine q_ddiv (pc' := 56) dX11_readDecimal_55 (dv_n64 nn) rfl ?_
    refine q_dstore_n (pc' := 57) (lv' := [_, _, _, _, _]) dX11_readDecimal_56 (by decide) rfl rfl ?_
    refine q_iload_n (pc' := 58) dX11_readDecimal_57 rfl rfl ?_
    refine q_if_eqB (tgt := 66) (pc' := 61) dX11_readDecimal_58 (by decide) rfl (fun c_58 => ?_) (fun c_58 => ?_)
    · refine q_dload_n (pc' := 67) dX11_readDecimal_66 rfl rfl ?_
      refine h_callS (pc' := 70) (M' := mJxe99ae_doubleToLongBits_ccdee) (As := [_]) dX11_readDecimal_67 iJxe99ae_doubleToLongBits_ccdee lX11_153 rfl rfl (Nat.le_of_ble_eq_true rfl) (Nat.le_of_ble_eq_true rfl) rfl rfl ((k_d2l (d := d) nn).up (by omega)) (fun r m' hq => ?_)
      obtain ⟨rfl, hmm⟩ := hq
      subst m'
      refine q_lret dX11_readDecimal_70 rfl ⟨_, rfl, _, rfl, t1.w, fun z => ?_⟩
      obtain ⟨⟨n, hn, hvn⟩, e⟩ := hv z
      rw [show s_sgn mi (s_nV B a) = s_nV B a from if_neg (by rw [c_58]; decide), e, hvn, s_b_pos (dv_div_pos hn (by omega))]
    · refine q_dload_n (pc' := 62) dX11_readDecimal_61 rfl rfl ?_
      refine q_dneg (pc' := 63) dX11_readDecimal_62 rfl ?_
      refine q_goto (pc' := 67) dX11_readDecimal_63 (by decide) ?_
      refine h_callS (pc' := 70) (M' := mJxe99ae_doubleToLongBits_ccdee) (As := [_]) dX11_readDecimal_67 iJxe99ae_doubleToLongBits_ccdee lX11_153 rfl rfl (Nat.le_of_ble_eq_true rfl) (Nat.le_of_ble_eq_true rfl) rfl rfl ((k_d2l (d := d) nn2).up (by omega)) (fun r m' hq => ?_)
      obtain ⟨rfl, hmm⟩ := hq
      subst m'
      refine q_lret dX11_readDecimal_70 rfl ⟨_, rfl, _, rfl, t1.w, fun z => ?_⟩
      obtain ⟨⟨n, hn, hvn⟩, e⟩ := hv z
      rw [show s_sgn mi (s_nV B a) = s_nV B a ^^^ s_minus from if_pos c_58, e, hvn, s_b_pos (dv_div_pos hn (by omega)), dneg_bits]
  refine q_aload_n (pc' := 1) dX11_readDecimal_0 rfl rfl ?_
  refine q_lconst (pc' := 2) (v := 0) dX11_readDecimal_1 rfl rfl ?_
  refine h_putj (pc' := 5) dX11_readDecimal_2 fX11_144 rfl rfl rfl rfl rfl ?_
  refine q_aload_n (pc' := 6) dX11_readDecimal_5 rfl rfl ?_
  refine h_callV (pc' := 9) (M' := mX11_readDigits) (As := []) dX11_readDecimal_6 iX11_readDigits lX11_150 rfl rfl rfl rfl (Nat.le_of_ble_eq_true rfl) (Nat.le_of_ble_eq_true rfl) rfl rfl ((k_readDigits (d := d) (v := 0) (hT.fr ((Fr.rf (S := [215])).J (by decide)) rfl (by decide)) ha hl hw rfl).up (by omega)) (fun r m' hq => ?_)
  obtain ⟨rfl, t1⟩ := hq
  have t1 : Kd m m' (s_de B 9 a) (if s_dok B 9 a = true then -1 else nI (s_de B 9 a)) (s_dv B a 0 (s_de B 9 a - a)) := ⟨(Fr.rf.J (by decide)).trans t1.1, t1.2.1, t1.2.2⟩
  have hdig := s_de_dig (B := B) (k := 9) (a := a)
  have hk1 : s_de B 9 a - a ≤ 9 := by unfold s_de; omega
  have hv1 := s_dv_N hb2 (v := 0) (s_de B 9 a - a) hdig
  have hT1 := hT.kw t1.w
  refine q_pop (pc' := 10) dX11_readDecimal_9 rfl rfl ?_
  refine q_iconst (pc' := 11) (v := nI 0) dX11_readDecimal_10 rfl rfl ?_
  refine q_istore_n (pc' := 12) (lv' := [_, _, _, _, _]) dX11_readDecimal_11 (by decide) rfl rfl ?_
  refine q_aload_n (pc' := 13) dX11_readDecimal_12 rfl rfl ?_
  refine h_getiE (pc' := 16) dX11_readDecimal_13 fX11_110 rfl rfl (t1.2.2.2.1) rfl ?_
  refine q_iconst (pc' := 17) (v := (-1)) dX11_readDecimal_16 rfl rfl ?_
  refine q_icmp_ne (tgt := 44) (pc' := 20) dX11_readDecimal_17 (by decide) rfl (fun c_17 => ?_) (fun c_17 => ?_)
  · have ho : s_dok B 9 a = false := by
      cases hq : s_dok B 9 a with
      | false => rfl
      | true => rw [if_pos hq] at c_17; exact absurd rfl c_17
    have hno : s_nOk B a = false := by unfold s_nOk; rw [ho]; rfl
    have hat : s_nAt B a = s_de B 9 a := if_neg (fun z => by rw [ho] at z; exact absurd z.1 (by decide))
    refine fin m' 0 _ (by rw [hat, hno, if_neg (by decide)]; rw [ho, if_neg (by decide)] at t1; exact t1) (by decide) (fun z => by rw [hno] at z; cases z)
  have ho : s_dok B 9 a = true := by
    cases hq : s_dok B 9 a with
    | true => rfl
    | false => rw [if_neg (by rw [hq]; decide)] at c_17; exact absurd c_17 (z_m1n (by omega))
  rw [if_pos ho] at t1
  obtain ⟨m1, hm1⟩ : ∃ z, z = m' := ⟨_, rfl⟩
  subst hm1
  refine q_aload_n (pc' := 21) dX11_readDecimal_20 rfl rfl ?_
  refine h_callV (pc' := 24) (M' := mX11_here) (As := []) dX11_readDecimal_21 iX11_here lX11_106 rfl rfl rfl rfl (Nat.le_of_ble_eq_true rfl) (Nat.le_of_ble_eq_true rfl) rfl rfl ((k_here (d := d) hT1 t1.2.2.1 hde).up (by omega)) (fun r m' hq => ?_)
  obtain ⟨rfl, hmm⟩ := hq
  subst m'
  refine q_bipush (pc' := 26) (v := nI 46) dX11_readDecimal_24 rfl rfl ?_
  refine q_icmp_ne (tgt := 44) (pc' := 29) dX11_readDecimal_26 (by decide) rfl (fun c_26 => ?_) (fun c_26 => ?_)
  · have h46 : ¬ s_sg B (s_de B 9 a) = 46 := fun z => c_26 ((s_hr_eq hb2 (by decide) (by decide)).mpr z)
    have hat : s_nAt B a = s_de B 9 a := if_neg (fun z => h46 z.2)
    have hok : s_nOk B a = true := by unfold s_nOk; rw [ho, decide_eq_false h46]; rfl
    refine fin m1 0 _ (by rw [hat, hok, if_pos rfl]; exact t1) (by decide) (fun _ => ⟨⟨_, s_dN_18 (k2 := 0) (b := a) hdig (fun j hj => absurd hj (by omega)) hk1 (by decide), hv1⟩, if_neg h46⟩)
  have h46 := (s_hr_eq hb2 (by decide) (by decide)).mp c_26
  have hin := s_sg_in (B := B) (a := s_de B 9 a) (by rw [h46]; decide)
  have hat : s_nAt B a = s_de B 9 (s_de B 9 a + 1) := if_pos ⟨ho, h46⟩
  have hok : s_nOk B a = s_dok B 9 (s_de B 9 a + 1) := by unfold s_nOk; rw [ho, decide_eq_true h46]; simp
  have hdig2 := s_de_dig (B := B) (k := 9) (a := s_de B 9 a + 1)
  have hle2 := s_find_le (fun j => !s_dig (s_sg B j)) 9 (s_de B 9 a + 1)
  have hk2 : s_de B 9 (s_de B 9 a + 1) - (s_de B 9 a + 1) ≤ 9 := by unfold s_de at *; omega
  refine q_aload_n (pc' := 30) dX11_readDecimal_29 rfl rfl ?_
  refine q_dup (pc' := 31) dX11_readDecimal_30 rfl rfl ?_
  refine h_getiE (pc' := 34) dX11_readDecimal_31 fX11_103 rfl rfl (t1.2.2.1) rfl ?_
  refine q_iconst (pc' := 35) (v := nI 1) dX11_readDecimal_34 rfl rfl ?_
  refine q_iaddN (pc' := 36) dX11_readDecimal_35 rfl ?_
  refine h_puti (pc' := 39) dX11_readDecimal_36 fX11_103 rfl rfl rfl rfl rfl ?_
  refine q_aload_n (pc' := 40) dX11_readDecimal_39 rfl rfl ?_
  refine h_callV (pc' := 43) (M' := mX11_readDigits) (As := []) dX11_readDecimal_40 iX11_readDigits lX11_150 rfl rfl rfl rfl (Nat.le_of_ble_eq_true rfl) (Nat.le_of_ble_eq_true rfl) rfl rfl ((k_readDigits (d := d) (v := s_dv B a 0 (s_de B 9 a - a)) (hT1.fr ((Fr.rf (S := [215])).I (by decide)) rfl (by decide)) (a := s_de B 9 a + 1) rfl (by omega) (by exact t1.2.2.2.1) (by exact t1.2.2.2.2)).up (by omega)) (fun r m' hq => ?_)
  obtain ⟨rfl, t3⟩ := hq
  have t3 : Kd m m' (s_nAt B a) (if s_nOk B a = true then -1 else nI (s_nAt B a)) (s_dv B (s_de B 9 a + 1) (s_dv B a 0 (s_de B 9 a - a)) (s_de B 9 (s_de B 9 a + 1) - (s_de B 9 a + 1))) := by
    rw [hat, hok]
    exact ⟨(t1.1.I (by decide)).trans t3.1, (kp_I t1.2.1 (by decide)).trans t3.2.1, t3.2.2⟩
  refine q_istore_n (pc' := 44) (lv' := [_, _, _, _, _]) dX11_readDecimal_43 (by decide) rfl rfl ?_
  refine fin m' _ _ t3 hk2 (fun _ => ⟨⟨_, s_dN_18 hdig hdig2 hk1 hk2, ?_⟩, if_pos h46⟩)
  rw [show (0 : Int64) = lN 0 from rfl, hv1]
  exact s_dv_N hb2 _ hdig2
set_option maxHeartbeats 4000000 in
set_option maxRecDepth 20000 in
theorem k_readOne {Z : q_Z} {m : q_Mm} {d : Nat} {B : List Nat} {a : Nat} (hM : MD m) (hT : MT m B) (ha : m.1 215 5 = nI a) (hl : a ≤ 320) (hw : m.1 215 6 = -1) : q_V (q_g Z) mX11_readOne (d+3) 0 0 0 [some (.ref (q_ad Z 215)), none, none, none] [] (q_W Z m) (q_P Z fun r m2 => ∃ x, r = some (.long x) ∧ Kw m m2 (s_val B a).2.1 (if (s_val B a).1 = true then -1 else nI (s_val B a).2.1) ∧ ((s_val B a).1 = true → x = (s_val B a).2.2)) := by
  have hb := hT.2.1
  have hb2 := hT.2.2.2
  obtain ⟨R, hR⟩ : ∃ R, s_val B a = R := ⟨_, rfl⟩
  have hv := hR.symm
  unfold s_val at hv
  rw [hR]
  have hv1 := s_v1_le hl hb
  refine q_aload_n (pc' := 1) dX11_readOne_0 rfl rfl ?_
  refine h_callV (pc' := 4) (M' := mX11_here) (As := []) dX11_readOne_1 iX11_here lX11_106 rfl rfl rfl rfl (Nat.le_of_ble_eq_true rfl) (Nat.le_of_ble_eq_true rfl) rfl rfl ((k_here hT ha hl).up (Nat.zero_le _)) (fun r m' hq => ?_)
  obtain ⟨rfl, hmm⟩ := hq
  subst m'
  refine q_bipush (pc' := 6) (v := nI 120) dX11_readOne_4 rfl rfl ?_
  refine q_icmp_ne (tgt := 24) (pc' := 9) dX11_readOne_6 (by decide) rfl (fun c_6 => ?_) (fun c_6 => ?_)
  rotate_left
  · have hx := (s_hr_eq hb2 (by decide) (by decide)).mp c_6
    have hin := s_sg_in (B := B) (a := a) (by rw [hx]; decide)
    have e1 : s_v1 B a = a := if_neg (by omega)
    rw [e1, if_neg (by omega), if_pos (by omega)] at hv
    refine q_aload_n (pc' := 10) dX11_readOne_9 rfl rfl ?_
    refine q_dup (pc' := 11) dX11_readOne_10 rfl rfl ?_
    refine h_getiE (pc' := 14) dX11_readOne_11 fX11_103 rfl rfl (ha) rfl ?_
    refine q_iconst (pc' := 15) (v := nI 1) dX11_readOne_14 rfl rfl ?_
    refine q_iaddN (pc' := 16) dX11_readOne_15 rfl ?_
    refine h_puti (pc' := 19) dX11_readOne_16 fX11_103 rfl rfl rfl rfl rfl ?_
    refine q_aload_n (pc' := 20) dX11_readOne_19 rfl rfl ?_
    refine h_callV (pc' := 23) (M' := mX11_readBits) (As := []) dX11_readOne_20 iX11_readBits lX11_159 rfl rfl rfl rfl (Nat.le_of_ble_eq_true rfl) (Nat.le_of_ble_eq_true rfl) rfl rfl ((k_readBits (d := d) (hT.fr ((Fr.rf (S := [215])).I (by decide)) rfl (by decide)) (a := a + 1) rfl (by omega) (by exact hw)).up (by omega)) (fun r m' hq => ?_)
    obtain ⟨x, rfl, t1, hx1⟩ := hq
    subst hv
    exact q_lret dX11_readOne_23 rfl ⟨_, rfl, _, rfl, ⟨(Fr.rf.I (by decide)).trans t1.1, (kp_I Kp.rf (by decide)).trans t1.2.1, t1.2.2⟩, hx1⟩
  have h120 : ¬ s_sg B a = 120 := fun z => c_6 ((s_hr_eq hb2 (by decide) (by decide)).mpr z)
  have main : ∀ m1, Kw m m1 (s_v1 B a) (-1) → q_V (q_g Z) mX11_readOne (d+3) 0 0 57 [some (.ref (q_ad Z 215)), some (.int (q_b (decide (s_sg B a = 45)))), none, none] [] (q_W Z (m1)) (q_P Z fun r m2 => ∃ x, r = some (.long x) ∧ Kw m m2 R.2.1 (if R.1 = true then -1 else nI R.2.1) ∧ (R.1 = true → x = R.2.2)) := by
    intro m1 t1
    generalize hmi : decide (s_sg B a = 45) = mi at hv ⊢
    obtain ⟨b, hab⟩ : ∃ b, s_v1 B a = b := ⟨_, rfl⟩
    rw [hab] at hv hv1 t1
    have hT1 := hT.kw t1
    have n120 : ¬ (s_sg B b = 120 ∧ ¬ s_sg B a = 45) := fun z => by
      have : b = a := by rw [← hab]; exact if_neg z.2
      rw [this] at z
      exact h120 z.1
    have imid : (s_sg B b = 105 ∨ s_sg B b = 110) → q_V (q_g Z) mX11_readOne (d+3) 0 0 75 [some (.ref (q_ad Z 215)), some (.int (q_b mi)), none, none] [] (q_W Z (m1)) (q_P Z fun r m2 => ∃ x, r = some (.long x) ∧ Kw m m2 R.2.1 (if R.1 = true then -1 else nI R.2.1) ∧ (R.1 = true → x = R.2.2)) := by
      intro hx
      have hin := s_sg_in (B := B) (a := b) (fun z => by rw [z] at hx; omega)
      rw [if_pos hx] at hv
      have ifin : ∀ x : Int64, x = (if s_sg B b = 105 then 9218868437227405312 else 9221120237041090560) → x ||| -9223372036854775808 = x ^^^ s_minus → q_V (q_g Z) mX11_readOne (d + 3) 0 0 93 [some (.ref (q_ad Z 215)), some (.int (q_b mi)), none, none] [.long x] (q_W Z m1) (q_P Z fun r m2 => ∃ x, r = some (.long x) ∧ Kw m m2 R.2.1 (if R.1 = true then -1 else nI R.2.1) ∧ (R.1 = true → x = R.2.2)) := by
        intro x hx2 hor
        refine q_lstore_n (pc' := 94) (lv' := [_, _, _, _]) dX11_readOne_93 (by decide) rfl rfl ?_
        refine q_aload_n (pc' := 95) dX11_readOne_94 rfl rfl ?_
        refine q_dup (pc' := 96) dX11_readOne_95 rfl rfl ?_
        refine h_getiE (pc' := 99) dX11_readOne_96 fX11_103 rfl rfl (t1.2.2.1) rfl ?_
        refine q_iconst (pc' := 100) (v := nI 1) dX11_readOne_99 rfl rfl ?_
        refine q_iaddN (pc' := 101) dX11_readOne_100 rfl ?_
        refine h_puti (pc' := 104) dX11_readOne_101 fX11_103 rfl rfl rfl rfl rfl ?_
        refine q_iload_n (pc' := 105) dX11_readOne_104 rfl rfl ?_
        refine q_if_eqB (tgt := 116) (pc' := 108) dX11_readOne_105 (by decide) rfl (fun c_105 => ?_) (fun c_105 => ?_)
        · refine q_lload_n (pc' := 117) dX11_readOne_116 rfl rfl ?_
          refine q_lret dX11_readOne_117 rfl ⟨_, rfl, _, rfl, by rw [hv]; exact t1.at, fun _ => ?_⟩
          rw [hv, ← hx2]
          exact (if_neg (by rw [c_105]; decide)).symm
        · refine q_lload_n (pc' := 109) dX11_readOne_108 rfl rfl ?_
          refine q_ldc2 (pc' := 112) dX11_readOne_109 kX11_167 rfl ?_
          refine q_lor (pc' := 113) dX11_readOne_112 rfl ?_
          refine q_goto (pc' := 117) dX11_readOne_113 (by decide) ?_
          rw [hor]
          refine q_lret dX11_readOne_117 rfl ⟨_, rfl, _, rfl, by rw [hv]; exact t1.at, fun _ => ?_⟩
          rw [hv, ← hx2]
          exact (if_pos c_105).symm
      refine q_aload_n (pc' := 76) dX11_readOne_75 rfl rfl ?_
      refine h_callV (pc' := 79) (M' := mX11_here) (As := []) dX11_readOne_76 iX11_here lX11_106 rfl rfl rfl rfl (Nat.le_of_ble_eq_true rfl) (Nat.le_of_ble_eq_true rfl) rfl rfl ((k_here hT1 t1.2.2.1 hv1).up (Nat.zero_le _)) (fun r m' hq => ?_)
      obtain ⟨rfl, hmm⟩ := hq
      subst m'
      refine q_bipush (pc' := 81) (v := nI 105) dX11_readOne_79 rfl rfl ?_
      refine q_icmp_ne (tgt := 90) (pc' := 84) dX11_readOne_81 (by decide) rfl (fun c_81 => ?_) (fun c_81 => ?_)
      · have h : ¬ s_sg B b = 105 := fun z => c_81 ((s_hr_eq hb2 (by decide) (by decide)).mpr z)
        refine q_ldc2 (pc' := 93) dX11_readOne_90 kX11_165 rfl ?_
        exact ifin _ (by rw [if_neg h]) (by decide)
      · have h := (s_hr_eq hb2 (by decide) (by decide)).mp c_81
        refine q_ldc2 (pc' := 87) dX11_readOne_84 kX11_163 rfl ?_
        refine q_goto (pc' := 93) dX11_readOne_87 (by decide) ?_
        exact ifin _ (by rw [if_pos h]) (by decide)
    refine q_aload_n (pc' := 58) dX11_readOne_57 rfl rfl ?_
    refine h_callV (pc' := 61) (M' := mX11_here) (As := []) dX11_readOne_58 iX11_here lX11_106 rfl rfl rfl rfl (Nat.le_of_ble_eq_true rfl) (Nat.le_of_ble_eq_true rfl) rfl rfl ((k_here hT1 t1.2.2.1 hv1).up (Nat.zero_le _)) (fun r m' hq => ?_)
    obtain ⟨rfl, hmm⟩ := hq
    subst m'
    refine q_bipush (pc' := 63) (v := nI 105) dX11_readOne_61 rfl rfl ?_
    refine q_icmp_eq (tgt := 75) (pc' := 66) dX11_readOne_63 (by decide) rfl (fun c_63 => ?_) (fun c_63 => ?_)
    · have h := (s_hr_eq hb2 (by decide) (by decide)).mp c_63
      exact imid (Or.inl h)
    have h105 : ¬ s_sg B b = 105 := fun z => c_63 ((s_hr_eq hb2 (by decide) (by decide)).mpr z)
    refine q_aload_n (pc' := 67) dX11_readOne_66 rfl rfl ?_
    refine h_callV (pc' := 70) (M' := mX11_here) (As := []) dX11_readOne_67 iX11_here lX11_106 rfl rfl rfl rfl (Nat.le_of_ble_eq_true rfl) (Nat.le_of_ble_eq_true rfl) rfl rfl ((k_here hT1 t1.2.2.1 hv1).up (Nat.zero_le _)) (fun r m' hq => ?_)
    obtain ⟨rfl, hmm⟩ := hq
    subst m'
    refine q_bipush (pc' := 72) (v := nI 110) dX11_readOne_70 rfl rfl ?_
    refine q_icmp_ne (tgt := 118) (pc' := 75) dX11_readOne_72 (by decide) rfl (fun c_72 => ?_) (fun c_72 => ?_)
    rotate_left
    · have h := (s_hr_eq hb2 (by decide) (by decide)).mp c_72
      exact imid (Or.inr h)
    have h110 : ¬ s_sg B b = 110 := fun z => c_72 ((s_hr_eq hb2 (by decide) (by decide)).mpr z)
    rw [if_neg (fun z => by omega), if_neg n120] at hv
    refine q_aload_n (pc' := 119) dX11_readOne_118 rfl rfl ?_
    refine q_iload_n (pc' := 120) dX11_readOne_119 rfl rfl ?_
    refine h_callV (pc' := 123) (M' := mX11_readDecimal) (As := [_]) dX11_readOne_120 iX11_readDecimal lX11_169 rfl rfl rfl rfl (Nat.le_of_ble_eq_true rfl) (Nat.le_of_ble_eq_true rfl) rfl rfl ((k_readDecimal (d := d) (mi := mi) (hM.fr t1.1 (by decide) (by decide)) hT1 t1.2.2.1 hv1 t1.2.2.2).up (by omega)) (fun r m' hq => ?_)
    obtain ⟨x, rfl, t2, hx2⟩ := hq
    subst hv
    exact q_lret dX11_readOne_123 rfl ⟨_, rfl, _, rfl, t1.tr t2, hx2⟩
  refine q_aload_n (pc' := 25) dX11_readOne_24 rfl rfl ?_
  refine h_callV (pc' := 28) (M' := mX11_here) (As := []) dX11_readOne_25 iX11_here lX11_106 rfl rfl rfl rfl (Nat.le_of_ble_eq_true rfl) (Nat.le_of_ble_eq_true rfl) rfl rfl ((k_here hT ha hl).up (Nat.zero_le _)) (fun r m' hq => ?_)
  obtain ⟨rfl, hmm⟩ := hq
  subst m'
  refine q_bipush (pc' := 30) (v := nI 45) dX11_readOne_28 rfl rfl ?_
  refine q_icmp_ne (tgt := 37) (pc' := 33) dX11_readOne_30 (by decide) rfl (fun c_30 => ?_) (fun c_30 => ?_)
  · have h45 : ¬ s_sg B a = 45 := fun z => c_30 ((s_hr_eq hb2 (by decide) (by decide)).mpr z)
    have e0 : nI 0 = q_b (decide (s_sg B a = 45)) := by rw [decide_eq_false h45]; rfl
    refine q_iconst (pc' := 38) (v := nI 0) dX11_readOne_37 rfl rfl ?_
    rw [e0]
    refine q_istore_n (pc' := 39) (lv' := [_, _, _, _]) dX11_readOne_38 (by decide) rfl rfl ?_
    refine q_aload_n (pc' := 40) dX11_readOne_39 rfl rfl ?_
    refine q_dup (pc' := 41) dX11_readOne_40 rfl rfl ?_
    refine h_getiE (pc' := 44) dX11_readOne_41 fX11_103 rfl rfl (ha) rfl ?_
    refine q_iload_n (pc' := 45) dX11_readOne_44 rfl rfl ?_
    refine q_if_eqB (tgt := 52) (pc' := 48) dX11_readOne_45 (by decide) rfl (fun c_45 => ?_) (fun c_45 => ?_)
    · refine q_iconst (pc' := 53) (v := nI 0) dX11_readOne_52 rfl rfl ?_
      refine q_iaddN (pc' := 54) dX11_readOne_53 rfl ?_
      refine h_puti (pc' := 57) dX11_readOne_54 fX11_103 rfl rfl rfl rfl rfl ?_
      exact main _ (by rw [show s_v1 B a = a from if_neg h45]; exact ((Ka.rf ha).kw hw).at)
    · rw [decide_eq_false h45] at c_45; cases c_45
  · have h45 := (s_hr_eq hb2 (by decide) (by decide)).mp c_30
    have e0 : nI 1 = q_b (decide (s_sg B a = 45)) := by rw [decide_eq_true h45]; rfl
    refine q_iconst (pc' := 34) (v := nI 1) dX11_readOne_33 rfl rfl ?_
    refine q_goto (pc' := 38) dX11_readOne_34 (by decide) ?_
    rw [e0]
    refine q_istore_n (pc' := 39) (lv' := [_, _, _, _]) dX11_readOne_38 (by decide) rfl rfl ?_
    refine q_aload_n (pc' := 40) dX11_readOne_39 rfl rfl ?_
    refine q_dup (pc' := 41) dX11_readOne_40 rfl rfl ?_
    refine h_getiE (pc' := 44) dX11_readOne_41 fX11_103 rfl rfl (ha) rfl ?_
    refine q_iload_n (pc' := 45) dX11_readOne_44 rfl rfl ?_
    refine q_if_eqB (tgt := 52) (pc' := 48) dX11_readOne_45 (by decide) rfl (fun c_45 => ?_) (fun c_45 => ?_)
    · rw [decide_eq_true h45] at c_45; cases c_45
    · refine q_iconst (pc' := 49) (v := nI 1) dX11_readOne_48 rfl rfl ?_
      refine q_goto (pc' := 53) dX11_readOne_49 (by decide) ?_
      refine q_iaddN (pc' := 54) dX11_readOne_53 rfl ?_
      refine h_puti (pc' := 57) dX11_readOne_54 fX11_103 rfl rfl rfl rfl rfl ?_
      exact main _ (by rw [show s_v1 B a = a + 1 from if_pos h45]; exact ((Ka.rf ha).kw hw).at)
/-- a sign with which a VALUE may begin -/
def s_beg (c : Nat) : Bool := decide (c = 120 ∨ c = 45 ∨ c = 105 ∨ c = 110) || s_dig c
theorem s_val_n {B : List Nat} {a : Nat} (h : s_beg (s_sg B a) = false) : (s_val B a).1 = false ∧ (s_val B a).2.1 = a := by
  unfold s_beg at h
  rw [Bool.or_eq_false_iff] at h
  have h1 := of_decide_eq_false h.1
  have e1 : s_v1 B a = a := if_neg (by omega)
  have e2 : s_de B 9 a = a := s_find_t (by rw [h.2]; rfl)
  have e3 : s_dok B 9 a = false := by unfold s_dok; rw [e2, decide_eq_false (by omega)]; rfl
  unfold s_val
  rw [e1, if_neg (by omega), if_neg (by omega)]
  refine ⟨by show s_nOk B a = false; unfold s_nOk; rw [e3]; rfl, ?_⟩
  show s_nAt B a = a
  unfold s_nAt
  rw [if_neg (fun z => by rw [e3] at z; exact absurd z.1 (by decide)), e2]
set_option maxHeartbeats 4000000 in
set_option maxRecDepth 20000 in
theorem k_begins {Z : q_Z} {m : q_Mm} {d : Nat} {B : List Nat} {a : Nat} (hb : ∀ x ∈ B, x < 256) : q_V (q_g Z) mX11_begins (d+1) 0 0 0 [some (.int (s_hr B a))] [] (q_W Z m) (q_P Z fun r m2 => r = some (.int (q_b (s_beg (s_sg B a)))) ∧ m2 = m) := by
  unfold s_beg
  have yes : s_sg B a = 120 ∨ s_sg B a = 45 ∨ s_sg B a = 105 ∨ s_sg B a = 110 → q_V (q_g Z) mX11_begins (d+1) 0 0 31 [some (.int (s_hr B a))] [] (q_W Z (m)) (q_P Z fun r m2 => r = some (.int (q_b (s_beg (s_sg B a)))) ∧ m2 = m) := by
    intro h
    unfold s_beg
    refine q_iconst (pc' := 32) (v := nI 1) dX11_begins_31 rfl rfl ?_
    refine q_goto (pc' := 36) dX11_begins_32 (by decide) ?_
    refine q_iret dX11_begins_36 rfl (by first | exact q_nb0 | exact q_nb1 | exact q_nb _) ⟨_, rfl, by rw [decide_eq_true h]; rfl, rfl⟩
  unfold s_beg at yes
  refine q_iload_n (pc' := 1) dX11_begins_0 rfl rfl ?_
  refine q_bipush (pc' := 3) (v := nI 120) dX11_begins_1 rfl rfl ?_
  refine q_icmp_eq (tgt := 31) (pc' := 6) dX11_begins_3 (by decide) rfl (fun c_3 => ?_) (fun c_3 => ?_)
  · exact yes (Or.inl ((s_hr_eq hb (by decide) (by decide)).mp c_3))
  have n1 : ¬ s_sg B a = 120 := fun z => c_3 ((s_hr_eq hb (by decide) (by decide)).mpr z)
  refine q_iload_n (pc' := 7) dX11_begins_6 rfl rfl ?_
  refine q_bipush (pc' := 9) (v := nI 45) dX11_begins_7 rfl rfl ?_
  refine q_icmp_eq (tgt := 31) (pc' := 12) dX11_begins_9 (by decide) rfl (fun c_9 => ?_) (fun c_9 => ?_)
  · exact yes (Or.inr (Or.inl ((s_hr_eq hb (by decide) (by decide)).mp c_9)))
  have n2 : ¬ s_sg B a = 45 := fun z => c_9 ((s_hr_eq hb (by decide) (by decide)).mpr z)
  refine q_iload_n (pc' := 13) dX11_begins_12 rfl rfl ?_
  refine q_bipush (pc' := 15) (v := nI 105) dX11_begins_13 rfl rfl ?_
  refine q_icmp_eq (tgt := 31) (pc' := 18) dX11_begins_15 (by decide) rfl (fun c_15 => ?_) (fun c_15 => ?_)
  · exact yes (Or.inr (Or.inr (Or.inl ((s_hr_eq hb (by decide) (by decide)).mp c_15))))
  have n3 : ¬ s_sg B a = 105 := fun z => c_15 ((s_hr_eq hb (by decide) (by decide)).mpr z)
  refine q_iload_n (pc' := 19) dX11_begins_18 rfl rfl ?_
  refine q_bipush (pc' := 21) (v := nI 110) dX11_begins_19 rfl rfl ?_
  refine q_icmp_eq (tgt := 31) (pc' := 24) dX11_begins_21 (by decide) rfl (fun c_21 => ?_) (fun c_21 => ?_)
  · exact yes (Or.inr (Or.inr (Or.inr ((s_hr_eq hb (by decide) (by decide)).mp c_21))))
  have n4 : ¬ s_sg B a = 110 := fun z => c_21 ((s_hr_eq hb (by decide) (by decide)).mpr z)
  refine q_iload_n (pc' := 25) dX11_begins_24 rfl rfl ?_
  refine h_callS (pc' := 28) (M' := mX11_isDigit) (As := [_]) dX11_begins_25 iX11_isDigit lX11_113 rfl rfl (Nat.le_of_ble_eq_true rfl) (Nat.le_of_ble_eq_true rfl) rfl rfl (k_dig hb a) (fun r m' hq => ?_)
  obtain ⟨rfl, hmm⟩ := hq
  subst m'
  rw [decide_eq_false (show ¬ (s_sg B a = 120 ∨ s_sg B a = 45 ∨ s_sg B a = 105 ∨ s_sg B a = 110) by omega), Bool.false_or]
  refine q_if_eqB (tgt := 35) (pc' := 31) dX11_begins_28 (by decide) rfl (fun c_28 => ?_) (fun c_28 => ?_)
  · refine q_iconst (pc' := 36) (v := nI 0) dX11_begins_35 rfl rfl ?_
    refine q_iret dX11_begins_36 rfl (by first | exact q_nb0 | exact q_nb1 | exact q_nb _) ⟨_, rfl, by rw [c_28]; rfl, rfl⟩
  · refine q_iconst (pc' := 32) (v := nI 1) dX11_begins_31 rfl rfl ?_
    refine q_goto (pc' := 36) dX11_begins_32 (by decide) ?_
    refine q_iret dX11_begins_36 rfl (by first | exact q_nb0 | exact q_nb1 | exact q_nb _) ⟨_, rfl, by rw [c_28]; rfl, rfl⟩
