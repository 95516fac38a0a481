/-! ===== the reference: bytes and bits of a BLOCK ===== -/
set_option maxHeartbeats 4000000 in
set_option maxRecDepth 20000 in
theorem k_widthOf {Z : q_Z} {m : q_Mm} {d : Nat} {v : Int64} : q_V (q_g Z) mX11_widthOf (d) 0 0 0 [some (.long v), none, none] [] (q_W Z m) (q_P Z fun r m2 => r = some (.int (nI (s_bl v))) ∧ m2 = m) := by
  refine q_iconst (pc' := 1) (v := nI 0) dX11_widthOf_0 rfl rfl ?_
  refine q_istore_n (pc' := 2) (lv' := [_, _, _]) dX11_widthOf_1 (by decide) rfl rfl ?_
  suffices h : ∀ k i, i + k = 64 → s_find (fun k => decide ((v.toUInt64 >>> ((nI k).toInt64.toUInt64 &&& Int64.toUInt64 63)).toInt64 = 0)) k i = s_bl v → q_V (q_g Z) mX11_widthOf (d) 0 0 2 [some (.long v), none, some (.int (nI i))] [] (q_W Z (m)) (q_P Z fun r m2 => r = some (.int (nI (s_bl v))) ∧ m2 = m) from h 64 0 rfl rfl
  intro k
  induction k with
  | zero =>
    intro i hi hs
    refine q_iload_n (pc' := 3) dX11_widthOf_2 rfl rfl ?_
    refine q_bipush (pc' := 5) (v := nI 64) dX11_widthOf_3 rfl rfl ?_
    refine q_icmp_geN (tgt := 22) (pc' := 8) dX11_widthOf_5 (by decide) rfl (by omega) (fun c_5 => ?_) (fun c_5 => ?_)
    · refine q_iload_n (pc' := 23) dX11_widthOf_22 rfl rfl ?_
      refine q_iret dX11_widthOf_23 rfl rfl ⟨_, rfl, by rw [← hs]; rfl, rfl⟩
    · omega
  | succ k ih =>
    intro i hi hs
    unfold s_find at hs
    refine q_iload_n (pc' := 3) dX11_widthOf_2 rfl rfl ?_
    refine q_bipush (pc' := 5) (v := nI 64) dX11_widthOf_3 rfl rfl ?_
    refine q_icmp_geN (tgt := 22) (pc' := 8) dX11_widthOf_5 (by decide) rfl (by omega) (fun c_5 => ?_) (fun c_5 => ?_)
    · omega
    refine q_lload_n (pc' := 9) dX11_widthOf_8 rfl rfl ?_
    refine q_iload_n (pc' := 10) dX11_widthOf_9 rfl rfl ?_
    refine q_lushr (pc' := 11) dX11_widthOf_10 rfl rfl ?_
    refine q_lconst (pc' := 12) (v := 0) dX11_widthOf_11 rfl rfl ?_
    refine q_lcmp (pc' := 13) dX11_widthOf_12 rfl ?_
    refine q_if_eqL (tgt := 22) (pc' := 16) dX11_widthOf_13 (by decide) rfl (fun c_13 => ?_) (fun c_13 => ?_)
    · rw [if_pos (decide_eq_true c_13)] at hs
      refine q_iload_n (pc' := 23) dX11_widthOf_22 rfl rfl ?_
      refine q_iret dX11_widthOf_23 rfl rfl ⟨_, rfl, by rw [← hs], rfl⟩
    rw [if_neg (by simpa using c_13)] at hs
    refine q_iincN (pc' := 19) (j := 1) (lv' := [_, _, _]) dX11_widthOf_16 rfl (by decide) rfl rfl ?_
    refine q_goto (pc' := 2) dX11_widthOf_19 (by decide) ?_
    exact ih (i + 1) (by omega) hs
/-- the reference at a byte, all well so far -/
def Kb (m : q_Mm) (B : List Nat) (a : Nat) : Prop := m.1 215 5 = nI a ∧ m.1 215 13 = nI (s_cN B a) ∧ m.1 215 6 = -1 ∧ a ≤ B.length
theorem s_oc_z {B : List Nat} (a lo hi : Nat) : s_oc B a lo hi = decide ((lo : Int) ≤ s_hz B a ∧ s_hz B a ≤ (hi : Int)) := by
  unfold s_oc s_hz
  split
  · exact decide_eq_decide.mpr (by omega)
  · exact decide_eq_decide.mpr (by omega)
/-! what is wrong already stays so -/
set_option maxHeartbeats 4000000 in
set_option maxRecDepth 20000 in
theorem k_byteW {Z : q_Z} {m : q_Mm} {d : Nat} {x y w : Int32} (hw : m.1 215 6 = w) (hn : ¬ w = -1) : q_V (q_g Z) mX11_byteIn (d) 0 0 0 [some (.ref (q_ad Z 215)), some (.int x), some (.int y), none] [] (q_W Z m) (q_P Z fun r m2 => r = some (.int x) ∧ m2 = m) := by
  refine q_aload_n (pc' := 1) dX11_byteIn_0 rfl rfl ?_
  refine h_getiE (pc' := 4) dX11_byteIn_1 fX11_110 rfl rfl (hw) rfl ?_
  refine q_iconst (pc' := 5) (v := (-1)) dX11_byteIn_4 rfl rfl ?_
  refine q_icmp_eq (tgt := 10) (pc' := 8) dX11_byteIn_5 (by decide) rfl (fun c_5 => ?_) (fun c_5 => ?_)
  · exact absurd c_5 hn
  · refine q_iload_n (pc' := 9) dX11_byteIn_8 rfl rfl ?_
    refine q_iret dX11_byteIn_9 rfl rfl ⟨_, rfl, rfl, rfl⟩
set_option maxHeartbeats 4000000 in
set_option maxRecDepth 20000 in
theorem k_byteIn {Z : q_Z} {m : q_Mm} {d : Nat} {B : List Nat} {a lo hi : Nat} (hT : MT m B) (hK : Kb m B a) (hlo : lo < 1000) (hhi : hi < 1000) : q_V (q_g Z) mX11_byteIn (d+1) 0 0 0 [some (.ref (q_ad Z 215)), some (.int (nI lo)), some (.int (nI hi)), none] [] (q_W Z m) (q_P Z fun r m2 => Fr [215] m m2 ∧ (if s_oc B a lo hi = true then r = some (.int (nI (s_sg B a))) ∧ Kp 215 [5, 13] m m2 ∧ Kb m2 B (a + 1) else r = some (.int (nI lo)) ∧ Kp 215 [6] m m2 ∧ m2.1 215 6 = nI a)) := by
  have hb := hT.2.1
  have hb2 := hT.2.2.2
  obtain ⟨e5, e13, e6, hle⟩ := hK
  have hcn := s_cN_lt B a
  have hc := s_sgb hb2 a
  refine q_aload_n (pc' := 1) dX11_byteIn_0 rfl rfl ?_
  refine h_getiE (pc' := 4) dX11_byteIn_1 fX11_110 rfl rfl (e6) rfl ?_
  refine q_iconst (pc' := 5) (v := (-1)) dX11_byteIn_4 rfl rfl ?_
  refine q_icmp_eq (tgt := 10) (pc' := 8) dX11_byteIn_5 (by decide) rfl (fun c_5 => ?_) (fun c_5 => ?_)
  rotate_left
  · exact absurd rfl c_5
  refine q_aload_n (pc' := 11) dX11_byteIn_10 rfl rfl ?_
  refine h_callV (pc' := 14) (M' := mX11_here) (As := []) dX11_byteIn_11 iX11_here lX11_106 rfl rfl rfl rfl (Nat.le_of_ble_eq_true rfl) (Nat.le_of_ble_eq_true rfl) rfl rfl (k_here hT e5 (by omega)) (fun r m' hq => ?_)
  obtain ⟨rfl, hmm⟩ := hq
  subst m'
  refine q_istore_n (pc' := 15) (lv' := [_, _, _, _]) dX11_byteIn_14 (by decide) rfl rfl ?_
  refine q_iload_n (pc' := 16) dX11_byteIn_15 rfl rfl ?_
  refine q_iload_n (pc' := 17) dX11_byteIn_16 rfl rfl ?_
  refine q_iload_n (pc' := 18) dX11_byteIn_17 rfl rfl ?_
  refine h_callS (pc' := 21) (M' := mX11_in) (As := [_, _, _]) dX11_byteIn_18 iX11_in lX11_99 rfl rfl (Nat.le_of_ble_eq_true rfl) (Nat.le_of_ble_eq_true rfl) rfl rfl (k_in.up (Nat.zero_le _)) (fun r m' hq => ?_)
  obtain ⟨rfl, hmm⟩ := hq
  subst m'
  rw [s_hr_z hb2, z_n (show lo < 2 ^ 31 by omega), z_n (show hi < 2 ^ 31 by omega), ← s_oc_z]
  refine q_if_neB (tgt := 30) (pc' := 24) dX11_byteIn_21 (by decide) rfl (fun c_21 => ?_) (fun c_21 => ?_)
  rotate_left
  · refine q_aload_n (pc' := 25) dX11_byteIn_24 rfl rfl ?_
    refine h_callV (pc' := 28) (M' := mX11_bad) (As := []) dX11_byteIn_25 iX11_bad lX11_120 rfl rfl rfl rfl (Nat.le_of_ble_eq_true rfl) (Nat.le_of_ble_eq_true rfl) rfl rfl ((k_bad e5 e6).up (Nat.zero_le _)) (fun r m' hq => ?_)
    obtain ⟨rfl, hmm⟩ := hq
    subst m'
    rw [if_pos rfl]
    refine q_iload_n (pc' := 29) dX11_byteIn_28 rfl rfl ?_
    refine q_iret dX11_byteIn_29 rfl rfl ⟨_, rfl, ?_⟩
    exact ⟨Fr.rf.I (by decide), by rw [if_neg (by rw [c_21]; decide)]; exact ⟨rfl, kp_I Kp.rf (by decide), rfl⟩⟩
  · obtain ⟨hlt, -, -⟩ := s_oc_lt c_21
    rw [show s_hr B a = nI (s_sg B a) from if_pos hlt]
    refine q_aload_n (pc' := 31) dX11_byteIn_30 rfl rfl ?_
    refine q_bipush (pc' := 33) (v := nI 31) dX11_byteIn_31 rfl rfl ?_
    refine q_aload_n (pc' := 34) dX11_byteIn_33 rfl rfl ?_
    refine h_getiE (pc' := 37) dX11_byteIn_34 fX11_188 rfl rfl (e13) rfl ?_
    refine q_imulN (pc' := 38) dX11_byteIn_37 rfl ?_
    refine q_iload_n (pc' := 39) dX11_byteIn_38 rfl rfl ?_
    refine q_iaddN (pc' := 40) dX11_byteIn_39 rfl ?_
    refine q_sipush (pc' := 43) (v := nI 251) dX11_byteIn_40 rfl rfl ?_
    refine q_iremN (pc' := 44) dX11_byteIn_43 (by omega) rfl ?_
    refine h_puti (pc' := 47) dX11_byteIn_44 fX11_188 rfl rfl rfl rfl rfl ?_
    refine q_aload_n (pc' := 48) dX11_byteIn_47 rfl rfl ?_
    refine q_dup (pc' := 49) dX11_byteIn_48 rfl rfl ?_
    refine h_getiE (pc' := 52) dX11_byteIn_49 fX11_103 rfl rfl (e5) rfl ?_
    refine q_iconst (pc' := 53) (v := nI 1) dX11_byteIn_52 rfl rfl ?_
    refine q_iaddN (pc' := 54) dX11_byteIn_53 rfl ?_
    refine h_puti (pc' := 57) dX11_byteIn_54 fX11_103 rfl rfl rfl rfl rfl ?_
    refine q_iload_n (pc' := 58) dX11_byteIn_57 rfl rfl ?_
    refine q_iret dX11_byteIn_58 rfl rfl ⟨_, rfl, ?_⟩
    refine ⟨(Fr.rf.I (by decide)).I (by decide), ?_⟩
    rw [if_pos c_21]
    exact ⟨rfl, kp_I (kp_I Kp.rf (by decide)) (by decide), rfl, rfl, e6, hlt⟩
/-- after a step: all well at a byte, or wrong at one; the places S and fields J alone have changed -/
def Ko (m m2 : q_Mm) (B : List Nat) (S J : List Nat) (ok : Bool) (a : Nat) : Prop := Fr (215 :: S) m m2 ∧ Kp 215 (5 :: 6 :: 13 :: J) m m2 ∧ if ok = true then Kb m2 B a else m2.1 215 6 = nI a
theorem z_lo0 (x : Int64) : True := trivial
set_option maxHeartbeats 4000000 in
set_option maxRecDepth 20000 in
theorem k_eight {Z : q_Z} {m : q_Mm} {d : Nat} {B : List Nat} {a : Nat} (hT : MT m B) (hK : Kb m B a) : q_V (q_g Z) mX11_eight (d+2) 0 0 0 [some (.ref (q_ad Z 215)), none, none, none] [] (q_W Z m) (q_P Z fun r m2 => (∃ x, r = some (.long x) ∧ (a + 8 ≤ B.length → x = lN (s_ln B a 8))) ∧ Ko m m2 B [] [] (decide (a + 8 ≤ B.length)) (if a + 8 ≤ B.length then a + 8 else B.length)) := by
  have hb := hT.2.1
  have hb2 := hT.2.2.2
  have hle := hK.2.2.2
  refine q_lconst (pc' := 1) (v := 0) dX11_eight_0 rfl rfl ?_
  refine q_lstore_n (pc' := 2) (lv' := [_, _, _, _]) dX11_eight_1 (by decide) rfl rfl ?_
  refine q_iconst (pc' := 3) (v := nI 0) dX11_eight_2 rfl rfl ?_
  refine q_istore_n (pc' := 4) (lv' := [_, _, _, _]) dX11_eight_3 (by decide) rfl rfl ?_
  have wr : ¬ a + 8 ≤ B.length → ∀ g i x m1, i + g = 8 → Fr [215] m m1 → Kp 215 [5, 6, 13] m m1 → m1.1 215 6 = nI B.length → q_V (q_g Z) mX11_eight (d+2) 0 0 4 [some (.ref (q_ad Z 215)), some (.long x), none, some (.int (nI i))] [] (q_W Z (m1)) (q_P Z fun r m2 => (∃ x, r = some (.long x) ∧ (a + 8 ≤ B.length → x = lN (s_ln B a 8))) ∧ Ko m m2 B [] [] (decide (a + 8 ≤ B.length)) (if a + 8 ≤ B.length then a + 8 else B.length)) := by
    intro hn g
    induction g with
    | zero =>
      intro i x m1 hi f1 k1 e6
      refine q_iload_n (pc' := 5) dX11_eight_4 rfl rfl ?_
      refine q_bipush (pc' := 7) (v := nI 8) dX11_eight_5 rfl rfl ?_
      refine q_icmp_geN (tgt := 31) (pc' := 10) dX11_eight_7 (by decide) rfl (by omega) (fun c_7 => ?_) (fun c_7 => ?_)
      · refine q_lload_n (pc' := 32) dX11_eight_31 rfl rfl ?_
        exact q_lret dX11_eight_32 rfl ⟨_, rfl, ⟨_, rfl, fun z => absurd z hn⟩, f1, k1, by rw [decide_eq_false hn, if_neg hn]; exact e6⟩
      · omega
    | succ g ih =>
      intro i x m1 hi f1 k1 e6
      refine q_iload_n (pc' := 5) dX11_eight_4 rfl rfl ?_
      refine q_bipush (pc' := 7) (v := nI 8) dX11_eight_5 rfl rfl ?_
      refine q_icmp_geN (tgt := 31) (pc' := 10) dX11_eight_7 (by decide) rfl (by omega) (fun c_7 => ?_) (fun c_7 => ?_)
      · omega
      refine q_lload_n (pc' := 11) dX11_eight_10 rfl rfl ?_
      refine q_bipush (pc' := 13) (v := nI 8) dX11_eight_11 rfl rfl ?_
      refine q_lshl (pc' := 14) dX11_eight_13 rfl rfl ?_
      refine q_aload_n (pc' := 15) dX11_eight_14 rfl rfl ?_
      refine q_iconst (pc' := 16) (v := nI 0) dX11_eight_15 rfl rfl ?_
      refine q_sipush (pc' := 19) (v := nI 255) dX11_eight_16 rfl rfl ?_
      refine h_callV (pc' := 22) (M' := mX11_byteIn) (As := [_, _]) dX11_eight_19 iX11_byteIn lX11_191 rfl rfl rfl rfl (Nat.le_of_ble_eq_true rfl) (Nat.le_of_ble_eq_true rfl) rfl rfl ((k_byteW e6 (z_m1n (by omega))).up (Nat.zero_le _)) (fun r m' hq => ?_)
      obtain ⟨rfl, hmm⟩ := hq
      subst m'
      refine q_i2l (pc' := 23) dX11_eight_22 rfl ?_
      refine q_lor (pc' := 24) dX11_eight_23 rfl ?_
      refine q_lstore_n (pc' := 25) (lv' := [_, _, _, _]) dX11_eight_24 (by decide) rfl rfl ?_
      refine q_iincN (pc' := 28) (j := 1) (lv' := [_, _, _, _]) dX11_eight_25 rfl (by decide) rfl rfl ?_
      refine q_goto (pc' := 4) dX11_eight_28 (by decide) ?_
      exact ih (i + 1) _ m1 (by omega) f1 k1 e6
  suffices h : ∀ g i m1, i + g = 8 → a + i ≤ B.length → Fr [215] m m1 → Kp 215 [5, 6, 13] m m1 → Kb m1 B (a + i) → q_V (q_g Z) mX11_eight (d+2) 0 0 4 [some (.ref (q_ad Z 215)), some (.long (lN (s_ln B a i))), none, some (.int (nI i))] [] (q_W Z (m1)) (q_P Z fun r m2 => (∃ x, r = some (.long x) ∧ (a + 8 ≤ B.length → x = lN (s_ln B a 8))) ∧ Ko m m2 B [] [] (decide (a + 8 ≤ B.length)) (if a + 8 ≤ B.length then a + 8 else B.length)) from h 8 0 m rfl hle Fr.rf Kp.rf hK
  have hsn : ∀ i, s_ln B a i < 2 ^ (8 * i) := by
    intro i
    induction i with
    | zero => exact Nat.two_pow_pos _
    | succ k ih =>
      have h2 := s_sgb hb2 (a + k)
      have e : 2 ^ (8 * (k + 1)) = 2 ^ (8 * k) * 2 ^ 8 := by rw [Nat.mul_succ, Nat.pow_add]
      rw [e]
      show s_ln B a k * 2 ^ 8 + s_sg B (a + k) < _
      omega
  intro g
  induction g with
  | zero =>
    intro i m1 hi hl f1 k1 K1
    obtain rfl : i = 8 := by omega
    refine q_iload_n (pc' := 5) dX11_eight_4 rfl rfl ?_
    refine q_bipush (pc' := 7) (v := nI 8) dX11_eight_5 rfl rfl ?_
    refine q_icmp_geN (tgt := 31) (pc' := 10) dX11_eight_7 (by decide) rfl (by omega) (fun c_7 => ?_) (fun c_7 => ?_)
    · refine q_lload_n (pc' := 32) dX11_eight_31 rfl rfl ?_
      exact q_lret dX11_eight_32 rfl ⟨_, rfl, ⟨_, rfl, fun _ => rfl⟩, f1, k1, by rw [decide_eq_true hl, if_pos rfl, if_pos hl]; exact K1⟩
    · omega
  | succ g ih =>
    intro i m1 hi hl f1 k1 K1
    have hT1 := hT.fr f1 (k1 4 (by decide)) (by decide)
    have hc := s_sgb hb2 (a + i)
    have hlt := hsn i
    have hpw : 2 ^ (8 * i) ≤ 2 ^ 56 := Nat.pow_le_pow_right (by decide) (by omega)
    refine q_iload_n (pc' := 5) dX11_eight_4 rfl rfl ?_
    refine q_bipush (pc' := 7) (v := nI 8) dX11_eight_5 rfl rfl ?_
    refine q_icmp_geN (tgt := 31) (pc' := 10) dX11_eight_7 (by decide) rfl (by omega) (fun c_7 => ?_) (fun c_7 => ?_)
    · omega
    refine q_lload_n (pc' := 11) dX11_eight_10 rfl rfl ?_
    refine q_bipush (pc' := 13) (v := nI 8) dX11_eight_11 rfl rfl ?_
    refine q_lshl (pc' := 14) dX11_eight_13 rfl rfl ?_
    refine q_aload_n (pc' := 15) dX11_eight_14 rfl rfl ?_
    refine q_iconst (pc' := 16) (v := nI 0) dX11_eight_15 rfl rfl ?_
    refine q_sipush (pc' := 19) (v := nI 255) dX11_eight_16 rfl rfl ?_
    refine h_callV (pc' := 22) (M' := mX11_byteIn) (As := [_, _]) dX11_eight_19 iX11_byteIn lX11_191 rfl rfl rfl rfl (Nat.le_of_ble_eq_true rfl) (Nat.le_of_ble_eq_true rfl) rfl rfl (k_byteIn hT1 K1 (by decide) (by decide)) (fun r m' hq => ?_)
    obtain ⟨f2, h2⟩ := hq
    by_cases hlen : a + i < B.length
    · have ho : s_oc B (a + i) 0 255 = true := decide_eq_true ⟨hlen, by omega, by omega⟩
      rw [if_pos ho] at h2
      obtain ⟨rfl, k2, K2⟩ := h2
      refine q_i2l (pc' := 23) dX11_eight_22 rfl ?_
      rw [nI_l (by omega)]
      refine q_lor (pc' := 24) dX11_eight_23 rfl ?_
      rw [z_lo (by decide) (by omega) hc]
      refine q_lstore_n (pc' := 25) (lv' := [_, _, _, _]) dX11_eight_24 (by decide) rfl rfl ?_
      refine q_iincN (pc' := 28) (j := 1) (lv' := [_, _, _, _]) dX11_eight_25 rfl (by decide) rfl rfl ?_
      refine q_goto (pc' := 4) dX11_eight_28 (by decide) ?_
      exact ih (i + 1) m' (by omega) (by omega) (f1.trans f2) (k1.trans (k2.mono (by decide))) K2
    · have ho : ¬ s_oc B (a + i) 0 255 = true := fun z => hlen (s_oc_lt z).1
      rw [if_neg ho] at h2
      obtain ⟨rfl, k2, e2⟩ := h2
      have hal : a + i = B.length := by omega
      refine q_i2l (pc' := 23) dX11_eight_22 rfl ?_
      refine q_lor (pc' := 24) dX11_eight_23 rfl ?_
      refine q_lstore_n (pc' := 25) (lv' := [_, _, _, _]) dX11_eight_24 (by decide) rfl rfl ?_
      refine q_iincN (pc' := 28) (j := 1) (lv' := [_, _, _, _]) dX11_eight_25 rfl (by decide) rfl rfl ?_
      refine q_goto (pc' := 4) dX11_eight_28 (by decide) ?_
      exact wr (by omega) g (i + 1) _ m' (by omega) (f1.trans f2) (k1.trans (k2.mono (by decide))) (by rw [← hal]; exact e2)
set_option maxHeartbeats 4000000 in
set_option maxRecDepth 20000 in
theorem k_eightW {Z : q_Z} {m : q_Mm} {d : Nat} {w : Int32} (hw : m.1 215 6 = w) (hn : ¬ w = -1) : q_V (q_g Z) mX11_eight (d+1) 0 0 0 [some (.ref (q_ad Z 215)), none, none, none] [] (q_W Z m) (q_P Z fun r m2 => (∃ x, r = some (.long x)) ∧ m2 = m) := by
  refine q_lconst (pc' := 1) (v := 0) dX11_eight_0 rfl rfl ?_
  refine q_lstore_n (pc' := 2) (lv' := [_, _, _, _]) dX11_eight_1 (by decide) rfl rfl ?_
  refine q_iconst (pc' := 3) (v := nI 0) dX11_eight_2 rfl rfl ?_
  refine q_istore_n (pc' := 4) (lv' := [_, _, _, _]) dX11_eight_3 (by decide) rfl rfl ?_
  suffices h : ∀ g i x, i + g = 8 → q_V (q_g Z) mX11_eight (d+1) 0 0 4 [some (.ref (q_ad Z 215)), some (.long x), none, some (.int (nI i))] [] (q_W Z (m)) (q_P Z fun r m2 => (∃ x, r = some (.long x)) ∧ m2 = m) from h 8 0 _ rfl
  intro g
  induction g with
  | zero =>
    intro i x hi
    refine q_iload_n (pc' := 5) dX11_eight_4 rfl rfl ?_
    refine q_bipush (pc' := 7) (v := nI 8) dX11_eight_5 rfl rfl ?_
    refine q_icmp_geN (tgt := 31) (pc' := 10) dX11_eight_7 (by decide) rfl (by omega) (fun c_7 => ?_) (fun c_7 => ?_)
    · refine q_lload_n (pc' := 32) dX11_eight_31 rfl rfl ?_
      refine q_lret dX11_eight_32 rfl ⟨_, rfl, ⟨_, rfl⟩, rfl⟩
    · omega
  | succ g ih =>
    intro i x hi
    refine q_iload_n (pc' := 5) dX11_eight_4 rfl rfl ?_
    refine q_bipush (pc' := 7) (v := nI 8) dX11_eight_5 rfl rfl ?_
    refine q_icmp_geN (tgt := 31) (pc' := 10) dX11_eight_7 (by decide) rfl (by omega) (fun c_7 => ?_) (fun c_7 => ?_)
    · omega
    refine q_lload_n (pc' := 11) dX11_eight_10 rfl rfl ?_
    refine q_bipush (pc' := 13) (v := nI 8) dX11_eight_11 rfl rfl ?_
    refine q_lshl (pc' := 14) dX11_eight_13 rfl rfl ?_
    refine q_aload_n (pc' := 15) dX11_eight_14 rfl rfl ?_
    refine q_iconst (pc' := 16) (v := nI 0) dX11_eight_15 rfl rfl ?_
    refine q_sipush (pc' := 19) (v := nI 255) dX11_eight_16 rfl rfl ?_
    refine h_callV (pc' := 22) (M' := mX11_byteIn) (As := [_, _]) dX11_eight_19 iX11_byteIn lX11_191 rfl rfl rfl rfl (Nat.le_of_ble_eq_true rfl) (Nat.le_of_ble_eq_true rfl) rfl rfl (k_byteW hw hn) (fun r m' hq => ?_)
    obtain ⟨rfl, hmm⟩ := hq
    subst m'
    refine q_i2l (pc' := 23) dX11_eight_22 rfl ?_
    refine q_lor (pc' := 24) dX11_eight_23 rfl ?_
    refine q_lstore_n (pc' := 25) (lv' := [_, _, _, _]) dX11_eight_24 (by decide) rfl rfl ?_
    refine q_iincN (pc' := 28) (j := 1) (lv' := [_, _, _, _]) dX11_eight_25 rfl (by decide) rfl rfl ?_
    refine q_goto (pc' := 4) dX11_eight_28 (by decide) ?_
    exact ih (i + 1) _ (by omega)
theorem s_pw2 : ∀ h : Fin 17, 4 ≤ h.1 → (if h.1 < 8 then nI (2 ^ h.1 - 1) else nI 255) = nI ((2 ^ h.1 - 1) % 2 ^ 8) := by decide +kernel
theorem z_two {x y : Nat} (hx : x < 256) (hy : y < 256) : nI x <<< (nI 8 &&& 31) ||| nI y = nI (x * 2 ^ 8 + y) := by
  rw [pk_shlN (nI 8 &&& 31) 8 rfl (by omega)]
  apply Int32.toBitVec_inj.mp
  apply BitVec.eq_of_toNat_eq
  rw [Int32.toBitVec_or, BitVec.toNat_or, pk_tn (by omega), pk_tn (by omega), pk_tn (by omega), Nat.mul_comm]
  exact (Nat.two_pow_add_eq_or_of_lt (i := 8) hy x).symm
set_option maxHeartbeats 4000000 in
set_option maxRecDepth 20000 in
theorem k_two {Z : q_Z} {m : q_Mm} {d : Nat} {B : List Nat} {a h : Nat} (hT : MT m B) (hK : Kb m B a) (hh : 4 ≤ h ∧ h ≤ 16) : q_V (q_g Z) mX11_two (d+2) 0 0 0 [some (.ref (q_ad Z 215)), some (.int (nI h)), none, none] [] (q_W Z m) (q_P Z fun r m2 => (∃ x, r = some (.int x) ∧ (s_hok2 B h a = true → x = nI (s_h2 B a))) ∧ Ko m m2 B [] [] (s_hok2 B h a) (s_hat B h a)) := by
  have hb2 := hT.2.2.2
  obtain ⟨p1, p2, p3, p4⟩ := s_pw ⟨h, by omega⟩ hh.1
  have p5 := s_pw2 ⟨h, by omega⟩ hh.1
  have p1 : nI 1 <<< (nI h &&& 31) - nI 1 = nI (2 ^ h - 1) := p1
  have p2 : (2 ^ h - 1) / 2 ^ 8 < 256 := p2
  have p3 : (2 ^ h - 1) % 2 ^ 8 < 256 := p3
  have p4 : 2 ^ h - 1 < 65536 := p4
  have p5 : (if h < 8 then nI (2 ^ h - 1) else nI 255) = nI ((2 ^ h - 1) % 2 ^ 8) := p5
  have hc := s_sgb hb2 a
  have hc1 := s_sgb hb2 (a + 1)
  refine q_iconst (pc' := 1) (v := nI 1) dX11_two_0 rfl rfl ?_
  refine q_iload_n (pc' := 2) dX11_two_1 rfl rfl ?_
  refine q_ishl (pc' := 3) dX11_two_2 rfl ?_
  refine q_iconst (pc' := 4) (v := nI 1) dX11_two_3 rfl rfl ?_
  refine q_isub (pc' := 5) dX11_two_4 rfl ?_
  rw [p1]
  refine q_istore_n (pc' := 6) (lv' := [_, _, _, _]) dX11_two_5 (by decide) rfl rfl ?_
  refine q_aload_n (pc' := 7) dX11_two_6 rfl rfl ?_
  refine q_iconst (pc' := 8) (v := nI 0) dX11_two_7 rfl rfl ?_
  refine q_iload_n (pc' := 9) dX11_two_8 rfl rfl ?_
  refine q_bipush (pc' := 11) (v := nI 8) dX11_two_9 rfl rfl ?_
  refine q_ishr (pc' := 12) dX11_two_11 rfl ?_
  rw [pk_shrN (by omega) (nI 8 &&& 31) 8 rfl]
  refine h_callV (pc' := 15) (M' := mX11_byteIn) (As := [_, _]) dX11_two_12 iX11_byteIn lX11_191 rfl rfl rfl rfl (Nat.le_of_ble_eq_true rfl) (Nat.le_of_ble_eq_true rfl) rfl rfl (k_byteIn hT hK (by decide) (by omega)) (fun r m' hq => ?_)
  obtain ⟨f1, h1⟩ := hq
  have second : ∀ (m1 : q_Mm) (v : Int32) (P : Int32 → Prop), (∀ (r : Option Value) (m2 : q_Mm), (∃ y, r = some (.int y) ∧ P y ∧ (s_hok2 B h a = true → v <<< (nI 8 &&& 31) ||| y = nI (s_h2 B a)) ∧ Ko m m2 B [] [] (s_hok2 B h a) (s_hat B h a)) → True) → True := fun _ _ _ _ => trivial
  by_cases o1 : s_oc B a 0 ((2 ^ h - 1) / 2 ^ 8) = true
  · rw [if_pos o1] at h1
    obtain ⟨rfl, k1, K1⟩ := h1
    have hT1 := hT.fr f1 (k1 4 (by decide)) (by decide)
    have body : q_V (q_g Z) mX11_two (d + 2) 0 0 35 [some (.ref (q_ad Z 215)), some (.int (nI h)), some (.int (nI (2 ^ h - 1))), some (.int (nI (s_sg B a)))] [.int (nI ((2 ^ h - 1) % 2 ^ 8)), .int (nI 0), .ref (q_ad Z 215), .int (nI (s_sg B a) <<< (nI 8 &&& 31))] (q_W Z m') (q_P Z fun r m2 => (∃ x, r = some (.int x) ∧ (s_hok2 B h a = true → x = nI (s_h2 B a))) ∧ Ko m m2 B [] [] (s_hok2 B h a) (s_hat B h a)) := by
      obtain ⟨m1, hm1⟩ : ∃ z, z = m' := ⟨_, rfl⟩
      subst hm1
      refine h_callV (pc' := 38) (M' := mX11_byteIn) (As := [_, _]) dX11_two_35 iX11_byteIn lX11_191 rfl rfl rfl rfl (Nat.le_of_ble_eq_true rfl) (Nat.le_of_ble_eq_true rfl) rfl rfl (k_byteIn hT1 K1 (by decide) (by omega)) (fun r m' hq => ?_)
      obtain ⟨f2, h2⟩ := hq
      have f3 : Fr [215] m m' := f1.trans f2
      by_cases o2 : s_oc B (a + 1) 0 ((2 ^ h - 1) % 2 ^ 8) = true
      · rw [if_pos o2] at h2
        obtain ⟨rfl, k2, K2⟩ := h2
        have ok : s_hok2 B h a = true := by unfold s_hok2; rw [o1, o2]; rfl
        obtain ⟨hat, -⟩ := s_hok2_at ok
        refine q_ior (pc' := 39) dX11_two_38 rfl ?_
        rw [z_two hc hc1]
        exact q_iret dX11_two_39 rfl rfl ⟨_, rfl, ⟨_, rfl, fun _ => rfl⟩, f3, (k1.mono (by decide)).trans (k2.mono (by decide)), by rw [ok, if_pos rfl, hat]; exact K2⟩
      · rw [if_neg o2] at h2
        obtain ⟨rfl, k2, e2⟩ := h2
        have ok : s_hok2 B h a = false := by unfold s_hok2; rw [o1, Bool.eq_false_iff.mpr o2]; rfl
        have hat : s_hat B h a = a + 1 := by unfold s_hat; rw [if_pos o1, if_neg o2]
        refine q_ior (pc' := 39) dX11_two_38 rfl ?_
        exact q_iret dX11_two_39 rfl rfl ⟨_, rfl, ⟨_, rfl, fun z => by rw [ok] at z; cases z⟩, f3, (k1.mono (by decide)).trans (k2.mono (by decide)), by rw [ok, if_neg (by decide), hat]; exact e2⟩
    refine q_istore_n (pc' := 16) (lv' := [_, _, _, _]) dX11_two_15 (by decide) rfl rfl ?_
    refine q_iload_n (pc' := 17) dX11_two_16 rfl rfl ?_
    refine q_bipush (pc' := 19) (v := nI 8) dX11_two_17 rfl rfl ?_
    refine q_ishl (pc' := 20) dX11_two_19 rfl ?_
    refine q_aload_n (pc' := 21) dX11_two_20 rfl rfl ?_
    refine q_iconst (pc' := 22) (v := nI 0) dX11_two_21 rfl rfl ?_
    refine q_iload_n (pc' := 23) dX11_two_22 rfl rfl ?_
    refine q_bipush (pc' := 25) (v := nI 8) dX11_two_23 rfl rfl ?_
    refine q_icmp_geN (tgt := 32) (pc' := 28) dX11_two_25 (by decide) rfl (by omega) (fun c_25 => ?_) (fun c_25 => ?_)
    · rw [if_neg (by omega)] at p5
      refine q_sipush (pc' := 35) (v := nI 255) dX11_two_32 rfl rfl ?_
      rw [p5]
      exact body
    · rw [if_pos c_25] at p5
      rw [← p5] at body
      refine q_iload_n (pc' := 29) dX11_two_28 rfl rfl ?_
      refine q_goto (pc' := 35) dX11_two_29 (by decide) ?_
      exact body
  · rw [if_neg o1] at h1
    obtain ⟨rfl, k1, e1⟩ := h1
    have ok : s_hok2 B h a = false := by unfold s_hok2; rw [Bool.eq_false_iff.mpr o1]; rfl
    have hat : s_hat B h a = a := if_neg o1
    have hal := hK.2.2.2
    have hbl := hT.2.1
    have body : ∀ y, q_V (q_g Z) mX11_two (d + 2) 0 0 35 [some (.ref (q_ad Z 215)), some (.int (nI h)), some (.int (nI (2 ^ h - 1))), some (.int (nI 0))] [.int y, .int (nI 0), .ref (q_ad Z 215), .int (nI 0 <<< (nI 8 &&& 31))] (q_W Z m') (q_P Z fun r m2 => (∃ x, r = some (.int x) ∧ (s_hok2 B h a = true → x = nI (s_h2 B a))) ∧ Ko m m2 B [] [] (s_hok2 B h a) (s_hat B h a)) := by
      intro y
      obtain ⟨m1, hm1⟩ : ∃ z, z = m' := ⟨_, rfl⟩
      subst hm1
      refine h_callV (pc' := 38) (M' := mX11_byteIn) (As := [_, _]) dX11_two_35 iX11_byteIn lX11_191 rfl rfl rfl rfl (Nat.le_of_ble_eq_true rfl) (Nat.le_of_ble_eq_true rfl) rfl rfl ((k_byteW e1 (z_m1n (by omega))).up (Nat.zero_le _)) (fun r m' hq => ?_)
      obtain ⟨rfl, hmm⟩ := hq
      subst m'
      refine q_ior (pc' := 39) dX11_two_38 rfl ?_
      exact q_iret dX11_two_39 rfl rfl ⟨_, rfl, ⟨_, rfl, fun z => by rw [ok] at z; cases z⟩, f1, k1.mono (by decide), by rw [ok, if_neg (by decide), hat]; exact e1⟩
    refine q_istore_n (pc' := 16) (lv' := [_, _, _, _]) dX11_two_15 (by decide) rfl rfl ?_
    refine q_iload_n (pc' := 17) dX11_two_16 rfl rfl ?_
    refine q_bipush (pc' := 19) (v := nI 8) dX11_two_17 rfl rfl ?_
    refine q_ishl (pc' := 20) dX11_two_19 rfl ?_
    refine q_aload_n (pc' := 21) dX11_two_20 rfl rfl ?_
    refine q_iconst (pc' := 22) (v := nI 0) dX11_two_21 rfl rfl ?_
    refine q_iload_n (pc' := 23) dX11_two_22 rfl rfl ?_
    refine q_bipush (pc' := 25) (v := nI 8) dX11_two_23 rfl rfl ?_
    refine q_icmp_geN (tgt := 32) (pc' := 28) dX11_two_25 (by decide) rfl (by omega) (fun c_25 => ?_) (fun c_25 => ?_)
    · refine q_sipush (pc' := 35) (v := nI 255) dX11_two_32 rfl rfl ?_
      exact body _
    · refine q_iload_n (pc' := 29) dX11_two_28 rfl rfl ?_
      refine q_goto (pc' := 35) dX11_two_29 (by decide) ?_
      exact body _
set_option maxHeartbeats 4000000 in
set_option maxRecDepth 20000 in
theorem k_twoW {Z : q_Z} {m : q_Mm} {d : Nat} {x w : Int32} (hw : m.1 215 6 = w) (hn : ¬ w = -1) : q_V (q_g Z) mX11_two (d+1) 0 0 0 [some (.ref (q_ad Z 215)), some (.int x), none, none] [] (q_W Z m) (q_P Z fun r m2 => (∃ y, r = some (.int y)) ∧ m2 = m) := by
  refine q_iconst (pc' := 1) (v := nI 1) dX11_two_0 rfl rfl ?_
  refine q_iload_n (pc' := 2) dX11_two_1 rfl rfl ?_
  refine q_ishl (pc' := 3) dX11_two_2 rfl ?_
  refine q_iconst (pc' := 4) (v := nI 1) dX11_two_3 rfl rfl ?_
  refine q_isub (pc' := 5) dX11_two_4 rfl ?_
  refine q_istore_n (pc' := 6) (lv' := [_, _, _, _]) dX11_two_5 (by decide) rfl rfl ?_
  refine q_aload_n (pc' := 7) dX11_two_6 rfl rfl ?_
  refine q_iconst (pc' := 8) (v := nI 0) dX11_two_7 rfl rfl ?_
  refine q_iload_n (pc' := 9) dX11_two_8 rfl rfl ?_
  refine q_bipush (pc' := 11) (v := nI 8) dX11_two_9 rfl rfl ?_
  refine q_ishr (pc' := 12) dX11_two_11 rfl ?_
  refine h_callV (pc' := 15) (M' := mX11_byteIn) (As := [_, _]) dX11_two_12 iX11_byteIn lX11_191 rfl rfl rfl rfl (Nat.le_of_ble_eq_true rfl) (Nat.le_of_ble_eq_true rfl) rfl rfl (k_byteW hw hn) (fun r m' hq => ?_)
  obtain ⟨rfl, hmm⟩ := hq
  subst m'
  refine q_istore_n (pc' := 16) (lv' := [_, _, _, _]) dX11_two_15 (by decide) rfl rfl ?_
  refine q_iload_n (pc' := 17) dX11_two_16 rfl rfl ?_
  refine q_bipush (pc' := 19) (v := nI 8) dX11_two_17 rfl rfl ?_
  refine q_ishl (pc' := 20) dX11_two_19 rfl ?_
  refine q_aload_n (pc' := 21) dX11_two_20 rfl rfl ?_
  refine q_iconst (pc' := 22) (v := nI 0) dX11_two_21 rfl rfl ?_
  refine q_iload_n (pc' := 23) dX11_two_22 rfl rfl ?_
  refine q_bipush (pc' := 25) (v := nI 8) dX11_two_23 rfl rfl ?_
  refine q_icmp_ge (tgt := 32) (pc' := 28) dX11_two_25 (by decide) rfl (fun c_25 => ?_) (fun c_25 => ?_)
  · refine q_sipush (pc' := 35) (v := nI 255) dX11_two_32 rfl rfl ?_
    refine h_callV (pc' := 38) (M' := mX11_byteIn) (As := [_, _]) dX11_two_35 iX11_byteIn lX11_191 rfl rfl rfl rfl (Nat.le_of_ble_eq_true rfl) (Nat.le_of_ble_eq_true rfl) rfl rfl (k_byteW hw hn) (fun r m' hq => ?_)
    obtain ⟨rfl, hmm⟩ := hq
    subst m'
    refine q_ior (pc' := 39) dX11_two_38 rfl ?_
    refine q_iret dX11_two_39 rfl rfl ⟨_, rfl, ⟨_, rfl⟩, rfl⟩
  · refine q_iload_n (pc' := 29) dX11_two_28 rfl rfl ?_
    refine q_goto (pc' := 35) dX11_two_29 (by decide) ?_
    refine h_callV (pc' := 38) (M' := mX11_byteIn) (As := [_, _]) dX11_two_35 iX11_byteIn lX11_191 rfl rfl rfl rfl (Nat.le_of_ble_eq_true rfl) (Nat.le_of_ble_eq_true rfl) rfl rfl (k_byteW hw hn) (fun r m' hq => ?_)
    obtain ⟨rfl, hmm⟩ := hq
    subst m'
    refine q_ior (pc' := 39) dX11_two_38 rfl ?_
    refine q_iret dX11_two_39 rfl rfl ⟨_, rfl, ⟨_, rfl⟩, rfl⟩
/-- the reference at a bit behind a byte, all well so far -/
theorem z_bitE {c k : Nat} (hc : c < 256) (hk : k ≤ 7) : (nI c >>> (nI k &&& 31)) &&& nI 1 = nI (c / 2 ^ k % 2 ^ 1) := by
  rw [pk_shrN (by omega) (nI k &&& 31) k (z_sh8 ⟨k, by omega⟩), pk_andN (Nat.lt_of_le_of_lt (Nat.div_le_self _ _) (by omega)) 1 rfl]
set_option maxHeartbeats 4000000 in
set_option maxRecDepth 20000 in
theorem k_takeBits {Z : q_Z} {m : q_Mm} {d : Nat} {B : List Nat} {a b n : Nat} (hT : MT m B) (h5 : m.1 215 5 = nI a) (h14 : m.1 215 14 = nI b) (h6 : m.1 215 6 = -1) (hp : 8 * a + b ≤ 8 * B.length) (hn : n ≤ 62) : q_V (q_g Z) mX11_takeBits (d) 0 0 0 [some (.ref (q_ad Z 215)), some (.int (nI n)), none, none, none] [] (q_W Z m) (q_P Z fun r m2 => (∃ x, r = some (.long x) ∧ (8 * a + b + n ≤ 8 * B.length → x = lN (s_bn B (8 * a + b) n))) ∧ Fr [215] m m2 ∧ Kp 215 [6, 14] m m2 ∧ m2.1 215 6 = (if 8 * a + b + n ≤ 8 * B.length then -1 else nI B.length) ∧ (8 * a + b + n ≤ 8 * B.length → m2.1 215 14 = nI (b + n)) ∧ ∃ b2, b2 ≤ b + n ∧ m2.1 215 14 = nI b2) := by
  have hb := hT.2.1
  have hb2 := hT.2.2.2
  refine q_lconst (pc' := 1) (v := 0) dX11_takeBits_0 rfl rfl ?_
  refine q_lstore_n (pc' := 2) (lv' := [_, _, _, _, _]) dX11_takeBits_1 (by decide) rfl rfl ?_
  refine q_iconst (pc' := 3) (v := nI 0) dX11_takeBits_2 rfl rfl ?_
  refine q_istore (pc' := 5) (lv' := [_, _, _, _, _]) dX11_takeBits_3 (by decide) rfl rfl ?_
  suffices h : ∀ g i m1, i + g = n → 8 * a + b + i ≤ 8 * B.length → Fr [215] m m1 → Kp 215 [6, 14] m m1 → m1.1 215 6 = -1 → m1.1 215 14 = nI (b + i) → q_V (q_g Z) mX11_takeBits (d) 0 0 5 [some (.ref (q_ad Z 215)), some (.int (nI n)), some (.long (lN (s_bn B (8 * a + b) i))), none, some (.int (nI i))] [] (q_W Z (m1)) (q_P Z fun r m2 => (∃ x, r = some (.long x) ∧ (8 * a + b + n ≤ 8 * B.length → x = lN (s_bn B (8 * a + b) n))) ∧ Fr [215] m m2 ∧ Kp 215 [6, 14] m m2 ∧ m2.1 215 6 = (if 8 * a + b + n ≤ 8 * B.length then -1 else nI B.length) ∧ (8 * a + b + n ≤ 8 * B.length → m2.1 215 14 = nI (b + n)) ∧ ∃ b2, b2 ≤ b + n ∧ m2.1 215 14 = nI b2) from h n 0 m (by omega) hp Fr.rf Kp.rf h6 h14
  intro g
  induction g with
  | zero =>
    intro i m1 hi hle f1 k1 e6 e14
    obtain rfl : i = n := by omega
    refine q_iload (pc' := 7) dX11_takeBits_5 rfl rfl ?_
    refine q_iload_n (pc' := 8) dX11_takeBits_7 rfl rfl ?_
    refine q_icmp_geN (tgt := 111) (pc' := 11) dX11_takeBits_8 (by decide) rfl (by omega) (fun c_8 => ?_) (fun c_8 => ?_)
    · rw [if_pos hle]
      refine q_lload_n (pc' := 112) dX11_takeBits_111 rfl rfl ?_
      refine q_lret dX11_takeBits_112 rfl ⟨_, rfl, ⟨_, rfl, fun _ => rfl⟩, f1, k1, e6, fun _ => e14, ⟨_, Nat.le_refl _, e14⟩⟩
    · omega
  | succ g ih =>
    intro i m1 hi hle f1 k1 e6 e14
    have e5 := (k1 5 (by decide)).trans h5
    have hT1 := hT.fr f1 (k1 4 (by decide)) (by decide)
    have take : (8 * a + b + i) / 2 ^ 3 < B.length → q_V (q_g Z) mX11_takeBits (d) 0 0 59 [some (.ref (q_ad Z 215)), some (.int (nI n)), some (.long (lN (s_bn B (8 * a + b) i))), none, some (.int (nI i))] [] (q_W Z (m1)) (q_P Z fun r m2 => (∃ x, r = some (.long x) ∧ (8 * a + b + n ≤ 8 * B.length → x = lN (s_bn B (8 * a + b) n))) ∧ Fr [215] m m2 ∧ Kp 215 [6, 14] m m2 ∧ m2.1 215 6 = (if 8 * a + b + n ≤ 8 * B.length then -1 else nI B.length) ∧ (8 * a + b + n ≤ 8 * B.length → m2.1 215 14 = nI (b + n)) ∧ ∃ b2, b2 ≤ b + n ∧ m2.1 215 14 = nI b2) := by
      intro hin
      have hd : a + (b + i) / 8 = (8 * a + b + i) / 2 ^ 3 := by omega
      have hm8 : (b + i) % 8 = (8 * a + b + i) % 2 ^ 3 := by omega
      have hmod : (8 * a + b + i) % 2 ^ 3 < 2 ^ 3 := Nat.mod_lt _ (by decide)
      have hc := s_sgb hb2 ((8 * a + b + i) / 2 ^ 3)
      have hbn := s_bn_lt B (8 * a + b) i
      have hpw : 2 ^ i ≤ 2 ^ 61 := Nat.pow_le_pow_right (by decide) (by omega)
      have hbt := s_bt_lt B (8 * a + b + i)
      refine q_lload_n (pc' := 60) dX11_takeBits_59 rfl rfl ?_
      refine q_iconst (pc' := 61) (v := nI 1) dX11_takeBits_60 rfl rfl ?_
      refine q_lshl (pc' := 62) dX11_takeBits_61 rfl rfl ?_
      refine q_aload_n (pc' := 63) dX11_takeBits_62 rfl rfl ?_
      refine h_getr (pc' := 66) dX11_takeBits_63 fX11_16 rfl rfl rfl ?_
      refine q_aload_n (pc' := 67) dX11_takeBits_66 rfl rfl ?_
      refine h_getiE (pc' := 70) dX11_takeBits_67 fX11_103 rfl rfl (e5) rfl ?_
      refine q_aload_n (pc' := 71) dX11_takeBits_70 rfl rfl ?_
      refine h_getiE (pc' := 74) dX11_takeBits_71 fX11_194 rfl rfl (e14) rfl ?_
      refine q_bipush (pc' := 76) (v := nI 8) dX11_takeBits_74 rfl rfl ?_
      refine q_idivN (pc' := 77) dX11_takeBits_76 (by omega) rfl ?_
      refine q_iaddN (pc' := 78) dX11_takeBits_77 rfl ?_
      rw [hd]
      refine h_ialdE (pc' := 79) dX11_takeBits_78 rfl (rfl) (by omega) (by decide) (hT1.2.2.1 _ hin) rfl ?_
      refine q_bipush (pc' := 81) (v := nI 7) dX11_takeBits_79 rfl rfl ?_
      refine q_aload_n (pc' := 82) dX11_takeBits_81 rfl rfl ?_
      refine h_getiE (pc' := 85) dX11_takeBits_82 fX11_194 rfl rfl (e14) rfl ?_
      refine q_bipush (pc' := 87) (v := nI 8) dX11_takeBits_85 rfl rfl ?_
      refine q_iremN (pc' := 88) dX11_takeBits_87 (by omega) rfl ?_
      refine q_isubN (pc' := 89) dX11_takeBits_88 (by omega) rfl ?_
      rw [hm8]
      refine q_ishr (pc' := 90) dX11_takeBits_89 rfl ?_
      refine q_iconst (pc' := 91) (v := nI 1) dX11_takeBits_90 rfl rfl ?_
      refine q_iand (pc' := 92) dX11_takeBits_91 rfl ?_
      rw [z_bitE hc (by omega)]
      refine q_i2l (pc' := 93) dX11_takeBits_92 rfl ?_
      refine q_lor (pc' := 94) dX11_takeBits_93 rfl ?_
      rw [show (nI (s_sg B ((8 * a + b + i) / 2 ^ 3) / 2 ^ (7 - (8 * a + b + i) % 2 ^ 3) % 2 ^ 1)).toInt64 = lN (s_bt B (8 * a + b + i)) from nI_l (Nat.lt_of_lt_of_le (Nat.mod_lt _ (by decide)) (by decide)), z_lo (by decide) (by omega) hbt]
      refine q_lstore_n (pc' := 95) (lv' := [_, _, _, _, _]) dX11_takeBits_94 (by decide) rfl rfl ?_
      refine q_aload_n (pc' := 96) dX11_takeBits_95 rfl rfl ?_
      refine q_dup (pc' := 97) dX11_takeBits_96 rfl rfl ?_
      refine h_getiE (pc' := 100) dX11_takeBits_97 fX11_194 rfl rfl (e14) rfl ?_
      refine q_iconst (pc' := 101) (v := nI 1) dX11_takeBits_100 rfl rfl ?_
      refine q_iaddN (pc' := 102) dX11_takeBits_101 rfl ?_
      refine h_puti (pc' := 105) dX11_takeBits_102 fX11_194 rfl rfl rfl rfl rfl ?_
      refine q_iincN (pc' := 108) (j := 1) (lv' := [_, _, _, _, _]) dX11_takeBits_105 rfl (by decide) rfl rfl ?_
      refine q_goto (pc' := 5) dX11_takeBits_108 (by decide) ?_
      exact ih (i + 1) _ (by omega) (by omega) (f1.I (by decide)) (kp_I k1 (by decide)) e6 rfl
    refine q_iload (pc' := 7) dX11_takeBits_5 rfl rfl ?_
    refine q_iload_n (pc' := 8) dX11_takeBits_7 rfl rfl ?_
    refine q_icmp_geN (tgt := 111) (pc' := 11) dX11_takeBits_8 (by decide) rfl (by omega) (fun c_8 => ?_) (fun c_8 => ?_)
    · omega
    refine q_aload_n (pc' := 12) dX11_takeBits_11 rfl rfl ?_
    refine h_getiE (pc' := 15) dX11_takeBits_12 fX11_110 rfl rfl (e6) rfl ?_
    refine q_iconst (pc' := 16) (v := (-1)) dX11_takeBits_15 rfl rfl ?_
    refine q_icmp_ne (tgt := 111) (pc' := 19) dX11_takeBits_16 (by decide) rfl (fun c_16 => ?_) (fun c_16 => ?_)
    · exact absurd rfl c_16
    refine q_aload_n (pc' := 20) dX11_takeBits_19 rfl rfl ?_
    refine h_getiE (pc' := 23) dX11_takeBits_20 fX11_194 rfl rfl (e14) rfl ?_
    refine q_bipush (pc' := 25) (v := nI 8) dX11_takeBits_23 rfl rfl ?_
    refine q_iremN (pc' := 26) dX11_takeBits_25 (by omega) rfl ?_
    refine q_if_neN (tgt := 59) (pc' := 29) dX11_takeBits_26 (by decide) rfl (by omega) (fun c_26 => ?_) (fun c_26 => ?_)
    · exact take (by omega)
    refine q_aload_n (pc' := 30) dX11_takeBits_29 rfl rfl ?_
    refine h_getiE (pc' := 33) dX11_takeBits_30 fX11_103 rfl rfl (e5) rfl ?_
    refine q_aload_n (pc' := 34) dX11_takeBits_33 rfl rfl ?_
    refine h_getiE (pc' := 37) dX11_takeBits_34 fX11_194 rfl rfl (e14) rfl ?_
    refine q_bipush (pc' := 39) (v := nI 8) dX11_takeBits_37 rfl rfl ?_
    refine q_idivN (pc' := 40) dX11_takeBits_39 (by omega) rfl ?_
    refine q_iaddN (pc' := 41) dX11_takeBits_40 rfl ?_
    refine q_aload_n (pc' := 42) dX11_takeBits_41 rfl rfl ?_
    refine h_getiE (pc' := 45) dX11_takeBits_42 fX11_96 rfl rfl (hT1.1) rfl ?_
    refine q_icmp_ltN (tgt := 59) (pc' := 48) dX11_takeBits_45 (by decide) rfl (by omega) (fun c_45 => ?_) (fun c_45 => ?_)
    · exact take (by omega)
    have hno : ¬ 8 * a + b + n ≤ 8 * B.length := by omega
    refine q_aload_n (pc' := 49) dX11_takeBits_48 rfl rfl ?_
    refine q_aload_n (pc' := 50) dX11_takeBits_49 rfl rfl ?_
    refine h_getiE (pc' := 53) dX11_takeBits_50 fX11_96 rfl rfl (hT1.1) rfl ?_
    refine h_puti (pc' := 56) dX11_takeBits_53 fX11_110 rfl rfl rfl rfl rfl ?_
    refine q_goto (pc' := 105) dX11_takeBits_56 (by decide) ?_
    rw [if_neg hno]
    refine q_iincN (pc' := 108) (j := 1) (lv' := [_, _, _, _, _]) dX11_takeBits_105 rfl (by decide) rfl rfl ?_
    refine q_goto (pc' := 5) dX11_takeBits_108 (by decide) ?_
    have e62 : (sI m1 215 6 (nI B.length)).1 215 6 = nI B.length := rfl
    refine q_iload (pc' := 7) dX11_takeBits_5 rfl rfl ?_
    refine q_iload_n (pc' := 8) dX11_takeBits_7 rfl rfl ?_
    refine q_icmp_geN (tgt := 111) (pc' := 11) dX11_takeBits_8 (by decide) rfl (by omega) (fun c_8 => ?_) (fun c_8 => ?_)
    · refine q_lload_n (pc' := 112) dX11_takeBits_111 rfl rfl ?_
      refine q_lret dX11_takeBits_112 rfl ⟨_, rfl, ⟨_, rfl, fun z => absurd z hno⟩, f1.I (by decide), kp_I k1 (by decide), rfl, fun z => absurd z hno, ⟨b + i, by omega, e14⟩⟩
    · refine q_aload_n (pc' := 12) dX11_takeBits_11 rfl rfl ?_
      refine h_getiE (pc' := 15) dX11_takeBits_12 fX11_110 rfl rfl (e62) rfl ?_
      refine q_iconst (pc' := 16) (v := (-1)) dX11_takeBits_15 rfl rfl ?_
      refine q_icmp_ne (tgt := 111) (pc' := 19) dX11_takeBits_16 (by decide) rfl (fun c_16 => ?_) (fun c_16 => ?_)
      rotate_left
      · exact absurd c_16 (z_m1n (by omega))
      refine q_lload_n (pc' := 112) dX11_takeBits_111 rfl rfl ?_
      refine q_lret dX11_takeBits_112 rfl ⟨_, rfl, ⟨_, rfl, fun z => absurd z hno⟩, f1.I (by decide), kp_I k1 (by decide), rfl, fun z => absurd z hno, ⟨b + i, by omega, e14⟩⟩
set_option maxHeartbeats 4000000 in
set_option maxRecDepth 20000 in
theorem k_takeW {Z : q_Z} {m : q_Mm} {d : Nat} {x w : Int32} (hw : m.1 215 6 = w) (hn : ¬ w = -1) : q_V (q_g Z) mX11_takeBits (d) 0 0 0 [some (.ref (q_ad Z 215)), some (.int x), none, none, none] [] (q_W Z m) (q_P Z fun r m2 => (∃ y, r = some (.long y)) ∧ m2 = m) := by
  refine q_lconst (pc' := 1) (v := 0) dX11_takeBits_0 rfl rfl ?_
  refine q_lstore_n (pc' := 2) (lv' := [_, _, _, _, _]) dX11_takeBits_1 (by decide) rfl rfl ?_
  refine q_iconst (pc' := 3) (v := nI 0) dX11_takeBits_2 rfl rfl ?_
  refine q_istore (pc' := 5) (lv' := [_, _, _, _, _]) dX11_takeBits_3 (by decide) rfl rfl ?_
  refine q_iload (pc' := 7) dX11_takeBits_5 rfl rfl ?_
  refine q_iload_n (pc' := 8) dX11_takeBits_7 rfl rfl ?_
  refine q_icmp_ge (tgt := 111) (pc' := 11) dX11_takeBits_8 (by decide) rfl (fun c_8 => ?_) (fun c_8 => ?_)
  · refine q_lload_n (pc' := 112) dX11_takeBits_111 rfl rfl ?_
    refine q_lret dX11_takeBits_112 rfl ⟨_, rfl, ⟨_, rfl⟩, rfl⟩
  · refine q_aload_n (pc' := 12) dX11_takeBits_11 rfl rfl ?_
    refine h_getiE (pc' := 15) dX11_takeBits_12 fX11_110 rfl rfl (hw) rfl ?_
    refine q_iconst (pc' := 16) (v := (-1)) dX11_takeBits_15 rfl rfl ?_
    refine q_icmp_ne (tgt := 111) (pc' := 19) dX11_takeBits_16 (by decide) rfl (fun c_16 => ?_) (fun c_16 => ?_)
    · refine q_lload_n (pc' := 112) dX11_takeBits_111 rfl rfl ?_
      refine q_lret dX11_takeBits_112 rfl ⟨_, rfl, ⟨_, rfl⟩, rfl⟩
    · exact absurd c_16 hn
set_option maxHeartbeats 4000000 in
set_option maxRecDepth 20000 in
theorem k_endW {Z : q_Z} {m : q_Mm} {d : Nat} {w : Int32} (hw : m.1 215 6 = w) (hn : ¬ w = -1) (hbt : ∃ b, b < 100000 ∧ m.1 215 14 = nI b) : q_V (q_g Z) mX11_endBits (d) 0 0 0 [some (.ref (q_ad Z 215)), none] [] (q_W Z m) (q_P Z fun r m2 => r = none ∧ m2 = m) := by
  obtain ⟨b, hb, h14⟩ := hbt
  refine q_aload_n (pc' := 1) dX11_endBits_0 rfl rfl ?_
  refine h_getiE (pc' := 4) dX11_endBits_1 fX11_110 rfl rfl (hw) rfl ?_
  refine q_iconst (pc' := 5) (v := (-1)) dX11_endBits_4 rfl rfl ?_
  refine q_icmp_ne (tgt := 81) (pc' := 8) dX11_endBits_5 (by decide) rfl (fun c_5 => ?_) (fun c_5 => ?_)
  rotate_left
  · exact absurd c_5 hn
  refine q_aload_n (pc' := 82) dX11_endBits_81 rfl rfl ?_
  refine h_getiE (pc' := 85) dX11_endBits_82 fX11_194 rfl rfl (h14) rfl ?_
  refine q_bipush (pc' := 87) (v := nI 8) dX11_endBits_85 rfl rfl ?_
  refine q_idivN (pc' := 88) dX11_endBits_87 (by omega) rfl ?_
  refine q_istore_n (pc' := 89) (lv' := [_, _]) dX11_endBits_88 (by decide) rfl rfl ?_
  refine q_iload_n (pc' := 90) dX11_endBits_89 rfl rfl ?_
  refine q_if_leN (tgt := 116) (pc' := 93) dX11_endBits_90 (by decide) rfl (by omega) (fun c_90 => ?_) (fun c_90 => ?_)
  · refine q_vret dX11_endBits_116 rfl ⟨_, rfl, rfl, rfl⟩
  · refine q_aload_n (pc' := 94) dX11_endBits_93 rfl rfl ?_
    refine h_getiE (pc' := 97) dX11_endBits_94 fX11_110 rfl rfl (hw) rfl ?_
    refine q_iconst (pc' := 98) (v := (-1)) dX11_endBits_97 rfl rfl ?_
    refine q_icmp_ne (tgt := 116) (pc' := 101) dX11_endBits_98 (by decide) rfl (fun c_98 => ?_) (fun c_98 => ?_)
    · refine q_vret dX11_endBits_116 rfl ⟨_, rfl, rfl, rfl⟩
    · exact absurd c_98 hn
theorem s_bn_up {B : List Nat} {p : Nat} {j : Nat} (h : s_bn B p j ≠ 0) : ∀ i, s_bn B p (j + i) ≠ 0
  | 0 => h
  | i + 1 => by
    have := s_bn_up h i
    show s_bn B p (j + i) * 2 ^ 1 + s_bt B (p + (j + i)) ≠ 0
    omega
set_option maxHeartbeats 4000000 in
set_option maxRecDepth 20000 in
theorem k_endBits {Z : q_Z} {m : q_Mm} {d : Nat} {B : List Nat} {a b : Nat} (hT : MT m B) (hK : Kb m B a) (h14 : m.1 215 14 = nI b) (hp : 8 * a + b ≤ 8 * B.length) : q_V (q_g Z) mX11_endBits (d+2) 0 0 0 [some (.ref (q_ad Z 215)), none] [] (q_W Z m) (q_P Z fun r m2 => r = none ∧ Ko m m2 B [] [14] (s_fl B (8 * a + b)) (s_fat B (8 * a + b))) := by
  have hb := hT.2.1
  have hb2 := hT.2.2.2
  obtain ⟨h5, h13, h6, hal⟩ := hK
  obtain ⟨p, hpp⟩ : ∃ p, 8 * a + b = p := ⟨_, rfl⟩
  rw [hpp] at hp ⊢
  have hfl : s_flk p ≤ 7 ∧ p + s_flk p = 8 * ((p + 7) / 8) := by unfold s_flk; omega
  have cons : ∀ k c m1, c + k = (p + 7) / 8 → a ≤ c → Fr [215] m m1 → Kp 215 [5, 6, 13, 14] m m1 → Kb m1 B c → s_fl B p = true → q_V (q_g Z) mX11_endBits (d+2) 0 0 89 [some (.ref (q_ad Z 215)), some (.int (nI k))] [] (q_W Z (m1)) (q_P Z fun r m2 => r = none ∧ Ko m m2 B [] [14] (s_fl B p) (s_fat B p)) := by
    intro k
    induction k with
    | zero =>
      intro c m1 hc hac f1 k1 K1 ho
      have hat : s_fat B p = c := by unfold s_fat; rw [if_pos ho]; omega
      refine q_iload_n (pc' := 90) dX11_endBits_89 rfl rfl ?_
      refine q_if_leN (tgt := 116) (pc' := 93) dX11_endBits_90 (by decide) rfl (by omega) (fun c_90 => ?_) (fun c_90 => ?_)
      · refine q_vret dX11_endBits_116 rfl ⟨_, rfl, rfl, f1, k1, by rw [ho, if_pos rfl, hat]; exact K1⟩
      · omega
    | succ k ih =>
      intro c m1 hc hac f1 k1 K1 ho
      have hT1 := hT.fr f1 (k1 4 (by decide)) (by decide)
      have hcc := s_sgb hb2 c
      refine q_iload_n (pc' := 90) dX11_endBits_89 rfl rfl ?_
      refine q_if_leN (tgt := 116) (pc' := 93) dX11_endBits_90 (by decide) rfl (by omega) (fun c_90 => ?_) (fun c_90 => ?_)
      · omega
      refine q_aload_n (pc' := 94) dX11_endBits_93 rfl rfl ?_
      refine h_getiE (pc' := 97) dX11_endBits_94 fX11_110 rfl rfl (K1.2.2.1) rfl ?_
      refine q_iconst (pc' := 98) (v := (-1)) dX11_endBits_97 rfl rfl ?_
      refine q_icmp_ne (tgt := 116) (pc' := 101) dX11_endBits_98 (by decide) rfl (fun c_98 => ?_) (fun c_98 => ?_)
      · exact absurd rfl c_98
      refine q_aload_n (pc' := 102) dX11_endBits_101 rfl rfl ?_
      refine q_iconst (pc' := 103) (v := nI 0) dX11_endBits_102 rfl rfl ?_
      refine q_sipush (pc' := 106) (v := nI 255) dX11_endBits_103 rfl rfl ?_
      refine h_callV (pc' := 109) (M' := mX11_byteIn) (As := [_, _]) dX11_endBits_106 iX11_byteIn lX11_191 rfl rfl rfl rfl (Nat.le_of_ble_eq_true rfl) (Nat.le_of_ble_eq_true rfl) rfl rfl (k_byteIn hT1 K1 (by decide) (by decide)) (fun r m' hq => ?_)
      obtain ⟨f2, h2⟩ := hq
      rw [if_pos (show s_oc B c 0 255 = true from decide_eq_true ⟨by omega, by omega, by omega⟩)] at h2
      obtain ⟨rfl, k2, K2⟩ := h2
      refine q_pop (pc' := 110) dX11_endBits_109 rfl rfl ?_
      refine q_idecN (pc' := 113) (lv' := [_, _]) dX11_endBits_110 rfl (by decide) rfl rfl ?_
      refine q_goto (pc' := 89) dX11_endBits_113 (by decide) ?_
      exact ih (c + 1) m' (by omega) (by omega) (f1.trans f2) (k1.trans (k2.mono (by decide))) K2 ho
  suffices h : ∀ g j m1, j + g = s_flk p → s_bn B p j = 0 → Fr [215] m m1 → Kp 215 [5, 6, 13, 14] m m1 → Kb m1 B a → m1.1 215 14 = nI (b + j) → q_V (q_g Z) mX11_endBits (d+2) 0 0 0 [some (.ref (q_ad Z 215)), none] [] (q_W Z (m1)) (q_P Z fun r m2 => r = none ∧ Ko m m2 B [] [14] (s_fl B p) (s_fat B p)) from h (s_flk p) 0 m (by omega) rfl Fr.rf Kp.rf ⟨h5, h13, h6, hal⟩ h14
  intro g
  induction g with
  | zero =>
    intro j m1 hj hz f1 k1 K1 e14
    have hmod : (b + j) % 8 = 0 := by unfold s_flk at *; omega
    have ho : s_fl B p = true := decide_eq_true (by rw [← hj]; exact hz)
    refine q_aload_n (pc' := 1) dX11_endBits_0 rfl rfl ?_
    refine h_getiE (pc' := 4) dX11_endBits_1 fX11_110 rfl rfl (K1.2.2.1) rfl ?_
    refine q_iconst (pc' := 5) (v := (-1)) dX11_endBits_4 rfl rfl ?_
    refine q_icmp_ne (tgt := 81) (pc' := 8) dX11_endBits_5 (by decide) rfl (fun c_5 => ?_) (fun c_5 => ?_)
    · exact absurd rfl c_5
    refine q_aload_n (pc' := 9) dX11_endBits_8 rfl rfl ?_
    refine h_getiE (pc' := 12) dX11_endBits_9 fX11_194 rfl rfl (e14) rfl ?_
    refine q_bipush (pc' := 14) (v := nI 8) dX11_endBits_12 rfl rfl ?_
    refine q_iremN (pc' := 15) dX11_endBits_14 (by omega) rfl ?_
    refine q_if_eqN (tgt := 81) (pc' := 18) dX11_endBits_15 (by decide) rfl (by omega) (fun c_15 => ?_) (fun c_15 => ?_)
    rotate_left
    · omega
    refine q_aload_n (pc' := 82) dX11_endBits_81 rfl rfl ?_
    refine h_getiE (pc' := 85) dX11_endBits_82 fX11_194 rfl rfl (e14) rfl ?_
    refine q_bipush (pc' := 87) (v := nI 8) dX11_endBits_85 rfl rfl ?_
    refine q_idivN (pc' := 88) dX11_endBits_87 (by omega) rfl ?_
    refine q_istore_n (pc' := 89) (lv' := [_, _]) dX11_endBits_88 (by decide) rfl rfl ?_
    exact cons _ a m1 (by omega) (Nat.le_refl _) f1 k1 K1 ho
  | succ g ih =>
    intro j m1 hj hz f1 k1 K1 e14
    have hT1 := hT.fr f1 (k1 4 (by decide)) (by decide)
    have hmod : (b + j) % 8 ≠ 0 := by unfold s_flk at *; omega
    have hd : a + (b + j) / 8 = (p + j) / 2 ^ 3 := by omega
    have hm8 : (b + j) % 8 = (p + j) % 2 ^ 3 := by omega
    have hlast : (p + j) / 2 ^ 3 = (p + 7) / 8 - 1 ∧ 1 ≤ (p + 7) / 8 := by unfold s_flk at *; omega
    have hc := s_sgb hb2 ((p + j) / 2 ^ 3)
    have hmod2 : (p + j) % 2 ^ 3 < 2 ^ 3 := Nat.mod_lt _ (by decide)
    have hbt := s_bt_lt B (p + j)
    refine q_aload_n (pc' := 1) dX11_endBits_0 rfl rfl ?_
    refine h_getiE (pc' := 4) dX11_endBits_1 fX11_110 rfl rfl (K1.2.2.1) rfl ?_
    refine q_iconst (pc' := 5) (v := (-1)) dX11_endBits_4 rfl rfl ?_
    refine q_icmp_ne (tgt := 81) (pc' := 8) dX11_endBits_5 (by decide) rfl (fun c_5 => ?_) (fun c_5 => ?_)
    · exact absurd rfl c_5
    refine q_aload_n (pc' := 9) dX11_endBits_8 rfl rfl ?_
    refine h_getiE (pc' := 12) dX11_endBits_9 fX11_194 rfl rfl (e14) rfl ?_
    refine q_bipush (pc' := 14) (v := nI 8) dX11_endBits_12 rfl rfl ?_
    refine q_iremN (pc' := 15) dX11_endBits_14 (by omega) rfl ?_
    refine q_if_eqN (tgt := 81) (pc' := 18) dX11_endBits_15 (by decide) rfl (by omega) (fun c_15 => ?_) (fun c_15 => ?_)
    · omega
    refine q_aload_n (pc' := 19) dX11_endBits_18 rfl rfl ?_
    refine h_getr (pc' := 22) dX11_endBits_19 fX11_16 rfl rfl rfl ?_
    refine q_aload_n (pc' := 23) dX11_endBits_22 rfl rfl ?_
    refine h_getiE (pc' := 26) dX11_endBits_23 fX11_103 rfl rfl (K1.1) rfl ?_
    refine q_aload_n (pc' := 27) dX11_endBits_26 rfl rfl ?_
    refine h_getiE (pc' := 30) dX11_endBits_27 fX11_194 rfl rfl (e14) rfl ?_
    refine q_bipush (pc' := 32) (v := nI 8) dX11_endBits_30 rfl rfl ?_
    refine q_idivN (pc' := 33) dX11_endBits_32 (by omega) rfl ?_
    refine q_iaddN (pc' := 34) dX11_endBits_33 rfl ?_
    rw [hd]
    refine h_ialdE (pc' := 35) dX11_endBits_34 rfl (rfl) (by omega) (by decide) (hT1.2.2.1 _ (by omega)) rfl ?_
    refine q_bipush (pc' := 37) (v := nI 7) dX11_endBits_35 rfl rfl ?_
    refine q_aload_n (pc' := 38) dX11_endBits_37 rfl rfl ?_
    refine h_getiE (pc' := 41) dX11_endBits_38 fX11_194 rfl rfl (e14) rfl ?_
    refine q_bipush (pc' := 43) (v := nI 8) dX11_endBits_41 rfl rfl ?_
    refine q_iremN (pc' := 44) dX11_endBits_43 (by omega) rfl ?_
    refine q_isubN (pc' := 45) dX11_endBits_44 (by omega) rfl ?_
    rw [hm8]
    refine q_ishr (pc' := 46) dX11_endBits_45 rfl ?_
    refine q_iconst (pc' := 47) (v := nI 1) dX11_endBits_46 rfl rfl ?_
    refine q_iand (pc' := 48) dX11_endBits_47 rfl ?_
    rw [z_bitE hc (by omega), show s_sg B ((p + j) / 2 ^ 3) / 2 ^ (7 - (p + j) % 2 ^ 3) % 2 ^ 1 = s_bt B (p + j) from rfl]
    refine q_iconst (pc' := 49) (v := nI 1) dX11_endBits_48 rfl rfl ?_
    refine q_icmp_neN (tgt := 68) (pc' := 52) dX11_endBits_49 (by decide) rfl (by omega) (fun c_49 => ?_) (fun c_49 => ?_)
    · have hz0 : s_bt B (p + j) = 0 := by omega
      refine q_aload_n (pc' := 69) dX11_endBits_68 rfl rfl ?_
      refine q_dup (pc' := 70) dX11_endBits_69 rfl rfl ?_
      refine h_getiE (pc' := 73) dX11_endBits_70 fX11_194 rfl rfl (e14) rfl ?_
      refine q_iconst (pc' := 74) (v := nI 1) dX11_endBits_73 rfl rfl ?_
      refine q_iaddN (pc' := 75) dX11_endBits_74 rfl ?_
      refine h_puti (pc' := 78) dX11_endBits_75 fX11_194 rfl rfl rfl rfl rfl ?_
      refine q_goto (pc' := 0) dX11_endBits_78 (by decide) ?_
      refine ih (j + 1) _ (by omega) ?_ (f1.I (by decide)) (kp_I k1 (by decide)) K1 rfl
      show s_bn B p j * 2 ^ 1 + s_bt B (p + j) = 0
      omega
    · have ho : s_fl B p = false := by
        have h1 : s_bn B p (j + 1) ≠ 0 := by show s_bn B p j * 2 ^ 1 + s_bt B (p + j) ≠ 0; omega
        have h2 := s_bn_up h1 g
        refine decide_eq_false ?_
        rw [← hj, show j + (g + 1) = j + 1 + g by omega]
        exact h2
      have hat : s_fat B p = (p + j) / 2 ^ 3 := by unfold s_fat; rw [if_neg (by rw [ho]; decide)]; omega
      refine q_aload_n (pc' := 53) dX11_endBits_52 rfl rfl ?_
      refine q_aload_n (pc' := 54) dX11_endBits_53 rfl rfl ?_
      refine h_getiE (pc' := 57) dX11_endBits_54 fX11_103 rfl rfl (K1.1) rfl ?_
      refine q_aload_n (pc' := 58) dX11_endBits_57 rfl rfl ?_
      refine h_getiE (pc' := 61) dX11_endBits_58 fX11_194 rfl rfl (e14) rfl ?_
      refine q_bipush (pc' := 63) (v := nI 8) dX11_endBits_61 rfl rfl ?_
      refine q_idivN (pc' := 64) dX11_endBits_63 (by omega) rfl ?_
      refine q_iaddN (pc' := 65) dX11_endBits_64 rfl ?_
      rw [hd]
      refine h_puti (pc' := 68) dX11_endBits_65 fX11_110 rfl rfl rfl rfl rfl ?_
      refine q_aload_n (pc' := 69) dX11_endBits_68 rfl rfl ?_
      refine q_dup (pc' := 70) dX11_endBits_69 rfl rfl ?_
      refine h_getiE (pc' := 73) dX11_endBits_70 fX11_194 rfl rfl (e14) rfl ?_
      refine q_iconst (pc' := 74) (v := nI 1) dX11_endBits_73 rfl rfl ?_
      refine q_iaddN (pc' := 75) dX11_endBits_74 rfl ?_
      refine h_puti (pc' := 78) dX11_endBits_75 fX11_194 rfl rfl rfl rfl rfl ?_
      refine q_goto (pc' := 0) dX11_endBits_78 (by decide) ?_
      have e62 : (sI (sI m1 215 6 (nI ((p + j) / 2 ^ 3))) 215 14 (nI (b + j + 1))).1 215 6 = nI ((p + j) / 2 ^ 3) := rfl
      have f3 : Fr [215] m (sI (sI m1 215 6 (nI ((p + j) / 2 ^ 3))) 215 14 (nI (b + j + 1))) := (f1.I (by decide)).I (by decide)
      have k3 : Kp 215 [5, 6, 13, 14] m (sI (sI m1 215 6 (nI ((p + j) / 2 ^ 3))) 215 14 (nI (b + j + 1))) := kp_I (kp_I k1 (by decide)) (by decide)
      refine h_weak ((k_endW e62 (z_m1n (by omega)) ⟨b + j + 1, by omega, rfl⟩).up (Nat.zero_le _)) ?_
      rintro r m2 ⟨rfl, rfl⟩
      exact ⟨rfl, f3, k3, by rw [ho, if_neg (by decide), hat]; exact e62⟩
