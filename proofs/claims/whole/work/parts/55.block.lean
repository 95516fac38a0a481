/-! ===== BlockReader: bytes and bits ===== -/
theorem z_sh64 : ∀ k : Fin 64, ((nI k.1).toInt64 &&& 63).toBitVec.smod 64 = BitVec.ofNat 64 k.1 := by decide +kernel
theorem z_lshl {n k : Nat} (hk : k < 64) (h : n * 2 ^ k < 2 ^ 64) : s_N (lN n <<< ((nI k).toInt64 &&& 63)) = n * 2 ^ k := by
  have hn : n < 2 ^ 64 := by
    have := Nat.two_pow_pos k
    have h2 : n * 1 ≤ n * 2 ^ k := Nat.mul_le_mul_left n this
    omega
  show ((lN n).toBitVec <<< (((nI k).toInt64 &&& 63).toBitVec.smod 64)).toNat = _
  rw [z_sh64 ⟨k, hk⟩, BitVec.shiftLeft_eq', BitVec.toNat_shiftLeft, Nat.shiftLeft_eq, show (lN n).toBitVec.toNat = n from s_N_of n hn, BitVec.toNat_ofNat, Nat.mod_eq_of_lt (show k < 2 ^ 64 by omega)]
  exact Nat.mod_eq_of_lt h
theorem z_lo {n k b : Nat} (hk : k < 64) (h : n * 2 ^ k + b < 2 ^ 64) (hb : b < 2 ^ k) : lN n <<< ((nI k).toInt64 &&& 63) ||| lN b = lN (n * 2 ^ k + b) := by
  apply s_N_inj
  have e1 := z_lshl (n := n) hk (by omega)
  show (_ ||| _ : Int64).toBitVec.toNat = _
  rw [Int64.toBitVec_or, BitVec.toNat_or, s_N_bv, s_N_bv, e1, show s_N (lN b) = b from s_N_of b (by omega), show s_N (lN (n * 2 ^ k + b)) = n * 2 ^ k + b from s_N_of _ h, Nat.mul_comm]
  exact (Nat.two_pow_add_eq_or_of_lt hb n).symm
/-- a byte between bounds stands here -/
def s_oc (B : List Nat) (a lo hi : Nat) : Bool := decide (a < B.length ∧ lo ≤ s_sg B a ∧ s_sg B a ≤ hi)
/-- only the reader's place, and what it got, have changed -/
def Ra (m m2 : q_Mm) (a : Nat) : Prop := Fr [16] m m2 ∧ Kp 16 [5] m m2 ∧ m2.1 16 5 = nI a
theorem Ra.rf {m : q_Mm} {a : Nat} (h : m.1 16 5 = nI a) : Ra m m a := ⟨Fr.rf, Kp.rf, h⟩
theorem Ra.tr {m m1 m2 : q_Mm} {a b : Nat} (h : Ra m m1 a) (g : Ra m1 m2 b) : Ra m m2 b := ⟨h.1.trans g.1, h.2.1.trans g.2.1, g.2.2⟩
set_option maxHeartbeats 4000000 in
set_option maxRecDepth 20000 in
theorem c_octetIn {Z : q_Z} {m : q_Mm} {d : Nat} {B : List Nat} {a lo hi : Nat} (hO : Oct m 6 B) (ha : m.1 16 5 = nI a) (hl : a ≤ B.length) (hlo : lo < 1000) (hhi : hi < 1000) : q_V (q_g Z) mX0_octetIn (d) 0 0 0 [some (.ref (q_ad Z 16)), some (.int (nI lo)), some (.int (nI hi)), none] [] (q_W Z m) (q_P Z fun r m2 => r = some (.int (q_b (s_oc B a lo hi))) ∧ Ra m m2 (if s_oc B a lo hi = true then a + 1 else a) ∧ (s_oc B a lo hi = true → m2.2.1 16 7 = lN (s_sg B a))) := by
  have hb := hO.2.1
  have hc := s_sg_lt hO a
  have no : ∀ z : s_oc B a lo hi = false, q_V (q_g Z) mX0_octetIn (d) 0 0 14 [some (.ref (q_ad Z 16)), some (.int (nI lo)), some (.int (nI hi)), none] [] (q_W Z (m)) (q_P Z fun r m2 => r = some (.int (q_b (s_oc B a lo hi))) ∧ Ra m m2 (if s_oc B a lo hi = true then a + 1 else a) ∧ (s_oc B a lo hi = true → m2.2.1 16 7 = lN (s_sg B a))) := by
    intro z
    refine q_iconst (pc' := 15) (v := nI 0) dX0_octetIn_14 rfl rfl ?_
    refine q_iret dX0_octetIn_15 rfl (by first | exact q_nb0 | exact q_nb1 | exact q_nb _) ⟨_, rfl, by rw [z]; rfl, by rw [if_neg (by rw [z]; decide)]; exact Ra.rf ha, fun y => by rw [z] at y; cases y⟩
  have no2 : ∀ (z : s_oc B a lo hi = false) w, q_V (q_g Z) mX0_octetIn (d) 0 0 39 [some (.ref (q_ad Z 16)), some (.int (nI lo)), some (.int (nI hi)), some w] [] (q_W Z (m)) (q_P Z fun r m2 => r = some (.int (q_b (s_oc B a lo hi))) ∧ Ra m m2 (if s_oc B a lo hi = true then a + 1 else a) ∧ (s_oc B a lo hi = true → m2.2.1 16 7 = lN (s_sg B a))) := by
    intro z w
    refine q_iconst (pc' := 40) (v := nI 0) dX0_octetIn_39 rfl rfl ?_
    refine q_iret dX0_octetIn_40 rfl (by first | exact q_nb0 | exact q_nb1 | exact q_nb _) ⟨_, rfl, by rw [z]; rfl, by rw [if_neg (by rw [z]; decide)]; exact Ra.rf ha, fun y => by rw [z] at y; cases y⟩
  refine q_aload_n (pc' := 1) dX0_octetIn_0 rfl rfl ?_
  refine h_getiE (pc' := 4) dX0_octetIn_1 fX0_27 rfl rfl (ha) rfl ?_
  refine q_aload_n (pc' := 5) dX0_octetIn_4 rfl rfl ?_
  refine h_getr (pc' := 8) dX0_octetIn_5 fX0_19 rfl rfl rfl ?_
  refine h_getiE (pc' := 11) dX0_octetIn_8 fX0_50 rfl rfl (hO.1) rfl ?_
  refine q_icmp_ltN (tgt := 16) (pc' := 14) dX0_octetIn_11 (by decide) rfl (by omega) (fun c_11 => ?_) (fun c_11 => ?_)
  rotate_left
  · exact no (decide_eq_false (by omega))
  refine q_aload_n (pc' := 17) dX0_octetIn_16 rfl rfl ?_
  refine h_getr (pc' := 20) dX0_octetIn_17 fX0_19 rfl rfl rfl ?_
  refine h_getr (pc' := 23) dX0_octetIn_20 fX0_68 rfl rfl rfl ?_
  refine q_aload_n (pc' := 24) dX0_octetIn_23 rfl rfl ?_
  refine h_getiE (pc' := 27) dX0_octetIn_24 fX0_27 rfl rfl (ha) rfl ?_
  refine h_ialdE (pc' := 28) dX0_octetIn_27 rfl (rfl) (by omega) (by decide) (hO.2.2.1 a (by omega)) rfl ?_
  refine q_istore_n (pc' := 29) (lv' := [_, _, _, _]) dX0_octetIn_28 (by decide) rfl rfl ?_
  rw [show B.getD a 0 = s_sg B a from rfl]
  refine q_iload_n (pc' := 30) dX0_octetIn_29 rfl rfl ?_
  refine q_iload_n (pc' := 31) dX0_octetIn_30 rfl rfl ?_
  refine q_icmp_ltN (tgt := 39) (pc' := 34) dX0_octetIn_31 (by decide) rfl (by omega) (fun c_31 => ?_) (fun c_31 => ?_)
  · exact no2 (decide_eq_false (by omega)) _
  refine q_iload_n (pc' := 35) dX0_octetIn_34 rfl rfl ?_
  refine q_iload_n (pc' := 36) dX0_octetIn_35 rfl rfl ?_
  refine q_icmp_leN (tgt := 41) (pc' := 39) dX0_octetIn_36 (by decide) rfl (by omega) (fun c_36 => ?_) (fun c_36 => ?_)
  rotate_left
  · exact no2 (decide_eq_false (by omega)) _
  have yes : s_oc B a lo hi = true := decide_eq_true ⟨by omega, by omega, by omega⟩
  rw [if_pos yes]
  refine q_aload_n (pc' := 42) dX0_octetIn_41 rfl rfl ?_
  refine q_iload_n (pc' := 43) dX0_octetIn_42 rfl rfl ?_
  refine q_i2l (pc' := 44) dX0_octetIn_43 rfl ?_
  refine h_putj (pc' := 47) dX0_octetIn_44 fX0_35 rfl rfl rfl rfl rfl ?_
  refine q_aload_n (pc' := 48) dX0_octetIn_47 rfl rfl ?_
  refine q_dup (pc' := 49) dX0_octetIn_48 rfl rfl ?_
  refine h_getiE (pc' := 52) dX0_octetIn_49 fX0_27 rfl rfl (ha) rfl ?_
  refine q_iconst (pc' := 53) (v := nI 1) dX0_octetIn_52 rfl rfl ?_
  refine q_iaddN (pc' := 54) dX0_octetIn_53 rfl ?_
  refine h_puti (pc' := 57) dX0_octetIn_54 fX0_27 rfl rfl rfl rfl rfl ?_
  refine q_iconst (pc' := 58) (v := nI 1) dX0_octetIn_57 rfl rfl ?_
  refine q_iret dX0_octetIn_58 rfl (by first | exact q_nb0 | exact q_nb1 | exact q_nb _) ⟨_, rfl, by rw [yes]; rfl, ⟨(Fr.rf.J (by decide)).I (by decide), kp_I (m1 := sJ m 16 7 _) Kp.rf (by decide), rfl⟩, fun _ => nI_l (by omega)⟩
/-- so many bytes from a on, as one number -/
def s_ln (B : List Nat) (a : Nat) : Nat → Nat
  | 0 => 0
  | k + 1 => s_ln B a k * 2 ^ 8 + s_sg B (a + k)
theorem s_ln_lt {m : q_Mm} {o : Nat} {B : List Nat} (hO : Oct m o B) (a : Nat) : ∀ k, s_ln B a k < 2 ^ (8 * k)
  | 0 => Nat.two_pow_pos _
  | k + 1 => by
    have h1 := s_ln_lt hO a k
    have h2 := s_sg_lt hO (a + k)
    have e : 2 ^ (8 * (k + 1)) = 2 ^ (8 * k) * 2 ^ 8 := by rw [Nat.mul_succ, Nat.pow_add]
    rw [e]
    show s_ln B a k * 2 ^ 8 + s_sg B (a + k) < _
    omega
theorem s_oc_all {m : q_Mm} {o : Nat} {B : List Nat} (hO : Oct m o B) (a : Nat) : s_oc B a 0 255 = decide (a < B.length) := by
  have := s_sg_lt hO a
  unfold s_oc
  by_cases h : a < B.length
  · rw [decide_eq_true h, decide_eq_true ⟨h, by omega, by omega⟩]
  · rw [decide_eq_false h, decide_eq_false (fun z => h z.1)]
set_option maxHeartbeats 4000000 in
set_option maxRecDepth 20000 in
theorem c_longIn {Z : q_Z} {m : q_Mm} {d : Nat} {B : List Nat} {a : Nat} (hO : Oct m 6 B) (ha : m.1 16 5 = nI a) (hl : a ≤ B.length) : q_V (q_g Z) mX0_longIn (d+1) 0 0 0 [some (.ref (q_ad Z 16)), none, none, none] [] (q_W Z m) (q_P Z fun r m2 => r = some (.int (q_b (decide (a + 8 ≤ B.length)))) ∧ Ra m m2 (if a + 8 ≤ B.length then a + 8 else B.length) ∧ (a + 8 ≤ B.length → m2.2.1 16 7 = lN (s_ln B a 8))) := by
  have hb := hO.2.1
  refine q_lconst (pc' := 1) (v := 0) dX0_longIn_0 rfl rfl ?_
  refine q_lstore_n (pc' := 2) (lv' := [_, _, _, _]) dX0_longIn_1 (by decide) rfl rfl ?_
  refine q_iconst (pc' := 3) (v := nI 0) dX0_longIn_2 rfl rfl ?_
  refine q_istore_n (pc' := 4) (lv' := [_, _, _, _]) dX0_longIn_3 (by decide) rfl rfl ?_
  suffices h : ∀ g i m1, i + g = 8 → a + i ≤ B.length → Ra m m1 (a + i) → q_V (q_g Z) mX0_longIn (d+1) 0 0 4 [some (.ref (q_ad Z 16)), some (.long (lN (s_ln B a i))), none, some (.int (nI i))] [] (q_W Z (m1)) (q_P Z fun r m2 => r = some (.int (q_b (decide (a + 8 ≤ B.length)))) ∧ Ra m m2 (if a + 8 ≤ B.length then a + 8 else B.length) ∧ (a + 8 ≤ B.length → m2.2.1 16 7 = lN (s_ln B a 8))) from h 8 0 m rfl hl (Ra.rf ha)
  intro g
  induction g with
  | zero =>
    intro i m1 hi hle t1
    obtain rfl : i = 8 := by omega
    have t1 : Ra m m1 (a + 8) := t1
    refine q_iload_n (pc' := 5) dX0_longIn_4 rfl rfl ?_
    refine q_bipush (pc' := 7) (v := nI 8) dX0_longIn_5 rfl rfl ?_
    refine q_icmp_geN (tgt := 39) (pc' := 10) dX0_longIn_7 (by decide) rfl (by omega) (fun c_7 => ?_) (fun c_7 => ?_)
    · rw [if_pos hle]
      refine q_aload_n (pc' := 40) dX0_longIn_39 rfl rfl ?_
      refine q_lload_n (pc' := 41) dX0_longIn_40 rfl rfl ?_
      refine h_putj (pc' := 44) dX0_longIn_41 fX0_35 rfl rfl rfl rfl rfl ?_
      refine q_iconst (pc' := 45) (v := nI 1) dX0_longIn_44 rfl rfl ?_
      refine q_iret dX0_longIn_45 rfl (by first | exact q_nb0 | exact q_nb1 | exact q_nb _) ⟨_, rfl, z_t hle, ⟨t1.1.J (by decide), t1.2.1, t1.2.2⟩, fun _ => rfl⟩
    · omega
  | succ g ih =>
    intro i m1 hi hle t1
    have hO1 := hO.fr t1.1 (by decide) (by decide)
    have hc := s_sg_lt hO (a + i)
    have hlt := s_ln_lt hO a i
    have hpw : 2 ^ (8 * i) ≤ 2 ^ 56 := Nat.pow_le_pow_right (by decide) (by omega)
    refine q_iload_n (pc' := 5) dX0_longIn_4 rfl rfl ?_
    refine q_bipush (pc' := 7) (v := nI 8) dX0_longIn_5 rfl rfl ?_
    refine q_icmp_geN (tgt := 39) (pc' := 10) dX0_longIn_7 (by decide) rfl (by omega) (fun c_7 => ?_) (fun c_7 => ?_)
    · omega
    refine q_aload_n (pc' := 11) dX0_longIn_10 rfl rfl ?_
    refine q_iconst (pc' := 12) (v := nI 0) dX0_longIn_11 rfl rfl ?_
    refine q_sipush (pc' := 15) (v := nI 255) dX0_longIn_12 rfl rfl ?_
    refine h_callV (pc' := 18) (M' := mX0_octetIn) (As := [_, _]) dX0_longIn_15 iX0_octetIn lX0_31 rfl rfl rfl rfl (Nat.le_of_ble_eq_true rfl) (Nat.le_of_ble_eq_true rfl) rfl rfl (c_octetIn hO1 t1.2.2 hle (by decide) (by decide)) (fun r m' hq => ?_)
    obtain ⟨rfl, t2, e2⟩ := hq
    rw [s_oc_all hO] at t2 e2 ⊢
    refine q_if_neB (tgt := 23) (pc' := 21) dX0_longIn_18 (by decide) rfl (fun c_18 => ?_) (fun c_18 => ?_)
    rotate_left
    · have c_18 := of_decide_eq_false c_18
      rw [if_neg (by rw [decide_eq_false c_18]; decide)] at t2
      rw [if_neg (show ¬ a + 8 ≤ B.length by omega)]
      refine q_iconst (pc' := 22) (v := nI 0) dX0_longIn_21 rfl rfl ?_
      refine q_iret dX0_longIn_22 rfl (by first | exact q_nb0 | exact q_nb1 | exact q_nb _) ⟨_, rfl, z_f (by omega), by rw [show B.length = a + i by omega]; exact t1.tr t2, fun z => absurd z (by omega)⟩
    · rw [if_pos c_18] at t2
      have c18 := of_decide_eq_true c_18
      have e2 := e2 c_18
      refine q_lload_n (pc' := 24) dX0_longIn_23 rfl rfl ?_
      refine q_bipush (pc' := 26) (v := nI 8) dX0_longIn_24 rfl rfl ?_
      refine q_lshl (pc' := 27) dX0_longIn_26 rfl rfl ?_
      refine q_aload_n (pc' := 28) dX0_longIn_27 rfl rfl ?_
      refine h_getjE (pc' := 31) dX0_longIn_28 fX0_35 rfl rfl (e2) rfl ?_
      refine q_lor (pc' := 32) dX0_longIn_31 rfl ?_
      rw [z_lo (by decide) (by omega) hc]
      refine q_lstore_n (pc' := 33) (lv' := [_, _, _, _]) dX0_longIn_32 (by decide) rfl rfl ?_
      refine q_iincN (pc' := 36) (j := 1) (lv' := [_, _, _, _]) dX0_longIn_33 rfl (by decide) rfl rfl ?_
      refine q_goto (pc' := 4) dX0_longIn_36 (by decide) ?_
      refine ih (i + 1) m' (by omega) (by omega) (t1.tr t2)
theorem s_pw : ∀ h : Fin 17, 4 ≤ h.1 → nI 1 <<< (nI h.1 &&& 31) - nI 1 = nI (2 ^ h.1 - 1) ∧ (2 ^ h.1 - 1) / 2 ^ 8 < 256 ∧ (2 ^ h.1 - 1) % 2 ^ 8 < 256 ∧ 2 ^ h.1 - 1 < 65536 := by decide +kernel
/-- two bytes below 2 to the h -/
def s_hok2 (B : List Nat) (h a : Nat) : Bool := s_oc B a 0 ((2 ^ h - 1) / 2 ^ 8) && s_oc B (a + 1) 0 ((2 ^ h - 1) % 2 ^ 8)
def s_hat (B : List Nat) (h a : Nat) : Nat := if s_oc B a 0 ((2 ^ h - 1) / 2 ^ 8) = true then (if s_oc B (a + 1) 0 ((2 ^ h - 1) % 2 ^ 8) = true then a + 2 else a + 1) else a
def s_h2 (B : List Nat) (a : Nat) : Nat := s_sg B a * 2 ^ 8 + s_sg B (a + 1)
theorem s_oc_lt {B : List Nat} {a lo hi : Nat} (h : s_oc B a lo hi = true) : a < B.length ∧ lo ≤ s_sg B a ∧ s_sg B a ≤ hi := of_decide_eq_true h
theorem s_hat_le {B : List Nat} {h a : Nat} (hl : a ≤ B.length) : s_hat B h a ≤ B.length := by
  unfold s_hat
  split
  · rename_i q
    have := (s_oc_lt q).1
    split
    · rename_i q
      have := (s_oc_lt q).1
      omega
    · omega
  · omega
set_option maxHeartbeats 4000000 in
set_option maxRecDepth 20000 in
theorem c_highIn {Z : q_Z} {m : q_Mm} {d : Nat} {B : List Nat} {h a : Nat} (hO : Oct m 6 B) (ha : m.1 16 5 = nI a) (hl : a ≤ B.length) (hh : 4 ≤ h ∧ h ≤ 16) : q_V (q_g Z) mX0_highIn (d+1) 0 0 0 [some (.ref (q_ad Z 16)), some (.int (nI h)), none, none, none] [] (q_W Z m) (q_P Z fun r m2 => r = some (.int (q_b (s_hok2 B h a))) ∧ Ra m m2 (s_hat B h a) ∧ (s_hok2 B h a = true → m2.2.1 16 7 = lN (s_h2 B a))) := by
  have hb := hO.2.1
  obtain ⟨p1, p2, p3, p4⟩ := s_pw ⟨h, by omega⟩ hh.1
  have p1 : nI 1 <<< (nI h &&& 31) - nI 1 = nI (2 ^ h - 1) := p1
  have p2 : (2 ^ h - 1) / 2 ^ 8 < 256 := p2
  have p3 : (2 ^ h - 1) % 2 ^ 8 < 256 := p3
  have p4 : 2 ^ h - 1 < 65536 := p4
  refine q_iconst (pc' := 1) (v := nI 1) dX0_highIn_0 rfl rfl ?_
  refine q_iload_n (pc' := 2) dX0_highIn_1 rfl rfl ?_
  refine q_ishl (pc' := 3) dX0_highIn_2 rfl ?_
  refine q_iconst (pc' := 4) (v := nI 1) dX0_highIn_3 rfl rfl ?_
  refine q_isub (pc' := 5) dX0_highIn_4 rfl ?_
  rw [p1]
  refine q_istore_n (pc' := 6) (lv' := [_, _, _, _, _]) dX0_highIn_5 (by decide) rfl rfl ?_
  refine q_aload_n (pc' := 7) dX0_highIn_6 rfl rfl ?_
  refine q_iconst (pc' := 8) (v := nI 0) dX0_highIn_7 rfl rfl ?_
  refine q_iload_n (pc' := 9) dX0_highIn_8 rfl rfl ?_
  refine q_bipush (pc' := 11) (v := nI 8) dX0_highIn_9 rfl rfl ?_
  refine q_ishr (pc' := 12) dX0_highIn_11 rfl ?_
  rw [pk_shrN (by omega) (nI 8 &&& 31) 8 rfl]
  refine h_callV (pc' := 15) (M' := mX0_octetIn) (As := [_, _]) dX0_highIn_12 iX0_octetIn lX0_31 rfl rfl rfl rfl (Nat.le_of_ble_eq_true rfl) (Nat.le_of_ble_eq_true rfl) rfl rfl (c_octetIn hO ha hl (by decide) (by omega)) (fun r m' hq => ?_)
  obtain ⟨rfl, t1, e1⟩ := hq
  refine q_if_neB (tgt := 20) (pc' := 18) dX0_highIn_15 (by decide) rfl (fun c_15 => ?_) (fun c_15 => ?_)
  rotate_left
  · rw [if_neg (by rw [c_15]; decide)] at t1
    refine q_iconst (pc' := 19) (v := nI 0) dX0_highIn_18 rfl rfl ?_
    refine q_iret dX0_highIn_19 rfl (by first | exact q_nb0 | exact q_nb1 | exact q_nb _) ⟨_, rfl, by unfold s_hok2; rw [c_15]; rfl, by unfold s_hat; rw [if_neg (by rw [c_15]; decide)]; exact t1, fun z => by unfold s_hok2 at z; rw [c_15] at z; cases z⟩
  rw [if_pos c_15] at t1
  have e1 := e1 c_15
  have hlt := s_oc_lt c_15
  have hO1 := hO.fr t1.1 (by decide) (by decide)
  have hc := s_sg_lt hO a
  have hc1 := s_sg_lt hO (a + 1)
  refine q_aload_n (pc' := 21) dX0_highIn_20 rfl rfl ?_
  refine h_getjE (pc' := 24) dX0_highIn_21 fX0_35 rfl rfl (e1) rfl ?_
  refine q_lstore_n (pc' := 25) (lv' := [_, _, _, _, _]) dX0_highIn_24 (by decide) rfl rfl ?_
  refine q_aload_n (pc' := 26) dX0_highIn_25 rfl rfl ?_
  refine q_iconst (pc' := 27) (v := nI 0) dX0_highIn_26 rfl rfl ?_
  refine q_iload_n (pc' := 28) dX0_highIn_27 rfl rfl ?_
  refine q_sipush (pc' := 31) (v := nI 255) dX0_highIn_28 rfl rfl ?_
  refine q_iand (pc' := 32) dX0_highIn_31 rfl ?_
  rw [pk_andN (by omega) 8 rfl]
  obtain ⟨m1, hm1⟩ : ∃ z, z = m' := ⟨_, rfl⟩
  subst hm1
  refine h_callV (pc' := 35) (M' := mX0_octetIn) (As := [_, _]) dX0_highIn_32 iX0_octetIn lX0_31 rfl rfl rfl rfl (Nat.le_of_ble_eq_true rfl) (Nat.le_of_ble_eq_true rfl) rfl rfl (c_octetIn hO1 t1.2.2 (by omega) (by decide) (by omega)) (fun r m' hq => ?_)
  obtain ⟨rfl, t2, e2⟩ := hq
  refine q_if_neB (tgt := 40) (pc' := 38) dX0_highIn_35 (by decide) rfl (fun c_35 => ?_) (fun c_35 => ?_)
  rotate_left
  · rw [if_neg (by rw [c_35]; decide)] at t2
    refine q_iconst (pc' := 39) (v := nI 0) dX0_highIn_38 rfl rfl ?_
    refine q_iret dX0_highIn_39 rfl (by first | exact q_nb0 | exact q_nb1 | exact q_nb _) ⟨_, rfl, by unfold s_hok2; rw [c_35]; simp [q_b], by unfold s_hat; rw [if_pos c_15, if_neg (by rw [c_35]; decide)]; exact t1.tr t2, fun z => by unfold s_hok2 at z; rw [c_35] at z; simp at z⟩
  rw [if_pos c_35] at t2
  have e2 := e2 c_35
  refine q_aload_n (pc' := 41) dX0_highIn_40 rfl rfl ?_
  refine q_lload_n (pc' := 42) dX0_highIn_41 rfl rfl ?_
  refine q_bipush (pc' := 44) (v := nI 8) dX0_highIn_42 rfl rfl ?_
  refine q_lshl (pc' := 45) dX0_highIn_44 rfl rfl ?_
  refine q_aload_n (pc' := 46) dX0_highIn_45 rfl rfl ?_
  refine h_getjE (pc' := 49) dX0_highIn_46 fX0_35 rfl rfl (e2) rfl ?_
  refine q_lor (pc' := 50) dX0_highIn_49 rfl ?_
  rw [z_lo (by decide) (by omega) hc1]
  have ht : Ra m (sJ m' 16 7 (lN (s_sg B a * 2 ^ 8 + s_sg B (a + 1)))) (a + 1 + 1) := ⟨((t1.tr t2).1).J (by decide), (t1.tr t2).2.1, (t1.tr t2).2.2⟩
  refine h_putj (pc' := 53) dX0_highIn_50 fX0_35 rfl rfl rfl rfl rfl ?_
  refine q_iconst (pc' := 54) (v := nI 1) dX0_highIn_53 rfl rfl ?_
  refine q_iret dX0_highIn_54 rfl (by first | exact q_nb0 | exact q_nb1 | exact q_nb _) ⟨_, rfl, by unfold s_hok2; rw [c_15, c_35]; rfl, by unfold s_hat; rw [if_pos c_15, if_pos c_35]; exact ht, fun _ => rfl⟩
/-- a bit at a place; so many from p on, as one number -/
def s_bt (B : List Nat) (p : Nat) : Nat := s_sg B (p / 2 ^ 3) / 2 ^ (7 - p % 2 ^ 3) % 2 ^ 1
def s_bn (B : List Nat) (p : Nat) : Nat → Nat
  | 0 => 0
  | k + 1 => s_bn B p k * 2 ^ 1 + s_bt B (p + k)
theorem s_bt_lt (B : List Nat) (p : Nat) : s_bt B p < 2 ^ 1 := Nat.mod_lt _ (by decide)
theorem s_bn_lt (B : List Nat) (p : Nat) : ∀ k, s_bn B p k < 2 ^ k
  | 0 => Nat.two_pow_pos _
  | k + 1 => by
    have h1 := s_bn_lt B p k
    have h2 := s_bt_lt B (p + k)
    rw [Nat.pow_succ]
    show s_bn B p k * 2 ^ 1 + s_bt B (p + k) < _
    omega
theorem z_sh8 : ∀ k : Fin 8, ((nI k.1 &&& 31).toBitVec.smod 32).toNat = k.1 := by decide +kernel
set_option maxHeartbeats 4000000 in
set_option maxRecDepth 20000 in
theorem c_bitsIn0 {Z : q_Z} {m : q_Mm} {d : Nat} {B : List Nat} {a p w : Nat} (hO : Oct m 6 B) (ha : m.1 16 5 = nI a) (hp : m.1 16 6 = nI p) (hpl : p ≤ 8 * B.length) (hw : w ≤ 62) : q_V (q_g Z) mX0_bitsIn (d) 0 0 0 [some (.ref (q_ad Z 16)), some (.int (nI w)), none, none, none, none] [] (q_W Z m) (q_P Z fun r m2 => r = some (.int (q_b (decide (p + w ≤ 8 * B.length)))) ∧ Fr [16] m m2 ∧ Kp 16 [5, 6] m m2 ∧ m2.1 16 5 = nI (if p + w ≤ 8 * B.length then a else B.length) ∧ (p + w ≤ 8 * B.length → m2.1 16 6 = nI (p + w) ∧ m2.2.1 16 7 = lN (s_bn B p w))) := by
  have hb := hO.2.1
  refine q_lconst (pc' := 1) (v := 0) dX0_bitsIn_0 rfl rfl ?_
  refine q_lstore_n (pc' := 2) (lv' := [_, _, _, _, _, _]) dX0_bitsIn_1 (by decide) rfl rfl ?_
  refine q_iconst (pc' := 3) (v := nI 0) dX0_bitsIn_2 rfl rfl ?_
  refine q_istore (pc' := 5) (lv' := [_, _, _, _, _, _]) dX0_bitsIn_3 (by decide) rfl rfl ?_
  suffices h : ∀ g i m1 u, i + g = w → p + i ≤ 8 * B.length → Fr [16] m m1 → Kp 16 [5, 6] m m1 → m1.1 16 5 = nI a → m1.1 16 6 = nI (p + i) → q_V (q_g Z) mX0_bitsIn (d) 0 0 5 [some (.ref (q_ad Z 16)), some (.int (nI w)), some (.long (lN (s_bn B p i))), none, some (.int (nI i)), u] [] (q_W Z (m1)) (q_P Z fun r m2 => r = some (.int (q_b (decide (p + w ≤ 8 * B.length)))) ∧ Fr [16] m m2 ∧ Kp 16 [5, 6] m m2 ∧ m2.1 16 5 = nI (if p + w ≤ 8 * B.length then a else B.length) ∧ (p + w ≤ 8 * B.length → m2.1 16 6 = nI (p + w) ∧ m2.2.1 16 7 = lN (s_bn B p w))) from h w 0 m none (by omega) hpl Fr.rf Kp.rf ha hp
  intro g
  induction g with
  | zero =>
    intro i m1 u hi hle f1 k1 e5 e6
    obtain rfl : i = w := by omega
    refine q_iload (pc' := 7) dX0_bitsIn_5 rfl rfl ?_
    refine q_iload_n (pc' := 8) dX0_bitsIn_7 rfl rfl ?_
    refine q_icmp_geN (tgt := 89) (pc' := 11) dX0_bitsIn_8 (by decide) rfl (by omega) (fun c_8 => ?_) (fun c_8 => ?_)
    · rw [if_pos hle]
      refine q_aload_n (pc' := 90) dX0_bitsIn_89 rfl rfl ?_
      refine q_lload_n (pc' := 91) dX0_bitsIn_90 rfl rfl ?_
      refine h_putj (pc' := 94) dX0_bitsIn_91 fX0_35 rfl rfl rfl rfl rfl ?_
      refine q_iconst (pc' := 95) (v := nI 1) dX0_bitsIn_94 rfl rfl ?_
      refine q_iret dX0_bitsIn_95 rfl (by first | exact q_nb0 | exact q_nb1 | exact q_nb _) ⟨_, rfl, z_t hle, f1.J (by decide), k1, e5, fun _ => ⟨e6, rfl⟩⟩
    · omega
  | succ g ih =>
    intro i m1 u hi hle f1 k1 e5 e6
    have hO1 := hO.fr f1 (by decide) (by decide)
    refine q_iload (pc' := 7) dX0_bitsIn_5 rfl rfl ?_
    refine q_iload_n (pc' := 8) dX0_bitsIn_7 rfl rfl ?_
    refine q_icmp_geN (tgt := 89) (pc' := 11) dX0_bitsIn_8 (by decide) rfl (by omega) (fun c_8 => ?_) (fun c_8 => ?_)
    · omega
    refine q_aload_n (pc' := 12) dX0_bitsIn_11 rfl rfl ?_
    refine h_getiE (pc' := 15) dX0_bitsIn_12 fX0_71 rfl rfl (e6) rfl ?_
    refine q_iconst (pc' := 16) (v := nI 3) dX0_bitsIn_15 rfl rfl ?_
    refine q_ishr (pc' := 17) dX0_bitsIn_16 rfl ?_
    rw [pk_shrN (by omega) (nI 3 &&& 31) 3 rfl]
    refine q_istore (pc' := 19) (lv' := [_, _, _, _, _, _]) dX0_bitsIn_17 (by decide) rfl rfl ?_
    refine q_iload (pc' := 21) dX0_bitsIn_19 rfl rfl ?_
    refine q_aload_n (pc' := 22) dX0_bitsIn_21 rfl rfl ?_
    refine h_getr (pc' := 25) dX0_bitsIn_22 fX0_19 rfl rfl rfl ?_
    refine h_getiE (pc' := 28) dX0_bitsIn_25 fX0_50 rfl rfl (hO1.1) rfl ?_
    refine q_icmp_ltN (tgt := 44) (pc' := 31) dX0_bitsIn_28 (by decide) rfl (by omega) (fun c_28 => ?_) (fun c_28 => ?_)
    rotate_left
    · rw [if_neg (show ¬ p + w ≤ 8 * B.length by omega)]
      refine q_aload_n (pc' := 32) dX0_bitsIn_31 rfl rfl ?_
      refine q_aload_n (pc' := 33) dX0_bitsIn_32 rfl rfl ?_
      refine h_getr (pc' := 36) dX0_bitsIn_33 fX0_19 rfl rfl rfl ?_
      refine h_getiE (pc' := 39) dX0_bitsIn_36 fX0_50 rfl rfl (hO1.1) rfl ?_
      refine h_puti (pc' := 42) dX0_bitsIn_39 fX0_27 rfl rfl rfl rfl rfl ?_
      refine q_iconst (pc' := 43) (v := nI 0) dX0_bitsIn_42 rfl rfl ?_
      refine q_iret dX0_bitsIn_43 rfl (by first | exact q_nb0 | exact q_nb1 | exact q_nb _) ⟨_, rfl, z_f (by omega), f1.I (by decide), kp_I k1 (by decide), rfl, fun z => absurd z (by omega)⟩
    have hc := s_sg_lt hO ((p + i) / 2 ^ 3)
    have hmod : (p + i) % 2 ^ 3 < 2 ^ 3 := Nat.mod_lt _ (by decide)
    have hbn := s_bn_lt B p i
    have hpw : 2 ^ i ≤ 2 ^ 61 := Nat.pow_le_pow_right (by decide) (by omega)
    have hbt := s_bt_lt B (p + i)
    refine q_lload_n (pc' := 45) dX0_bitsIn_44 rfl rfl ?_
    refine q_iconst (pc' := 46) (v := nI 1) dX0_bitsIn_45 rfl rfl ?_
    refine q_lshl (pc' := 47) dX0_bitsIn_46 rfl rfl ?_
    refine q_aload_n (pc' := 48) dX0_bitsIn_47 rfl rfl ?_
    refine h_getr (pc' := 51) dX0_bitsIn_48 fX0_19 rfl rfl rfl ?_
    refine h_getr (pc' := 54) dX0_bitsIn_51 fX0_68 rfl rfl rfl ?_
    refine q_iload (pc' := 56) dX0_bitsIn_54 rfl rfl ?_
    refine h_ialdE (pc' := 57) dX0_bitsIn_56 rfl (rfl) (by omega) (by decide) (hO1.2.2.1 _ (by omega)) rfl ?_
    refine q_bipush (pc' := 59) (v := nI 7) dX0_bitsIn_57 rfl rfl ?_
    refine q_aload_n (pc' := 60) dX0_bitsIn_59 rfl rfl ?_
    refine h_getiE (pc' := 63) dX0_bitsIn_60 fX0_71 rfl rfl (e6) rfl ?_
    refine q_bipush (pc' := 65) (v := nI 7) dX0_bitsIn_63 rfl rfl ?_
    refine q_iand (pc' := 66) dX0_bitsIn_65 rfl ?_
    rw [pk_andN (by omega) 3 rfl]
    refine q_isubN (pc' := 67) dX0_bitsIn_66 (by omega) rfl ?_
    refine q_ishr (pc' := 68) dX0_bitsIn_67 rfl ?_
    rw [show B.getD ((p + i) / 2 ^ 3) 0 = s_sg B ((p + i) / 2 ^ 3) from rfl, pk_shrN (by omega) (nI (7 - (p + i) % 2 ^ 3) &&& 31) (7 - (p + i) % 2 ^ 3) (z_sh8 ⟨7 - (p + i) % 2 ^ 3, by omega⟩)]
    refine q_iconst (pc' := 69) (v := nI 1) dX0_bitsIn_68 rfl rfl ?_
    refine q_iand (pc' := 70) dX0_bitsIn_69 rfl ?_
    rw [pk_andN (Nat.lt_of_le_of_lt (Nat.div_le_self _ _) (by omega)) 1 rfl]
    refine q_i2l (pc' := 71) dX0_bitsIn_70 rfl ?_
    refine q_lor (pc' := 72) dX0_bitsIn_71 rfl ?_
    rw [show (nI (s_sg B ((p + i) / 2 ^ 3) / 2 ^ (7 - (p + i) % 2 ^ 3) % 2 ^ 1)).toInt64 = lN (s_bt B (p + i)) from nI_l (Nat.lt_of_lt_of_le (Nat.mod_lt _ (by decide)) (by decide)), z_lo (by decide) (by omega) hbt]
    refine q_lstore_n (pc' := 73) (lv' := [_, _, _, _, _, _]) dX0_bitsIn_72 (by decide) rfl rfl ?_
    refine q_aload_n (pc' := 74) dX0_bitsIn_73 rfl rfl ?_
    refine q_dup (pc' := 75) dX0_bitsIn_74 rfl rfl ?_
    refine h_getiE (pc' := 78) dX0_bitsIn_75 fX0_71 rfl rfl (e6) rfl ?_
    refine q_iconst (pc' := 79) (v := nI 1) dX0_bitsIn_78 rfl rfl ?_
    refine q_iaddN (pc' := 80) dX0_bitsIn_79 rfl ?_
    refine h_puti (pc' := 83) dX0_bitsIn_80 fX0_71 rfl rfl rfl rfl rfl ?_
    refine q_iincN (pc' := 86) (j := 1) (lv' := [_, _, _, _, _, _]) dX0_bitsIn_83 rfl (by decide) rfl rfl ?_
    refine q_goto (pc' := 5) dX0_bitsIn_86 (by decide) ?_
    exact ih (i + 1) _ _ (by omega) (by omega) (f1.I (by decide)) (kp_I k1 (by decide)) e5 rfl
theorem z_neg7 {p : Nat} (h : p < 2 ^ 31) : -(nI p) &&& nI 7 = nI ((8 - p % 8) % 8) := by
  rw [pk_and _ 3 rfl]
  congr 1
  show (-(nI p)).toBitVec.toNat % 2 ^ 3 = _
  rw [Int32.toBitVec_neg, BitVec.toNat_neg, pk_tn (by omega)]
  omega
/-- bits of filling behind the place p are 0; the byte behind them -/
def s_flk (p : Nat) : Nat := (8 - p % 8) % 8
def s_fl (B : List Nat) (p : Nat) : Bool := decide (s_bn B p (s_flk p) = 0)
def s_fat (B : List Nat) (p : Nat) : Nat := if s_fl B p = true then (p + 7) / 8 else (p + 7) / 8 - 1
set_option maxHeartbeats 4000000 in
set_option maxRecDepth 20000 in
theorem c_fillingIn0 {Z : q_Z} {m : q_Mm} {d : Nat} {B : List Nat} {a p : Nat} (hO : Oct m 6 B) (ha : m.1 16 5 = nI a) (hp : m.1 16 6 = nI p) (hpl : p ≤ 8 * B.length) : q_V (q_g Z) mX0_fillingIn (d+1) 0 0 0 [some (.ref (q_ad Z 16))] [] (q_W Z m) (q_P Z fun r m2 => r = some (.int (q_b (s_fl B p))) ∧ Fr [16] m m2 ∧ Kp 16 [5, 6] m m2 ∧ m2.1 16 5 = nI (s_fat B p)) := by
  have hb := hO.2.1
  have hk : s_flk p ≤ 7 := by unfold s_flk; omega
  have hpk : p + s_flk p = 8 * ((p + 7) / 8) := by unfold s_flk; omega
  have hin : p + s_flk p ≤ 8 * B.length := by omega
  have hbn := s_bn_lt B p (s_flk p)
  have hpw : 2 ^ s_flk p ≤ 2 ^ 7 := Nat.pow_le_pow_right (by decide) hk
  refine q_aload_n (pc' := 1) dX0_fillingIn_0 rfl rfl ?_
  refine q_aload_n (pc' := 2) dX0_fillingIn_1 rfl rfl ?_
  refine h_getiE (pc' := 5) dX0_fillingIn_2 fX0_71 rfl rfl (hp) rfl ?_
  refine q_ineg (pc' := 6) dX0_fillingIn_5 rfl ?_
  refine q_bipush (pc' := 8) (v := nI 7) dX0_fillingIn_6 rfl rfl ?_
  refine q_iand (pc' := 9) dX0_fillingIn_8 rfl ?_
  rw [z_neg7 (by omega), show (8 - p % 8) % 8 = s_flk p from rfl]
  refine h_callV (pc' := 12) (M' := mX0_bitsIn) (As := [_]) dX0_fillingIn_9 iX0_bitsIn lX0_74 rfl rfl rfl rfl (Nat.le_of_ble_eq_true rfl) (Nat.le_of_ble_eq_true rfl) rfl rfl (c_bitsIn0 hO ha hp hpl (by omega)) (fun r m' hq => ?_)
  obtain ⟨rfl, f1, k1, e5, e6⟩ := hq
  rw [if_pos hin] at e5
  obtain ⟨e6, e7⟩ := e6 hin
  rw [hpk] at e6
  refine q_if_neB (tgt := 17) (pc' := 15) dX0_fillingIn_12 (by decide) rfl (fun c_12 => ?_) (fun c_12 => ?_)
  rotate_left
  · exact absurd hin (of_decide_eq_false c_12)
  refine q_aload_n (pc' := 18) dX0_fillingIn_17 rfl rfl ?_
  refine h_getjE (pc' := 21) dX0_fillingIn_18 fX0_35 rfl rfl (e7) rfl ?_
  refine q_lconst (pc' := 22) (v := 0) dX0_fillingIn_21 rfl rfl ?_
  refine q_lcmp (pc' := 23) dX0_fillingIn_22 rfl ?_
  refine q_if_eqL (tgt := 40) (pc' := 26) dX0_fillingIn_23 (by decide) rfl (fun c_23 => ?_) (fun c_23 => ?_)
  · have hz : s_fl B p = true := by
      refine decide_eq_true ?_
      have h := congrArg s_N c_23
      rw [show s_N (lN (s_bn B p (s_flk p))) = s_bn B p (s_flk p) from s_N_of _ (by omega)] at h
      exact h
    refine q_aload_n (pc' := 41) dX0_fillingIn_40 rfl rfl ?_
    refine q_aload_n (pc' := 42) dX0_fillingIn_41 rfl rfl ?_
    refine h_getiE (pc' := 45) dX0_fillingIn_42 fX0_71 rfl rfl (e6) rfl ?_
    refine q_iconst (pc' := 46) (v := nI 3) dX0_fillingIn_45 rfl rfl ?_
    refine q_ishr (pc' := 47) dX0_fillingIn_46 rfl ?_
    rw [pk_shrN (by omega) (nI 3 &&& 31) 3 rfl]
    refine h_puti (pc' := 50) dX0_fillingIn_47 fX0_27 rfl rfl rfl rfl rfl ?_
    refine q_iconst (pc' := 51) (v := nI 1) dX0_fillingIn_50 rfl rfl ?_
    refine q_iret dX0_fillingIn_51 rfl (by first | exact q_nb0 | exact q_nb1 | exact q_nb _) ⟨_, rfl, by rw [hz]; rfl, f1.I (by decide), kp_I k1 (by decide), by show nI _ = _; unfold s_fat; rw [if_pos hz]; congr 1; omega⟩
  · have hz : s_fl B p = false := by
      refine decide_eq_false (fun z => c_23 ?_)
      rw [z]; rfl
    have h1 : 1 ≤ (p + 7) / 8 := by
      rcases Nat.eq_zero_or_pos ((p + 7) / 8) with q | q
      · have h0 : s_flk p = 0 := by omega
        exfalso
        have : s_fl B p = true := by unfold s_fl; rw [h0]; rfl
        rw [hz] at this
        cases this
      · exact q
    refine q_aload_n (pc' := 27) dX0_fillingIn_26 rfl rfl ?_
    refine q_aload_n (pc' := 28) dX0_fillingIn_27 rfl rfl ?_
    refine h_getiE (pc' := 31) dX0_fillingIn_28 fX0_71 rfl rfl (e6) rfl ?_
    refine q_iconst (pc' := 32) (v := nI 1) dX0_fillingIn_31 rfl rfl ?_
    refine q_isubN (pc' := 33) dX0_fillingIn_32 (by omega) rfl ?_
    refine q_iconst (pc' := 34) (v := nI 3) dX0_fillingIn_33 rfl rfl ?_
    refine q_ishr (pc' := 35) dX0_fillingIn_34 rfl ?_
    rw [pk_shrN (by omega) (nI 3 &&& 31) 3 rfl]
    refine h_puti (pc' := 38) dX0_fillingIn_35 fX0_27 rfl rfl rfl rfl rfl ?_
    refine q_iconst (pc' := 39) (v := nI 0) dX0_fillingIn_38 rfl rfl ?_
    refine q_iret dX0_fillingIn_39 rfl (by first | exact q_nb0 | exact q_nb1 | exact q_nb _) ⟨_, rfl, by rw [hz]; rfl, f1.I (by decide), kp_I k1 (by decide), by show nI _ = _; unfold s_fat; rw [if_neg (by rw [hz]; decide)]; congr 1; omega⟩
/-- the CHECK of the bytes ahead of a place -/
def s_cN (B : List Nat) : Nat → Nat
  | 0 => 7
  | k + 1 => (31 * s_cN B k + s_sg B k) % 251
theorem s_cN_lt (B : List Nat) : ∀ k, s_cN B k < 251
  | 0 => by show (7 : Nat) < 251; decide
  | k + 1 => Nat.mod_lt _ (by decide)
theorem s_chk_N {f : Nat → Int32} {B : List Nat} : ∀ k, (∀ i, i < k → f i = nI (s_sg B i) ∧ s_sg B i < 256) → s_chk f k = nI (s_cN B k)
  | 0, _ => rfl
  | k + 1, h => by
    have h1 := s_cN_lt B k
    obtain ⟨h2, h3⟩ := h k (by omega)
    unfold s_chk
    rw [s_chk_N k (fun i hi => h i (by omega)), h2, pk_mul, nI_add, pk_rem (by omega) (by decide) (by decide)]
    rfl
set_option maxHeartbeats 4000000 in
set_option maxRecDepth 20000 in
theorem c_checkIn {Z : q_Z} {m : q_Mm} {d : Nat} {B : List Nat} {a : Nat} (hO : Oct m 6 B) (ha : m.1 16 5 = nI a) (hl : a ≤ B.length) : q_V (q_g Z) mX0_checkIn (d+1) 0 0 0 [some (.ref (q_ad Z 16)), none] [] (q_W Z m) (q_P Z fun r m2 => r = some (.int (q_b (s_oc B a (s_cN B a) (s_cN B a)))) ∧ Ra m m2 (if s_oc B a (s_cN B a) (s_cN B a) = true then a + 1 else a)) := by
  have hb := hO.2.1
  have hc := s_cN_lt B a
  refine q_aload_n (pc' := 1) dX0_checkIn_0 rfl rfl ?_
  refine h_getr (pc' := 4) dX0_checkIn_1 fX0_19 rfl rfl rfl ?_
  refine q_aload_n (pc' := 5) dX0_checkIn_4 rfl rfl ?_
  refine h_getiE (pc' := 8) dX0_checkIn_5 fX0_27 rfl rfl (ha) rfl ?_
  refine h_callV (pc' := 11) (M' := mX5_checkAt) (As := [_]) dX0_checkIn_8 iX5_checkAt lX0_64 rfl rfl rfl rfl (Nat.le_of_ble_eq_true rfl) (Nat.le_of_ble_eq_true rfl) rfl rfl ((c_checkAt_6 hO.1 hb hl).up (Nat.zero_le _)) (fun r m' hq => ?_)
  obtain ⟨rfl, hmm⟩ := hq
  subst m'
  rw [s_chk_N a (fun i hi => ⟨hO.2.2.1 i (by omega), s_sg_lt hO i⟩)]
  refine q_istore_n (pc' := 12) (lv' := [_, _]) dX0_checkIn_11 (by decide) rfl rfl ?_
  refine q_aload_n (pc' := 13) dX0_checkIn_12 rfl rfl ?_
  refine q_iload_n (pc' := 14) dX0_checkIn_13 rfl rfl ?_
  refine q_iload_n (pc' := 15) dX0_checkIn_14 rfl rfl ?_
  refine h_callV (pc' := 18) (M' := mX0_octetIn) (As := [_, _]) dX0_checkIn_15 iX0_octetIn lX0_31 rfl rfl rfl rfl (Nat.le_of_ble_eq_true rfl) (Nat.le_of_ble_eq_true rfl) rfl rfl (c_octetIn hO ha hl (by omega) (by omega)) (fun r m' hq => ?_)
  obtain ⟨rfl, t1, -⟩ := hq
  refine q_iret dX0_checkIn_18 rfl (by first | exact q_nb0 | exact q_nb1 | exact q_nb _) ⟨_, rfl, rfl, t1⟩
