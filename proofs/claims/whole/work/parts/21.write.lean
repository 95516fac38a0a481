/-! ===== BlockWriter ===== -/
abbrev s_B := List Nat × Nat × Nat
def s_bit (v : Int64) (k : Nat) : Nat := (((v.toUInt64 >>> ((nI k).toInt64.toUInt64 &&& Int64.toUInt64 63)).toInt64 &&& 1).toInt32).toBitVec.toNat
theorem z_and1 (x : Int64) : (x &&& 1).toInt32.toBitVec.toNat = x.toBitVec.toNat % 2 := by
  rw [Int64.toBitVec_toInt32, BitVec.signExtend_eq_setWidth_of_le _ (by decide), BitVec.toNat_setWidth, Int64.toBitVec_and, BitVec.toNat_and, show (1 : Int64).toBitVec.toNat = 2 ^ 1 - 1 from rfl, Nat.and_two_pow_sub_one_eq_mod]
  omega
theorem s_bit_lt (v : Int64) (k : Nat) : s_bit v k < 2 := by unfold s_bit; rw [z_and1]; omega
theorem z_ofN (x : Int32) : x = nI x.toBitVec.toNat := by
  apply Int32.toBitVec_inj.mp
  apply BitVec.eq_of_toNat_eq
  rw [pk_tn x.toBitVec.isLt]
theorem z_pb (v : Int64) (k : Nat) {p : Nat} (hp : p < 2 ^ 20) : nI p <<< (nI 1 &&& 31) ||| ((v.toUInt64 >>> ((nI k).toInt64.toUInt64 &&& Int64.toUInt64 63)).toInt64 &&& 1).toInt32 = nI (2 * p + s_bit v k) := by
  have hb := s_bit_lt v k
  rw [z_ofN ((v.toUInt64 >>> ((nI k).toInt64.toUInt64 &&& Int64.toUInt64 63)).toInt64 &&& 1).toInt32]
  show _ ||| nI (s_bit v k) = _
  rw [pk_shlN (nI 1 &&& 31) 1 rfl (by omega)]
  apply Int32.toBitVec_inj.mp
  apply BitVec.eq_of_toNat_eq
  rw [Int32.toBitVec_or, BitVec.toNat_or, pk_tn (by omega), pk_tn (by omega), pk_tn (by omega), Nat.mul_comm p]
  exact (Nat.two_pow_add_eq_or_of_lt (i := 1) hb p).symm
theorem z_b {v : Nat} (h : v < 256) : nI v &&& nI 255 = nI v := by rw [pk_andN (by omega) 8 rfl, Nat.mod_eq_of_lt h]
theorem z_m1 (x : Int32) : x + Int32.ofInt (-1) = x - nI 1 := by
  rw [Int32.sub_eq_add_neg]
  rfl
def s_push (q : s_B) (b : Nat) : s_B := if q.2.2 = 7 then (q.1 ++ [2 * q.2.1 + b], 0, 0) else (q.1, 2 * q.2.1 + b, q.2.2 + 1)
def s_bits (v : Int64) : Nat → s_B → s_B
  | 0, q => q
  | n + 1, q => s_bits v n (s_push q (s_bit v n))
def Bw (m : q_Mm) (q : s_B) : Prop := Oct m 8 q.1 ∧ m.1 212 1 = nI q.2.1 ∧ m.1 212 2 = nI q.2.2 ∧ q.2.1 < 2 ^ q.2.2 ∧ q.2.2 < 8
theorem s_push_len (q : s_B) (b : Nat) (h : q.2.2 < 8) : (s_push q b).1.length * 8 + (s_push q b).2.2 = q.1.length * 8 + q.2.2 + 1 ∧ (s_push q b).2.2 < 8 := by
  unfold s_push
  split
  · simp only [List.length_append, List.length_singleton]; omega
  · simp only []; omega
theorem s_bits_len (v : Int64) : ∀ n (q : s_B), q.2.2 < 8 → (s_bits v n q).1.length * 8 + (s_bits v n q).2.2 = q.1.length * 8 + q.2.2 + n ∧ (s_bits v n q).2.2 < 8
  | 0, q, h => ⟨rfl, h⟩
  | n + 1, q, h => by
    have h1 := s_push_len q (s_bit v n) h
    have h2 := s_bits_len v n (s_push q (s_bit v n)) h1.2
    unfold s_bits
    omega
def s_fill (q : s_B) : s_B := if 0 < q.2.2 then s_bits 0 (8 - q.2.2) q else q
theorem s_fill_len (q : s_B) (h : q.2.2 < 8) : (s_fill q).2.2 = 0 ∧ (s_fill q).1.length * 8 ≤ q.1.length * 8 + q.2.2 + 7 := by
  unfold s_fill
  split
  · have := s_bits_len 0 (8 - q.2.2) q h
    omega
  · omega
set_option maxHeartbeats 4000000 in
set_option maxRecDepth 20000 in
theorem c_bitsOut {Z : q_Z} {m : q_Mm} {d : Nat} {n : Nat} {v : Int64} {q : s_B} (hB : Bw m q) (hn : n ≤ 64) (hl : q.1.length * 8 + q.2.2 + n ≤ 2560) : q_V (q_g Z) mX1_bitsOut (d+1) 0 0 0 [some (.ref (q_ad Z 212)), some (.long v), none, some (.int (nI n)), none] [] (q_W Z m) (q_P Z fun r m2 => r = none ∧ Fr [212, 8, 9] m m2 ∧ Bw m2 (s_bits v n q)) := by
  refine q_iload_n (pc' := 1) dX1_bitsOut_0 rfl rfl ?_
  refine q_iconst (pc' := 2) (v := nI 1) dX1_bitsOut_1 rfl rfl ?_
  refine q_isub (pc' := 3) dX1_bitsOut_2 rfl ?_
  refine q_istore (pc' := 5) (lv' := [_, _, _, _, _]) dX1_bitsOut_3 (by decide) rfl rfl ?_
  suffices h : ∀ c q1 (m1 : q_Mm), c ≤ 64 → q1.1.length * 8 + q1.2.2 + c ≤ 2560 → Fr [212, 8, 9] m m1 → Bw m1 q1 → s_bits v c q1 = s_bits v n q → q_V (q_g Z) mX1_bitsOut (d+1) 0 0 5 [some (.ref (q_ad Z 212)), some (.long v), none, some (.int (nI n)), some (.int (nI c - nI 1))] [] (q_W Z (m1)) (q_P Z fun r m2 => r = none ∧ Fr [212, 8, 9] m m2 ∧ Bw m2 (s_bits v n q)) from h n q m hn hl Fr.rf hB rfl
  intro c
  induction c with
  | zero =>
    intro q1 m1 hc hl f1 B1 hs
    refine q_iload (pc' := 7) dX1_bitsOut_5 rfl rfl ?_
    refine q_if_lt (tgt := 74) (pc' := 10) dX1_bitsOut_7 (by decide) rfl (fun c_7 => ?_) (fun c_7 => ?_)
    · refine q_vret dX1_bitsOut_74 rfl ⟨_, rfl, rfl, f1, hs ▸ B1⟩
    · exact absurd (by decide) c_7
  | succ c ih =>
    intro q1 m1 hc hl f1 B1 hs
    obtain ⟨O1, e1, e2, hp, hk⟩ := B1
    have hp2 : 2 ^ q1.2.2 ≤ 2 ^ 7 := Nat.pow_le_pow_right (by decide) (by omega)
    have hbt := s_bit_lt v c
    have hsl := s_push_len q1 (s_bit v c) hk
    rw [pk_sub (by omega), Nat.add_sub_cancel]
    refine q_iload (pc' := 7) dX1_bitsOut_5 rfl rfl ?_
    refine q_if_lt (tgt := 74) (pc' := 10) dX1_bitsOut_7 (by decide) rfl (fun c_7 => ?_) (fun c_7 => ?_)
    · exact absurd c_7 (nI_pos (by omega))
    refine q_aload_n (pc' := 11) dX1_bitsOut_10 rfl rfl ?_
    refine q_aload_n (pc' := 12) dX1_bitsOut_11 rfl rfl ?_
    refine h_getiE (pc' := 15) dX1_bitsOut_12 fX1_50 rfl rfl (e1) rfl ?_
    refine q_iconst (pc' := 16) (v := nI 1) dX1_bitsOut_15 rfl rfl ?_
    refine q_ishl (pc' := 17) dX1_bitsOut_16 rfl ?_
    refine q_lload_n (pc' := 18) dX1_bitsOut_17 rfl rfl ?_
    refine q_iload (pc' := 20) dX1_bitsOut_18 rfl rfl ?_
    refine q_lushr (pc' := 21) dX1_bitsOut_20 rfl rfl ?_
    refine q_lconst (pc' := 22) (v := 1) dX1_bitsOut_21 rfl rfl ?_
    refine q_land (pc' := 23) dX1_bitsOut_22 rfl ?_
    refine q_l2i (pc' := 24) dX1_bitsOut_23 rfl ?_
    refine q_ior (pc' := 25) dX1_bitsOut_24 rfl ?_
    rw [z_pb v c (by omega)]
    refine h_puti (pc' := 28) dX1_bitsOut_25 fX1_50 rfl rfl rfl rfl rfl ?_
    refine q_aload_n (pc' := 29) dX1_bitsOut_28 rfl rfl ?_
    refine q_dup (pc' := 30) dX1_bitsOut_29 rfl rfl ?_
    refine h_getiE (pc' := 33) dX1_bitsOut_30 fX1_53 rfl rfl (e2) rfl ?_
    refine q_iconst (pc' := 34) (v := nI 1) dX1_bitsOut_33 rfl rfl ?_
    refine q_iaddN (pc' := 35) dX1_bitsOut_34 rfl ?_
    refine h_puti (pc' := 38) dX1_bitsOut_35 fX1_53 rfl rfl rfl rfl rfl ?_
    refine q_aload_n (pc' := 39) dX1_bitsOut_38 rfl rfl ?_
    refine h_getiE (pc' := 42) dX1_bitsOut_39 fX1_53 rfl rfl ((show _ = nI (q1.2.2 + 1) from rfl)) rfl ?_
    refine q_bipush (pc' := 44) (v := nI 8) dX1_bitsOut_42 rfl rfl ?_
    refine q_icmp_neN (tgt := 68) (pc' := 47) dX1_bitsOut_44 (by decide) rfl (by omega) (fun c_44 => ?_) (fun c_44 => ?_)
    · have e : s_push q1 (s_bit v c) = (q1.1, 2 * q1.2.1 + s_bit v c, q1.2.2 + 1) := by unfold s_push; rw [if_neg (by omega)]
      refine q_iinc (pc' := 71) (lv' := [_, _, _, _, _]) dX1_bitsOut_68 rfl (by decide) rfl rfl ?_
      refine q_goto (pc' := 5) dX1_bitsOut_71 (by decide) ?_
      rw [z_m1]
      refine ih (s_push q1 (s_bit v c)) _ (by omega) (by omega) ((f1.I (by decide)).I (by decide)) ?_ hs
      rw [e]
      refine ⟨O1, rfl, rfl, ?_, ?_⟩
      · show 2 * q1.2.1 + s_bit v c < 2 ^ (q1.2.2 + 1)
        rw [Nat.pow_succ]; omega
      · show q1.2.2 + 1 < 8
        omega
    · have e : s_push q1 (s_bit v c) = (q1.1 ++ [2 * q1.2.1 + s_bit v c], 0, 0) := by unfold s_push; rw [if_pos (by omega)]
      have O2 : Oct (sI (sI m1 212 1 (nI (2 * q1.2.1 + s_bit v c))) 212 2 (nI (q1.2.2 + 1))) 8 q1.1 := O1
      refine q_aload_n (pc' := 48) dX1_bitsOut_47 rfl rfl ?_
      refine h_getr (pc' := 51) dX1_bitsOut_48 fX1_9 rfl rfl rfl ?_
      refine q_aload_n (pc' := 52) dX1_bitsOut_51 rfl rfl ?_
      refine h_geti (pc' := 55) dX1_bitsOut_52 fX1_50 rfl rfl rfl ?_
      refine h_callV (pc' := 58) (M' := mX5_append) (As := [_]) dX1_bitsOut_55 iX5_append lX1_30 rfl rfl rfl rfl (Nat.le_of_ble_eq_true rfl) (Nat.le_of_ble_eq_true rfl) rfl rfl (c_append_8 (b := 2 * q1.2.1 + s_bit v c) O2 (by omega) (z_b (by omega)) (by omega)) (fun r m' hq => ?_)
      obtain ⟨rfl, f2, O3⟩ := hq
      refine q_aload_n (pc' := 59) dX1_bitsOut_58 rfl rfl ?_
      refine q_iconst (pc' := 60) (v := nI 0) dX1_bitsOut_59 rfl rfl ?_
      refine h_puti (pc' := 63) dX1_bitsOut_60 fX1_50 rfl rfl rfl rfl rfl ?_
      refine q_aload_n (pc' := 64) dX1_bitsOut_63 rfl rfl ?_
      refine q_iconst (pc' := 65) (v := nI 0) dX1_bitsOut_64 rfl rfl ?_
      refine h_puti (pc' := 68) dX1_bitsOut_65 fX1_53 rfl rfl rfl rfl rfl ?_
      refine q_iinc (pc' := 71) (lv' := [_, _, _, _, _]) dX1_bitsOut_68 rfl (by decide) rfl rfl ?_
      refine q_goto (pc' := 5) dX1_bitsOut_71 (by decide) ?_
      rw [z_m1]
      refine ih (s_push q1 (s_bit v c)) _ (by omega) (by omega) (((((f1.I (by decide)).I (by decide)).trans (f2.mono (by decide))).I (by decide)).I (by decide)) ?_ hs
      rw [e]
      exact ⟨O3, rfl, rfl, Nat.one_pos, Nat.succ_pos 7⟩
set_option maxHeartbeats 4000000 in
set_option maxRecDepth 20000 in
theorem c_fillingOut {Z : q_Z} {m : q_Mm} {d : Nat} {q : s_B} (hB : Bw m q) (hl : q.1.length * 8 + q.2.2 + 8 ≤ 2560) : q_V (q_g Z) mX1_fillingOut (d+2) 0 0 0 [some (.ref (q_ad Z 212))] [] (q_W Z m) (q_P Z fun r m2 => r = none ∧ Fr [212, 8, 9] m m2 ∧ Bw m2 (s_fill q)) := by
  have hk := hB.2.2.2.2
  refine q_aload_n (pc' := 1) dX1_fillingOut_0 rfl rfl ?_
  refine h_getiE (pc' := 4) dX1_fillingOut_1 fX1_53 rfl rfl (hB.2.2.1) rfl ?_
  refine q_if_leN (tgt := 19) (pc' := 7) dX1_fillingOut_4 (by decide) rfl (by omega) (fun c_4 => ?_) (fun c_4 => ?_)
  · have e : s_fill q = q := by unfold s_fill; rw [if_neg (by omega)]
    refine q_vret dX1_fillingOut_19 rfl ⟨_, rfl, rfl, Fr.rf, by rw [e]; exact hB⟩
  · have e : s_fill q = s_bits 0 (8 - q.2.2) q := by unfold s_fill; rw [if_pos (by omega)]
    refine q_aload_n (pc' := 8) dX1_fillingOut_7 rfl rfl ?_
    refine q_lconst (pc' := 9) (v := 0) dX1_fillingOut_8 rfl rfl ?_
    refine q_bipush (pc' := 11) (v := nI 8) dX1_fillingOut_9 rfl rfl ?_
    refine q_aload_n (pc' := 12) dX1_fillingOut_11 rfl rfl ?_
    refine h_getiE (pc' := 15) dX1_fillingOut_12 fX1_53 rfl rfl (hB.2.2.1) rfl ?_
    refine q_isubN (pc' := 16) dX1_fillingOut_15 (by omega) rfl ?_
    refine h_callV (pc' := 19) (M' := mX1_bitsOut) (As := [_, _]) dX1_fillingOut_16 iX1_bitsOut lX1_56 rfl rfl rfl rfl (Nat.le_of_ble_eq_true rfl) (Nat.le_of_ble_eq_true rfl) rfl rfl (c_bitsOut hB (by omega) (by omega)) (fun r m' hq => ?_)
    obtain ⟨rfl, f1, B1⟩ := hq
    refine q_vret dX1_fillingOut_19 rfl ⟨_, rfl, rfl, f1, by rw [e]; exact B1⟩
def s_i8 (y : Int64) : List Nat := s_i4 (y.toUInt64 >>> ((nI 32).toInt64.toUInt64 &&& Int64.toUInt64 63)).toInt64.toInt32 ++ s_i4 y.toInt32
theorem s_i8_len (y : Int64) : (s_i8 y).length = 8 := rfl
def s_raw (g : Nat → Int64) : Nat → List Nat
  | 0 => []
  | j + 1 => s_raw g j ++ s_i8 (g j)
theorem s_raw_len (g : Nat → Int64) : ∀ j, (s_raw g j).length = 8 * j
  | 0 => rfl
  | j + 1 => by unfold s_raw; rw [List.length_append, s_raw_len g j, s_i8_len]; omega
set_option maxHeartbeats 4000000 in
set_option maxRecDepth 20000 in
theorem c_rawOut_194 {Z : q_Z} {m : q_Mm} {d : Nat} {n bk : Nat} {B : List Nat} {rl : Nat → Nat} {ys : Nat → Int64} {ws : Nat → Nat → Int64} (hO : Oct m 8 B) (hl : B.length ≤ 20) (hP : Pl m 194 n rl ys ws) (hb : bk < s_nb n rl) : q_V (q_g Z) mX1_rawOut (d+3) 0 0 0 [some (.ref (q_ad Z 212)), some (.ref (q_ad Z 194)), some (.int (nI bk)), none] [] (q_W Z m) (q_P Z fun r m2 => r = none ∧ Fr [8, 9] m m2 ∧ Oct m2 8 (B ++ s_raw (fun i => ys (bk * rl 0 + i)) (s_sz n rl bk))) := by
  have hr := hP.2.2.2.1
  have hz := s_nb_in hr hb
  have h16 := s_sz16 (n := n) hr bk
  refine q_iconst (pc' := 1) (v := nI 0) dX1_rawOut_0 rfl rfl ?_
  refine q_istore_n (pc' := 2) (lv' := [_, _, _, _]) dX1_rawOut_1 (by decide) rfl rfl ?_
  suffices h : ∀ c j (m1 : q_Mm), j + c = s_sz n rl bk → Fr [8, 9] m m1 → Oct m1 8 (B ++ s_raw (fun i => ys (bk * rl 0 + i)) j) → q_V (q_g Z) mX1_rawOut (d+3) 0 0 2 [some (.ref (q_ad Z 212)), some (.ref (q_ad Z 194)), some (.int (nI bk)), some (.int (nI j))] [] (q_W Z (m1)) (q_P Z fun r m2 => r = none ∧ Fr [8, 9] m m2 ∧ Oct m2 8 (B ++ s_raw (fun i => ys (bk * rl 0 + i)) (s_sz n rl bk))) from h (s_sz n rl bk) 0 m (by omega) Fr.rf (by rw [show B ++ s_raw (fun i => ys (bk * rl 0 + i)) 0 = B from List.append_nil B]; exact hO)
  intro c
  induction c with
  | zero =>
    intro j m1 hj f1 O1
    have hP1 := hP.fr f1 (congrFun (f1.i (by decide)) 4) (by decide) (by decide) (by decide) (by decide)
    refine q_iload_n (pc' := 3) dX1_rawOut_2 rfl rfl ?_
    refine q_aload_n (pc' := 4) dX1_rawOut_3 rfl rfl ?_
    refine q_iload_n (pc' := 5) dX1_rawOut_4 rfl rfl ?_
    refine h_callV (pc' := 8) (M' := mX8_sizeOf) (As := [_]) dX1_rawOut_5 iX8_sizeOf lX1_33 rfl rfl rfl rfl (Nat.le_of_ble_eq_true rfl) (Nat.le_of_ble_eq_true rfl) rfl rfl (c_sizeOf_194 hP1 hb) (fun r m' hq => ?_)
    obtain ⟨rfl, rfl⟩ := hq
    obtain rfl : s_sz n rl bk = j := by omega
    refine q_icmp_geN (tgt := 35) (pc' := 11) dX1_rawOut_8 (by decide) rfl (by omega) (fun c_8 => ?_) (fun c_8 => ?_)
    · refine q_vret dX1_rawOut_35 rfl ⟨_, rfl, rfl, f1, O1⟩
    · omega
  | succ c ih =>
    intro j m1 hj f1 O1
    have hP1 := hP.fr f1 (congrFun (f1.i (by decide)) 4) (by decide) (by decide) (by decide) (by decide)
    have hrl := s_raw_len (fun i => ys (bk * rl 0 + i)) j
    refine q_iload_n (pc' := 3) dX1_rawOut_2 rfl rfl ?_
    refine q_aload_n (pc' := 4) dX1_rawOut_3 rfl rfl ?_
    refine q_iload_n (pc' := 5) dX1_rawOut_4 rfl rfl ?_
    refine h_callV (pc' := 8) (M' := mX8_sizeOf) (As := [_]) dX1_rawOut_5 iX8_sizeOf lX1_33 rfl rfl rfl rfl (Nat.le_of_ble_eq_true rfl) (Nat.le_of_ble_eq_true rfl) rfl rfl (c_sizeOf_194 hP1 hb) (fun r m' hq => ?_)
    obtain ⟨rfl, rfl⟩ := hq
    refine q_icmp_geN (tgt := 35) (pc' := 11) dX1_rawOut_8 (by decide) rfl (by omega) (fun c_8 => ?_) (fun c_8 => ?_)
    · omega
    refine q_aload_n (pc' := 12) dX1_rawOut_11 rfl rfl ?_
    refine h_getr (pc' := 15) dX1_rawOut_12 fX1_9 rfl rfl rfl ?_
    refine q_aload_n (pc' := 16) dX1_rawOut_15 rfl rfl ?_
    refine q_aload_n (pc' := 17) dX1_rawOut_16 rfl rfl ?_
    refine q_iload_n (pc' := 18) dX1_rawOut_17 rfl rfl ?_
    refine h_callV (pc' := 21) (M' := mX8_startOf) (As := [_]) dX1_rawOut_18 iX8_startOf lX1_60 rfl rfl rfl rfl (Nat.le_of_ble_eq_true rfl) (Nat.le_of_ble_eq_true rfl) rfl rfl (c_startOf_194 hP1) (fun r m' hq => ?_)
    obtain ⟨rfl, rfl⟩ := hq
    refine q_iload_n (pc' := 22) dX1_rawOut_21 rfl rfl ?_
    refine q_iaddN (pc' := 23) dX1_rawOut_22 rfl ?_
    refine h_callV (pc' := 26) (M' := mX8_bitsAt) (As := [_]) dX1_rawOut_23 iX8_bitsAt lX1_63 rfl rfl rfl rfl (Nat.le_of_ble_eq_true rfl) (Nat.le_of_ble_eq_true rfl) rfl rfl (c_bitsAt_194 hP1 (by omega)) (fun r m' hq => ?_)
    obtain ⟨rfl, rfl⟩ := hq
    refine h_callV (pc' := 29) (M' := mX5_appendLong) (As := [_]) dX1_rawOut_26 iX5_appendLong lX1_67 rfl rfl rfl rfl (Nat.le_of_ble_eq_true rfl) (Nat.le_of_ble_eq_true rfl) rfl rfl (c_appendLong_8 O1 (by rw [List.length_append]; omega)) (fun r m' hq => ?_)
    obtain ⟨rfl, f2, O2⟩ := hq
    refine q_iincN (pc' := 32) (j := 1) (lv' := [_, _, _, _]) dX1_rawOut_29 rfl (by decide) rfl rfl ?_
    refine q_goto (pc' := 2) dX1_rawOut_32 (by decide) ?_
    refine ih (j + 1) _ (by omega) (f1.trans f2) ?_
    rw [show B ++ s_raw (fun i => ys (bk * rl 0 + i)) (j + 1) = B ++ s_raw (fun i => ys (bk * rl 0 + i)) j ++ s_i4 ((ys (bk * rl 0 + j)).toUInt64 >>> ((nI 32).toInt64.toUInt64 &&& Int64.toUInt64 63)).toInt64.toInt32 ++ s_i4 (ys (bk * rl 0 + j)).toInt32 by simp [s_raw, s_i8]]
    exact O2
set_option maxHeartbeats 4000000 in
set_option maxRecDepth 20000 in
theorem c_rawOut_203 {Z : q_Z} {m : q_Mm} {d : Nat} {n bk : Nat} {B : List Nat} {rl : Nat → Nat} {ys : Nat → Int64} {ws : Nat → Nat → Int64} (hO : Oct m 8 B) (hl : B.length ≤ 20) (hP : Pl m 203 n rl ys ws) (hb : bk < s_nb n rl) : q_V (q_g Z) mX1_rawOut (d+3) 0 0 0 [some (.ref (q_ad Z 212)), some (.ref (q_ad Z 203)), some (.int (nI bk)), none] [] (q_W Z m) (q_P Z fun r m2 => r = none ∧ Fr [8, 9] m m2 ∧ Oct m2 8 (B ++ s_raw (fun i => ys (bk * rl 0 + i)) (s_sz n rl bk))) := by
  have hr := hP.2.2.2.1
  have hz := s_nb_in hr hb
  have h16 := s_sz16 (n := n) hr bk
  refine q_iconst (pc' := 1) (v := nI 0) dX1_rawOut_0 rfl rfl ?_
  refine q_istore_n (pc' := 2) (lv' := [_, _, _, _]) dX1_rawOut_1 (by decide) rfl rfl ?_
  suffices h : ∀ c j (m1 : q_Mm), j + c = s_sz n rl bk → Fr [8, 9] m m1 → Oct m1 8 (B ++ s_raw (fun i => ys (bk * rl 0 + i)) j) → q_V (q_g Z) mX1_rawOut (d+3) 0 0 2 [some (.ref (q_ad Z 212)), some (.ref (q_ad Z 203)), some (.int (nI bk)), some (.int (nI j))] [] (q_W Z (m1)) (q_P Z fun r m2 => r = none ∧ Fr [8, 9] m m2 ∧ Oct m2 8 (B ++ s_raw (fun i => ys (bk * rl 0 + i)) (s_sz n rl bk))) from h (s_sz n rl bk) 0 m (by omega) Fr.rf (by rw [show B ++ s_raw (fun i => ys (bk * rl 0 + i)) 0 = B from List.append_nil B]; exact hO)
  intro c
  induction c with
  | zero =>
    intro j m1 hj f1 O1
    have hP1 := hP.fr f1 (congrFun (f1.i (by decide)) 4) (by decide) (by decide) (by decide) (by decide)
    refine q_iload_n (pc' := 3) dX1_rawOut_2 rfl rfl ?_
    refine q_aload_n (pc' := 4) dX1_rawOut_3 rfl rfl ?_
    refine q_iload_n (pc' := 5) dX1_rawOut_4 rfl rfl ?_
    refine h_callV (pc' := 8) (M' := mX8_sizeOf) (As := [_]) dX1_rawOut_5 iX8_sizeOf lX1_33 rfl rfl rfl rfl (Nat.le_of_ble_eq_true rfl) (Nat.le_of_ble_eq_true rfl) rfl rfl (c_sizeOf_203 hP1 hb) (fun r m' hq => ?_)
    obtain ⟨rfl, rfl⟩ := hq
    obtain rfl : s_sz n rl bk = j := by omega
    refine q_icmp_geN (tgt := 35) (pc' := 11) dX1_rawOut_8 (by decide) rfl (by omega) (fun c_8 => ?_) (fun c_8 => ?_)
    · refine q_vret dX1_rawOut_35 rfl ⟨_, rfl, rfl, f1, O1⟩
    · omega
  | succ c ih =>
    intro j m1 hj f1 O1
    have hP1 := hP.fr f1 (congrFun (f1.i (by decide)) 4) (by decide) (by decide) (by decide) (by decide)
    have hrl := s_raw_len (fun i => ys (bk * rl 0 + i)) j
    refine q_iload_n (pc' := 3) dX1_rawOut_2 rfl rfl ?_
    refine q_aload_n (pc' := 4) dX1_rawOut_3 rfl rfl ?_
    refine q_iload_n (pc' := 5) dX1_rawOut_4 rfl rfl ?_
    refine h_callV (pc' := 8) (M' := mX8_sizeOf) (As := [_]) dX1_rawOut_5 iX8_sizeOf lX1_33 rfl rfl rfl rfl (Nat.le_of_ble_eq_true rfl) (Nat.le_of_ble_eq_true rfl) rfl rfl (c_sizeOf_203 hP1 hb) (fun r m' hq => ?_)
    obtain ⟨rfl, rfl⟩ := hq
    refine q_icmp_geN (tgt := 35) (pc' := 11) dX1_rawOut_8 (by decide) rfl (by omega) (fun c_8 => ?_) (fun c_8 => ?_)
    · omega
    refine q_aload_n (pc' := 12) dX1_rawOut_11 rfl rfl ?_
    refine h_getr (pc' := 15) dX1_rawOut_12 fX1_9 rfl rfl rfl ?_
    refine q_aload_n (pc' := 16) dX1_rawOut_15 rfl rfl ?_
    refine q_aload_n (pc' := 17) dX1_rawOut_16 rfl rfl ?_
    refine q_iload_n (pc' := 18) dX1_rawOut_17 rfl rfl ?_
    refine h_callV (pc' := 21) (M' := mX8_startOf) (As := [_]) dX1_rawOut_18 iX8_startOf lX1_60 rfl rfl rfl rfl (Nat.le_of_ble_eq_true rfl) (Nat.le_of_ble_eq_true rfl) rfl rfl (c_startOf_203 hP1) (fun r m' hq => ?_)
    obtain ⟨rfl, rfl⟩ := hq
    refine q_iload_n (pc' := 22) dX1_rawOut_21 rfl rfl ?_
    refine q_iaddN (pc' := 23) dX1_rawOut_22 rfl ?_
    refine h_callV (pc' := 26) (M' := mX8_bitsAt) (As := [_]) dX1_rawOut_23 iX8_bitsAt lX1_63 rfl rfl rfl rfl (Nat.le_of_ble_eq_true rfl) (Nat.le_of_ble_eq_true rfl) rfl rfl (c_bitsAt_203 hP1 (by omega)) (fun r m' hq => ?_)
    obtain ⟨rfl, rfl⟩ := hq
    refine h_callV (pc' := 29) (M' := mX5_appendLong) (As := [_]) dX1_rawOut_26 iX5_appendLong lX1_67 rfl rfl rfl rfl (Nat.le_of_ble_eq_true rfl) (Nat.le_of_ble_eq_true rfl) rfl rfl (c_appendLong_8 O1 (by rw [List.length_append]; omega)) (fun r m' hq => ?_)
    obtain ⟨rfl, f2, O2⟩ := hq
    refine q_iincN (pc' := 32) (j := 1) (lv' := [_, _, _, _]) dX1_rawOut_29 rfl (by decide) rfl rfl ?_
    refine q_goto (pc' := 2) dX1_rawOut_32 (by decide) ?_
    refine ih (j + 1) _ (by omega) (f1.trans f2) ?_
    rw [show B ++ s_raw (fun i => ys (bk * rl 0 + i)) (j + 1) = B ++ s_raw (fun i => ys (bk * rl 0 + i)) j ++ s_i4 ((ys (bk * rl 0 + j)).toUInt64 >>> ((nI 32).toInt64.toUInt64 &&& Int64.toUInt64 63)).toInt64.toInt32 ++ s_i4 (ys (bk * rl 0 + j)).toInt32 by simp [s_raw, s_i8]]
    exact O2
