/-! ===== Octets ===== -/
/-- CHECK of n bytes -/
def s_chk (f : Nat → Int32) : Nat → Int32
  | 0 => nI 7
  | k + 1 => (nI 31 * s_chk f k + f k) - (nI 31 * s_chk f k + f k) / nI 251 * nI 251
set_option maxHeartbeats 4000000 in
set_option maxRecDepth 20000 in
theorem c_append_6 {Z : q_Z} {m : q_Mm} {d : Nat} {B : List Nat} {b : Nat} {x : Int32} (hO : Oct m 6 B) (hle : B.length < 320) (hx : x &&& nI 255 = nI b) (hb : b < 256) : q_V (q_g Z) mX5_append (d) 0 0 0 [some (.ref (q_ad Z 6)), some (.int x)] [] (q_W Z m) (q_P Z fun r m2 => r = none ∧ Fr [6, 7] m m2 ∧ Oct m2 6 (B ++ [b])) := by
  have hl := hO.2.1
  refine q_aload_n (pc' := 1) dX5_append_0 rfl rfl ?_
  refine h_getiE (pc' := 4) dX5_append_1 fX5_15 rfl rfl (hO.1) rfl ?_
  refine q_sipush (pc' := 7) (v := nI 320) dX5_append_4 rfl rfl ?_
  refine q_icmp_geN (tgt := 34) (pc' := 10) dX5_append_7 (by decide) rfl (by omega) (fun c_7 => ?_) (fun c_7 => ?_)
  · omega
  · refine q_aload_n (pc' := 11) dX5_append_10 rfl rfl ?_
    refine h_getr (pc' := 14) dX5_append_11 fX5_9 rfl rfl rfl ?_
    refine q_aload_n (pc' := 15) dX5_append_14 rfl rfl ?_
    refine h_getiE (pc' := 18) dX5_append_15 fX5_15 rfl rfl (hO.1) rfl ?_
    refine q_iload_n (pc' := 19) dX5_append_18 rfl rfl ?_
    refine q_sipush (pc' := 22) (v := nI 255) dX5_append_19 rfl rfl ?_
    refine q_iand (pc' := 23) dX5_append_22 rfl ?_
    refine h_iast (pc' := 24) dX5_append_23 rfl (rfl) (by omega) (by decide) rfl ?_
    refine q_aload_n (pc' := 25) dX5_append_24 rfl rfl ?_
    refine q_dup (pc' := 26) dX5_append_25 rfl rfl ?_
    refine h_getiE (pc' := 29) dX5_append_26 fX5_15 rfl rfl (hO.1) rfl ?_
    refine q_iconst (pc' := 30) (v := nI 1) dX5_append_29 rfl rfl ?_
    refine q_iaddN (pc' := 31) dX5_append_30 rfl ?_
    refine h_puti (pc' := 34) dX5_append_31 fX5_15 rfl rfl rfl rfl rfl ?_
    exact q_vret dX5_append_34 rfl ⟨_, rfl, rfl, (Fr.rf.A (by decide)).I (by decide), oct_app hO hle hx hb⟩
set_option maxHeartbeats 4000000 in
set_option maxRecDepth 20000 in
theorem c_appendInt_6 {Z : q_Z} {m : q_Mm} {d : Nat} {B : List Nat} {x : Int32} (hO : Oct m 6 B) (hle : B.length + 4 ≤ 320) : q_V (q_g Z) mX5_appendInt (d+1) 0 0 0 [some (.ref (q_ad Z 6)), some (.int x)] [] (q_W Z m) (q_P Z fun r m2 => r = none ∧ Fr [6, 7] m m2 ∧ Oct m2 6 (B ++ s_i4 x)) := by
  refine q_aload_n (pc' := 1) dX5_appendInt_0 rfl rfl ?_
  refine q_iload_n (pc' := 2) dX5_appendInt_1 rfl rfl ?_
  refine q_bipush (pc' := 4) (v := nI 24) dX5_appendInt_2 rfl rfl ?_
  refine q_iushr (pc' := 5) dX5_appendInt_4 rfl rfl ?_
  refine h_callV (pc' := 8) (M' := mX5_append) (As := [_]) dX5_appendInt_5 iX5_append lX5_19 rfl rfl rfl rfl (Nat.le_of_ble_eq_true rfl) (Nat.le_of_ble_eq_true rfl) rfl rfl (c_append_6 hO (by omega) (z_byteS x _ 24 (by decide)) (Nat.mod_lt _ (by decide))) (fun r m' hq => ?_)
  obtain ⟨rfl, f1, hO1⟩ := hq
  refine q_aload_n (pc' := 9) dX5_appendInt_8 rfl rfl ?_
  refine q_iload_n (pc' := 10) dX5_appendInt_9 rfl rfl ?_
  refine q_bipush (pc' := 12) (v := nI 16) dX5_appendInt_10 rfl rfl ?_
  refine q_iushr (pc' := 13) dX5_appendInt_12 rfl rfl ?_
  refine h_callV (pc' := 16) (M' := mX5_append) (As := [_]) dX5_appendInt_13 iX5_append lX5_19 rfl rfl rfl rfl (Nat.le_of_ble_eq_true rfl) (Nat.le_of_ble_eq_true rfl) rfl rfl (c_append_6 hO1 (by simp; omega) (z_byteS x _ 16 (by decide)) (Nat.mod_lt _ (by decide))) (fun r m' hq => ?_)
  obtain ⟨rfl, f2, hO2⟩ := hq
  refine q_aload_n (pc' := 17) dX5_appendInt_16 rfl rfl ?_
  refine q_iload_n (pc' := 18) dX5_appendInt_17 rfl rfl ?_
  refine q_bipush (pc' := 20) (v := nI 8) dX5_appendInt_18 rfl rfl ?_
  refine q_iushr (pc' := 21) dX5_appendInt_20 rfl rfl ?_
  refine h_callV (pc' := 24) (M' := mX5_append) (As := [_]) dX5_appendInt_21 iX5_append lX5_19 rfl rfl rfl rfl (Nat.le_of_ble_eq_true rfl) (Nat.le_of_ble_eq_true rfl) rfl rfl (c_append_6 hO2 (by simp; omega) (z_byteS x _ 8 (by decide)) (Nat.mod_lt _ (by decide))) (fun r m' hq => ?_)
  obtain ⟨rfl, f3, hO3⟩ := hq
  refine q_aload_n (pc' := 25) dX5_appendInt_24 rfl rfl ?_
  refine q_iload_n (pc' := 26) dX5_appendInt_25 rfl rfl ?_
  refine h_callV (pc' := 29) (M' := mX5_append) (As := [_]) dX5_appendInt_26 iX5_append lX5_19 rfl rfl rfl rfl (Nat.le_of_ble_eq_true rfl) (Nat.le_of_ble_eq_true rfl) rfl rfl (c_append_6 hO3 (by simp; omega) (z_byte x) (Nat.mod_lt _ (by decide))) (fun r m' hq => ?_)
  obtain ⟨rfl, f4, hO4⟩ := hq
  exact q_vret dX5_appendInt_29 rfl ⟨_, rfl, rfl, ((f1.trans f2).trans f3).trans f4, by simpa [s_i4] using hO4⟩
set_option maxHeartbeats 4000000 in
set_option maxRecDepth 20000 in
theorem c_appendLong_6 {Z : q_Z} {m : q_Mm} {d : Nat} {B : List Nat} {x : Int64} (hO : Oct m 6 B) (hle : B.length + 8 ≤ 320) : q_V (q_g Z) mX5_appendLong (d+2) 0 0 0 [some (.ref (q_ad Z 6)), some (.long x), none] [] (q_W Z m) (q_P Z fun r m2 => r = none ∧ Fr [6, 7] m m2 ∧ Oct m2 6 (B ++ s_i4 (x.toUInt64 >>> ((nI 32).toInt64.toUInt64 &&& Int64.toUInt64 63)).toInt64.toInt32 ++ s_i4 x.toInt32)) := by
  refine q_aload_n (pc' := 1) dX5_appendLong_0 rfl rfl ?_
  refine q_lload_n (pc' := 2) dX5_appendLong_1 rfl rfl ?_
  refine q_bipush (pc' := 4) (v := nI 32) dX5_appendLong_2 rfl rfl ?_
  refine q_lushr (pc' := 5) dX5_appendLong_4 rfl rfl ?_
  refine q_l2i (pc' := 6) dX5_appendLong_5 rfl ?_
  refine h_callV (pc' := 9) (M' := mX5_appendInt) (As := [_]) dX5_appendLong_6 iX5_appendInt lX5_23 rfl rfl rfl rfl (Nat.le_of_ble_eq_true rfl) (Nat.le_of_ble_eq_true rfl) rfl rfl (c_appendInt_6 hO (by omega)) (fun r m' hq => ?_)
  obtain ⟨rfl, f1, hO1⟩ := hq
  refine q_aload_n (pc' := 10) dX5_appendLong_9 rfl rfl ?_
  refine q_lload_n (pc' := 11) dX5_appendLong_10 rfl rfl ?_
  refine q_l2i (pc' := 12) dX5_appendLong_11 rfl ?_
  refine h_callV (pc' := 15) (M' := mX5_appendInt) (As := [_]) dX5_appendLong_12 iX5_appendInt lX5_23 rfl rfl rfl rfl (Nat.le_of_ble_eq_true rfl) (Nat.le_of_ble_eq_true rfl) rfl rfl (c_appendInt_6 hO1 (by simp [s_i4]; omega)) (fun r m' hq => ?_)
  obtain ⟨rfl, f2, hO2⟩ := hq
  exact q_vret dX5_appendLong_15 rfl ⟨_, rfl, rfl, f1.trans f2, hO2⟩
set_option maxHeartbeats 4000000 in
set_option maxRecDepth 20000 in
theorem c_checkAt_6 {Z : q_Z} {m : q_Mm} {d : Nat} {n p : Nat} (hn : m.1 6 1 = nI n) (hle : n ≤ 320) (hpn : p ≤ n) : q_V (q_g Z) mX5_checkAt (d) 0 0 0 [some (.ref (q_ad Z 6)), some (.int (nI p)), none, none] [] (q_W Z m) (q_P Z fun r m2 => r = some (.int (s_chk (m.2.2.1 7) p)) ∧ m2 = m) := by
  refine q_bipush (pc' := 2) (v := nI 7) dX5_checkAt_0 rfl rfl ?_
  refine q_istore_n (pc' := 3) (lv' := [_, _, _, _]) dX5_checkAt_2 (by decide) rfl rfl ?_
  refine q_iconst (pc' := 4) (v := nI 0) dX5_checkAt_3 rfl rfl ?_
  refine q_istore_n (pc' := 5) (lv' := [_, _, _, _]) dX5_checkAt_4 (by decide) rfl rfl ?_
  suffices h : ∀ k i, i + k = p → q_V (q_g Z) mX5_checkAt (d) 0 0 5 [some (.ref (q_ad Z 6)), some (.int (nI p)), some (.int (s_chk (m.2.2.1 7) i)), some (.int (nI i))] [] (q_W Z (m)) (q_P Z fun r m2 => r = some (.int (s_chk (m.2.2.1 7) p)) ∧ m2 = m) from h p 0 (by omega)
  intro k
  induction k with
  | zero =>
    intro i hi
    obtain rfl : i = p := by omega
    refine q_iload_n (pc' := 6) dX5_checkAt_5 rfl rfl ?_
    refine q_iload_n (pc' := 7) dX5_checkAt_6 rfl rfl ?_
    refine q_icmp_geN (tgt := 40) (pc' := 10) dX5_checkAt_7 (by decide) rfl (by omega) (fun c_7 => ?_) (fun c_7 => ?_)
    · refine q_iload_n (pc' := 41) dX5_checkAt_40 rfl rfl ?_
      exact q_iret dX5_checkAt_41 rfl rfl ⟨_, rfl, rfl, rfl⟩
    · omega
  | succ k ih =>
    intro i hi
    refine q_iload_n (pc' := 6) dX5_checkAt_5 rfl rfl ?_
    refine q_iload_n (pc' := 7) dX5_checkAt_6 rfl rfl ?_
    refine q_icmp_geN (tgt := 40) (pc' := 10) dX5_checkAt_7 (by decide) rfl (by omega) (fun c_7 => ?_) (fun c_7 => ?_)
    · omega
    refine q_iload_n (pc' := 11) dX5_checkAt_10 rfl rfl ?_
    refine q_aload_n (pc' := 12) dX5_checkAt_11 rfl rfl ?_
    refine h_getiE (pc' := 15) dX5_checkAt_12 fX5_15 rfl rfl (hn) rfl ?_
    refine q_icmp_geN (tgt := 40) (pc' := 18) dX5_checkAt_15 (by decide) rfl (by omega) (fun c_15 => ?_) (fun c_15 => ?_)
    · omega
    refine q_bipush (pc' := 20) (v := nI 31) dX5_checkAt_18 rfl rfl ?_
    refine q_iload_n (pc' := 21) dX5_checkAt_20 rfl rfl ?_
    refine q_imul (pc' := 22) dX5_checkAt_21 rfl ?_
    refine q_aload_n (pc' := 23) dX5_checkAt_22 rfl rfl ?_
    refine h_getr (pc' := 26) dX5_checkAt_23 fX5_9 rfl rfl rfl ?_
    refine q_iload_n (pc' := 27) dX5_checkAt_26 rfl rfl ?_
    refine h_iald (pc' := 28) dX5_checkAt_27 rfl (rfl) (by omega) (by decide) rfl ?_
    refine q_iadd (pc' := 29) dX5_checkAt_28 rfl ?_
    refine q_sipush (pc' := 32) (v := nI 251) dX5_checkAt_29 rfl rfl ?_
    refine q_irem (pc' := 33) dX5_checkAt_32 (by decide) rfl ?_
    refine q_istore_n (pc' := 34) (lv' := [_, _, _, _]) dX5_checkAt_33 (by decide) rfl rfl ?_
    refine q_iincN (pc' := 37) (j := 1) (lv' := [_, _, _, _]) dX5_checkAt_34 rfl (by decide) rfl rfl ?_
    refine q_goto (pc' := 5) dX5_checkAt_37 (by decide) ?_
    exact ih (i + 1) (by omega)
set_option maxHeartbeats 4000000 in
set_option maxRecDepth 20000 in
theorem c_append_8 {Z : q_Z} {m : q_Mm} {d : Nat} {B : List Nat} {b : Nat} {x : Int32} (hO : Oct m 8 B) (hle : B.length < 320) (hx : x &&& nI 255 = nI b) (hb : b < 256) : q_V (q_g Z) mX5_append (d) 0 0 0 [some (.ref (q_ad Z 8)), some (.int x)] [] (q_W Z m) (q_P Z fun r m2 => r = none ∧ Fr [8, 9] m m2 ∧ Oct m2 8 (B ++ [b])) := by
  have hl := hO.2.1
  refine q_aload_n (pc' := 1) dX5_append_0 rfl rfl ?_
  refine h_getiE (pc' := 4) dX5_append_1 fX5_15 rfl rfl (hO.1) rfl ?_
  refine q_sipush (pc' := 7) (v := nI 320) dX5_append_4 rfl rfl ?_
  refine q_icmp_geN (tgt := 34) (pc' := 10) dX5_append_7 (by decide) rfl (by omega) (fun c_7 => ?_) (fun c_7 => ?_)
  · omega
  · refine q_aload_n (pc' := 11) dX5_append_10 rfl rfl ?_
    refine h_getr (pc' := 14) dX5_append_11 fX5_9 rfl rfl rfl ?_
    refine q_aload_n (pc' := 15) dX5_append_14 rfl rfl ?_
    refine h_getiE (pc' := 18) dX5_append_15 fX5_15 rfl rfl (hO.1) rfl ?_
    refine q_iload_n (pc' := 19) dX5_append_18 rfl rfl ?_
    refine q_sipush (pc' := 22) (v := nI 255) dX5_append_19 rfl rfl ?_
    refine q_iand (pc' := 23) dX5_append_22 rfl ?_
    refine h_iast (pc' := 24) dX5_append_23 rfl (rfl) (by omega) (by decide) rfl ?_
    refine q_aload_n (pc' := 25) dX5_append_24 rfl rfl ?_
    refine q_dup (pc' := 26) dX5_append_25 rfl rfl ?_
    refine h_getiE (pc' := 29) dX5_append_26 fX5_15 rfl rfl (hO.1) rfl ?_
    refine q_iconst (pc' := 30) (v := nI 1) dX5_append_29 rfl rfl ?_
    refine q_iaddN (pc' := 31) dX5_append_30 rfl ?_
    refine h_puti (pc' := 34) dX5_append_31 fX5_15 rfl rfl rfl rfl rfl ?_
    exact q_vret dX5_append_34 rfl ⟨_, rfl, rfl, (Fr.rf.A (by decide)).I (by decide), oct_app hO hle hx hb⟩
set_option maxHeartbeats 4000000 in
set_option maxRecDepth 20000 in
theorem c_appendInt_8 {Z : q_Z} {m : q_Mm} {d : Nat} {B : List Nat} {x : Int32} (hO : Oct m 8 B) (hle : B.length + 4 ≤ 320) : q_V (q_g Z) mX5_appendInt (d+1) 0 0 0 [some (.ref (q_ad Z 8)), some (.int x)] [] (q_W Z m) (q_P Z fun r m2 => r = none ∧ Fr [8, 9] m m2 ∧ Oct m2 8 (B ++ s_i4 x)) := by
  refine q_aload_n (pc' := 1) dX5_appendInt_0 rfl rfl ?_
  refine q_iload_n (pc' := 2) dX5_appendInt_1 rfl rfl ?_
  refine q_bipush (pc' := 4) (v := nI 24) dX5_appendInt_2 rfl rfl ?_
  refine q_iushr (pc' := 5) dX5_appendInt_4 rfl rfl ?_
  refine h_callV (pc' := 8) (M' := mX5_append) (As := [_]) dX5_appendInt_5 iX5_append lX5_19 rfl rfl rfl rfl (Nat.le_of_ble_eq_true rfl) (Nat.le_of_ble_eq_true rfl) rfl rfl (c_append_8 hO (by omega) (z_byteS x _ 24 (by decide)) (Nat.mod_lt _ (by decide))) (fun r m' hq => ?_)
  obtain ⟨rfl, f1, hO1⟩ := hq
  refine q_aload_n (pc' := 9) dX5_appendInt_8 rfl rfl ?_
  refine q_iload_n (pc' := 10) dX5_appendInt_9 rfl rfl ?_
  refine q_bipush (pc' := 12) (v := nI 16) dX5_appendInt_10 rfl rfl ?_
  refine q_iushr (pc' := 13) dX5_appendInt_12 rfl rfl ?_
  refine h_callV (pc' := 16) (M' := mX5_append) (As := [_]) dX5_appendInt_13 iX5_append lX5_19 rfl rfl rfl rfl (Nat.le_of_ble_eq_true rfl) (Nat.le_of_ble_eq_true rfl) rfl rfl (c_append_8 hO1 (by simp; omega) (z_byteS x _ 16 (by decide)) (Nat.mod_lt _ (by decide))) (fun r m' hq => ?_)
  obtain ⟨rfl, f2, hO2⟩ := hq
  refine q_aload_n (pc' := 17) dX5_appendInt_16 rfl rfl ?_
  refine q_iload_n (pc' := 18) dX5_appendInt_17 rfl rfl ?_
  refine q_bipush (pc' := 20) (v := nI 8) dX5_appendInt_18 rfl rfl ?_
  refine q_iushr (pc' := 21) dX5_appendInt_20 rfl rfl ?_
  refine h_callV (pc' := 24) (M' := mX5_append) (As := [_]) dX5_appendInt_21 iX5_append lX5_19 rfl rfl rfl rfl (Nat.le_of_ble_eq_true rfl) (Nat.le_of_ble_eq_true rfl) rfl rfl (c_append_8 hO2 (by simp; omega) (z_byteS x _ 8 (by decide)) (Nat.mod_lt _ (by decide))) (fun r m' hq => ?_)
  obtain ⟨rfl, f3, hO3⟩ := hq
  refine q_aload_n (pc' := 25) dX5_appendInt_24 rfl rfl ?_
  refine q_iload_n (pc' := 26) dX5_appendInt_25 rfl rfl ?_
  refine h_callV (pc' := 29) (M' := mX5_append) (As := [_]) dX5_appendInt_26 iX5_append lX5_19 rfl rfl rfl rfl (Nat.le_of_ble_eq_true rfl) (Nat.le_of_ble_eq_true rfl) rfl rfl (c_append_8 hO3 (by simp; omega) (z_byte x) (Nat.mod_lt _ (by decide))) (fun r m' hq => ?_)
  obtain ⟨rfl, f4, hO4⟩ := hq
  exact q_vret dX5_appendInt_29 rfl ⟨_, rfl, rfl, ((f1.trans f2).trans f3).trans f4, by simpa [s_i4] using hO4⟩
set_option maxHeartbeats 4000000 in
set_option maxRecDepth 20000 in
theorem c_appendLong_8 {Z : q_Z} {m : q_Mm} {d : Nat} {B : List Nat} {x : Int64} (hO : Oct m 8 B) (hle : B.length + 8 ≤ 320) : q_V (q_g Z) mX5_appendLong (d+2) 0 0 0 [some (.ref (q_ad Z 8)), some (.long x), none] [] (q_W Z m) (q_P Z fun r m2 => r = none ∧ Fr [8, 9] m m2 ∧ Oct m2 8 (B ++ s_i4 (x.toUInt64 >>> ((nI 32).toInt64.toUInt64 &&& Int64.toUInt64 63)).toInt64.toInt32 ++ s_i4 x.toInt32)) := by
  refine q_aload_n (pc' := 1) dX5_appendLong_0 rfl rfl ?_
  refine q_lload_n (pc' := 2) dX5_appendLong_1 rfl rfl ?_
  refine q_bipush (pc' := 4) (v := nI 32) dX5_appendLong_2 rfl rfl ?_
  refine q_lushr (pc' := 5) dX5_appendLong_4 rfl rfl ?_
  refine q_l2i (pc' := 6) dX5_appendLong_5 rfl ?_
  refine h_callV (pc' := 9) (M' := mX5_appendInt) (As := [_]) dX5_appendLong_6 iX5_appendInt lX5_23 rfl rfl rfl rfl (Nat.le_of_ble_eq_true rfl) (Nat.le_of_ble_eq_true rfl) rfl rfl (c_appendInt_8 hO (by omega)) (fun r m' hq => ?_)
  obtain ⟨rfl, f1, hO1⟩ := hq
  refine q_aload_n (pc' := 10) dX5_appendLong_9 rfl rfl ?_
  refine q_lload_n (pc' := 11) dX5_appendLong_10 rfl rfl ?_
  refine q_l2i (pc' := 12) dX5_appendLong_11 rfl ?_
  refine h_callV (pc' := 15) (M' := mX5_appendInt) (As := [_]) dX5_appendLong_12 iX5_appendInt lX5_23 rfl rfl rfl rfl (Nat.le_of_ble_eq_true rfl) (Nat.le_of_ble_eq_true rfl) rfl rfl (c_appendInt_8 hO1 (by simp [s_i4]; omega)) (fun r m' hq => ?_)
  obtain ⟨rfl, f2, hO2⟩ := hq
  exact q_vret dX5_appendLong_15 rfl ⟨_, rfl, rfl, f1.trans f2, hO2⟩
set_option maxHeartbeats 4000000 in
set_option maxRecDepth 20000 in
theorem c_checkAt_8 {Z : q_Z} {m : q_Mm} {d : Nat} {n p : Nat} (hn : m.1 8 1 = nI n) (hle : n ≤ 320) (hpn : p ≤ n) : q_V (q_g Z) mX5_checkAt (d) 0 0 0 [some (.ref (q_ad Z 8)), some (.int (nI p)), none, none] [] (q_W Z m) (q_P Z fun r m2 => r = some (.int (s_chk (m.2.2.1 9) p)) ∧ m2 = m) := by
  refine q_bipush (pc' := 2) (v := nI 7) dX5_checkAt_0 rfl rfl ?_
  refine q_istore_n (pc' := 3) (lv' := [_, _, _, _]) dX5_checkAt_2 (by decide) rfl rfl ?_
  refine q_iconst (pc' := 4) (v := nI 0) dX5_checkAt_3 rfl rfl ?_
  refine q_istore_n (pc' := 5) (lv' := [_, _, _, _]) dX5_checkAt_4 (by decide) rfl rfl ?_
  suffices h : ∀ k i, i + k = p → q_V (q_g Z) mX5_checkAt (d) 0 0 5 [some (.ref (q_ad Z 8)), some (.int (nI p)), some (.int (s_chk (m.2.2.1 9) i)), some (.int (nI i))] [] (q_W Z (m)) (q_P Z fun r m2 => r = some (.int (s_chk (m.2.2.1 9) p)) ∧ m2 = m) from h p 0 (by omega)
  intro k
  induction k with
  | zero =>
    intro i hi
    obtain rfl : i = p := by omega
    refine q_iload_n (pc' := 6) dX5_checkAt_5 rfl rfl ?_
    refine q_iload_n (pc' := 7) dX5_checkAt_6 rfl rfl ?_
    refine q_icmp_geN (tgt := 40) (pc' := 10) dX5_checkAt_7 (by decide) rfl (by omega) (fun c_7 => ?_) (fun c_7 => ?_)
    · refine q_iload_n (pc' := 41) dX5_checkAt_40 rfl rfl ?_
      exact q_iret dX5_checkAt_41 rfl rfl ⟨_, rfl, rfl, rfl⟩
    · omega
  | succ k ih =>
    intro i hi
    refine q_iload_n (pc' := 6) dX5_checkAt_5 rfl rfl ?_
    refine q_iload_n (pc' := 7) dX5_checkAt_6 rfl rfl ?_
    refine q_icmp_geN (tgt := 40) (pc' := 10) dX5_checkAt_7 (by decide) rfl (by omega) (fun c_7 => ?_) (fun c_7 => ?_)
    · omega
    refine q_iload_n (pc' := 11) dX5_checkAt_10 rfl rfl ?_
    refine q_aload_n (pc' := 12) dX5_checkAt_11 rfl rfl ?_
    refine h_getiE (pc' := 15) dX5_checkAt_12 fX5_15 rfl rfl (hn) rfl ?_
    refine q_icmp_geN (tgt := 40) (pc' := 18) dX5_checkAt_15 (by decide) rfl (by omega) (fun c_15 => ?_) (fun c_15 => ?_)
    · omega
    refine q_bipush (pc' := 20) (v := nI 31) dX5_checkAt_18 rfl rfl ?_
    refine q_iload_n (pc' := 21) dX5_checkAt_20 rfl rfl ?_
    refine q_imul (pc' := 22) dX5_checkAt_21 rfl ?_
    refine q_aload_n (pc' := 23) dX5_checkAt_22 rfl rfl ?_
    refine h_getr (pc' := 26) dX5_checkAt_23 fX5_9 rfl rfl rfl ?_
    refine q_iload_n (pc' := 27) dX5_checkAt_26 rfl rfl ?_
    refine h_iald (pc' := 28) dX5_checkAt_27 rfl (rfl) (by omega) (by decide) rfl ?_
    refine q_iadd (pc' := 29) dX5_checkAt_28 rfl ?_
    refine q_sipush (pc' := 32) (v := nI 251) dX5_checkAt_29 rfl rfl ?_
    refine q_irem (pc' := 33) dX5_checkAt_32 (by decide) rfl ?_
    refine q_istore_n (pc' := 34) (lv' := [_, _, _, _]) dX5_checkAt_33 (by decide) rfl rfl ?_
    refine q_iincN (pc' := 37) (j := 1) (lv' := [_, _, _, _]) dX5_checkAt_34 rfl (by decide) rfl rfl ?_
    refine q_goto (pc' := 5) dX5_checkAt_37 (by decide) ?_
    exact ih (i + 1) (by omega)
