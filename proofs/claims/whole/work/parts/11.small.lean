/-! ===== small methods of the class itself ===== -/
def s_isRule (x : Int32) : Bool := decide (0 ≤ x.toInt ∧ x.toInt < 5)
def s_isBound (w : Nat) (v : Int32) : Bool := decide ((q_low w).toInt ≤ v.toInt ∧ v.toInt ≤ (q_high w).toInt)
def s_isPair (e f : Int32) : Bool := decide ((0 ≤ e.toInt ∧ e.toInt < 15) ∧ 0 ≤ f.toInt ∧ f.toInt ≤ e.toInt)
theorem z_t {p : Prop} [Decidable p] (h : p) : (some (Value.int (nI 1)) : Option Value) = some (.int (q_b (decide p))) := by rw [q_b_dec h]
theorem z_f {p : Prop} [Decidable p] (h : ¬ p) : (some (Value.int (nI 0)) : Option Value) = some (.int (q_b (decide p))) := by rw [q_b_ndec h]
set_option maxHeartbeats 4000000 in
set_option maxRecDepth 20000 in
theorem c_isRule {Z : q_Z} {m : q_Mm} {d : Nat} {x : Int32} : q_V (q_g Z) mX10_isRule (d) 0 0 0 [some (.int x)] [] (q_W Z m) (q_P Z fun r m2 => r = some (.int (q_b (s_isRule x))) ∧ m2 = m) := by
  refine q_iload_n (pc' := 1) dX10_isRule_0 rfl rfl ?_
  refine q_if_lt (tgt := 13) (pc' := 4) dX10_isRule_1 (by decide) rfl (fun c_1 => ?_) (fun c_1 => ?_)
  · rw [z_lt, z_0] at c_1
    refine q_iconst (pc' := 14) (v := nI 0) dX10_isRule_13 rfl rfl ?_
    refine q_iret dX10_isRule_14 rfl (by first | exact q_nb0 | exact q_nb1 | exact q_nb _) ⟨_, rfl, z_f (by omega), rfl⟩
  rw [z_lt, z_0] at c_1
  refine q_iload_n (pc' := 5) dX10_isRule_4 rfl rfl ?_
  refine q_iconst (pc' := 6) (v := nI 5) dX10_isRule_5 rfl rfl ?_
  refine q_icmp_ge (tgt := 13) (pc' := 9) dX10_isRule_6 (by decide) rfl (fun c_6 => ?_) (fun c_6 => ?_)
  · rw [z_le, z_n (by decide)] at c_6
    refine q_iconst (pc' := 14) (v := nI 0) dX10_isRule_13 rfl rfl ?_
    refine q_iret dX10_isRule_14 rfl (by first | exact q_nb0 | exact q_nb1 | exact q_nb _) ⟨_, rfl, z_f (by omega), rfl⟩
  rw [z_le, z_n (by decide)] at c_6
  refine q_iconst (pc' := 10) (v := nI 1) dX10_isRule_9 rfl rfl ?_
  refine q_goto (pc' := 14) dX10_isRule_10 (by decide) ?_
  refine q_iret dX10_isRule_14 rfl (by first | exact q_nb0 | exact q_nb1 | exact q_nb _) ⟨_, rfl, z_t (by omega), rfl⟩
set_option maxHeartbeats 4000000 in
set_option maxRecDepth 20000 in
theorem c_isBound {Z : q_Z} {m : q_Mm} {d : Nat} {w : Nat} {v : Int32} (hw : w < 5) : q_V (q_g Z) mX10_isBound (d) 0 0 0 [some (.int (nI w)), some (.int v)] [] (q_W Z m) (q_P Z fun r m2 => r = some (.int (q_b (s_isBound w v))) ∧ m2 = m) := by
  refine q_iload_n (pc' := 1) dX10_isBound_0 rfl rfl ?_
  refine h_gets (pc' := 4) dX10_isBound_1 st_0 (by decide) fsX10_346 rfl ?_
  refine q_iload_n (pc' := 5) dX10_isBound_4 rfl rfl ?_
  refine h_ti (pc' := 6) dX10_isBound_5 ro_0 rfl hw rfl ?_
  refine q_icmp_lt (tgt := 22) (pc' := 9) dX10_isBound_6 (by decide) rfl (fun c_6 => ?_) (fun c_6 => ?_)
  · rw [z_lt] at c_6
    refine q_iconst (pc' := 23) (v := nI 0) dX10_isBound_22 rfl rfl ?_
    refine q_iret dX10_isBound_23 rfl (by first | exact q_nb0 | exact q_nb1 | exact q_nb _) ⟨_, rfl, z_f (by omega), rfl⟩
  rw [z_lt] at c_6
  refine q_iload_n (pc' := 10) dX10_isBound_9 rfl rfl ?_
  refine h_gets (pc' := 13) dX10_isBound_10 st_1 (by decide) fsX10_349 rfl ?_
  refine q_iload_n (pc' := 14) dX10_isBound_13 rfl rfl ?_
  refine h_ti (pc' := 15) dX10_isBound_14 ro_1 rfl hw rfl ?_
  refine q_icmp_gt (tgt := 22) (pc' := 18) dX10_isBound_15 (by decide) rfl (fun c_15 => ?_) (fun c_15 => ?_)
  · rw [z_lt] at c_15
    refine q_iconst (pc' := 23) (v := nI 0) dX10_isBound_22 rfl rfl ?_
    refine q_iret dX10_isBound_23 rfl (by first | exact q_nb0 | exact q_nb1 | exact q_nb _) ⟨_, rfl, z_f (by omega), rfl⟩
  rw [z_lt] at c_15
  refine q_iconst (pc' := 19) (v := nI 1) dX10_isBound_18 rfl rfl ?_
  refine q_goto (pc' := 23) dX10_isBound_19 (by decide) ?_
  refine q_iret dX10_isBound_23 rfl (by first | exact q_nb0 | exact q_nb1 | exact q_nb _) ⟨_, rfl, z_t (by omega), rfl⟩
set_option maxHeartbeats 4000000 in
set_option maxRecDepth 20000 in
theorem c_isPair {Z : q_Z} {m : q_Mm} {d : Nat} {e f : Int32} : q_V (q_g Z) mX10_isPair (d) 0 0 0 [some (.int e), some (.int f)] [] (q_W Z m) (q_P Z fun r m2 => r = some (.int (q_b (s_isPair e f))) ∧ m2 = m) := by
  refine q_iload_n (pc' := 1) dX10_isPair_0 rfl rfl ?_
  refine q_if_lt (tgt := 23) (pc' := 4) dX10_isPair_1 (by decide) rfl (fun c_1 => ?_) (fun c_1 => ?_)
  · rw [z_lt, z_0] at c_1
    refine q_iconst (pc' := 24) (v := nI 0) dX10_isPair_23 rfl rfl ?_
    refine q_iret dX10_isPair_24 rfl (by first | exact q_nb0 | exact q_nb1 | exact q_nb _) ⟨_, rfl, z_f (by omega), rfl⟩
  rw [z_lt, z_0] at c_1
  refine q_iload_n (pc' := 5) dX10_isPair_4 rfl rfl ?_
  refine q_bipush (pc' := 7) (v := nI 15) dX10_isPair_5 rfl rfl ?_
  refine q_icmp_ge (tgt := 23) (pc' := 10) dX10_isPair_7 (by decide) rfl (fun c_7 => ?_) (fun c_7 => ?_)
  · rw [z_le, z_n (by decide)] at c_7
    refine q_iconst (pc' := 24) (v := nI 0) dX10_isPair_23 rfl rfl ?_
    refine q_iret dX10_isPair_24 rfl (by first | exact q_nb0 | exact q_nb1 | exact q_nb _) ⟨_, rfl, z_f (by omega), rfl⟩
  rw [z_le, z_n (by decide)] at c_7
  refine q_iload_n (pc' := 11) dX10_isPair_10 rfl rfl ?_
  refine q_if_lt (tgt := 23) (pc' := 14) dX10_isPair_11 (by decide) rfl (fun c_11 => ?_) (fun c_11 => ?_)
  · rw [z_lt, z_0] at c_11
    refine q_iconst (pc' := 24) (v := nI 0) dX10_isPair_23 rfl rfl ?_
    refine q_iret dX10_isPair_24 rfl (by first | exact q_nb0 | exact q_nb1 | exact q_nb _) ⟨_, rfl, z_f (by omega), rfl⟩
  rw [z_lt, z_0] at c_11
  refine q_iload_n (pc' := 15) dX10_isPair_14 rfl rfl ?_
  refine q_iload_n (pc' := 16) dX10_isPair_15 rfl rfl ?_
  refine q_icmp_gt (tgt := 23) (pc' := 19) dX10_isPair_16 (by decide) rfl (fun c_16 => ?_) (fun c_16 => ?_)
  · rw [z_lt] at c_16
    refine q_iconst (pc' := 24) (v := nI 0) dX10_isPair_23 rfl rfl ?_
    refine q_iret dX10_isPair_24 rfl (by first | exact q_nb0 | exact q_nb1 | exact q_nb _) ⟨_, rfl, z_f (by omega), rfl⟩
  rw [z_lt] at c_16
  refine q_iconst (pc' := 20) (v := nI 1) dX10_isPair_19 rfl rfl ?_
  refine q_goto (pc' := 24) dX10_isPair_20 (by decide) ?_
  refine q_iret dX10_isPair_24 rfl (by first | exact q_nb0 | exact q_nb1 | exact q_nb _) ⟨_, rfl, z_t (by omega), rfl⟩
/-- the number of a PAIR -/
def s_pn (e f : Nat) : Nat := e * (e + 1) / 2 + f
set_option maxHeartbeats 4000000 in
set_option maxRecDepth 20000 in
theorem c_pairNumber {Z : q_Z} {m : q_Mm} {d : Nat} {e f : Nat} (he : e ≤ 100) : q_V (q_g Z) mX10_pairNumber (d) 0 0 0 [some (.int (nI e)), some (.int (nI f))] [] (q_W Z m) (q_P Z fun r m2 => r = some (.int (nI (s_pn e f))) ∧ m2 = m) := by
  have h1 : e * (e + 1) ≤ 100 * 101 := Nat.mul_le_mul he (by omega)
  refine q_iload_n (pc' := 1) dX10_pairNumber_0 rfl rfl ?_
  refine q_iload_n (pc' := 2) dX10_pairNumber_1 rfl rfl ?_
  refine q_iconst (pc' := 3) (v := nI 1) dX10_pairNumber_2 rfl rfl ?_
  refine q_iaddN (pc' := 4) dX10_pairNumber_3 rfl ?_
  refine q_imulN (pc' := 5) dX10_pairNumber_4 rfl ?_
  refine q_iconst (pc' := 6) (v := nI 2) dX10_pairNumber_5 rfl rfl ?_
  refine q_idivN (pc' := 7) dX10_pairNumber_6 (by omega) rfl ?_
  refine q_iload_n (pc' := 8) dX10_pairNumber_7 rfl rfl ?_
  refine q_iaddN (pc' := 9) dX10_pairNumber_8 rfl ?_
  refine q_iret dX10_pairNumber_9 rfl rfl ⟨_, rfl, rfl, rfl⟩
set_option maxHeartbeats 4000000 in
set_option maxRecDepth 20000 in
theorem c_blocksFor {Z : q_Z} {m : q_Mm} {d : Nat} {n k : Nat} (hn : n ≤ 64) (hk : 1 ≤ k ∧ k ≤ 64) : q_V (q_g Z) mX10_blocksFor (d) 0 0 0 [some (.int (nI n)), some (.int (nI k))] [] (q_W Z m) (q_P Z fun r m2 => r = some (.int (nI ((n + k - 1) / k))) ∧ m2 = m) := by
  have h1 : (n + k - 1) / k ≤ n + k - 1 := Nat.div_le_self _ _
  refine q_iload_n (pc' := 1) dX10_blocksFor_0 rfl rfl ?_
  refine q_if_leN (tgt := 14) (pc' := 4) dX10_blocksFor_1 (by decide) rfl (by omega) (fun c_1 => ?_) (fun c_1 => ?_)
  · omega
  refine q_iload_n (pc' := 5) dX10_blocksFor_4 rfl rfl ?_
  refine q_iload_n (pc' := 6) dX10_blocksFor_5 rfl rfl ?_
  refine q_iaddN (pc' := 7) dX10_blocksFor_6 rfl ?_
  refine q_iconst (pc' := 8) (v := nI 1) dX10_blocksFor_7 rfl rfl ?_
  refine q_isubN (pc' := 9) dX10_blocksFor_8 (by omega) rfl ?_
  refine q_iload_n (pc' := 10) dX10_blocksFor_9 rfl rfl ?_
  refine q_idivN (pc' := 11) dX10_blocksFor_10 (by omega) rfl ?_
  refine q_goto (pc' := 15) dX10_blocksFor_11 (by decide) ?_
  refine q_iret dX10_blocksFor_15 rfl rfl ⟨_, rfl, rfl, rfl⟩
set_option maxHeartbeats 4000000 in
set_option maxRecDepth 20000 in
theorem c_isFinite {Z : q_Z} {m : q_Mm} {d : Nat} {v : Int64} : q_V (q_g Z) mX10_isFinite (d) 0 0 0 [some (.long v), none] [] (q_W Z m) (q_P Z fun r m2 => r = some (.int (q_b (s_fin v))) ∧ m2 = m) := by
  refine q_lload_n (pc' := 1) dX10_isFinite_0 rfl rfl ?_
  refine q_ldc2 (pc' := 4) dX10_isFinite_1 kX10_390 rfl ?_
  refine q_land (pc' := 5) dX10_isFinite_4 rfl ?_
  refine q_ldc2 (pc' := 8) dX10_isFinite_5 kX10_390 rfl ?_
  refine q_lcmp (pc' := 9) dX10_isFinite_8 rfl ?_
  refine q_if_eqL (tgt := 16) (pc' := 12) dX10_isFinite_9 (by decide) rfl (fun c_9 => ?_) (fun c_9 => ?_)
  · refine q_iconst (pc' := 17) (v := nI 0) dX10_isFinite_16 rfl rfl ?_
    refine q_iret dX10_isFinite_17 rfl (by first | exact q_nb0 | exact q_nb1 | exact q_nb _) ⟨_, rfl, by simp [s_fin, s_inf, q_b, c_9], rfl⟩
  refine q_iconst (pc' := 13) (v := nI 1) dX10_isFinite_12 rfl rfl ?_
  refine q_goto (pc' := 17) dX10_isFinite_13 (by decide) ?_
  refine q_iret dX10_isFinite_17 rfl (by first | exact q_nb0 | exact q_nb1 | exact q_nb _) ⟨_, rfl, by simp [s_fin, s_inf, q_b, c_9], rfl⟩
set_option maxHeartbeats 4000000 in
set_option maxRecDepth 20000 in
theorem c_isMissing {Z : q_Z} {m : q_Mm} {d : Nat} {v : Int64} : q_V (q_g Z) mX10_isMissing (d+1) 0 0 0 [some (.long v), none] [] (q_W Z m) (q_P Z fun r m2 => r = some (.int (q_b (s_mis v))) ∧ m2 = m) := by
  refine q_lload_n (pc' := 1) dX10_isMissing_0 rfl rfl ?_
  refine h_callS (pc' := 4) (M' := mX10_isFinite) (As := [_]) dX10_isMissing_1 iX10_isFinite lX10_158 rfl rfl (Nat.le_of_ble_eq_true rfl) (Nat.le_of_ble_eq_true rfl) rfl rfl (c_isFinite) (fun r m' hq => ?_)
  obtain ⟨rfl, rfl⟩ := hq
  refine q_if_neB (tgt := 21) (pc' := 7) dX10_isMissing_4 (by decide) rfl (fun c_4 => ?_) (fun c_4 => ?_)
  · refine q_iconst (pc' := 22) (v := nI 0) dX10_isMissing_21 rfl rfl ?_
    refine q_iret dX10_isMissing_22 rfl (by first | exact q_nb0 | exact q_nb1 | exact q_nb _) ⟨_, rfl, by simp [s_mis, q_b, c_4], rfl⟩
  refine q_lload_n (pc' := 8) dX10_isMissing_7 rfl rfl ?_
  refine q_ldc2 (pc' := 11) dX10_isMissing_8 kX10_392 rfl ?_
  refine q_land (pc' := 12) dX10_isMissing_11 rfl ?_
  refine q_lconst (pc' := 13) (v := 0) dX10_isMissing_12 rfl rfl ?_
  refine q_lcmp (pc' := 14) dX10_isMissing_13 rfl ?_
  refine q_if_eqL (tgt := 21) (pc' := 17) dX10_isMissing_14 (by decide) rfl (fun c_14 => ?_) (fun c_14 => ?_)
  · refine q_iconst (pc' := 22) (v := nI 0) dX10_isMissing_21 rfl rfl ?_
    refine q_iret dX10_isMissing_22 rfl (by first | exact q_nb0 | exact q_nb1 | exact q_nb _) ⟨_, rfl, by simp [s_mis, s_frac, q_b, c_4, show v &&& 4503599627370495 = 0 from c_14], rfl⟩
  refine q_iconst (pc' := 18) (v := nI 1) dX10_isMissing_17 rfl rfl ?_
  refine q_goto (pc' := 22) dX10_isMissing_18 (by decide) ?_
  refine q_iret dX10_isMissing_22 rfl (by first | exact q_nb0 | exact q_nb1 | exact q_nb _) ⟨_, rfl, by simp [s_mis, s_frac, q_b, c_4, show ¬ v &&& 4503599627370495 = 0 from c_14], rfl⟩
set_option maxHeartbeats 4000000 in
set_option maxRecDepth 20000 in
theorem c_bitLength {Z : q_Z} {m : q_Mm} {d : Nat} {v : Int64} : q_V (q_g Z) mX10_bitLength (d) 0 0 0 [some (.long v), none, none] [] (q_W Z m) (q_P Z fun r m2 => r = some (.int (nI (s_bl v))) ∧ m2 = m) := by
  refine q_iconst (pc' := 1) (v := nI 0) dX10_bitLength_0 rfl rfl ?_
  refine q_istore_n (pc' := 2) (lv' := [_, _, _]) dX10_bitLength_1 (by decide) rfl rfl ?_
  suffices h : ∀ k i, i + k = 64 → s_find (fun k => decide ((v.toUInt64 >>> ((nI k).toInt64.toUInt64 &&& Int64.toUInt64 63)).toInt64 = 0)) k i = s_bl v → q_V (q_g Z) mX10_bitLength (d) 0 0 2 [some (.long v), none, some (.int (nI i))] [] (q_W Z (m)) (q_P Z fun r m2 => r = some (.int (nI (s_bl v))) ∧ m2 = m) from h 64 0 rfl rfl
  intro k
  induction k with
  | zero =>
    intro i hi hs
    refine q_iload_n (pc' := 3) dX10_bitLength_2 rfl rfl ?_
    refine q_bipush (pc' := 5) (v := nI 64) dX10_bitLength_3 rfl rfl ?_
    refine q_icmp_geN (tgt := 22) (pc' := 8) dX10_bitLength_5 (by decide) rfl (by omega) (fun c_5 => ?_) (fun c_5 => ?_)
    · refine q_iload_n (pc' := 23) dX10_bitLength_22 rfl rfl ?_
      refine q_iret dX10_bitLength_23 rfl rfl ⟨_, rfl, by rw [← hs]; rfl, rfl⟩
    · omega
  | succ k ih =>
    intro i hi hs
    unfold s_find at hs
    refine q_iload_n (pc' := 3) dX10_bitLength_2 rfl rfl ?_
    refine q_bipush (pc' := 5) (v := nI 64) dX10_bitLength_3 rfl rfl ?_
    refine q_icmp_geN (tgt := 22) (pc' := 8) dX10_bitLength_5 (by decide) rfl (by omega) (fun c_5 => ?_) (fun c_5 => ?_)
    · omega
    refine q_lload_n (pc' := 9) dX10_bitLength_8 rfl rfl ?_
    refine q_iload_n (pc' := 10) dX10_bitLength_9 rfl rfl ?_
    refine q_lushr (pc' := 11) dX10_bitLength_10 rfl rfl ?_
    refine q_lconst (pc' := 12) (v := 0) dX10_bitLength_11 rfl rfl ?_
    refine q_lcmp (pc' := 13) dX10_bitLength_12 rfl ?_
    refine q_if_eqL (tgt := 22) (pc' := 16) dX10_bitLength_13 (by decide) rfl (fun c_13 => ?_) (fun c_13 => ?_)
    · rw [if_pos (decide_eq_true c_13)] at hs
      refine q_iload_n (pc' := 23) dX10_bitLength_22 rfl rfl ?_
      refine q_iret dX10_bitLength_23 rfl rfl ⟨_, rfl, by rw [← hs], rfl⟩
    rw [if_neg (by simpa using c_13)] at hs
    refine q_iincN (pc' := 19) (j := 1) (lv' := [_, _, _]) dX10_bitLength_16 rfl (by decide) rfl rfl ?_
    refine q_goto (pc' := 2) dX10_bitLength_19 (by decide) ?_
    exact ih (i + 1) (by omega) hs
