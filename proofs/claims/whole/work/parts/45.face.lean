/-! ===== GuisePack's face: sum, log, status ===== -/
set_option maxHeartbeats 4000000 in
set_option maxRecDepth 20000 in
theorem c_sum {Z : q_Z} {m : q_Mm} {d : Nat} {n k : Nat} {st t : Bool} {x : Int32} {rl : Nat → Nat} {xs : Nat → Int64} {nt : Nat → Int32} (h : Cls m st n k rl xs nt) (ht : m.1 0 14 = q_b t) : q_V (q_g Z) mX10_sum (d+4) 0 0 0 [some (.ref (q_ad Z 0)), some (.int x)] [] (q_W Z m) (q_P Z fun r m2 => r = some (.long (if t = true ∧ 0 ≤ x.toInt ∧ x.toInt ≤ 1 then (if x.toInt = 0 then s_sio xs n else s_sbp xs n) else -1000000)) ∧ Cls m2 st n k rl xs nt ∧ Fr [214] m m2) := by
  refine q_aload_n (pc' := 1) dX10_sum_0 rfl rfl ?_
  refine h_getiE (pc' := 4) dX10_sum_1 fX10_122 rfl rfl (ht) rfl ?_
  refine q_if_eqB (tgt := 16) (pc' := 7) dX10_sum_4 (by decide) rfl (fun c_4 => ?_) (fun c_4 => ?_)
  · refine q_ldc2 (pc' := 19) dX10_sum_16 kX10_132 rfl ?_
    refine q_lret dX10_sum_19 rfl ⟨_, rfl, by rw [if_neg (fun z => by rw [c_4] at z; exact absurd z.1 (by decide))], h, Fr.rf⟩
  refine q_iload_n (pc' := 8) dX10_sum_7 rfl rfl ?_
  refine q_if_lt (tgt := 16) (pc' := 11) dX10_sum_8 (by decide) rfl (fun c_8 => ?_) (fun c_8 => ?_)
  · rw [z_lt, z_0] at c_8
    refine q_ldc2 (pc' := 19) dX10_sum_16 kX10_132 rfl ?_
    refine q_lret dX10_sum_19 rfl ⟨_, rfl, by rw [if_neg (fun z => by omega)], h, Fr.rf⟩
  rw [z_lt, z_0] at c_8
  refine q_iload_n (pc' := 12) dX10_sum_11 rfl rfl ?_
  refine q_iconst (pc' := 13) (v := nI 1) dX10_sum_12 rfl rfl ?_
  refine q_icmp_le (tgt := 20) (pc' := 16) dX10_sum_13 (by decide) rfl (fun c_13 => ?_) (fun c_13 => ?_)
  rotate_left
  · rw [z_le, z_n (by decide)] at c_13
    refine q_ldc2 (pc' := 19) dX10_sum_16 kX10_132 rfl ?_
    refine q_lret dX10_sum_19 rfl ⟨_, rfl, by rw [if_neg (fun z => by omega)], h, Fr.rf⟩
  rw [z_le, z_n (by decide)] at c_13
  rw [if_pos ⟨c_4, by omega, by omega⟩]
  refine q_iload_n (pc' := 21) dX10_sum_20 rfl rfl ?_
  refine q_if_ne (tgt := 31) (pc' := 24) dX10_sum_21 (by decide) rfl (fun c_21 => ?_) (fun c_21 => ?_)
  · rw [z_eq, z_0] at c_21
    refine q_aload_n (pc' := 32) dX10_sum_31 rfl rfl ?_
    refine h_callV (pc' := 35) (M' := mX10_sumByPairs) (As := []) dX10_sum_32 iX10_sumByPairs lX10_209 rfl rfl rfl rfl (Nat.le_of_ble_eq_true rfl) (Nat.le_of_ble_eq_true rfl) rfl rfl (c_sumByPairs h.1 h.2.2.2.1) (fun r m' hq => ?_)
    obtain ⟨rfl, f1⟩ := hq
    refine q_lret dX10_sum_35 rfl ⟨_, rfl, by rw [if_neg c_21], h.fr f1 (Kp.fr f1 (by decide)) (by decide), f1⟩
  · rw [z_eq, z_0] at c_21
    refine q_aload_n (pc' := 25) dX10_sum_24 rfl rfl ?_
    refine h_callV (pc' := 28) (M' := mX10_sumInOrder) (As := []) dX10_sum_25 iX10_sumInOrder lX10_205 rfl rfl rfl rfl (Nat.le_of_ble_eq_true rfl) (Nat.le_of_ble_eq_true rfl) rfl rfl (c_sumInOrder h.1 h.2.2.2.1) (fun r m' hq => ?_)
    obtain ⟨rfl, hmm⟩ := hq
    subst m'
    refine q_goto (pc' := 35) dX10_sum_28 (by decide) ?_
    refine q_lret dX10_sum_35 rfl ⟨_, rfl, by rw [if_pos c_21], h, Fr.rf⟩
set_option maxHeartbeats 4000000 in
set_option maxRecDepth 20000 in
theorem c_log {Z : q_Z} {m : q_Mm} {d : Nat} {n k : Nat} {x y : Int32} {rl : Nat → Nat} {xs : Nat → Int64} {nt : Nat → Int32} (hC : Col m 19 n k xs rl nt) : q_V (q_g Z) mX10_log (d+1) 0 0 0 [some (.ref (q_ad Z 0)), some (.int x), some (.int y)] [] (q_W Z m) (q_P Z fun r m2 => r = some (.int (if (0 ≤ x.toInt ∧ x.toInt < (k : Int)) ∧ 0 ≤ y.toInt ∧ y.toInt ≤ 2 then nt (3 * (k - 1 - s_i x) + s_i y) else -1000000)) ∧ m2 = m) := by
  have hk6 := hC.2.2.2.1
  refine q_iload_n (pc' := 1) dX10_log_0 rfl rfl ?_
  refine q_if_lt (tgt := 24) (pc' := 4) dX10_log_1 (by decide) rfl (fun c_1 => ?_) (fun c_1 => ?_)
  · rw [z_lt, z_0] at c_1
    refine q_ldc (pc' := 26) dX10_log_24 kX10_157 rfl ?_
    refine q_iret dX10_log_26 rfl rfl ⟨_, rfl, by rw [if_neg (fun z => by omega)], rfl⟩
  rw [z_lt, z_0] at c_1
  refine q_iload_n (pc' := 5) dX10_log_4 rfl rfl ?_
  refine q_aload_n (pc' := 6) dX10_log_5 rfl rfl ?_
  refine h_getr (pc' := 9) dX10_log_6 fX10_45 rfl rfl rfl ?_
  refine h_getiE (pc' := 12) dX10_log_9 fX10_372 rfl rfl (hC.2.1) rfl ?_
  refine q_icmp_ge (tgt := 24) (pc' := 15) dX10_log_12 (by decide) rfl (fun c_12 => ?_) (fun c_12 => ?_)
  · rw [z_le, z_n (by omega)] at c_12
    refine q_ldc (pc' := 26) dX10_log_24 kX10_157 rfl ?_
    refine q_iret dX10_log_26 rfl rfl ⟨_, rfl, by rw [if_neg (fun z => by omega)], rfl⟩
  rw [z_le, z_n (by omega)] at c_12
  refine q_iload_n (pc' := 16) dX10_log_15 rfl rfl ?_
  refine q_if_lt (tgt := 24) (pc' := 19) dX10_log_16 (by decide) rfl (fun c_16 => ?_) (fun c_16 => ?_)
  · rw [z_lt, z_0] at c_16
    refine q_ldc (pc' := 26) dX10_log_24 kX10_157 rfl ?_
    refine q_iret dX10_log_26 rfl rfl ⟨_, rfl, by rw [if_neg (fun z => by omega)], rfl⟩
  rw [z_lt, z_0] at c_16
  refine q_iload_n (pc' := 20) dX10_log_19 rfl rfl ?_
  refine q_iconst (pc' := 21) (v := nI 2) dX10_log_20 rfl rfl ?_
  refine q_icmp_le (tgt := 27) (pc' := 24) dX10_log_21 (by decide) rfl (fun c_21 => ?_) (fun c_21 => ?_)
  rotate_left
  · rw [z_le, z_n (by decide)] at c_21
    refine q_ldc (pc' := 26) dX10_log_24 kX10_157 rfl ?_
    refine q_iret dX10_log_26 rfl rfl ⟨_, rfl, by rw [if_neg (fun z => by omega)], rfl⟩
  rw [z_le, z_n (by decide)] at c_21
  obtain ⟨i, hi, hx⟩ := z_ex (x := x) (n := k) (by omega) (by omega) (by omega)
  obtain ⟨w, hw, hy⟩ := z_ex (x := y) (n := 3) (by omega) (by omega) (by omega)
  rw [if_pos ⟨⟨by omega, by omega⟩, by omega, by omega⟩, hx, hy, s_i_n (by omega), s_i_n (by omega)]
  refine q_aload_n (pc' := 28) dX10_log_27 rfl rfl ?_
  refine h_getr (pc' := 31) dX10_log_28 fX10_45 rfl rfl rfl ?_
  refine q_iload_n (pc' := 32) dX10_log_31 rfl rfl ?_
  refine q_iload_n (pc' := 33) dX10_log_32 rfl rfl ?_
  refine h_callV (pc' := 36) (M' := mX2_noteAt) (As := [_, _]) dX10_log_33 iX2_noteAt lX10_375 rfl rfl rfl rfl (Nat.le_of_ble_eq_true rfl) (Nat.le_of_ble_eq_true rfl) rfl rfl (c_noteAt hC hi hw) (fun r m' hq => ?_)
  obtain ⟨rfl, hmm⟩ := hq
  subst m'
  refine q_iret dX10_log_36 rfl rfl ⟨_, rfl, rfl, rfl⟩
set_option maxHeartbeats 4000000 in
set_option maxRecDepth 20000 in
theorem c_status {Z : q_Z} {m : q_Mm} {d : Nat} {x : Int32} : q_V (q_g Z) mX10_status (d) 0 0 0 [some (.ref (q_ad Z 0)), some (.int x)] [] (q_W Z m) (q_P Z fun r m2 => r = some (.int (if 0 ≤ x.toInt ∧ x.toInt < 5 then m.2.2.1 213 (s_i x) else -1)) ∧ m2 = m) := by
  refine q_iload_n (pc' := 1) dX10_status_0 rfl rfl ?_
  refine q_if_lt (tgt := 18) (pc' := 4) dX10_status_1 (by decide) rfl (fun c_1 => ?_) (fun c_1 => ?_)
  · rw [z_lt, z_0] at c_1
    refine q_iconst (pc' := 19) (v := (-1)) dX10_status_18 rfl rfl ?_
    refine q_iret dX10_status_19 rfl rfl ⟨_, rfl, by rw [if_neg (fun z => by omega)], rfl⟩
  rw [z_lt, z_0] at c_1
  refine q_iload_n (pc' := 5) dX10_status_4 rfl rfl ?_
  refine q_iconst (pc' := 6) (v := nI 5) dX10_status_5 rfl rfl ?_
  refine q_icmp_ge (tgt := 18) (pc' := 9) dX10_status_6 (by decide) rfl (fun c_6 => ?_) (fun c_6 => ?_)
  · rw [z_le, z_n (by decide)] at c_6
    refine q_iconst (pc' := 19) (v := (-1)) dX10_status_18 rfl rfl ?_
    refine q_iret dX10_status_19 rfl rfl ⟨_, rfl, by rw [if_neg (fun z => by omega)], rfl⟩
  rw [z_le, z_n (by decide)] at c_6
  obtain ⟨w, hw, hx⟩ := z_ex (x := x) (n := 5) (by omega) (by omega) (by omega)
  rw [if_pos ⟨by omega, by omega⟩, hx, s_i_n (by omega)]
  refine q_aload_n (pc' := 10) dX10_status_9 rfl rfl ?_
  refine h_getr (pc' := 13) dX10_status_10 fX10_89 rfl rfl rfl ?_
  refine q_iload_n (pc' := 14) dX10_status_13 rfl rfl ?_
  refine h_iald (pc' := 15) dX10_status_14 rfl (rfl) (by omega) (by decide) rfl ?_
  refine q_goto (pc' := 19) dX10_status_15 (by decide) ?_
  refine q_iret dX10_status_19 rfl rfl ⟨_, rfl, rfl, rfl⟩
