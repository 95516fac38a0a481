/-! ===== Plan, what blocks cost ===== -/
theorem Ms.fr {S : List Nat} {m m2 : q_Mm} {b : Nat} {q : Int64 × Int64 × Nat} (h : Ms m b q) (f : Fr S m m2) (hb : b ∉ S) : Ms m2 b q := ⟨(congrFun (f.j hb) 9).trans h.1, (congrFun (f.j hb) 10).trans h.2.1, (congrFun (f.i hb) 11).trans h.2.2⟩
theorem Pl.kp {J : List Nat} {m m2 : q_Mm} {b n : Nat} {r : Nat → Nat} {ys : Nat → Int64} {ws : Nat → Nat → Int64} {S : List Nat} (h : Pl m b n r ys ws) (f : Fr S m m2) (k : Kp b J m m2) (hJ : 4 ∉ J) (h1 : b + 1 ∉ S) (h2 : b + 2 ∉ S) (h3 : 20 ∉ S) (h4 : 193 ∉ S) : Pl m2 b n r ys ws := h.fr f (k 4 hJ) h1 h2 h3 h4
theorem s_sc_le {n : Nat} {r : Nat → Nat} (hr : s_rok r) (ws : Nat → Nat → Int64) (b p : Nat) : s_sc n r ws b p ≤ 1000 := s_mc_le _ _ (by unfold s_sn; have := hr.2.1.2; split <;> omega)
theorem s_dc_le {n : Nat} {r : Nat → Nat} (hr : s_rok r) (ws : Nat → Nat → Int64) (b p : Nat) : s_dc n r ws b p ≤ 1000 := s_mc_le _ _ (by unfold s_sz; have := hr.1.2; split <;> omega)
theorem s_dm_eq {n : Nat} {r : Nat → Nat} {ws : Nat → Nat → Int64} {b p : Nat} (h : 1 ≤ s_sz n r b) : s_ms (fun j => ws (b * r 0 + j * s_sz n r b / s_sz n r b) p) (s_sz n r b) = s_dm n r ws b p := s_ms_congr _ fun j _ => by rw [Nat.mul_div_cancel _ (by omega)]
set_option maxHeartbeats 4000000 in
set_option maxRecDepth 20000 in
theorem c_measuredCost_194 {Z : q_Z} {m : q_Mm} {d : Nat} {v : Nat} {q : Int64 × Int64 × Nat} (hM : Ms m 194 q) (hv : v ≤ 16) (hf : q.2.2 ≤ v) : q_V (q_g Z) mX8_measuredCost (d+1) 0 0 0 [some (.ref (q_ad Z 194)), some (.int (nI v)), none] [] (q_W Z m) (q_P Z fun r m2 => r = some (.int (nI (s_mc v q))) ∧ m2 = m) := by
  refine q_iload_n (pc' := 1) dX8_measuredCost_0 rfl rfl ?_
  refine q_aload_n (pc' := 2) dX8_measuredCost_1 rfl rfl ?_
  refine h_getjE (pc' := 5) dX8_measuredCost_2 fX8_123 rfl rfl (hM.2.1) rfl ?_
  refine q_aload_n (pc' := 6) dX8_measuredCost_5 rfl rfl ?_
  refine h_getjE (pc' := 9) dX8_measuredCost_6 fX8_119 rfl rfl (hM.1) rfl ?_
  refine q_lsub (pc' := 10) dX8_measuredCost_9 rfl ?_
  refine h_callSN (pc' := 13) (M' := mX10_bitLength) (As := [_]) dX8_measuredCost_10 iX10_bitLength nm_X8_140 rfl rfl (Nat.le_of_ble_eq_true rfl) (Nat.le_of_ble_eq_true rfl) rfl rfl (c_bitLength) (fun r m' hq => ?_)
  obtain ⟨rfl, rfl⟩ := hq
  have h1 := s_bl_le (q.2.1 - q.1)
  have h2 : v * s_bl (q.2.1 - q.1) ≤ 16 * 64 := Nat.mul_le_mul hv h1
  refine q_imulN (pc' := 14) dX8_measuredCost_13 rfl ?_
  refine q_istore_n (pc' := 15) (lv' := [_, _, _]) dX8_measuredCost_14 (by decide) rfl rfl ?_
  refine q_bipush (pc' := 17) (v := nI 15) dX8_measuredCost_15 rfl rfl ?_
  refine q_iload_n (pc' := 18) dX8_measuredCost_17 rfl rfl ?_
  refine q_bipush (pc' := 20) (v := nI 7) dX8_measuredCost_18 rfl rfl ?_
  refine q_iaddN (pc' := 21) dX8_measuredCost_20 rfl ?_
  refine q_bipush (pc' := 23) (v := nI 8) dX8_measuredCost_21 rfl rfl ?_
  refine q_idivN (pc' := 24) dX8_measuredCost_23 (by omega) rfl ?_
  refine q_iaddN (pc' := 25) dX8_measuredCost_24 rfl ?_
  refine q_bipush (pc' := 27) (v := nI 9) dX8_measuredCost_25 rfl rfl ?_
  refine q_iload_n (pc' := 28) dX8_measuredCost_27 rfl rfl ?_
  refine q_aload_n (pc' := 29) dX8_measuredCost_28 rfl rfl ?_
  refine h_getiE (pc' := 32) dX8_measuredCost_29 fX8_126 rfl rfl (hM.2.2) rfl ?_
  refine q_isubN (pc' := 33) dX8_measuredCost_32 (by omega) rfl ?_
  refine q_imulN (pc' := 34) dX8_measuredCost_33 rfl ?_
  refine q_iaddN (pc' := 35) dX8_measuredCost_34 rfl ?_
  refine q_iret dX8_measuredCost_35 rfl rfl ⟨_, rfl, rfl, rfl⟩
set_option maxHeartbeats 4000000 in
set_option maxRecDepth 20000 in
theorem c_sampleCost_194 {Z : q_Z} {m : q_Mm} {d : Nat} {n bk p : Nat} {rl : Nat → Nat} {ys : Nat → Int64} {ws : Nat → Nat → Int64} (hP : Pl m 194 n rl ys ws) (hb : bk < s_nb n rl) (hp : p < 120) : q_V (q_g Z) mX8_sampleCost (d+2) 0 0 0 [some (.ref (q_ad Z 194)), some (.int (nI bk)), some (.int (nI p)), none, none] [] (q_W Z m) (q_P Z fun r m2 => r = some (.int (nI (s_sc n rl ws bk p))) ∧ Fr [194] m m2 ∧ Kp 194 [11] m m2) := by
  have hz := s_nb_in hP.2.2.2.1 hb
  have hr := hP.2.2.2.1
  have h0 := hr.2.1
  have h9 := hr.1
  refine q_aload_n (pc' := 1) dX8_sampleCost_0 rfl rfl ?_
  refine q_iload_n (pc' := 2) dX8_sampleCost_1 rfl rfl ?_
  refine h_callV (pc' := 5) (M' := mX8_sizeOf) (As := [_]) dX8_sampleCost_2 iX8_sizeOf lX8_106 rfl rfl rfl rfl (Nat.le_of_ble_eq_true rfl) (Nat.le_of_ble_eq_true rfl) rfl rfl (c_sizeOf_194 hP hb) (fun r m' hq => ?_)
  obtain ⟨rfl, rfl⟩ := hq
  refine q_istore_n (pc' := 6) (lv' := [_, _, _, _, _]) dX8_sampleCost_5 (by decide) rfl rfl ?_
  refine q_iload_n (pc' := 7) dX8_sampleCost_6 rfl rfl ?_
  refine q_aload_n (pc' := 8) dX8_sampleCost_7 rfl rfl ?_
  refine h_getr (pc' := 11) dX8_sampleCost_8 fX8_9 rfl rfl rfl ?_
  refine q_iconst (pc' := 12) (v := nI 1) dX8_sampleCost_11 rfl rfl ?_
  refine h_ialdE (pc' := 13) dX8_sampleCost_12 rfl (rfl) (by omega) (by decide) (hP.2.2.1 1 (by decide)) rfl ?_
  refine q_icmp_geN (tgt := 20) (pc' := 16) dX8_sampleCost_13 (by decide) rfl (by omega) (fun c_13 => ?_) (fun c_13 => ?_)
  · have hs : s_sn n rl bk = rl 1 := by unfold s_sn; rw [if_neg (by omega)]
    refine q_aload_n (pc' := 21) dX8_sampleCost_20 rfl rfl ?_
    refine h_getr (pc' := 24) dX8_sampleCost_21 fX8_9 rfl rfl rfl ?_
    refine q_iconst (pc' := 25) (v := nI 1) dX8_sampleCost_24 rfl rfl ?_
    refine h_ialdE (pc' := 26) dX8_sampleCost_25 rfl (rfl) (by omega) (by decide) (hP.2.2.1 1 (by decide)) rfl ?_
    refine q_istore (pc' := 28) (lv' := [_, _, _, _, _]) dX8_sampleCost_26 (by decide) rfl rfl ?_
    refine q_aload_n (pc' := 29) dX8_sampleCost_28 rfl rfl ?_
    refine q_iload_n (pc' := 30) dX8_sampleCost_29 rfl rfl ?_
    refine q_iload_n (pc' := 31) dX8_sampleCost_30 rfl rfl ?_
    refine q_iload (pc' := 33) dX8_sampleCost_31 rfl rfl ?_
    refine q_iload_n (pc' := 34) dX8_sampleCost_33 rfl rfl ?_
    refine h_callV (pc' := 37) (M' := mX8_measure) (As := [_, _, _, _]) dX8_sampleCost_34 iX8_measure lX8_109 rfl rfl rfl rfl (Nat.le_of_ble_eq_true rfl) (Nat.le_of_ble_eq_true rfl) rfl rfl (c_measure_194 hP (by omega) (by omega) hp) (fun r m' hq => ?_)
    obtain ⟨rfl, f1, k1, q1⟩ := hq
    have := s_ms_le (fun i => ws (bk * rl 0 + i * s_sz n rl bk / rl 1) p) (rl 1)
    refine q_aload_n (pc' := 38) dX8_sampleCost_37 rfl rfl ?_
    refine q_iload (pc' := 40) dX8_sampleCost_38 rfl rfl ?_
    refine h_callV (pc' := 43) (M' := mX8_measuredCost) (As := [_]) dX8_sampleCost_40 iX8_measuredCost lX8_113 rfl rfl rfl rfl (Nat.le_of_ble_eq_true rfl) (Nat.le_of_ble_eq_true rfl) rfl rfl (c_measuredCost_194 q1 (by omega) this) (fun r m' hq => ?_)
    obtain ⟨rfl, rfl⟩ := hq
    refine q_iret dX8_sampleCost_43 rfl rfl ⟨_, rfl, by unfold s_sc; rw [hs], f1, k1⟩
  · have hs : s_sn n rl bk = s_sz n rl bk := by unfold s_sn; rw [if_pos (by omega)]
    refine q_iload_n (pc' := 17) dX8_sampleCost_16 rfl rfl ?_
    refine q_goto (pc' := 26) dX8_sampleCost_17 (by decide) ?_
    refine q_istore (pc' := 28) (lv' := [_, _, _, _, _]) dX8_sampleCost_26 (by decide) rfl rfl ?_
    refine q_aload_n (pc' := 29) dX8_sampleCost_28 rfl rfl ?_
    refine q_iload_n (pc' := 30) dX8_sampleCost_29 rfl rfl ?_
    refine q_iload_n (pc' := 31) dX8_sampleCost_30 rfl rfl ?_
    refine q_iload (pc' := 33) dX8_sampleCost_31 rfl rfl ?_
    refine q_iload_n (pc' := 34) dX8_sampleCost_33 rfl rfl ?_
    refine h_callV (pc' := 37) (M' := mX8_measure) (As := [_, _, _, _]) dX8_sampleCost_34 iX8_measure lX8_109 rfl rfl rfl rfl (Nat.le_of_ble_eq_true rfl) (Nat.le_of_ble_eq_true rfl) rfl rfl (c_measure_194 hP (by omega) (by omega) hp) (fun r m' hq => ?_)
    obtain ⟨rfl, f1, k1, q1⟩ := hq
    have := s_ms_le (fun i => ws (bk * rl 0 + i * s_sz n rl bk / s_sz n rl bk) p) (s_sz n rl bk)
    refine q_aload_n (pc' := 38) dX8_sampleCost_37 rfl rfl ?_
    refine q_iload (pc' := 40) dX8_sampleCost_38 rfl rfl ?_
    refine h_callV (pc' := 43) (M' := mX8_measuredCost) (As := [_]) dX8_sampleCost_40 iX8_measuredCost lX8_113 rfl rfl rfl rfl (Nat.le_of_ble_eq_true rfl) (Nat.le_of_ble_eq_true rfl) rfl rfl (c_measuredCost_194 q1 (by omega) this) (fun r m' hq => ?_)
    obtain ⟨rfl, rfl⟩ := hq
    refine q_iret dX8_sampleCost_43 rfl rfl ⟨_, rfl, by unfold s_sc; rw [hs], f1, k1⟩
set_option maxHeartbeats 4000000 in
set_option maxRecDepth 20000 in
theorem c_measureBlock_194 {Z : q_Z} {m : q_Mm} {d : Nat} {n bk p : Nat} {rl : Nat → Nat} {ys : Nat → Int64} {ws : Nat → Nat → Int64} (hP : Pl m 194 n rl ys ws) (hb : bk < s_nb n rl) (hp : p < 120) : q_V (q_g Z) mX8_measureBlock (d+2) 0 0 0 [some (.ref (q_ad Z 194)), some (.int (nI bk)), some (.int (nI p)), none] [] (q_W Z m) (q_P Z fun r m2 => r = none ∧ Fr [194] m m2 ∧ Kp 194 [11] m m2 ∧ Ms m2 194 (s_dm n rl ws bk p)) := by
  have hz := s_nb_in hP.2.2.2.1 hb
  have h9 := hP.2.2.2.1.1
  refine q_aload_n (pc' := 1) dX8_measureBlock_0 rfl rfl ?_
  refine q_iload_n (pc' := 2) dX8_measureBlock_1 rfl rfl ?_
  refine h_callV (pc' := 5) (M' := mX8_sizeOf) (As := [_]) dX8_measureBlock_2 iX8_sizeOf lX8_106 rfl rfl rfl rfl (Nat.le_of_ble_eq_true rfl) (Nat.le_of_ble_eq_true rfl) rfl rfl (c_sizeOf_194 hP hb) (fun r m' hq => ?_)
  obtain ⟨rfl, rfl⟩ := hq
  refine q_istore_n (pc' := 6) (lv' := [_, _, _, _]) dX8_measureBlock_5 (by decide) rfl rfl ?_
  refine q_aload_n (pc' := 7) dX8_measureBlock_6 rfl rfl ?_
  refine q_iload_n (pc' := 8) dX8_measureBlock_7 rfl rfl ?_
  refine q_iload_n (pc' := 9) dX8_measureBlock_8 rfl rfl ?_
  refine q_iload_n (pc' := 10) dX8_measureBlock_9 rfl rfl ?_
  refine q_iload_n (pc' := 11) dX8_measureBlock_10 rfl rfl ?_
  refine h_callV (pc' := 14) (M' := mX8_measure) (As := [_, _, _, _]) dX8_measureBlock_11 iX8_measure lX8_109 rfl rfl rfl rfl (Nat.le_of_ble_eq_true rfl) (Nat.le_of_ble_eq_true rfl) rfl rfl (c_measure_194 hP (by omega) (by omega) hp) (fun r m' hq => ?_)
  obtain ⟨rfl, f1, k1, q1⟩ := hq
  rw [s_dm_eq hz.2.1] at q1
  refine q_vret dX8_measureBlock_14 rfl ⟨_, rfl, rfl, f1, k1, q1⟩
set_option maxHeartbeats 4000000 in
set_option maxRecDepth 20000 in
theorem c_decimalCost_194 {Z : q_Z} {m : q_Mm} {d : Nat} {n bk p : Nat} {rl : Nat → Nat} {ys : Nat → Int64} {ws : Nat → Nat → Int64} (hP : Pl m 194 n rl ys ws) (hb : bk < s_nb n rl) (hp : p < 120) : q_V (q_g Z) mX8_decimalCost (d+3) 0 0 0 [some (.ref (q_ad Z 194)), some (.int (nI bk)), some (.int (nI p))] [] (q_W Z m) (q_P Z fun r m2 => r = some (.int (nI (s_dc n rl ws bk p))) ∧ Fr [194] m m2 ∧ Kp 194 [11] m m2 ∧ Ms m2 194 (s_dm n rl ws bk p)) := by
  have hz := s_nb_in hP.2.2.2.1 hb
  have h9 := hP.2.2.2.1.1
  refine q_aload_n (pc' := 1) dX8_decimalCost_0 rfl rfl ?_
  refine q_iload_n (pc' := 2) dX8_decimalCost_1 rfl rfl ?_
  refine q_iload_n (pc' := 3) dX8_decimalCost_2 rfl rfl ?_
  refine h_callV (pc' := 6) (M' := mX8_measureBlock) (As := [_, _]) dX8_decimalCost_3 iX8_measureBlock lX8_116 rfl rfl rfl rfl (Nat.le_of_ble_eq_true rfl) (Nat.le_of_ble_eq_true rfl) rfl rfl (c_measureBlock_194 hP hb hp) (fun r m' hq => ?_)
  obtain ⟨rfl, f1, k1, q1⟩ := hq
  have hP1 := hP.kp f1 k1 (by decide) (by decide) (by decide) (by decide) (by decide)
  refine q_aload_n (pc' := 7) dX8_decimalCost_6 rfl rfl ?_
  refine q_aload_n (pc' := 8) dX8_decimalCost_7 rfl rfl ?_
  refine q_iload_n (pc' := 9) dX8_decimalCost_8 rfl rfl ?_
  refine h_callV (pc' := 12) (M' := mX8_sizeOf) (As := [_]) dX8_decimalCost_9 iX8_sizeOf lX8_106 rfl rfl rfl rfl (Nat.le_of_ble_eq_true rfl) (Nat.le_of_ble_eq_true rfl) rfl rfl ((c_sizeOf_194 (d := d) hP1 hb).up (by omega)) (fun r m' hq => ?_)
  obtain ⟨rfl, rfl⟩ := hq
  have := s_ms_le (fun i => ws (bk * rl 0 + i) p) (s_sz n rl bk)
  refine h_callV (pc' := 15) (M' := mX8_measuredCost) (As := [_]) dX8_decimalCost_12 iX8_measuredCost lX8_113 rfl rfl rfl rfl (Nat.le_of_ble_eq_true rfl) (Nat.le_of_ble_eq_true rfl) rfl rfl ((c_measuredCost_194 (d := d) q1 (by omega) this).up (by omega)) (fun r m' hq => ?_)
  obtain ⟨rfl, rfl⟩ := hq
  refine q_iret dX8_decimalCost_15 rfl rfl ⟨_, rfl, rfl, f1, k1, q1⟩
set_option maxHeartbeats 4000000 in
set_option maxRecDepth 20000 in
theorem c_widthOf_194 {Z : q_Z} {m : q_Mm} {d : Nat} {n bk p : Nat} {rl : Nat → Nat} {ys : Nat → Int64} {ws : Nat → Nat → Int64} (hP : Pl m 194 n rl ys ws) (hb : bk < s_nb n rl) (hp : p < 120) (h12 : m.1 194 12 = nI p) : q_V (q_g Z) mX8_widthOf (d+3) 0 0 0 [some (.ref (q_ad Z 194)), some (.int (nI bk))] [] (q_W Z m) (q_P Z fun r m2 => r = some (.int (nI (s_bl ((s_dm n rl ws bk p).2.1 - (s_dm n rl ws bk p).1)))) ∧ Fr [194] m m2 ∧ Kp 194 [11] m m2 ∧ Ms m2 194 (s_dm n rl ws bk p)) := by
  refine q_aload_n (pc' := 1) dX8_widthOf_0 rfl rfl ?_
  refine q_iload_n (pc' := 2) dX8_widthOf_1 rfl rfl ?_
  refine q_aload_n (pc' := 3) dX8_widthOf_2 rfl rfl ?_
  refine h_getiE (pc' := 6) dX8_widthOf_3 fX8_144 rfl rfl (h12) rfl ?_
  refine h_callV (pc' := 9) (M' := mX8_measureBlock) (As := [_, _]) dX8_widthOf_6 iX8_measureBlock lX8_116 rfl rfl rfl rfl (Nat.le_of_ble_eq_true rfl) (Nat.le_of_ble_eq_true rfl) rfl rfl (c_measureBlock_194 hP hb hp) (fun r m' hq => ?_)
  obtain ⟨rfl, f1, k1, q1⟩ := hq
  refine q_aload_n (pc' := 10) dX8_widthOf_9 rfl rfl ?_
  refine h_getjE (pc' := 13) dX8_widthOf_10 fX8_123 rfl rfl (q1.2.1) rfl ?_
  refine q_aload_n (pc' := 14) dX8_widthOf_13 rfl rfl ?_
  refine h_getjE (pc' := 17) dX8_widthOf_14 fX8_119 rfl rfl (q1.1) rfl ?_
  refine q_lsub (pc' := 18) dX8_widthOf_17 rfl ?_
  refine h_callSN (pc' := 21) (M' := mX10_bitLength) (As := [_]) dX8_widthOf_18 iX10_bitLength nm_X8_140 rfl rfl (Nat.le_of_ble_eq_true rfl) (Nat.le_of_ble_eq_true rfl) rfl rfl (c_bitLength) (fun r m' hq => ?_)
  obtain ⟨rfl, rfl⟩ := hq
  refine q_iret dX8_widthOf_21 rfl rfl ⟨_, rfl, rfl, f1, k1, q1⟩
set_option maxHeartbeats 4000000 in
set_option maxRecDepth 20000 in
theorem c_rawCost_194 {Z : q_Z} {m : q_Mm} {d : Nat} {n bk : Nat} {rl : Nat → Nat} {ys : Nat → Int64} {ws : Nat → Nat → Int64} (hP : Pl m 194 n rl ys ws) (hb : bk < s_nb n rl) : q_V (q_g Z) mX8_rawCost (d+2) 0 0 0 [some (.ref (q_ad Z 194)), some (.int (nI bk))] [] (q_W Z m) (q_P Z fun r m2 => r = some (.int (nI (3 + 8 * s_sz n rl bk))) ∧ m2 = m) := by
  refine q_iconst (pc' := 1) (v := nI 3) dX8_rawCost_0 rfl rfl ?_
  refine q_bipush (pc' := 3) (v := nI 8) dX8_rawCost_1 rfl rfl ?_
  refine q_aload_n (pc' := 4) dX8_rawCost_3 rfl rfl ?_
  refine q_iload_n (pc' := 5) dX8_rawCost_4 rfl rfl ?_
  refine h_callV (pc' := 8) (M' := mX8_sizeOf) (As := [_]) dX8_rawCost_5 iX8_sizeOf lX8_106 rfl rfl rfl rfl (Nat.le_of_ble_eq_true rfl) (Nat.le_of_ble_eq_true rfl) rfl rfl (c_sizeOf_194 hP hb) (fun r m' hq => ?_)
  obtain ⟨rfl, rfl⟩ := hq
  refine q_imulN (pc' := 9) dX8_rawCost_8 rfl ?_
  refine q_iaddN (pc' := 10) dX8_rawCost_9 rfl ?_
  refine q_iret dX8_rawCost_10 rfl rfl ⟨_, rfl, rfl, rfl⟩
set_option maxHeartbeats 4000000 in
set_option maxRecDepth 20000 in
theorem c_scoreOf_194 {Z : q_Z} {m : q_Mm} {d : Nat} {n p : Nat} {rl : Nat → Nat} {ys : Nat → Int64} {ws : Nat → Nat → Int64} (hP : Pl m 194 n rl ys ws) (hp : p < 120) : q_V (q_g Z) mX8_scoreOf (d+3) 0 0 0 [some (.ref (q_ad Z 194)), some (.int (nI p)), none, none] [] (q_W Z m) (q_P Z fun r m2 => r = some (.int (nI (s_score n rl ws p))) ∧ Fr [194] m m2 ∧ Kp 194 [11] m m2) := by
  have hr := hP.2.2.2.1
  have hnb := s_nb_le hr hP.2.1
  refine q_iconst (pc' := 1) (v := nI 0) dX8_scoreOf_0 rfl rfl ?_
  refine q_istore_n (pc' := 2) (lv' := [_, _, _, _]) dX8_scoreOf_1 (by decide) rfl rfl ?_
  refine q_iconst (pc' := 3) (v := nI 0) dX8_scoreOf_2 rfl rfl ?_
  refine q_istore_n (pc' := 4) (lv' := [_, _, _, _]) dX8_scoreOf_3 (by decide) rfl rfl ?_
  suffices h : ∀ c j (m1 : q_Mm), j + c = s_nb n rl → Fr [194] m m1 → Kp 194 [11] m m1 → q_V (q_g Z) mX8_scoreOf (d+3) 0 0 4 [some (.ref (q_ad Z 194)), some (.int (nI p)), some (.int (nI (s_sum (fun b => s_sc n rl ws b p) j))), some (.int (nI j))] [] (q_W Z (m1)) (q_P Z fun r m2 => r = some (.int (nI (s_score n rl ws p))) ∧ Fr [194] m m2 ∧ Kp 194 [11] m m2) from h (s_nb n rl) 0 m (by omega) Fr.rf Kp.rf
  intro c
  induction c with
  | zero =>
    intro j m1 hj f1 k1
    have hP1 := hP.kp f1 k1 (by decide) (by decide) (by decide) (by decide) (by decide)
    refine q_iload_n (pc' := 5) dX8_scoreOf_4 rfl rfl ?_
    refine q_aload_n (pc' := 6) dX8_scoreOf_5 rfl rfl ?_
    refine h_callV (pc' := 9) (M' := mX8_blocks) (As := []) dX8_scoreOf_6 iX8_blocks lX8_100 rfl rfl rfl rfl (Nat.le_of_ble_eq_true rfl) (Nat.le_of_ble_eq_true rfl) rfl rfl (c_plBlocks_194 hP1) (fun r m' hq => ?_)
    obtain ⟨rfl, rfl⟩ := hq
    obtain rfl : s_nb n rl = j := by omega
    refine q_icmp_geN (tgt := 27) (pc' := 12) dX8_scoreOf_9 (by decide) rfl (by omega) (fun c_9 => ?_) (fun c_9 => ?_)
    · refine q_iload_n (pc' := 28) dX8_scoreOf_27 rfl rfl ?_
      refine q_iret dX8_scoreOf_28 rfl rfl ⟨_, rfl, rfl, f1, k1⟩
    · omega
  | succ c ih =>
    intro j m1 hj f1 k1
    have hP1 := hP.kp f1 k1 (by decide) (by decide) (by decide) (by decide) (by decide)
    refine q_iload_n (pc' := 5) dX8_scoreOf_4 rfl rfl ?_
    refine q_aload_n (pc' := 6) dX8_scoreOf_5 rfl rfl ?_
    refine h_callV (pc' := 9) (M' := mX8_blocks) (As := []) dX8_scoreOf_6 iX8_blocks lX8_100 rfl rfl rfl rfl (Nat.le_of_ble_eq_true rfl) (Nat.le_of_ble_eq_true rfl) rfl rfl (c_plBlocks_194 hP1) (fun r m' hq => ?_)
    obtain ⟨rfl, rfl⟩ := hq
    refine q_icmp_geN (tgt := 27) (pc' := 12) dX8_scoreOf_9 (by decide) rfl (by omega) (fun c_9 => ?_) (fun c_9 => ?_)
    · omega
    refine q_iload_n (pc' := 13) dX8_scoreOf_12 rfl rfl ?_
    refine q_aload_n (pc' := 14) dX8_scoreOf_13 rfl rfl ?_
    refine q_iload_n (pc' := 15) dX8_scoreOf_14 rfl rfl ?_
    refine q_iload_n (pc' := 16) dX8_scoreOf_15 rfl rfl ?_
    refine h_callV (pc' := 19) (M' := mX8_sampleCost) (As := [_, _]) dX8_scoreOf_16 iX8_sampleCost lX8_103 rfl rfl rfl rfl (Nat.le_of_ble_eq_true rfl) (Nat.le_of_ble_eq_true rfl) rfl rfl (c_sampleCost_194 hP1 (by omega) hp) (fun r m' hq => ?_)
    obtain ⟨rfl, f2, k2⟩ := hq
    refine q_iaddN (pc' := 20) dX8_scoreOf_19 rfl ?_
    refine q_istore_n (pc' := 21) (lv' := [_, _, _, _]) dX8_scoreOf_20 (by decide) rfl rfl ?_
    refine q_iincN (pc' := 24) (j := 1) (lv' := [_, _, _, _]) dX8_scoreOf_21 rfl (by decide) rfl rfl ?_
    refine q_goto (pc' := 4) dX8_scoreOf_24 (by decide) ?_
    refine ih (j + 1) _ (by omega) (f1.trans f2) (k1.trans k2)
set_option maxHeartbeats 4000000 in
set_option maxRecDepth 20000 in
theorem c_decimalTotal_194 {Z : q_Z} {m : q_Mm} {d : Nat} {n p : Nat} {rl : Nat → Nat} {ys : Nat → Int64} {ws : Nat → Nat → Int64} (hP : Pl m 194 n rl ys ws) (hp : p < 120) : q_V (q_g Z) mX8_decimalTotal (d+4) 0 0 0 [some (.ref (q_ad Z 194)), some (.int (nI p)), none, none] [] (q_W Z m) (q_P Z fun r m2 => r = some (.int (nI (s_sum (fun b => s_dc n rl ws b p) (s_nb n rl)))) ∧ Fr [194] m m2 ∧ Kp 194 [11] m m2) := by
  have hr := hP.2.2.2.1
  have hnb := s_nb_le hr hP.2.1
  refine q_iconst (pc' := 1) (v := nI 0) dX8_decimalTotal_0 rfl rfl ?_
  refine q_istore_n (pc' := 2) (lv' := [_, _, _, _]) dX8_decimalTotal_1 (by decide) rfl rfl ?_
  refine q_iconst (pc' := 3) (v := nI 0) dX8_decimalTotal_2 rfl rfl ?_
  refine q_istore_n (pc' := 4) (lv' := [_, _, _, _]) dX8_decimalTotal_3 (by decide) rfl rfl ?_
  suffices h : ∀ c j (m1 : q_Mm), j + c = s_nb n rl → Fr [194] m m1 → Kp 194 [11] m m1 → q_V (q_g Z) mX8_decimalTotal (d+4) 0 0 4 [some (.ref (q_ad Z 194)), some (.int (nI p)), some (.int (nI (s_sum (fun b => s_dc n rl ws b p) j))), some (.int (nI j))] [] (q_W Z (m1)) (q_P Z fun r m2 => r = some (.int (nI (s_sum (fun b => s_dc n rl ws b p) (s_nb n rl)))) ∧ Fr [194] m m2 ∧ Kp 194 [11] m m2) from h (s_nb n rl) 0 m (by omega) Fr.rf Kp.rf
  intro c
  induction c with
  | zero =>
    intro j m1 hj f1 k1
    have hP1 := hP.kp f1 k1 (by decide) (by decide) (by decide) (by decide) (by decide)
    refine q_iload_n (pc' := 5) dX8_decimalTotal_4 rfl rfl ?_
    refine q_aload_n (pc' := 6) dX8_decimalTotal_5 rfl rfl ?_
    refine h_callV (pc' := 9) (M' := mX8_blocks) (As := []) dX8_decimalTotal_6 iX8_blocks lX8_100 rfl rfl rfl rfl (Nat.le_of_ble_eq_true rfl) (Nat.le_of_ble_eq_true rfl) rfl rfl (c_plBlocks_194 hP1) (fun r m' hq => ?_)
    obtain ⟨rfl, rfl⟩ := hq
    obtain rfl : s_nb n rl = j := by omega
    refine q_icmp_geN (tgt := 27) (pc' := 12) dX8_decimalTotal_9 (by decide) rfl (by omega) (fun c_9 => ?_) (fun c_9 => ?_)
    · refine q_iload_n (pc' := 28) dX8_decimalTotal_27 rfl rfl ?_
      refine q_iret dX8_decimalTotal_28 rfl rfl ⟨_, rfl, rfl, f1, k1⟩
    · omega
  | succ c ih =>
    intro j m1 hj f1 k1
    have hP1 := hP.kp f1 k1 (by decide) (by decide) (by decide) (by decide) (by decide)
    refine q_iload_n (pc' := 5) dX8_decimalTotal_4 rfl rfl ?_
    refine q_aload_n (pc' := 6) dX8_decimalTotal_5 rfl rfl ?_
    refine h_callV (pc' := 9) (M' := mX8_blocks) (As := []) dX8_decimalTotal_6 iX8_blocks lX8_100 rfl rfl rfl rfl (Nat.le_of_ble_eq_true rfl) (Nat.le_of_ble_eq_true rfl) rfl rfl (c_plBlocks_194 hP1) (fun r m' hq => ?_)
    obtain ⟨rfl, rfl⟩ := hq
    refine q_icmp_geN (tgt := 27) (pc' := 12) dX8_decimalTotal_9 (by decide) rfl (by omega) (fun c_9 => ?_) (fun c_9 => ?_)
    · omega
    refine q_iload_n (pc' := 13) dX8_decimalTotal_12 rfl rfl ?_
    refine q_aload_n (pc' := 14) dX8_decimalTotal_13 rfl rfl ?_
    refine q_iload_n (pc' := 15) dX8_decimalTotal_14 rfl rfl ?_
    refine q_iload_n (pc' := 16) dX8_decimalTotal_15 rfl rfl ?_
    refine h_callV (pc' := 19) (M' := mX8_decimalCost) (As := [_, _]) dX8_decimalTotal_16 iX8_decimalCost lX8_192 rfl rfl rfl rfl (Nat.le_of_ble_eq_true rfl) (Nat.le_of_ble_eq_true rfl) rfl rfl (c_decimalCost_194 hP1 (by omega) hp) (fun r m' hq => ?_)
    obtain ⟨rfl, f2, k2, _⟩ := hq
    refine q_iaddN (pc' := 20) dX8_decimalTotal_19 rfl ?_
    refine q_istore_n (pc' := 21) (lv' := [_, _, _, _]) dX8_decimalTotal_20 (by decide) rfl rfl ?_
    refine q_iincN (pc' := 24) (j := 1) (lv' := [_, _, _, _]) dX8_decimalTotal_21 rfl (by decide) rfl rfl ?_
    refine q_goto (pc' := 4) dX8_decimalTotal_24 (by decide) ?_
    refine ih (j + 1) _ (by omega) (f1.trans f2) (k1.trans k2)
set_option maxHeartbeats 4000000 in
set_option maxRecDepth 20000 in
theorem c_rawTotal_194 {Z : q_Z} {m : q_Mm} {d : Nat} {n : Nat} {rl : Nat → Nat} {ys : Nat → Int64} {ws : Nat → Nat → Int64} (hP : Pl m 194 n rl ys ws) : q_V (q_g Z) mX8_rawTotal (d+3) 0 0 0 [some (.ref (q_ad Z 194)), none, none] [] (q_W Z m) (q_P Z fun r m2 => r = some (.int (nI (s_sum (fun b => 3 + 8 * s_sz n rl b) (s_nb n rl)))) ∧ m2 = m) := by
  have hr := hP.2.2.2.1
  have hnb := s_nb_le hr hP.2.1
  refine q_iconst (pc' := 1) (v := nI 0) dX8_rawTotal_0 rfl rfl ?_
  refine q_istore_n (pc' := 2) (lv' := [_, _, _]) dX8_rawTotal_1 (by decide) rfl rfl ?_
  refine q_iconst (pc' := 3) (v := nI 0) dX8_rawTotal_2 rfl rfl ?_
  refine q_istore_n (pc' := 4) (lv' := [_, _, _]) dX8_rawTotal_3 (by decide) rfl rfl ?_
  suffices h : ∀ c j, j + c = s_nb n rl → q_V (q_g Z) mX8_rawTotal (d+3) 0 0 4 [some (.ref (q_ad Z 194)), some (.int (nI (s_sum (fun b => 3 + 8 * s_sz n rl b) j))), some (.int (nI j))] [] (q_W Z (m)) (q_P Z fun r m2 => r = some (.int (nI (s_sum (fun b => 3 + 8 * s_sz n rl b) (s_nb n rl)))) ∧ m2 = m) from h (s_nb n rl) 0 (by omega)
  intro c
  induction c with
  | zero =>
    intro j hj
    refine q_iload_n (pc' := 5) dX8_rawTotal_4 rfl rfl ?_
    refine q_aload_n (pc' := 6) dX8_rawTotal_5 rfl rfl ?_
    refine h_callV (pc' := 9) (M' := mX8_blocks) (As := []) dX8_rawTotal_6 iX8_blocks lX8_100 rfl rfl rfl rfl (Nat.le_of_ble_eq_true rfl) (Nat.le_of_ble_eq_true rfl) rfl rfl (c_plBlocks_194 hP) (fun r m' hq => ?_)
    obtain ⟨rfl, rfl⟩ := hq
    obtain rfl : s_nb n rl = j := by omega
    refine q_icmp_geN (tgt := 26) (pc' := 12) dX8_rawTotal_9 (by decide) rfl (by omega) (fun c_9 => ?_) (fun c_9 => ?_)
    · refine q_iload_n (pc' := 27) dX8_rawTotal_26 rfl rfl ?_
      refine q_iret dX8_rawTotal_27 rfl rfl ⟨_, rfl, rfl, rfl⟩
    · omega
  | succ c ih =>
    intro j hj
    refine q_iload_n (pc' := 5) dX8_rawTotal_4 rfl rfl ?_
    refine q_aload_n (pc' := 6) dX8_rawTotal_5 rfl rfl ?_
    refine h_callV (pc' := 9) (M' := mX8_blocks) (As := []) dX8_rawTotal_6 iX8_blocks lX8_100 rfl rfl rfl rfl (Nat.le_of_ble_eq_true rfl) (Nat.le_of_ble_eq_true rfl) rfl rfl (c_plBlocks_194 hP) (fun r m' hq => ?_)
    obtain ⟨rfl, rfl⟩ := hq
    refine q_icmp_geN (tgt := 26) (pc' := 12) dX8_rawTotal_9 (by decide) rfl (by omega) (fun c_9 => ?_) (fun c_9 => ?_)
    · omega
    refine q_iload_n (pc' := 13) dX8_rawTotal_12 rfl rfl ?_
    refine q_aload_n (pc' := 14) dX8_rawTotal_13 rfl rfl ?_
    refine q_iload_n (pc' := 15) dX8_rawTotal_14 rfl rfl ?_
    refine h_callV (pc' := 18) (M' := mX8_rawCost) (As := [_]) dX8_rawTotal_15 iX8_rawCost lX8_183 rfl rfl rfl rfl (Nat.le_of_ble_eq_true rfl) (Nat.le_of_ble_eq_true rfl) rfl rfl (c_rawCost_194 hP (by omega)) (fun r m' hq => ?_)
    obtain ⟨rfl, rfl⟩ := hq
    refine q_iaddN (pc' := 19) dX8_rawTotal_18 rfl ?_
    refine q_istore_n (pc' := 20) (lv' := [_, _, _]) dX8_rawTotal_19 (by decide) rfl rfl ?_
    refine q_iincN (pc' := 23) (j := 1) (lv' := [_, _, _]) dX8_rawTotal_20 rfl (by decide) rfl rfl ?_
    refine q_goto (pc' := 4) dX8_rawTotal_23 (by decide) ?_
    refine ih (j + 1) (by omega)
set_option maxHeartbeats 4000000 in
set_option maxRecDepth 20000 in
theorem c_measuredCost_203 {Z : q_Z} {m : q_Mm} {d : Nat} {v : Nat} {q : Int64 × Int64 × Nat} (hM : Ms m 203 q) (hv : v ≤ 16) (hf : q.2.2 ≤ v) : q_V (q_g Z) mX8_measuredCost (d+1) 0 0 0 [some (.ref (q_ad Z 203)), some (.int (nI v)), none] [] (q_W Z m) (q_P Z fun r m2 => r = some (.int (nI (s_mc v q))) ∧ m2 = m) := by
  refine q_iload_n (pc' := 1) dX8_measuredCost_0 rfl rfl ?_
  refine q_aload_n (pc' := 2) dX8_measuredCost_1 rfl rfl ?_
  refine h_getjE (pc' := 5) dX8_measuredCost_2 fX8_123 rfl rfl (hM.2.1) rfl ?_
  refine q_aload_n (pc' := 6) dX8_measuredCost_5 rfl rfl ?_
  refine h_getjE (pc' := 9) dX8_measuredCost_6 fX8_119 rfl rfl (hM.1) rfl ?_
  refine q_lsub (pc' := 10) dX8_measuredCost_9 rfl ?_
  refine h_callSN (pc' := 13) (M' := mX10_bitLength) (As := [_]) dX8_measuredCost_10 iX10_bitLength nm_X8_140 rfl rfl (Nat.le_of_ble_eq_true rfl) (Nat.le_of_ble_eq_true rfl) rfl rfl (c_bitLength) (fun r m' hq => ?_)
  obtain ⟨rfl, rfl⟩ := hq
  have h1 := s_bl_le (q.2.1 - q.1)
  have h2 : v * s_bl (q.2.1 - q.1) ≤ 16 * 64 := Nat.mul_le_mul hv h1
  refine q_imulN (pc' := 14) dX8_measuredCost_13 rfl ?_
  refine q_istore_n (pc' := 15) (lv' := [_, _, _]) dX8_measuredCost_14 (by decide) rfl rfl ?_
  refine q_bipush (pc' := 17) (v := nI 15) dX8_measuredCost_15 rfl rfl ?_
  refine q_iload_n (pc' := 18) dX8_measuredCost_17 rfl rfl ?_
  refine q_bipush (pc' := 20) (v := nI 7) dX8_measuredCost_18 rfl rfl ?_
  refine q_iaddN (pc' := 21) dX8_measuredCost_20 rfl ?_
  refine q_bipush (pc' := 23) (v := nI 8) dX8_measuredCost_21 rfl rfl ?_
  refine q_idivN (pc' := 24) dX8_measuredCost_23 (by omega) rfl ?_
  refine q_iaddN (pc' := 25) dX8_measuredCost_24 rfl ?_
  refine q_bipush (pc' := 27) (v := nI 9) dX8_measuredCost_25 rfl rfl ?_
  refine q_iload_n (pc' := 28) dX8_measuredCost_27 rfl rfl ?_
  refine q_aload_n (pc' := 29) dX8_measuredCost_28 rfl rfl ?_
  refine h_getiE (pc' := 32) dX8_measuredCost_29 fX8_126 rfl rfl (hM.2.2) rfl ?_
  refine q_isubN (pc' := 33) dX8_measuredCost_32 (by omega) rfl ?_
  refine q_imulN (pc' := 34) dX8_measuredCost_33 rfl ?_
  refine q_iaddN (pc' := 35) dX8_measuredCost_34 rfl ?_
  refine q_iret dX8_measuredCost_35 rfl rfl ⟨_, rfl, rfl, rfl⟩
set_option maxHeartbeats 4000000 in
set_option maxRecDepth 20000 in
theorem c_sampleCost_203 {Z : q_Z} {m : q_Mm} {d : Nat} {n bk p : Nat} {rl : Nat → Nat} {ys : Nat → Int64} {ws : Nat → Nat → Int64} (hP : Pl m 203 n rl ys ws) (hb : bk < s_nb n rl) (hp : p < 120) : q_V (q_g Z) mX8_sampleCost (d+2) 0 0 0 [some (.ref (q_ad Z 203)), some (.int (nI bk)), some (.int (nI p)), none, none] [] (q_W Z m) (q_P Z fun r m2 => r = some (.int (nI (s_sc n rl ws bk p))) ∧ Fr [203] m m2 ∧ Kp 203 [11] m m2) := by
  have hz := s_nb_in hP.2.2.2.1 hb
  have hr := hP.2.2.2.1
  have h0 := hr.2.1
  have h9 := hr.1
  refine q_aload_n (pc' := 1) dX8_sampleCost_0 rfl rfl ?_
  refine q_iload_n (pc' := 2) dX8_sampleCost_1 rfl rfl ?_
  refine h_callV (pc' := 5) (M' := mX8_sizeOf) (As := [_]) dX8_sampleCost_2 iX8_sizeOf lX8_106 rfl rfl rfl rfl (Nat.le_of_ble_eq_true rfl) (Nat.le_of_ble_eq_true rfl) rfl rfl (c_sizeOf_203 hP hb) (fun r m' hq => ?_)
  obtain ⟨rfl, rfl⟩ := hq
  refine q_istore_n (pc' := 6) (lv' := [_, _, _, _, _]) dX8_sampleCost_5 (by decide) rfl rfl ?_
  refine q_iload_n (pc' := 7) dX8_sampleCost_6 rfl rfl ?_
  refine q_aload_n (pc' := 8) dX8_sampleCost_7 rfl rfl ?_
  refine h_getr (pc' := 11) dX8_sampleCost_8 fX8_9 rfl rfl rfl ?_
  refine q_iconst (pc' := 12) (v := nI 1) dX8_sampleCost_11 rfl rfl ?_
  refine h_ialdE (pc' := 13) dX8_sampleCost_12 rfl (rfl) (by omega) (by decide) (hP.2.2.1 1 (by decide)) rfl ?_
  refine q_icmp_geN (tgt := 20) (pc' := 16) dX8_sampleCost_13 (by decide) rfl (by omega) (fun c_13 => ?_) (fun c_13 => ?_)
  · have hs : s_sn n rl bk = rl 1 := by unfold s_sn; rw [if_neg (by omega)]
    refine q_aload_n (pc' := 21) dX8_sampleCost_20 rfl rfl ?_
    refine h_getr (pc' := 24) dX8_sampleCost_21 fX8_9 rfl rfl rfl ?_
    refine q_iconst (pc' := 25) (v := nI 1) dX8_sampleCost_24 rfl rfl ?_
    refine h_ialdE (pc' := 26) dX8_sampleCost_25 rfl (rfl) (by omega) (by decide) (hP.2.2.1 1 (by decide)) rfl ?_
    refine q_istore (pc' := 28) (lv' := [_, _, _, _, _]) dX8_sampleCost_26 (by decide) rfl rfl ?_
    refine q_aload_n (pc' := 29) dX8_sampleCost_28 rfl rfl ?_
    refine q_iload_n (pc' := 30) dX8_sampleCost_29 rfl rfl ?_
    refine q_iload_n (pc' := 31) dX8_sampleCost_30 rfl rfl ?_
    refine q_iload (pc' := 33) dX8_sampleCost_31 rfl rfl ?_
    refine q_iload_n (pc' := 34) dX8_sampleCost_33 rfl rfl ?_
    refine h_callV (pc' := 37) (M' := mX8_measure) (As := [_, _, _, _]) dX8_sampleCost_34 iX8_measure lX8_109 rfl rfl rfl rfl (Nat.le_of_ble_eq_true rfl) (Nat.le_of_ble_eq_true rfl) rfl rfl (c_measure_203 hP (by omega) (by omega) hp) (fun r m' hq => ?_)
    obtain ⟨rfl, f1, k1, q1⟩ := hq
    have := s_ms_le (fun i => ws (bk * rl 0 + i * s_sz n rl bk / rl 1) p) (rl 1)
    refine q_aload_n (pc' := 38) dX8_sampleCost_37 rfl rfl ?_
    refine q_iload (pc' := 40) dX8_sampleCost_38 rfl rfl ?_
    refine h_callV (pc' := 43) (M' := mX8_measuredCost) (As := [_]) dX8_sampleCost_40 iX8_measuredCost lX8_113 rfl rfl rfl rfl (Nat.le_of_ble_eq_true rfl) (Nat.le_of_ble_eq_true rfl) rfl rfl (c_measuredCost_203 q1 (by omega) this) (fun r m' hq => ?_)
    obtain ⟨rfl, rfl⟩ := hq
    refine q_iret dX8_sampleCost_43 rfl rfl ⟨_, rfl, by unfold s_sc; rw [hs], f1, k1⟩
  · have hs : s_sn n rl bk = s_sz n rl bk := by unfold s_sn; rw [if_pos (by omega)]
    refine q_iload_n (pc' := 17) dX8_sampleCost_16 rfl rfl ?_
    refine q_goto (pc' := 26) dX8_sampleCost_17 (by decide) ?_
    refine q_istore (pc' := 28) (lv' := [_, _, _, _, _]) dX8_sampleCost_26 (by decide) rfl rfl ?_
    refine q_aload_n (pc' := 29) dX8_sampleCost_28 rfl rfl ?_
    refine q_iload_n (pc' := 30) dX8_sampleCost_29 rfl rfl ?_
    refine q_iload_n (pc' := 31) dX8_sampleCost_30 rfl rfl ?_
    refine q_iload (pc' := 33) dX8_sampleCost_31 rfl rfl ?_
    refine q_iload_n (pc' := 34) dX8_sampleCost_33 rfl rfl ?_
    refine h_callV (pc' := 37) (M' := mX8_measure) (As := [_, _, _, _]) dX8_sampleCost_34 iX8_measure lX8_109 rfl rfl rfl rfl (Nat.le_of_ble_eq_true rfl) (Nat.le_of_ble_eq_true rfl) rfl rfl (c_measure_203 hP (by omega) (by omega) hp) (fun r m' hq => ?_)
    obtain ⟨rfl, f1, k1, q1⟩ := hq
    have := s_ms_le (fun i => ws (bk * rl 0 + i * s_sz n rl bk / s_sz n rl bk) p) (s_sz n rl bk)
    refine q_aload_n (pc' := 38) dX8_sampleCost_37 rfl rfl ?_
    refine q_iload (pc' := 40) dX8_sampleCost_38 rfl rfl ?_
    refine h_callV (pc' := 43) (M' := mX8_measuredCost) (As := [_]) dX8_sampleCost_40 iX8_measuredCost lX8_113 rfl rfl rfl rfl (Nat.le_of_ble_eq_true rfl) (Nat.le_of_ble_eq_true rfl) rfl rfl (c_measuredCost_203 q1 (by omega) this) (fun r m' hq => ?_)
    obtain ⟨rfl, rfl⟩ := hq
    refine q_iret dX8_sampleCost_43 rfl rfl ⟨_, rfl, by unfold s_sc; rw [hs], f1, k1⟩
set_option maxHeartbeats 4000000 in
set_option maxRecDepth 20000 in
theorem c_measureBlock_203 {Z : q_Z} {m : q_Mm} {d : Nat} {n bk p : Nat} {rl : Nat → Nat} {ys : Nat → Int64} {ws : Nat → Nat → Int64} (hP : Pl m 203 n rl ys ws) (hb : bk < s_nb n rl) (hp : p < 120) : q_V (q_g Z) mX8_measureBlock (d+2) 0 0 0 [some (.ref (q_ad Z 203)), some (.int (nI bk)), some (.int (nI p)), none] [] (q_W Z m) (q_P Z fun r m2 => r = none ∧ Fr [203] m m2 ∧ Kp 203 [11] m m2 ∧ Ms m2 203 (s_dm n rl ws bk p)) := by
  have hz := s_nb_in hP.2.2.2.1 hb
  have h9 := hP.2.2.2.1.1
  refine q_aload_n (pc' := 1) dX8_measureBlock_0 rfl rfl ?_
  refine q_iload_n (pc' := 2) dX8_measureBlock_1 rfl rfl ?_
  refine h_callV (pc' := 5) (M' := mX8_sizeOf) (As := [_]) dX8_measureBlock_2 iX8_sizeOf lX8_106 rfl rfl rfl rfl (Nat.le_of_ble_eq_true rfl) (Nat.le_of_ble_eq_true rfl) rfl rfl (c_sizeOf_203 hP hb) (fun r m' hq => ?_)
  obtain ⟨rfl, rfl⟩ := hq
  refine q_istore_n (pc' := 6) (lv' := [_, _, _, _]) dX8_measureBlock_5 (by decide) rfl rfl ?_
  refine q_aload_n (pc' := 7) dX8_measureBlock_6 rfl rfl ?_
  refine q_iload_n (pc' := 8) dX8_measureBlock_7 rfl rfl ?_
  refine q_iload_n (pc' := 9) dX8_measureBlock_8 rfl rfl ?_
  refine q_iload_n (pc' := 10) dX8_measureBlock_9 rfl rfl ?_
  refine q_iload_n (pc' := 11) dX8_measureBlock_10 rfl rfl ?_
  refine h_callV (pc' := 14) (M' := mX8_measure) (As := [_, _, _, _]) dX8_measureBlock_11 iX8_measure lX8_109 rfl rfl rfl rfl (Nat.le_of_ble_eq_true rfl) (Nat.le_of_ble_eq_true rfl) rfl rfl (c_measure_203 hP (by omega) (by omega) hp) (fun r m' hq => ?_)
  obtain ⟨rfl, f1, k1, q1⟩ := hq
  rw [s_dm_eq hz.2.1] at q1
  refine q_vret dX8_measureBlock_14 rfl ⟨_, rfl, rfl, f1, k1, q1⟩
set_option maxHeartbeats 4000000 in
set_option maxRecDepth 20000 in
theorem c_decimalCost_203 {Z : q_Z} {m : q_Mm} {d : Nat} {n bk p : Nat} {rl : Nat → Nat} {ys : Nat → Int64} {ws : Nat → Nat → Int64} (hP : Pl m 203 n rl ys ws) (hb : bk < s_nb n rl) (hp : p < 120) : q_V (q_g Z) mX8_decimalCost (d+3) 0 0 0 [some (.ref (q_ad Z 203)), some (.int (nI bk)), some (.int (nI p))] [] (q_W Z m) (q_P Z fun r m2 => r = some (.int (nI (s_dc n rl ws bk p))) ∧ Fr [203] m m2 ∧ Kp 203 [11] m m2 ∧ Ms m2 203 (s_dm n rl ws bk p)) := by
  have hz := s_nb_in hP.2.2.2.1 hb
  have h9 := hP.2.2.2.1.1
  refine q_aload_n (pc' := 1) dX8_decimalCost_0 rfl rfl ?_
  refine q_iload_n (pc' := 2) dX8_decimalCost_1 rfl rfl ?_
  refine q_iload_n (pc' := 3) dX8_decimalCost_2 rfl rfl ?_
  refine h_callV (pc' := 6) (M' := mX8_measureBlock) (As := [_, _]) dX8_decimalCost_3 iX8_measureBlock lX8_116 rfl rfl rfl rfl (Nat.le_of_ble_eq_true rfl) (Nat.le_of_ble_eq_true rfl) rfl rfl (c_measureBlock_203 hP hb hp) (fun r m' hq => ?_)
  obtain ⟨rfl, f1, k1, q1⟩ := hq
  have hP1 := hP.kp f1 k1 (by decide) (by decide) (by decide) (by decide) (by decide)
  refine q_aload_n (pc' := 7) dX8_decimalCost_6 rfl rfl ?_
  refine q_aload_n (pc' := 8) dX8_decimalCost_7 rfl rfl ?_
  refine q_iload_n (pc' := 9) dX8_decimalCost_8 rfl rfl ?_
  refine h_callV (pc' := 12) (M' := mX8_sizeOf) (As := [_]) dX8_decimalCost_9 iX8_sizeOf lX8_106 rfl rfl rfl rfl (Nat.le_of_ble_eq_true rfl) (Nat.le_of_ble_eq_true rfl) rfl rfl ((c_sizeOf_203 (d := d) hP1 hb).up (by omega)) (fun r m' hq => ?_)
  obtain ⟨rfl, rfl⟩ := hq
  have := s_ms_le (fun i => ws (bk * rl 0 + i) p) (s_sz n rl bk)
  refine h_callV (pc' := 15) (M' := mX8_measuredCost) (As := [_]) dX8_decimalCost_12 iX8_measuredCost lX8_113 rfl rfl rfl rfl (Nat.le_of_ble_eq_true rfl) (Nat.le_of_ble_eq_true rfl) rfl rfl ((c_measuredCost_203 (d := d) q1 (by omega) this).up (by omega)) (fun r m' hq => ?_)
  obtain ⟨rfl, rfl⟩ := hq
  refine q_iret dX8_decimalCost_15 rfl rfl ⟨_, rfl, rfl, f1, k1, q1⟩
set_option maxHeartbeats 4000000 in
set_option maxRecDepth 20000 in
theorem c_widthOf_203 {Z : q_Z} {m : q_Mm} {d : Nat} {n bk p : Nat} {rl : Nat → Nat} {ys : Nat → Int64} {ws : Nat → Nat → Int64} (hP : Pl m 203 n rl ys ws) (hb : bk < s_nb n rl) (hp : p < 120) (h12 : m.1 203 12 = nI p) : q_V (q_g Z) mX8_widthOf (d+3) 0 0 0 [some (.ref (q_ad Z 203)), some (.int (nI bk))] [] (q_W Z m) (q_P Z fun r m2 => r = some (.int (nI (s_bl ((s_dm n rl ws bk p).2.1 - (s_dm n rl ws bk p).1)))) ∧ Fr [203] m m2 ∧ Kp 203 [11] m m2 ∧ Ms m2 203 (s_dm n rl ws bk p)) := by
  refine q_aload_n (pc' := 1) dX8_widthOf_0 rfl rfl ?_
  refine q_iload_n (pc' := 2) dX8_widthOf_1 rfl rfl ?_
  refine q_aload_n (pc' := 3) dX8_widthOf_2 rfl rfl ?_
  refine h_getiE (pc' := 6) dX8_widthOf_3 fX8_144 rfl rfl (h12) rfl ?_
  refine h_callV (pc' := 9) (M' := mX8_measureBlock) (As := [_, _]) dX8_widthOf_6 iX8_measureBlock lX8_116 rfl rfl rfl rfl (Nat.le_of_ble_eq_true rfl) (Nat.le_of_ble_eq_true rfl) rfl rfl (c_measureBlock_203 hP hb hp) (fun r m' hq => ?_)
  obtain ⟨rfl, f1, k1, q1⟩ := hq
  refine q_aload_n (pc' := 10) dX8_widthOf_9 rfl rfl ?_
  refine h_getjE (pc' := 13) dX8_widthOf_10 fX8_123 rfl rfl (q1.2.1) rfl ?_
  refine q_aload_n (pc' := 14) dX8_widthOf_13 rfl rfl ?_
  refine h_getjE (pc' := 17) dX8_widthOf_14 fX8_119 rfl rfl (q1.1) rfl ?_
  refine q_lsub (pc' := 18) dX8_widthOf_17 rfl ?_
  refine h_callSN (pc' := 21) (M' := mX10_bitLength) (As := [_]) dX8_widthOf_18 iX10_bitLength nm_X8_140 rfl rfl (Nat.le_of_ble_eq_true rfl) (Nat.le_of_ble_eq_true rfl) rfl rfl (c_bitLength) (fun r m' hq => ?_)
  obtain ⟨rfl, rfl⟩ := hq
  refine q_iret dX8_widthOf_21 rfl rfl ⟨_, rfl, rfl, f1, k1, q1⟩
set_option maxHeartbeats 4000000 in
set_option maxRecDepth 20000 in
theorem c_rawCost_203 {Z : q_Z} {m : q_Mm} {d : Nat} {n bk : Nat} {rl : Nat → Nat} {ys : Nat → Int64} {ws : Nat → Nat → Int64} (hP : Pl m 203 n rl ys ws) (hb : bk < s_nb n rl) : q_V (q_g Z) mX8_rawCost (d+2) 0 0 0 [some (.ref (q_ad Z 203)), some (.int (nI bk))] [] (q_W Z m) (q_P Z fun r m2 => r = some (.int (nI (3 + 8 * s_sz n rl bk))) ∧ m2 = m) := by
  refine q_iconst (pc' := 1) (v := nI 3) dX8_rawCost_0 rfl rfl ?_
  refine q_bipush (pc' := 3) (v := nI 8) dX8_rawCost_1 rfl rfl ?_
  refine q_aload_n (pc' := 4) dX8_rawCost_3 rfl rfl ?_
  refine q_iload_n (pc' := 5) dX8_rawCost_4 rfl rfl ?_
  refine h_callV (pc' := 8) (M' := mX8_sizeOf) (As := [_]) dX8_rawCost_5 iX8_sizeOf lX8_106 rfl rfl rfl rfl (Nat.le_of_ble_eq_true rfl) (Nat.le_of_ble_eq_true rfl) rfl rfl (c_sizeOf_203 hP hb) (fun r m' hq => ?_)
  obtain ⟨rfl, rfl⟩ := hq
  refine q_imulN (pc' := 9) dX8_rawCost_8 rfl ?_
  refine q_iaddN (pc' := 10) dX8_rawCost_9 rfl ?_
  refine q_iret dX8_rawCost_10 rfl rfl ⟨_, rfl, rfl, rfl⟩
set_option maxHeartbeats 4000000 in
set_option maxRecDepth 20000 in
theorem c_scoreOf_203 {Z : q_Z} {m : q_Mm} {d : Nat} {n p : Nat} {rl : Nat → Nat} {ys : Nat → Int64} {ws : Nat → Nat → Int64} (hP : Pl m 203 n rl ys ws) (hp : p < 120) : q_V (q_g Z) mX8_scoreOf (d+3) 0 0 0 [some (.ref (q_ad Z 203)), some (.int (nI p)), none, none] [] (q_W Z m) (q_P Z fun r m2 => r = some (.int (nI (s_score n rl ws p))) ∧ Fr [203] m m2 ∧ Kp 203 [11] m m2) := by
  have hr := hP.2.2.2.1
  have hnb := s_nb_le hr hP.2.1
  refine q_iconst (pc' := 1) (v := nI 0) dX8_scoreOf_0 rfl rfl ?_
  refine q_istore_n (pc' := 2) (lv' := [_, _, _, _]) dX8_scoreOf_1 (by decide) rfl rfl ?_
  refine q_iconst (pc' := 3) (v := nI 0) dX8_scoreOf_2 rfl rfl ?_
  refine q_istore_n (pc' := 4) (lv' := [_, _, _, _]) dX8_scoreOf_3 (by decide) rfl rfl ?_
  suffices h : ∀ c j (m1 : q_Mm), j + c = s_nb n rl → Fr [203] m m1 → Kp 203 [11] m m1 → q_V (q_g Z) mX8_scoreOf (d+3) 0 0 4 [some (.ref (q_ad Z 203)), some (.int (nI p)), some (.int (nI (s_sum (fun b => s_sc n rl ws b p) j))), some (.int (nI j))] [] (q_W Z (m1)) (q_P Z fun r m2 => r = some (.int (nI (s_score n rl ws p))) ∧ Fr [203] m m2 ∧ Kp 203 [11] m m2) from h (s_nb n rl) 0 m (by omega) Fr.rf Kp.rf
  intro c
  induction c with
  | zero =>
    intro j m1 hj f1 k1
    have hP1 := hP.kp f1 k1 (by decide) (by decide) (by decide) (by decide) (by decide)
    refine q_iload_n (pc' := 5) dX8_scoreOf_4 rfl rfl ?_
    refine q_aload_n (pc' := 6) dX8_scoreOf_5 rfl rfl ?_
    refine h_callV (pc' := 9) (M' := mX8_blocks) (As := []) dX8_scoreOf_6 iX8_blocks lX8_100 rfl rfl rfl rfl (Nat.le_of_ble_eq_true rfl) (Nat.le_of_ble_eq_true rfl) rfl rfl (c_plBlocks_203 hP1) (fun r m' hq => ?_)
    obtain ⟨rfl, rfl⟩ := hq
    obtain rfl : s_nb n rl = j := by omega
    refine q_icmp_geN (tgt := 27) (pc' := 12) dX8_scoreOf_9 (by decide) rfl (by omega) (fun c_9 => ?_) (fun c_9 => ?_)
    · refine q_iload_n (pc' := 28) dX8_scoreOf_27 rfl rfl ?_
      refine q_iret dX8_scoreOf_28 rfl rfl ⟨_, rfl, rfl, f1, k1⟩
    · omega
  | succ c ih =>
    intro j m1 hj f1 k1
    have hP1 := hP.kp f1 k1 (by decide) (by decide) (by decide) (by decide) (by decide)
    refine q_iload_n (pc' := 5) dX8_scoreOf_4 rfl rfl ?_
    refine q_aload_n (pc' := 6) dX8_scoreOf_5 rfl rfl ?_
    refine h_callV (pc' := 9) (M' := mX8_blocks) (As := []) dX8_scoreOf_6 iX8_blocks lX8_100 rfl rfl rfl rfl (Nat.le_of_ble_eq_true rfl) (Nat.le_of_ble_eq_true rfl) rfl rfl (c_plBlocks_203 hP1) (fun r m' hq => ?_)
    obtain ⟨rfl, rfl⟩ := hq
    refine q_icmp_geN (tgt := 27) (pc' := 12) dX8_scoreOf_9 (by decide) rfl (by omega) (fun c_9 => ?_) (fun c_9 => ?_)
    · omega
    refine q_iload_n (pc' := 13) dX8_scoreOf_12 rfl rfl ?_
    refine q_aload_n (pc' := 14) dX8_scoreOf_13 rfl rfl ?_
    refine q_iload_n (pc' := 15) dX8_scoreOf_14 rfl rfl ?_
    refine q_iload_n (pc' := 16) dX8_scoreOf_15 rfl rfl ?_
    refine h_callV (pc' := 19) (M' := mX8_sampleCost) (As := [_, _]) dX8_scoreOf_16 iX8_sampleCost lX8_103 rfl rfl rfl rfl (Nat.le_of_ble_eq_true rfl) (Nat.le_of_ble_eq_true rfl) rfl rfl (c_sampleCost_203 hP1 (by omega) hp) (fun r m' hq => ?_)
    obtain ⟨rfl, f2, k2⟩ := hq
    refine q_iaddN (pc' := 20) dX8_scoreOf_19 rfl ?_
    refine q_istore_n (pc' := 21) (lv' := [_, _, _, _]) dX8_scoreOf_20 (by decide) rfl rfl ?_
    refine q_iincN (pc' := 24) (j := 1) (lv' := [_, _, _, _]) dX8_scoreOf_21 rfl (by decide) rfl rfl ?_
    refine q_goto (pc' := 4) dX8_scoreOf_24 (by decide) ?_
    refine ih (j + 1) _ (by omega) (f1.trans f2) (k1.trans k2)
set_option maxHeartbeats 4000000 in
set_option maxRecDepth 20000 in
theorem c_decimalTotal_203 {Z : q_Z} {m : q_Mm} {d : Nat} {n p : Nat} {rl : Nat → Nat} {ys : Nat → Int64} {ws : Nat → Nat → Int64} (hP : Pl m 203 n rl ys ws) (hp : p < 120) : q_V (q_g Z) mX8_decimalTotal (d+4) 0 0 0 [some (.ref (q_ad Z 203)), some (.int (nI p)), none, none] [] (q_W Z m) (q_P Z fun r m2 => r = some (.int (nI (s_sum (fun b => s_dc n rl ws b p) (s_nb n rl)))) ∧ Fr [203] m m2 ∧ Kp 203 [11] m m2) := by
  have hr := hP.2.2.2.1
  have hnb := s_nb_le hr hP.2.1
  refine q_iconst (pc' := 1) (v := nI 0) dX8_decimalTotal_0 rfl rfl ?_
  refine q_istore_n (pc' := 2) (lv' := [_, _, _, _]) dX8_decimalTotal_1 (by decide) rfl rfl ?_
  refine q_iconst (pc' := 3) (v := nI 0) dX8_decimalTotal_2 rfl rfl ?_
  refine q_istore_n (pc' := 4) (lv' := [_, _, _, _]) dX8_decimalTotal_3 (by decide) rfl rfl ?_
  suffices h : ∀ c j (m1 : q_Mm), j + c = s_nb n rl → Fr [203] m m1 → Kp 203 [11] m m1 → q_V (q_g Z) mX8_decimalTotal (d+4) 0 0 4 [some (.ref (q_ad Z 203)), some (.int (nI p)), some (.int (nI (s_sum (fun b => s_dc n rl ws b p) j))), some (.int (nI j))] [] (q_W Z (m1)) (q_P Z fun r m2 => r = some (.int (nI (s_sum (fun b => s_dc n rl ws b p) (s_nb n rl)))) ∧ Fr [203] m m2 ∧ Kp 203 [11] m m2) from h (s_nb n rl) 0 m (by omega) Fr.rf Kp.rf
  intro c
  induction c with
  | zero =>
    intro j m1 hj f1 k1
    have hP1 := hP.kp f1 k1 (by decide) (by decide) (by decide) (by decide) (by decide)
    refine q_iload_n (pc' := 5) dX8_decimalTotal_4 rfl rfl ?_
    refine q_aload_n (pc' := 6) dX8_decimalTotal_5 rfl rfl ?_
    refine h_callV (pc' := 9) (M' := mX8_blocks) (As := []) dX8_decimalTotal_6 iX8_blocks lX8_100 rfl rfl rfl rfl (Nat.le_of_ble_eq_true rfl) (Nat.le_of_ble_eq_true rfl) rfl rfl (c_plBlocks_203 hP1) (fun r m' hq => ?_)
    obtain ⟨rfl, rfl⟩ := hq
    obtain rfl : s_nb n rl = j := by omega
    refine q_icmp_geN (tgt := 27) (pc' := 12) dX8_decimalTotal_9 (by decide) rfl (by omega) (fun c_9 => ?_) (fun c_9 => ?_)
    · refine q_iload_n (pc' := 28) dX8_decimalTotal_27 rfl rfl ?_
      refine q_iret dX8_decimalTotal_28 rfl rfl ⟨_, rfl, rfl, f1, k1⟩
    · omega
  | succ c ih =>
    intro j m1 hj f1 k1
    have hP1 := hP.kp f1 k1 (by decide) (by decide) (by decide) (by decide) (by decide)
    refine q_iload_n (pc' := 5) dX8_decimalTotal_4 rfl rfl ?_
    refine q_aload_n (pc' := 6) dX8_decimalTotal_5 rfl rfl ?_
    refine h_callV (pc' := 9) (M' := mX8_blocks) (As := []) dX8_decimalTotal_6 iX8_blocks lX8_100 rfl rfl rfl rfl (Nat.le_of_ble_eq_true rfl) (Nat.le_of_ble_eq_true rfl) rfl rfl (c_plBlocks_203 hP1) (fun r m' hq => ?_)
    obtain ⟨rfl, rfl⟩ := hq
    refine q_icmp_geN (tgt := 27) (pc' := 12) dX8_decimalTotal_9 (by decide) rfl (by omega) (fun c_9 => ?_) (fun c_9 => ?_)
    · omega
    refine q_iload_n (pc' := 13) dX8_decimalTotal_12 rfl rfl ?_
    refine q_aload_n (pc' := 14) dX8_decimalTotal_13 rfl rfl ?_
    refine q_iload_n (pc' := 15) dX8_decimalTotal_14 rfl rfl ?_
    refine q_iload_n (pc' := 16) dX8_decimalTotal_15 rfl rfl ?_
    refine h_callV (pc' := 19) (M' := mX8_decimalCost) (As := [_, _]) dX8_decimalTotal_16 iX8_decimalCost lX8_192 rfl rfl rfl rfl (Nat.le_of_ble_eq_true rfl) (Nat.le_of_ble_eq_true rfl) rfl rfl (c_decimalCost_203 hP1 (by omega) hp) (fun r m' hq => ?_)
    obtain ⟨rfl, f2, k2, _⟩ := hq
    refine q_iaddN (pc' := 20) dX8_decimalTotal_19 rfl ?_
    refine q_istore_n (pc' := 21) (lv' := [_, _, _, _]) dX8_decimalTotal_20 (by decide) rfl rfl ?_
    refine q_iincN (pc' := 24) (j := 1) (lv' := [_, _, _, _]) dX8_decimalTotal_21 rfl (by decide) rfl rfl ?_
    refine q_goto (pc' := 4) dX8_decimalTotal_24 (by decide) ?_
    refine ih (j + 1) _ (by omega) (f1.trans f2) (k1.trans k2)
set_option maxHeartbeats 4000000 in
set_option maxRecDepth 20000 in
theorem c_rawTotal_203 {Z : q_Z} {m : q_Mm} {d : Nat} {n : Nat} {rl : Nat → Nat} {ys : Nat → Int64} {ws : Nat → Nat → Int64} (hP : Pl m 203 n rl ys ws) : q_V (q_g Z) mX8_rawTotal (d+3) 0 0 0 [some (.ref (q_ad Z 203)), none, none] [] (q_W Z m) (q_P Z fun r m2 => r = some (.int (nI (s_sum (fun b => 3 + 8 * s_sz n rl b) (s_nb n rl)))) ∧ m2 = m) := by
  have hr := hP.2.2.2.1
  have hnb := s_nb_le hr hP.2.1
  refine q_iconst (pc' := 1) (v := nI 0) dX8_rawTotal_0 rfl rfl ?_
  refine q_istore_n (pc' := 2) (lv' := [_, _, _]) dX8_rawTotal_1 (by decide) rfl rfl ?_
  refine q_iconst (pc' := 3) (v := nI 0) dX8_rawTotal_2 rfl rfl ?_
  refine q_istore_n (pc' := 4) (lv' := [_, _, _]) dX8_rawTotal_3 (by decide) rfl rfl ?_
  suffices h : ∀ c j, j + c = s_nb n rl → q_V (q_g Z) mX8_rawTotal (d+3) 0 0 4 [some (.ref (q_ad Z 203)), some (.int (nI (s_sum (fun b => 3 + 8 * s_sz n rl b) j))), some (.int (nI j))] [] (q_W Z (m)) (q_P Z fun r m2 => r = some (.int (nI (s_sum (fun b => 3 + 8 * s_sz n rl b) (s_nb n rl)))) ∧ m2 = m) from h (s_nb n rl) 0 (by omega)
  intro c
  induction c with
  | zero =>
    intro j hj
    refine q_iload_n (pc' := 5) dX8_rawTotal_4 rfl rfl ?_
    refine q_aload_n (pc' := 6) dX8_rawTotal_5 rfl rfl ?_
    refine h_callV (pc' := 9) (M' := mX8_blocks) (As := []) dX8_rawTotal_6 iX8_blocks lX8_100 rfl rfl rfl rfl (Nat.le_of_ble_eq_true rfl) (Nat.le_of_ble_eq_true rfl) rfl rfl (c_plBlocks_203 hP) (fun r m' hq => ?_)
    obtain ⟨rfl, rfl⟩ := hq
    obtain rfl : s_nb n rl = j := by omega
    refine q_icmp_geN (tgt := 26) (pc' := 12) dX8_rawTotal_9 (by decide) rfl (by omega) (fun c_9 => ?_) (fun c_9 => ?_)
    · refine q_iload_n (pc' := 27) dX8_rawTotal_26 rfl rfl ?_
      refine q_iret dX8_rawTotal_27 rfl rfl ⟨_, rfl, rfl, rfl⟩
    · omega
  | succ c ih =>
    intro j hj
    refine q_iload_n (pc' := 5) dX8_rawTotal_4 rfl rfl ?_
    refine q_aload_n (pc' := 6) dX8_rawTotal_5 rfl rfl ?_
    refine h_callV (pc' := 9) (M' := mX8_blocks) (As := []) dX8_rawTotal_6 iX8_blocks lX8_100 rfl rfl rfl rfl (Nat.le_of_ble_eq_true rfl) (Nat.le_of_ble_eq_true rfl) rfl rfl (c_plBlocks_203 hP) (fun r m' hq => ?_)
    obtain ⟨rfl, rfl⟩ := hq
    refine q_icmp_geN (tgt := 26) (pc' := 12) dX8_rawTotal_9 (by decide) rfl (by omega) (fun c_9 => ?_) (fun c_9 => ?_)
    · omega
    refine q_iload_n (pc' := 13) dX8_rawTotal_12 rfl rfl ?_
    refine q_aload_n (pc' := 14) dX8_rawTotal_13 rfl rfl ?_
    refine q_iload_n (pc' := 15) dX8_rawTotal_14 rfl rfl ?_
    refine h_callV (pc' := 18) (M' := mX8_rawCost) (As := [_]) dX8_rawTotal_15 iX8_rawCost lX8_183 rfl rfl rfl rfl (Nat.le_of_ble_eq_true rfl) (Nat.le_of_ble_eq_true rfl) rfl rfl (c_rawCost_203 hP (by omega)) (fun r m' hq => ?_)
    obtain ⟨rfl, rfl⟩ := hq
    refine q_iaddN (pc' := 19) dX8_rawTotal_18 rfl ?_
    refine q_istore_n (pc' := 20) (lv' := [_, _, _]) dX8_rawTotal_19 (by decide) rfl rfl ?_
    refine q_iincN (pc' := 23) (j := 1) (lv' := [_, _, _]) dX8_rawTotal_20 rfl (by decide) rfl rfl ?_
    refine q_goto (pc' := 4) dX8_rawTotal_23 (by decide) ?_
    refine ih (j + 1) (by omega)
