/-! ===== the reference: the PAIR, the FORM and the COST of a BLOCK ===== -/
theorem rk_pos (f : Nat → Nat) : ∀ k, 1 ≤ (s_rk f (k + 1)).1
  | k => by
    show 1 ≤ (s_r1 k (f k) (s_rk f k)).1
    unfold s_r1
    split
    · rename_i h
      have := s_at_le (s_rk f k).2.2 (f k) (s_rk f k).1
      omega
    · show 1 ≤ (if 5 < (s_rk f k).1 + 1 then 5 else (s_rk f k).1 + 1)
      split <;> omega
theorem five_pos (n : Nat) (rl : Nat → Nat) (xs : Nat → Int64) : 1 ≤ (s_five n rl xs).1 := by
  have h : 1 ≤ s_pn (rl 2 + 1) 0 := by
    unfold s_pn
    have : 1 * 2 ≤ (rl 2 + 1) * (rl 2 + 1 + 1) := Nat.mul_le_mul (by omega) (by omega)
    omega
  unfold s_five
  obtain ⟨k, hk⟩ : ∃ k, s_pn (rl 2 + 1) 0 = k + 1 := ⟨s_pn (rl 2 + 1) 0 - 1, by omega⟩
  rw [hk]
  exact rk_pos _ k
set_option maxHeartbeats 4000000 in
set_option maxRecDepth 20000 in
theorem k_pairOf {Z : q_Z} {m : q_Mm} {d : Nat} {n b : Nat} {q : s_F} {rl : Nat → Nat} {xs : Nat → Int64} (hM : MD m) (hV : MV m n rl xs) (hF : FV m q) (hq1 : 1 ≤ q.1) (hb : b < s_nb n rl) : q_V (q_g Z) mX11_pairOf (d+5) 0 0 0 [some (.ref (q_ad Z 215)), some (.int (nI b)), none, none, none, none] [] (q_W Z m) (q_P Z fun r m2 => r = some (.int (nI (s_cd (s_wp n rl (s_ws xs) q b)))) ∧ Fr [215, 227] m m2 ∧ Kp 215 [23, 25, 28, 29] m m2) := by
  have hok := hV.2.2.2.2
  have hs : s_sn n rl b ≤ 16 := by unfold s_sn; have := hok.2.1.2; split <;> omega
  refine q_aload_n (pc' := 1) dX11_pairOf_0 rfl rfl ?_
  refine q_iload_n (pc' := 2) dX11_pairOf_1 rfl rfl ?_
  refine h_callV (pc' := 5) (M' := mX11_laySample) (As := [_]) dX11_pairOf_2 iX11_laySample lX11_332 rfl rfl rfl rfl (Nat.le_of_ble_eq_true rfl) (Nat.le_of_ble_eq_true rfl) rfl rfl ((k_laySample (d := d) hV hb).up (by omega)) (fun r m' hq => ?_)
  obtain ⟨rfl, f1, k1, H1⟩ := hq
  obtain ⟨m1, hm1⟩ : ∃ z, z = m' := ⟨_, rfl⟩
  subst hm1
  have f1 : Fr [215, 227] m m1 := f1
  have k1 : Kp 215 [23, 25, 28, 29] m m1 := k1.mono (by decide)
  refine q_iconst (pc' := 6) (v := (-1)) dX11_pairOf_5 rfl rfl ?_
  refine q_istore_n (pc' := 7) (lv' := [_, _, _, _, _, _]) dX11_pairOf_6 (by decide) rfl rfl ?_
  refine q_iconst (pc' := 8) (v := nI 0) dX11_pairOf_7 rfl rfl ?_
  refine q_istore_n (pc' := 9) (lv' := [_, _, _, _, _, _]) dX11_pairOf_8 (by decide) rfl rfl ?_
  refine q_iconst (pc' := 10) (v := nI 0) dX11_pairOf_9 rfl rfl ?_
  refine q_istore (pc' := 12) (lv' := [_, _, _, _, _, _]) dX11_pairOf_10 (by decide) rfl rfl ?_
  suffices h : ∀ c i m2 u, i + c = q.1 → Fr [215, 227] m m2 → Kp 215 [23, 25, 28, 29] m m2 → MH m2 (s_sn n rl b) (fun i => xs (b * rl 0 + i * s_sz n rl b / s_sn n rl b)) → q_V (q_g Z) mX11_pairOf (d+5) 0 0 12 [some (.ref (q_ad Z 215)), some (.int (nI b)), some (.int (if i = 0 then -1 else nI (s_cd (s_po (fun p => s_sc n rl (s_ws xs) b p) q.2.1 i).1))), some (.int (nI (s_po (fun p => s_sc n rl (s_ws xs) b p) q.2.1 i).2)), some (.int (nI i)), u] [] (q_W Z (m2)) (q_P Z fun r m2 => r = some (.int (nI (s_cd (s_wp n rl (s_ws xs) q b)))) ∧ Fr [215, 227] m m2 ∧ Kp 215 [23, 25, 28, 29] m m2) from h q.1 0 m1 _ (Nat.zero_add _) f1 k1 H1
  intro c
  induction c with
  | zero =>
    intro i m2 u hi f2 k2 H2
    have hi : i = q.1 := by omega
    have e35 : m2.1 215 35 = nI q.1 := (k2 35 (by decide)).trans hF.1
    have hq5 := hF.2.1
    refine q_iload (pc' := 14) dX11_pairOf_12 rfl rfl ?_
    refine q_aload_n (pc' := 15) dX11_pairOf_14 rfl rfl ?_
    refine h_getiE (pc' := 18) dX11_pairOf_15 fX11_339 rfl rfl (e35) rfl ?_
    refine q_icmp_geN (tgt := 75) (pc' := 21) dX11_pairOf_18 (by decide) rfl (by omega) (fun c_18 => ?_) (fun c_18 => ?_)
    rotate_left
    · omega
    refine q_iload_n (pc' := 76) dX11_pairOf_75 rfl rfl ?_
    refine q_iret dX11_pairOf_76 rfl rfl ⟨_, rfl, by rw [if_neg (by omega), hi]; rfl, f2, k2⟩
  | succ c ih =>
    intro i m2 u hi f2 k2 H2
    have e35 : m2.1 215 35 = nI q.1 := (k2 35 (by decide)).trans hF.1
    have hq5 := hF.2.1
    have hp := (hF.2.2.2 i (by omega)).1
    have hpi : m2.2.2.1 230 i = nI (s_cd (q.2.1 i)) := (congrFun (f2.a (by decide)) i).trans (hF.2.2.1 i (by omega)).1
    have hcd := s_cd_ok hp
    have hM2 := hM.fr f2 (by decide) (by decide)
    have ih := fun m3 u => ih (i + 1) m3 u (by omega)
    refine q_iload (pc' := 14) dX11_pairOf_12 rfl rfl ?_
    refine q_aload_n (pc' := 15) dX11_pairOf_14 rfl rfl ?_
    refine h_getiE (pc' := 18) dX11_pairOf_15 fX11_339 rfl rfl (e35) rfl ?_
    refine q_icmp_geN (tgt := 75) (pc' := 21) dX11_pairOf_18 (by decide) rfl (by omega) (fun c_18 => ?_) (fun c_18 => ?_)
    · omega
    refine q_aload_n (pc' := 22) dX11_pairOf_21 rfl rfl ?_
    refine q_aload_n (pc' := 23) dX11_pairOf_22 rfl rfl ?_
    refine h_getr (pc' := 26) dX11_pairOf_23 fX11_54 rfl rfl rfl ?_
    refine q_iload (pc' := 28) dX11_pairOf_26 rfl rfl ?_
    refine h_ialdE (pc' := 29) dX11_pairOf_28 rfl (rfl) (by omega) (by decide) (hpi) rfl ?_
    refine q_bipush (pc' := 31) (v := nI 16) dX11_pairOf_29 rfl rfl ?_
    refine q_idivN (pc' := 32) dX11_pairOf_31 (by omega) rfl ?_
    refine q_aload_n (pc' := 33) dX11_pairOf_32 rfl rfl ?_
    refine h_getr (pc' := 36) dX11_pairOf_33 fX11_54 rfl rfl rfl ?_
    refine q_iload (pc' := 38) dX11_pairOf_36 rfl rfl ?_
    refine h_ialdE (pc' := 39) dX11_pairOf_38 rfl (rfl) (by omega) (by decide) (hpi) rfl ?_
    refine q_bipush (pc' := 41) (v := nI 16) dX11_pairOf_39 rfl rfl ?_
    refine q_iremN (pc' := 42) dX11_pairOf_41 (by omega) rfl ?_
    refine h_callV (pc' := 45) (M' := mX11_decimalCost) (As := [_, _]) dX11_pairOf_42 iX11_decimalCost lX11_336 rfl rfl rfl rfl (Nat.le_of_ble_eq_true rfl) (Nat.le_of_ble_eq_true rfl) rfl rfl (k_decimalCost hM2 H2 hs hcd.1 hcd.2.1) (fun r m' hq => ?_)
    obtain ⟨rfl, f3, k3, -⟩ := hq
    have f4 := f2.trans (f3.mono (by decide) : Fr [215, 227] m2 m')
    have k4 : Kp 215 [23, 25, 28, 29] m m' := k2.trans (k3.mono (by decide))
    have H4 := H2.fr f3 (k3 25 (by decide)) (by decide)
    have hpi4 : m'.2.2.1 230 i = nI (s_cd (q.2.1 i)) := (congrFun (f3.a (by decide)) i).trans hpi
    have ih := ih m'
    rw [show s_mc (s_sn n rl b) (s_ms (fun i_1 => s_w2 (xs (b * rl 0 + i_1 * s_sz n rl b / s_sn n rl b)) (s_cd (q.2.1 i) / 16) (s_cd (q.2.1 i) % 16)) (s_sn n rl b)) = s_sc n rl (s_ws xs) b (q.2.1 i) from rfl]
    have hsc := s_sc_le (n := n) hok (s_ws xs) b (q.2.1 i)
    have hpo : (s_po (fun p => s_sc n rl (s_ws xs) b p) q.2.1 i).2 ≤ 1000 := (s_po_le i (fun j hj => (hF.2.2.2 j (by omega)).1) (fun p => s_sc_le (n := n) hok (s_ws xs) b p)).2
    rw [if_neg (show ¬ i + 1 = 0 by omega), show s_po (fun p => s_sc n rl (s_ws xs) b p) q.2.1 (i + 1) = if i = 0 ∨ s_sc n rl (s_ws xs) b (q.2.1 i) < (s_po (fun p => s_sc n rl (s_ws xs) b p) q.2.1 i).2 then (q.2.1 i, s_sc n rl (s_ws xs) b (q.2.1 i)) else s_po (fun p => s_sc n rl (s_ws xs) b p) q.2.1 i from rfl] at ih
    have take : (i = 0 ∨ s_sc n rl (s_ws xs) b (q.2.1 i) < (s_po (fun p => s_sc n rl (s_ws xs) b p) q.2.1 i).2) → ∀ y z, q_V (q_g Z) mX11_pairOf (d+5) 0 0 58 [some (.ref (q_ad Z 215)), some (.int (nI b)), some (.int y), some (.int z), some (.int (nI i)), some (.int (nI (s_sc n rl (s_ws xs) b (q.2.1 i))))] [] (q_W Z (m')) (q_P Z fun r m2 => r = some (.int (nI (s_cd (s_wp n rl (s_ws xs) q b)))) ∧ Fr [215, 227] m m2 ∧ Kp 215 [23, 25, 28, 29] m m2) := by
      intro hc y z
      rw [if_pos hc] at ih
      refine q_aload_n (pc' := 59) dX11_pairOf_58 rfl rfl ?_
      refine h_getr (pc' := 62) dX11_pairOf_59 fX11_54 rfl rfl rfl ?_
      refine q_iload (pc' := 64) dX11_pairOf_62 rfl rfl ?_
      refine h_ialdE (pc' := 65) dX11_pairOf_64 rfl (rfl) (by omega) (by decide) (hpi4) rfl ?_
      refine q_istore_n (pc' := 66) (lv' := [_, _, _, _, _, _]) dX11_pairOf_65 (by decide) rfl rfl ?_
      refine q_iload (pc' := 68) dX11_pairOf_66 rfl rfl ?_
      refine q_istore_n (pc' := 69) (lv' := [_, _, _, _, _, _]) dX11_pairOf_68 (by decide) rfl rfl ?_
      refine q_iincN (pc' := 72) (j := 1) (lv' := [_, _, _, _, _, _]) dX11_pairOf_69 rfl (by decide) rfl rfl ?_
      refine q_goto (pc' := 12) dX11_pairOf_72 (by decide) ?_
      exact ih _ f4 k4 H4
    by_cases h0 : i = 0
    · rw [if_pos h0]
      refine q_istore (pc' := 47) (lv' := [_, _, _, _, _, _]) dX11_pairOf_45 (by decide) rfl rfl ?_
      refine q_iload_n (pc' := 48) dX11_pairOf_47 rfl rfl ?_
      refine q_iconst (pc' := 49) (v := (-1)) dX11_pairOf_48 rfl rfl ?_
      refine q_icmp_eq (tgt := 58) (pc' := 52) dX11_pairOf_49 (by decide) rfl (fun c_49 => ?_) (fun c_49 => ?_)
      · exact take (Or.inl h0) _ _
      · exact absurd rfl c_49
    · rw [if_neg h0]
      have hcb : s_cd (s_po (fun p => s_sc n rl (s_ws xs) b p) q.2.1 i).1 / 16 < 15 ∧ s_cd (s_po (fun p => s_sc n rl (s_ws xs) b p) q.2.1 i).1 % 16 < 15 ∧ s_cd (s_po (fun p => s_sc n rl (s_ws xs) b p) q.2.1 i).1 < 256 := s_cd_ok (s_po_le i (fun j hj => (hF.2.2.2 j (by omega)).1) (fun p => s_sc_le (n := n) hok (s_ws xs) b p)).1
      refine q_istore (pc' := 47) (lv' := [_, _, _, _, _, _]) dX11_pairOf_45 (by decide) rfl rfl ?_
      refine q_iload_n (pc' := 48) dX11_pairOf_47 rfl rfl ?_
      refine q_iconst (pc' := 49) (v := (-1)) dX11_pairOf_48 rfl rfl ?_
      refine q_icmp_eq (tgt := 58) (pc' := 52) dX11_pairOf_49 (by decide) rfl (fun c_49 => ?_) (fun c_49 => ?_)
      · exact absurd c_49 (z_m1n (by omega))
      refine q_iload (pc' := 54) dX11_pairOf_52 rfl rfl ?_
      refine q_iload_n (pc' := 55) dX11_pairOf_54 rfl rfl ?_
      refine q_icmp_geN (tgt := 69) (pc' := 58) dX11_pairOf_55 (by decide) rfl (by omega) (fun c_55 => ?_) (fun c_55 => ?_)
      · rw [if_neg (by omega)] at ih
        refine q_iincN (pc' := 72) (j := 1) (lv' := [_, _, _, _, _, _]) dX11_pairOf_69 rfl (by decide) rfl rfl ?_
        refine q_goto (pc' := 12) dX11_pairOf_72 (by decide) ?_
        exact ih _ f4 k4 H4
      · exact take (Or.inr (by omega)) _ _
set_option maxHeartbeats 4000000 in
set_option maxRecDepth 20000 in
theorem k_splitCost {Z : q_Z} {m : q_Mm} {d : Nat} {n k : Nat} {g : Nat → Int64} {ps : Nat → Int32} {rl : Nat → Nat} {xs : Nat → Int64} (hV : MV m n rl xs) (hH : MH m k g) (hk : k ≤ 16) (hk1 : 1 ≤ k) (hps : ∀ i, i < k → s_part (g i) (rl 3) = ps i) : q_V (q_g Z) mX11_splitCost (d+3) 0 0 0 [some (.ref (q_ad Z 215))] [] (q_W Z m) (q_P Z fun r m2 => r = some (.int (nI (6 + 2 * (s_ch ps k (s_often ps k) (rl 4)).1 + (k * (s_bl (nI ((s_ch ps k (s_often ps k) (rl 4)).1 - 1)).toInt64 + 64 - rl 3) + 7) / 8 + 3 * s_cnt (fun i => !decide (s_code (s_ch ps k (s_often ps k) (rl 4)).2.2 (s_ch ps k (s_often ps k) (rl 4)).1 (ps i) < (s_ch ps k (s_often ps k) (rl 4)).1)) k))) ∧ Fr [215, 228, 229] m m2 ∧ Kp 215 [28, 32] m m2 ∧ MR m2 (s_ch ps k (s_often ps k) (rl 4)) ps k) := by
  have hok := hV.2.2.2.2
  have hS8 := s_ch_le ps k (s_often ps k) (rl 4)
  have hS1 : 1 ≤ (s_ch ps k (s_often ps k) (rl 4)).1 := by
    obtain ⟨j, hj⟩ : ∃ j, rl 4 = j + 1 := ⟨rl 4 - 1, by have := hok.2.2.2.2; omega⟩
    rw [hj]
    exact s_ch_pos ps k hk1 j
  refine q_aload_n (pc' := 1) dX11_splitCost_0 rfl rfl ?_
  refine h_callV (pc' := 4) (M' := mX11_laySplit) (As := []) dX11_splitCost_1 iX11_laySplit lX11_326 rfl rfl rfl rfl (Nat.le_of_ble_eq_true rfl) (Nat.le_of_ble_eq_true rfl) rfl rfl (k_laySplit hV hH hk hps) (fun r m' hq => ?_)
  generalize s_ch ps k (s_often ps k) (rl 4) = S at hq hS8 hS1 ⊢
  obtain ⟨rfl, f1, k1, R1⟩ := hq
  have h4 := hok.2.2.2.2
  have h3 := hok.2.2.2.1
  have hb := s_bl_64 (nI (S.1 - 1)).toInt64
  have hkb : k * (s_bl (nI (S.1 - 1)).toInt64 + 64 - rl 3) ≤ 16 * 128 := Nat.mul_le_mul hk (by omega)
  have e25 : m'.1 215 25 = nI k := (k1 25 (by decide)).trans hH.1
  have hr3 : m'.2.2.1 224 3 = nI (rl 3) := (congrFun (f1.a (by decide)) 3).trans (hV.2.2.2.1 3 (by decide))
  obtain ⟨m1, hm1⟩ : ∃ z, z = m' := ⟨_, rfl⟩
  subst hm1
  refine q_bipush (pc' := 6) (v := nI 6) dX11_splitCost_4 rfl rfl ?_
  refine q_iconst (pc' := 7) (v := nI 2) dX11_splitCost_6 rfl rfl ?_
  refine q_aload_n (pc' := 8) dX11_splitCost_7 rfl rfl ?_
  refine h_getiE (pc' := 11) dX11_splitCost_8 fX11_320 rfl rfl (R1.1) rfl ?_
  refine q_imulN (pc' := 12) dX11_splitCost_11 rfl ?_
  refine q_iaddN (pc' := 13) dX11_splitCost_12 rfl ?_
  refine q_aload_n (pc' := 14) dX11_splitCost_13 rfl rfl ?_
  refine h_getiE (pc' := 17) dX11_splitCost_14 fX11_286 rfl rfl (e25) rfl ?_
  refine q_aload_n (pc' := 18) dX11_splitCost_17 rfl rfl ?_
  refine h_getiE (pc' := 21) dX11_splitCost_18 fX11_320 rfl rfl (R1.1) rfl ?_
  refine q_iconst (pc' := 22) (v := nI 1) dX11_splitCost_21 rfl rfl ?_
  refine q_isubN (pc' := 23) dX11_splitCost_22 (by omega) rfl ?_
  refine q_i2l (pc' := 24) dX11_splitCost_23 rfl ?_
  refine h_callS (pc' := 27) (M' := mX11_widthOf) (As := [_]) dX11_splitCost_24 iX11_widthOf lX11_217 rfl rfl (Nat.le_of_ble_eq_true rfl) (Nat.le_of_ble_eq_true rfl) rfl rfl (k_widthOf.up (Nat.zero_le _)) (fun r m' hq => ?_)
  obtain ⟨rfl, hmm⟩ := hq
  subst m'
  refine q_bipush (pc' := 29) (v := nI 64) dX11_splitCost_27 rfl rfl ?_
  refine q_iaddN (pc' := 30) dX11_splitCost_29 rfl ?_
  refine q_aload_n (pc' := 31) dX11_splitCost_30 rfl rfl ?_
  refine h_getr (pc' := 34) dX11_splitCost_31 fX11_36 rfl rfl rfl ?_
  refine q_iconst (pc' := 35) (v := nI 3) dX11_splitCost_34 rfl rfl ?_
  refine h_ialdE (pc' := 36) dX11_splitCost_35 rfl (rfl) (by omega) (by decide) (hr3) rfl ?_
  refine q_isubN (pc' := 37) dX11_splitCost_36 (by omega) rfl ?_
  refine q_imulN (pc' := 38) dX11_splitCost_37 rfl ?_
  refine h_callS (pc' := 41) (M' := mX11_bytesFor) (As := [_]) dX11_splitCost_38 iX11_bytesFor lX11_311 rfl rfl (Nat.le_of_ble_eq_true rfl) (Nat.le_of_ble_eq_true rfl) rfl rfl ((k_bytesFor (by omega)).up (Nat.zero_le _)) (fun r m' hq => ?_)
  obtain ⟨rfl, hmm⟩ := hq
  subst m'
  refine q_iaddN (pc' := 42) dX11_splitCost_41 rfl ?_
  refine q_iconst (pc' := 43) (v := nI 3) dX11_splitCost_42 rfl rfl ?_
  refine q_aload_n (pc' := 44) dX11_splitCost_43 rfl rfl ?_
  refine h_getiE (pc' := 47) dX11_splitCost_44 fX11_289 rfl rfl (R1.2.2) rfl ?_
  refine h_callS (pc' := 50) (M' := mX11_bits) (As := [_]) dX11_splitCost_47 iX11_bits lX11_314 rfl rfl (Nat.le_of_ble_eq_true rfl) (Nat.le_of_ble_eq_true rfl) rfl rfl ((k_bits (by omega)).up (Nat.zero_le _)) (fun r m' hq => ?_)
  obtain ⟨rfl, hmm⟩ := hq
  subst m'
  refine q_imulN (pc' := 51) dX11_splitCost_50 rfl ?_
  refine q_iaddN (pc' := 52) dX11_splitCost_51 rfl ?_
  refine q_iret dX11_splitCost_52 rfl rfl ⟨_, rfl, rfl, f1, k1, R1⟩
/-- the FORM of a BLOCK, laid -/
def MF (m : q_Mm) (n : Nat) (rl : Nat → Nat) (xs : Nat → Int64) (q : s_F) (b : Nat) : Prop := m.1 215 37 = nI (s_cd (s_wp n rl (s_ws xs) q b)) ∧ m.1 215 36 = nI (s_wf n rl xs (s_ws xs) q b).1 ∧ m.1 215 38 = nI (s_wf n rl xs (s_ws xs) q b).2 ∧ m.1 215 39 = nI (s_spc n rl xs b) ∧ m.1 215 28 = nI (s_mk (s_ex n rl xs (s_ws xs) (s_wp n rl (s_ws xs) q b) b (s_wf n rl xs (s_ws xs) q b).1) (s_sz n rl b)) ∧ MH m (s_sz n rl b) (fun i => xs (b * rl 0 + i))
set_option maxHeartbeats 4000000 in
set_option maxRecDepth 20000 in
theorem k_layForm {Z : q_Z} {m : q_Mm} {d : Nat} {n b : Nat} {q : s_F} {rl : Nat → Nat} {xs : Nat → Int64} (hM : MD m) (hV : MV m n rl xs) (hF : FV m q) (hq1 : 1 ≤ q.1) (hb : b < s_nb n rl) : q_V (q_g Z) mX11_layForm (d+6) 0 0 0 [some (.ref (q_ad Z 215)), some (.int (nI b)), none] [] (q_W Z m) (q_P Z fun r m2 => r = none ∧ Fr [215, 227, 228, 229] m m2 ∧ Kp 215 [23, 25, 28, 29, 32, 36, 37, 38, 39] m m2 ∧ MF m2 n rl xs q b) := by
  have hok := hV.2.2.2.2
  obtain ⟨-, hz1, -, -⟩ := s_nb_in hok hb
  have hz := s_sz16 (n := n) hok b
  have hwp := s_wp_lt (n := n) hok (s_ws xs) (fun i hi => (hF.2.2.2 i hi).1) b
  have hcd := s_cd_ok hwp
  refine q_aload_n (pc' := 1) dX11_layForm_0 rfl rfl ?_
  refine q_aload_n (pc' := 2) dX11_layForm_1 rfl rfl ?_
  refine q_iload_n (pc' := 3) dX11_layForm_2 rfl rfl ?_
  refine h_callV (pc' := 6) (M' := mX11_pairOf) (As := [_]) dX11_layForm_3 iX11_pairOf lX11_345 rfl rfl rfl rfl (Nat.le_of_ble_eq_true rfl) (Nat.le_of_ble_eq_true rfl) rfl rfl (k_pairOf hM hV hF hq1 hb) (fun r m' hq => ?_)
  obtain ⟨rfl, f1, k1⟩ := hq
  refine h_puti (pc' := 9) dX11_layForm_6 fX11_348 rfl rfl rfl rfl rfl ?_
  generalize hm2 : sI m' 215 37 (nI (s_cd (s_wp n rl (s_ws xs) q b))) = m2
  have f2 : Fr [215, 227, 228, 229] m m2 := hm2 ▸ (f1.mono (by decide)).I (by decide)
  have k2 : Kp 215 [23, 25, 28, 29, 32, 36, 37, 38, 39] m m2 := hm2 ▸ kp_I (k1.mono (by decide)) (by decide)
  have e37 : m2.1 215 37 = nI (s_cd (s_wp n rl (s_ws xs) q b)) := hm2 ▸ rfl
  have hV2 := hV.fr f2 (k2 20 (by decide)) (by decide) (by decide)
  clear hm2 k1 f1
  refine q_aload_n (pc' := 10) dX11_layForm_9 rfl rfl ?_
  refine q_iload_n (pc' := 11) dX11_layForm_10 rfl rfl ?_
  refine h_callV (pc' := 14) (M' := mX11_layBlock) (As := [_]) dX11_layForm_11 iX11_layBlock lX11_351 rfl rfl rfl rfl (Nat.le_of_ble_eq_true rfl) (Nat.le_of_ble_eq_true rfl) rfl rfl ((k_layBlock (d := d) hV2 hb).up (by omega)) (fun r m' hq => ?_)
  obtain ⟨rfl, f3, k3, H3⟩ := hq
  have hV3 := hV2.fr f3 (k3 20 (by decide)) (by decide) (by decide)
  have f3 : Fr [215, 227, 228, 229] m m' := f2.trans (f3.mono (by decide))
  have e37 : m'.1 215 37 = nI (s_cd (s_wp n rl (s_ws xs) q b)) := (k3 37 (by decide)).trans e37
  have k3 : Kp 215 [23, 25, 28, 29, 32, 36, 37, 38, 39] m m' := k2.trans (k3.mono (by decide))
  obtain ⟨m3, hm3⟩ : ∃ z, z = m' := ⟨_, rfl⟩
  subst hm3
  refine q_aload_n (pc' := 15) dX11_layForm_14 rfl rfl ?_
  refine q_aload_n (pc' := 16) dX11_layForm_15 rfl rfl ?_
  refine h_callV (pc' := 19) (M' := mX11_splitCost) (As := []) dX11_layForm_16 iX11_splitCost lX11_354 rfl rfl rfl rfl (Nat.le_of_ble_eq_true rfl) (Nat.le_of_ble_eq_true rfl) rfl rfl ((k_splitCost (d := d) (ps := s_ps rl xs b) hV3 H3 hz hz1 (fun i _ => rfl)).up (by omega)) (fun r m' hq => ?_)
  obtain ⟨rfl, f4, k4, -⟩ := hq
  have H4 := H3.fr f4 (k4 25 (by decide)) (by decide)
  have e37 : m'.1 215 37 = nI (s_cd (s_wp n rl (s_ws xs) q b)) := (k4 37 (by decide)).trans e37
  have f4 : Fr [215, 227, 228, 229] m m' := f3.trans (f4.mono (by decide))
  have k4 : Kp 215 [23, 25, 28, 29, 32, 36, 37, 38, 39] m m' := k3.trans (k4.mono (by decide))
  rw [show 6 + 2 * (s_ch (s_ps rl xs b) (s_sz n rl b) (s_often (s_ps rl xs b) (s_sz n rl b)) (rl 4)).1 + (s_sz n rl b * (s_bl (nI ((s_ch (s_ps rl xs b) (s_sz n rl b) (s_often (s_ps rl xs b) (s_sz n rl b)) (rl 4)).1 - 1)).toInt64 + 64 - rl 3) + 7) / 8 + 3 * s_cnt (fun i => !decide (s_code (s_ch (s_ps rl xs b) (s_sz n rl b) (s_often (s_ps rl xs b) (s_sz n rl b)) (rl 4)).2.2 (s_ch (s_ps rl xs b) (s_sz n rl b) (s_often (s_ps rl xs b) (s_sz n rl b)) (rl 4)).1 (s_ps rl xs b i) < (s_ch (s_ps rl xs b) (s_sz n rl b) (s_often (s_ps rl xs b) (s_sz n rl b)) (rl 4)).1)) (s_sz n rl b) = s_spc n rl xs b from rfl]
  refine h_puti (pc' := 22) dX11_layForm_19 fX11_357 rfl rfl rfl rfl rfl ?_
  refine q_aload_n (pc' := 23) dX11_layForm_22 rfl rfl ?_
  refine q_iconst (pc' := 24) (v := nI 0) dX11_layForm_23 rfl rfl ?_
  refine h_puti (pc' := 27) dX11_layForm_24 fX11_360 rfl rfl rfl rfl rfl ?_
  generalize hm5 : sI (sI m' 215 39 (nI (s_spc n rl xs b))) 215 36 (nI 0) = m5
  have g5 : Fr [215] m' m5 := hm5 ▸ (Fr.rf.I (by decide)).I (by decide)
  have l5 : Kp 215 [36, 39] m' m5 := hm5 ▸ kp_I (kp_I Kp.rf (by decide)) (by decide)
  have e39 : m5.1 215 39 = nI (s_spc n rl xs b) := hm5 ▸ rfl
  have e36 : m5.1 215 36 = nI 0 := hm5 ▸ rfl
  have e37 := (l5 37 (by decide)).trans e37
  have H5 := H4.fr g5 (l5 25 (by decide)) (by decide)
  have f5 := f4.trans (g5.mono (by decide) : Fr [215, 227, 228, 229] m' m5)
  have k5 : Kp 215 [23, 25, 28, 29, 32, 36, 37, 38, 39] m m5 := k4.trans (l5.mono (by decide))
  clear hm5 g5 l5 k4 f4 H4 k3 f3 H3 hV3 hV2 k2 f2
  refine q_aload_n (pc' := 28) dX11_layForm_27 rfl rfl ?_
  refine q_aload_n (pc' := 29) dX11_layForm_28 rfl rfl ?_
  refine h_callV (pc' := 32) (M' := mX11_rawCost) (As := []) dX11_layForm_29 iX11_rawCost lX11_363 rfl rfl rfl rfl (Nat.le_of_ble_eq_true rfl) (Nat.le_of_ble_eq_true rfl) rfl rfl ((k_rawCost H5).up (Nat.zero_le _)) (fun r m' hq => ?_)
  obtain ⟨rfl, hmm⟩ := hq
  subst m'
  refine h_puti (pc' := 35) dX11_layForm_32 fX11_366 rfl rfl rfl rfl rfl ?_
  generalize hm6 : sI m5 215 38 (nI (3 + 8 * s_sz n rl b)) = m6
  have g6 : Fr [215] m5 m6 := hm6 ▸ Fr.rf.I (by decide)
  have l6 : Kp 215 [38] m5 m6 := hm6 ▸ kp_I Kp.rf (by decide)
  have e38 : m6.1 215 38 = nI (3 + 8 * s_sz n rl b) := hm6 ▸ rfl
  have e36 := (l6 36 (by decide)).trans e36
  have e37 := (l6 37 (by decide)).trans e37
  have e39 := (l6 39 (by decide)).trans e39
  have H6 := H5.fr g6 (l6 25 (by decide)) (by decide)
  have f6 := f5.trans (g6.mono (by decide) : Fr [215, 227, 228, 229] m5 m6)
  have k6 : Kp 215 [23, 25, 28, 29, 32, 36, 37, 38, 39] m m6 := k5.trans (l6.mono (by decide))
  have hM6 := hM.fr f6 (by decide) (by decide)
  clear hm6 g6 l6 k5 f5 H5
  refine q_aload_n (pc' := 36) dX11_layForm_35 rfl rfl ?_
  refine q_aload_n (pc' := 37) dX11_layForm_36 rfl rfl ?_
  refine h_getiE (pc' := 40) dX11_layForm_37 fX11_348 rfl rfl (e37) rfl ?_
  refine q_bipush (pc' := 42) (v := nI 16) dX11_layForm_40 rfl rfl ?_
  refine q_idivN (pc' := 43) dX11_layForm_42 (by omega) rfl ?_
  refine q_aload_n (pc' := 44) dX11_layForm_43 rfl rfl ?_
  refine h_getiE (pc' := 47) dX11_layForm_44 fX11_348 rfl rfl (e37) rfl ?_
  refine q_bipush (pc' := 49) (v := nI 16) dX11_layForm_47 rfl rfl ?_
  refine q_iremN (pc' := 50) dX11_layForm_49 (by omega) rfl ?_
  refine h_callV (pc' := 53) (M' := mX11_decimalCost) (As := [_, _]) dX11_layForm_50 iX11_decimalCost lX11_336 rfl rfl rfl rfl (Nat.le_of_ble_eq_true rfl) (Nat.le_of_ble_eq_true rfl) rfl rfl ((k_decimalCost (d := d) hM6 H6 hz hcd.1 hcd.2.1).up (by omega)) (fun r m' hq => ?_)
  obtain ⟨rfl, g7, l7, L7⟩ := hq
  rw [show s_mc (s_sz n rl b) (s_ms (fun i => s_w2 (xs (b * rl 0 + i)) (s_cd (s_wp n rl (s_ws xs) q b) / 16) (s_cd (s_wp n rl (s_ws xs) q b) % 16)) (s_sz n rl b)) = s_dc n rl (s_ws xs) b (s_wp n rl (s_ws xs) q b) from rfl]
  have e28 : m'.1 215 28 = nI (s_mk (s_un rl (s_ws xs) b (s_wp n rl (s_ws xs) q b)) (s_sz n rl b)) := L7.1
  have e36 := (l7 36 (by decide)).trans e36
  have e37 := (l7 37 (by decide)).trans e37
  have e38 := (l7 38 (by decide)).trans e38
  have e39 := (l7 39 (by decide)).trans e39
  have H7 := H6.fr g7 (l7 25 (by decide)) (by decide)
  have f7 := f6.trans (g7.mono (by decide) : Fr [215, 227, 228, 229] m6 m')
  have k7 : Kp 215 [23, 25, 28, 29, 32, 36, 37, 38, 39] m m' := k6.trans (l7.mono (by decide))
  clear g7 l7 L7 k6 f6 H6
  have hdc : s_dc n rl (s_ws xs) b (s_wp n rl (s_ws xs) q b) ≤ 1000 := s_mc_le _ _ hz
  have hsp := s_spc_le hok xs hz1
  obtain ⟨W, hW⟩ : ∃ W, s_w1 n rl (s_ws xs) q b = W := ⟨_, rfl⟩
  have hw1 : (if s_dc n rl (s_ws xs) b (s_wp n rl (s_ws xs) q b) < 3 + 8 * s_sz n rl b then (1, s_dc n rl (s_ws xs) b (s_wp n rl (s_ws xs) q b)) else (0, 3 + 8 * s_sz n rl b)) = W := hW
  have hwf : s_wf n rl xs (s_ws xs) q b = if s_spc n rl xs b < W.2 then (2, s_spc n rl xs b) else W := by unfold s_wf; rw [hW]
  have fin : ∀ m8 : q_Mm, Fr [215, 227, 228, 229] m m8 → Kp 215 [23, 25, 28, 29, 32, 36, 37, 38, 39] m m8 → m8.1 215 28 = nI (s_mk (s_un rl (s_ws xs) b (s_wp n rl (s_ws xs) q b)) (s_sz n rl b)) → m8.1 215 37 = nI (s_cd (s_wp n rl (s_ws xs) q b)) → m8.1 215 39 = nI (s_spc n rl xs b) → MH m8 (s_sz n rl b) (fun i => xs (b * rl 0 + i)) → m8.1 215 36 = nI W.1 → m8.1 215 38 = nI W.2 → W.1 ≤ 1 → W.2 ≤ 1000 → q_V (q_g Z) mX11_layForm (d+6) 0 0 72 [some (.ref (q_ad Z 215)), some (.int (nI b)), some (.int (nI (s_dc n rl (s_ws xs) b (s_wp n rl (s_ws xs) q b))))] [] (q_W Z (m8)) (q_P Z fun r m2 => r = none ∧ Fr [215, 227, 228, 229] m m2 ∧ Kp 215 [23, 25, 28, 29, 32, 36, 37, 38, 39] m m2 ∧ MF m2 n rl xs q b) := by
    intro m8 f8 k8 e28 e37 e39 H8 e36 e38 w1 w2
    refine q_aload_n (pc' := 73) dX11_layForm_72 rfl rfl ?_
    refine h_getiE (pc' := 76) dX11_layForm_73 fX11_357 rfl rfl (e39) rfl ?_
    refine q_aload_n (pc' := 77) dX11_layForm_76 rfl rfl ?_
    refine h_getiE (pc' := 80) dX11_layForm_77 fX11_366 rfl rfl (e38) rfl ?_
    refine q_icmp_geN (tgt := 96) (pc' := 83) dX11_layForm_80 (by decide) rfl (by omega) (fun c_80 => ?_) (fun c_80 => ?_)
    · have hwf : s_wf n rl xs (s_ws xs) q b = W := by rw [hwf, if_neg (by omega)]
      refine q_aload_n (pc' := 97) dX11_layForm_96 rfl rfl ?_
      refine h_getiE (pc' := 100) dX11_layForm_97 fX11_360 rfl rfl (e36) rfl ?_
      refine q_iconst (pc' := 101) (v := nI 2) dX11_layForm_100 rfl rfl ?_
      refine q_icmp_neN (tgt := 111) (pc' := 104) dX11_layForm_101 (by decide) rfl (by omega) (fun c_101 => ?_) (fun c_101 => ?_)
      rotate_left
      · omega
      refine q_aload_n (pc' := 112) dX11_layForm_111 rfl rfl ?_
      refine h_getiE (pc' := 115) dX11_layForm_112 fX11_360 rfl rfl (e36) rfl ?_
      refine q_if_neN (tgt := 123) (pc' := 118) dX11_layForm_115 (by decide) rfl (by omega) (fun c_115 => ?_) (fun c_115 => ?_)
      · have hW1 : W.1 = 1 := by omega
        refine q_vret dX11_layForm_123 rfl ⟨_, rfl, rfl, f8, k8, e37, by rw [hwf]; exact e36, by rw [hwf]; exact e38, e39, by rw [hwf, hW1]; exact e28, H8⟩
      · have hW1 : W.1 = 0 := by omega
        refine q_aload_n (pc' := 119) dX11_layForm_118 rfl rfl ?_
        refine q_iconst (pc' := 120) (v := nI 0) dX11_layForm_119 rfl rfl ?_
        refine h_puti (pc' := 123) dX11_layForm_120 fX11_289 rfl rfl rfl rfl rfl ?_
        refine q_vret dX11_layForm_123 rfl ⟨_, rfl, rfl, f8.I (by decide), kp_I k8 (by decide), e37, by rw [hwf]; exact e36, by rw [hwf]; exact e38, e39, by rw [hwf, hW1]; exact congrArg nI (s_mk_no _).symm, H8⟩
    · have hwf : s_wf n rl xs (s_ws xs) q b = (2, s_spc n rl xs b) := by rw [hwf, if_pos (by omega)]
      have e39' : (sI m8 215 36 (nI 2)).1 215 39 = nI (s_spc n rl xs b) := e39
      refine q_aload_n (pc' := 84) dX11_layForm_83 rfl rfl ?_
      refine q_iconst (pc' := 85) (v := nI 2) dX11_layForm_84 rfl rfl ?_
      refine h_puti (pc' := 88) dX11_layForm_85 fX11_360 rfl rfl rfl rfl rfl ?_
      refine q_aload_n (pc' := 89) dX11_layForm_88 rfl rfl ?_
      refine q_aload_n (pc' := 90) dX11_layForm_89 rfl rfl ?_
      refine h_getiE (pc' := 93) dX11_layForm_90 fX11_357 rfl rfl (e39') rfl ?_
      refine h_puti (pc' := 96) dX11_layForm_93 fX11_366 rfl rfl rfl rfl rfl ?_
      have f9 : Fr [215, 227, 228, 229] m (sI (sI m8 215 36 (nI 2)) 215 38 (nI (s_spc n rl xs b))) := (f8.I (by decide)).I (by decide)
      have k9 : Kp 215 [23, 25, 28, 29, 32, 36, 37, 38, 39] m (sI (sI m8 215 36 (nI 2)) 215 38 (nI (s_spc n rl xs b))) := kp_I (kp_I k8 (by decide)) (by decide)
      have hV9 := hV.fr f9 (k9 20 (by decide)) (by decide) (by decide)
      have H9 : MH (sI (sI m8 215 36 (nI 2)) 215 38 (nI (s_spc n rl xs b))) (s_sz n rl b) (fun i => xs (b * rl 0 + i)) := H8
      have e36 : (sI (sI m8 215 36 (nI 2)) 215 38 (nI (s_spc n rl xs b))).1 215 36 = nI 2 := rfl
      refine q_aload_n (pc' := 97) dX11_layForm_96 rfl rfl ?_
      refine h_getiE (pc' := 100) dX11_layForm_97 fX11_360 rfl rfl (e36) rfl ?_
      refine q_iconst (pc' := 101) (v := nI 2) dX11_layForm_100 rfl rfl ?_
      refine q_icmp_neN (tgt := 111) (pc' := 104) dX11_layForm_101 (by decide) rfl (by omega) (fun c_101 => ?_) (fun c_101 => ?_)
      · omega
      refine q_aload_n (pc' := 105) dX11_layForm_104 rfl rfl ?_
      refine h_callV (pc' := 108) (M' := mX11_laySplit) (As := []) dX11_layForm_105 iX11_laySplit lX11_326 rfl rfl rfl rfl (Nat.le_of_ble_eq_true rfl) (Nat.le_of_ble_eq_true rfl) rfl rfl ((k_laySplit (d := d) (ps := s_ps rl xs b) hV9 H9 hz (fun i _ => rfl)).up (by omega)) (fun r m' hq => ?_)
      obtain ⟨rfl, g10, l10, R10⟩ := hq
      refine q_goto (pc' := 123) dX11_layForm_108 (by decide) ?_
      refine q_vret dX11_layForm_123 rfl ⟨_, rfl, rfl, f9.trans (g10.mono (by decide)), k9.trans (l10.mono (by decide)), (l10 37 (by decide)).trans e37, by rw [hwf]; exact l10 36 (by decide), by rw [hwf]; exact l10 38 (by decide), (l10 39 (by decide)).trans e39, by rw [hwf]; exact R10.2.2, H9.fr g10 (l10 25 (by decide)) (by decide)⟩
  refine q_istore_n (pc' := 54) (lv' := [_, _, _]) dX11_layForm_53 (by decide) rfl rfl ?_
  refine q_iload_n (pc' := 55) dX11_layForm_54 rfl rfl ?_
  refine q_aload_n (pc' := 56) dX11_layForm_55 rfl rfl ?_
  refine h_getiE (pc' := 59) dX11_layForm_56 fX11_366 rfl rfl (e38) rfl ?_
  refine q_icmp_geN (tgt := 72) (pc' := 62) dX11_layForm_59 (by decide) rfl (by omega) (fun c_59 => ?_) (fun c_59 => ?_)
  · rw [if_neg (by omega)] at hw1
    subst hw1
    exact fin m' f7 k7 e28 e37 e39 H7 e36 e38 (Nat.zero_le _) (by show 3 + 8 * s_sz n rl b ≤ 1000; omega)
  · rw [if_pos (by omega)] at hw1
    subst hw1
    refine q_aload_n (pc' := 63) dX11_layForm_62 rfl rfl ?_
    refine q_iconst (pc' := 64) (v := nI 1) dX11_layForm_63 rfl rfl ?_
    refine h_puti (pc' := 67) dX11_layForm_64 fX11_360 rfl rfl rfl rfl rfl ?_
    refine q_aload_n (pc' := 68) dX11_layForm_67 rfl rfl ?_
    refine q_iload_n (pc' := 69) dX11_layForm_68 rfl rfl ?_
    refine h_puti (pc' := 72) dX11_layForm_69 fX11_366 rfl rfl rfl rfl rfl ?_
    exact fin _ ((f7.I (by decide)).I (by decide)) (kp_I (kp_I k7 (by decide)) (by decide)) e28 e37 e39 H7 rfl rfl (Nat.le_refl _) hdc
