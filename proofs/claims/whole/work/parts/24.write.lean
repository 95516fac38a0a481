/-! ===== BlockWriter.writeOut ===== -/
/-- the bytes of a BLOCK without CHECK, by FORM, PAIR, codes -/
def s_dB0 (n : Nat) (rl : Nat → Nat) (ws : Nat → Nat → Int64) (bk p cd : Nat) (P : Nat → Bool) : List Nat := [1] ++ [s_sz n rl bk] ++ [cd / 16] ++ [cd % 16] ++ [s_cnt P (s_sz n rl bk)] ++ s_i8 (s_dm n rl ws bk p).1 ++ [s_bl ((s_dm n rl ws bk p).2.1 - (s_dm n rl ws bk p).1)]
def s_sB0 (n : Nat) (rl : Nat → Nat) (ys : Nat → Int64) (bk : Nat) (P : Nat → Bool) : List Nat := [2] ++ [s_sz n rl bk] ++ [rl 3] ++ [(s_S n rl ys bk).1] ++ s_hi2 (s_S n rl ys bk).2.2 (s_S n rl ys bk).1 ++ [s_cnt P (s_sz n rl bk)]
def s_wb (n : Nat) (rl : Nat → Nat) (ys : Nat → Int64) (ws : Nat → Nat → Int64) (bk p cd : Nat) : Nat → List Nat
  | 0 => [0] ++ [s_sz n rl bk] ++ s_raw (fun i => ys (bk * rl 0 + i)) (s_sz n rl bk)
  | 1 => (s_fill (s_db (fun i => ws (bk * rl 0 + i) p) (s_dm n rl ws bk p).1 (s_bl ((s_dm n rl ws bk p).2.1 - (s_dm n rl ws bk p).1)) (s_dB0 n rl ws bk p cd (s_un rl ws bk p), 0, 0) (s_sz n rl bk))).1 ++ s_dx (s_un rl ws bk p) (fun i => ys (bk * rl 0 + i)) (s_sz n rl bk)
  | _ => (s_fill (s_sb (s_S n rl ys bk).2.2 (s_S n rl ys bk).1 (s_ps rl ys bk) (fun i => ys (bk * rl 0 + i)) (s_cb n rl ys bk) (64 - rl 3) (s_sB0 n rl ys bk (s_mi n rl ys bk), 0, 0) (s_sz n rl bk))).1 ++ s_sx (s_mi n rl ys bk) (s_ps rl ys bk) (s_sz n rl bk)
theorem s_wb_len {n : Nat} {rl : Nat → Nat} (hr : s_rok rl) (ys : Nat → Int64) (ws : Nat → Nat → Int64) {bk : Nat} (p cd : Nat) (hz : 1 ≤ s_sz n rl bk) : ∀ f, (s_wb n rl ys ws bk p cd f).length ≤ 310
  | 0 => by
    have h16 := s_sz16 (n := n) hr bk
    have := s_raw_len (fun i => ys (bk * rl 0 + i)) (s_sz n rl bk)
    unfold s_wb
    simp only [List.length_append, List.length_singleton]; omega
  | 1 => by
    have h16 := s_sz16 (n := n) hr bk
    have hw := s_bl_le ((s_dm n rl ws bk p).2.1 - (s_dm n rl ws bk p).1)
    have hs := s_db_len (fun i => ws (bk * rl 0 + i) p) (s_dm n rl ws bk p).1 (s_bl ((s_dm n rl ws bk p).2.1 - (s_dm n rl ws bk p).1)) (s_dB0 n rl ws bk p cd (s_un rl ws bk p), 0, 0) (Nat.succ_pos 7) (s_sz n rl bk)
    have hf := s_fill_len _ hs.2
    have hd := s_dx_len (s_un rl ws bk p) (fun i => ys (bk * rl 0 + i)) (s_sz n rl bk)
    have hm : s_sz n rl bk * s_bl ((s_dm n rl ws bk p).2.1 - (s_dm n rl ws bk p).1) ≤ 16 * 64 := Nat.mul_le_mul h16 hw
    have hb : (s_dB0 n rl ws bk p cd (s_un rl ws bk p)).length = 14 := by
      unfold s_dB0; simp only [List.length_append, List.length_singleton, s_i8_len]
    simp only [hb] at hs
    show List.length (_ ++ _) ≤ 310
    rw [List.length_append]
    omega
  | f + 2 => by
    have h16 := s_sz16 (n := n) hr bk
    have h3 := hr.2.2.2.1
    have hS := s_S_in hr ys hz
    have hcb3 : s_cb n rl ys bk ≤ 3 := s_bl8 ⟨(s_S n rl ys bk).1 - 1, by omega⟩
    have hs := s_sb_len (s_S n rl ys bk).2.2 (s_S n rl ys bk).1 (s_ps rl ys bk) (fun i => ys (bk * rl 0 + i)) (s_cb n rl ys bk) (64 - rl 3) (s_sB0 n rl ys bk (s_mi n rl ys bk), 0, 0) (Nat.succ_pos 7) (s_sz n rl bk)
    have hf := s_fill_len _ hs.2
    have hd := s_sx_len (s_mi n rl ys bk) (s_ps rl ys bk) (s_sz n rl bk)
    have hm : s_sz n rl bk * (s_cb n rl ys bk + (64 - rl 3)) ≤ 16 * 63 := Nat.mul_le_mul h16 (by omega)
    have h2 := s_hi2_len (s_S n rl ys bk).2.2 (s_S n rl ys bk).1
    have hb : (s_sB0 n rl ys bk (s_mi n rl ys bk)).length ≤ 21 := by
      unfold s_sB0; simp only [List.length_append, List.length_singleton]; omega
    simp only [] at hs
    show List.length (_ ++ _) ≤ 310
    rw [List.length_append]
    omega
def s_ck (B : List Nat) : Nat := (s_chk (fun i => nI (B.getD i 0)) B.length &&& nI 255).toBitVec.toNat
def s_wo (n : Nat) (rl : Nat → Nat) (ys : Nat → Int64) (ws : Nat → Nat → Int64) (q : s_F) (cdf : Nat → Nat) (bk : Nat) : List Nat := s_wb n rl ys ws bk (s_wp n rl ws q bk) (cdf (s_wp n rl ws q bk)) (s_wf n rl ys ws q bk).1 ++ [s_ck (s_wb n rl ys ws bk (s_wp n rl ws q bk) (cdf (s_wp n rl ws q bk)) (s_wf n rl ys ws q bk).1)]
set_option maxHeartbeats 4000000 in
set_option maxRecDepth 20000 in
theorem c_writeOut_194 {Z : q_Z} {m : q_Mm} {d : Nat} {n bk : Nat} {L : List Nat} {rl : Nat → Nat} {ys : Nat → Int64} {ws : Nat → Nat → Int64} {q : s_F} {cdf : Nat → Nat} (hB : Bw m (L, 0, 0)) (hP : Pl m 194 n rl ys ws) (hF : Fiv m 194 q) (hb : bk < s_nb n rl) (hc : ∀ p, p < 120 → m.2.2.1 190 p = nI (cdf p) ∧ cdf p < 256) : q_V (q_g Z) mX1_writeOut (d+5) 0 0 0 [some (.ref (q_ad Z 212)), some (.ref (q_ad Z 194)), some (.int (nI bk))] [] (q_W Z m) (q_P Z fun r m2 => r = none ∧ Fr [194, 199, 200, 201, 202, 212, 8, 9] m m2 ∧ Kp 194 [11, 12, 13, 14, 15] m m2 ∧ Bw m2 (s_wo n rl ys ws q cdf bk, 0, 0)) := by
  have hr := hP.2.2.2.1
  have hz := s_nb_in hr hb
  have h16 := s_sz16 (n := n) hr bk
  have hwp := s_wp_lt (n := n) hr ws (fun i hi => (hF.2.2.2 i hi).1) bk
  have hwf := (s_wf_le (n := n) hr ys ws q (bk := bk)).1
  obtain ⟨hO, hb1, hb2, -, -⟩ := hB
  refine q_aload_n (pc' := 1) dX1_writeOut_0 rfl rfl ?_
  refine h_getr (pc' := 4) dX1_writeOut_1 fX1_9 rfl rfl rfl ?_
  refine q_iconst (pc' := 5) (v := nI 0) dX1_writeOut_4 rfl rfl ?_
  refine h_puti (pc' := 8) dX1_writeOut_5 fX1_15 rfl rfl rfl rfl rfl ?_
  have O0 : Oct (sI m 8 1 (nI 0)) 8 [] := ⟨rfl, by decide, fun i hi => absurd hi (Nat.not_lt_zero i), fun x hx => absurd hx (List.not_mem_nil)⟩
  have f0 : Fr [8] m (sI m 8 1 (nI 0)) := Fr.rf.I (by decide)
  generalize sI m 8 1 (nI 0) = m0 at O0 f0 ⊢
  have hP0 := hP.fr f0 (congrFun (f0.i (by decide)) 4) (by decide) (by decide) (by decide) (by decide)
  have hF0 := hF.fr f0 (congrFun (f0.i (by decide)) 7) (by decide) (by decide)
  refine q_aload_n (pc' := 9) dX1_writeOut_8 rfl rfl ?_
  refine q_iload_n (pc' := 10) dX1_writeOut_9 rfl rfl ?_
  refine h_callV (pc' := 13) (M' := mX8_weigh) (As := [_]) dX1_writeOut_10 iX8_weigh lX1_21 rfl rfl rfl rfl (Nat.le_of_ble_eq_true rfl) (Nat.le_of_ble_eq_true rfl) rfl rfl (c_weigh_194 hP0 hF0 hb) (fun r m' hq => ?_)
  obtain ⟨rfl, f1, k1, W1, C1, -⟩ := hq
  have O1 := O0.fr f1 (by decide) (by decide)
  have B1 : Bw m' ([], 0, 0) := ⟨O1, (congrFun (f1.i (p := 212) (by decide)) 1).trans ((congrFun (f0.i (p := 212) (by decide)) 1).trans hb1), (congrFun (f1.i (p := 212) (by decide)) 2).trans ((congrFun (f0.i (p := 212) (by decide)) 2).trans hb2), Nat.one_pos, Nat.succ_pos 7⟩
  have hc1 : m'.2.2.1 190 = m.2.2.1 190 := (f1.a (p := 190) (by decide)).trans (f0.a (p := 190) (by decide))
  have hc := hc (s_wp n rl ws q bk) hwp
  have k1 : Kp 194 [11, 12, 13, 14, 15] m m' := (Kp.fr f0 (by decide)).trans k1
  have f1 : Fr [194, 199, 200, 201, 202, 212, 8, 9] m m' := (f0.mono (by decide)).trans (f1.mono (by decide))
  clear f0 hP0 hF0 O0 hO hb1 hb2
  obtain ⟨m1, hm1⟩ : ∃ z, z = m' := ⟨_, rfl⟩
  subst hm1
  have hP1 := hP.kp f1 k1 (by decide) (by decide) (by decide) (by decide) (by decide)
  have hwl := s_wb_len hr ys ws (s_wp n rl ws q bk) (cdf (s_wp n rl ws q bk)) hz.2.1 (s_wf n rl ys ws q bk).1
  have fin : ∀ (m5 : q_Mm), Fr [194, 199, 200, 201, 202, 212, 8, 9] m m5 → Kp 194 [11, 12, 13, 14, 15] m m5 → Bw m5 (s_wb n rl ys ws bk (s_wp n rl ws q bk) (cdf (s_wp n rl ws q bk)) (s_wf n rl ys ws q bk).1, 0, 0) → q_V (q_g Z) mX1_writeOut (d+5) 0 0 75 [some (.ref (q_ad Z 212)), some (.ref (q_ad Z 194)), some (.int (nI bk))] [] (q_W Z (m5)) (q_P Z fun r m2 => r = none ∧ Fr [194, 199, 200, 201, 202, 212, 8, 9] m m2 ∧ Kp 194 [11, 12, 13, 14, 15] m m2 ∧ Bw m2 (s_wo n rl ys ws q cdf bk, 0, 0)) := by
    intro m5 f5 k5 B5
    have hck := z_by (s_chk (m5.2.2.1 9) (s_wb n rl ys ws bk (s_wp n rl ws q bk) (cdf (s_wp n rl ws q bk)) (s_wf n rl ys ws q bk).1).length)
    have e : s_chk (m5.2.2.1 9) (s_wb n rl ys ws bk (s_wp n rl ws q bk) (cdf (s_wp n rl ws q bk)) (s_wf n rl ys ws q bk).1).length = s_chk (fun i => nI ((s_wb n rl ys ws bk (s_wp n rl ws q bk) (cdf (s_wp n rl ws q bk)) (s_wf n rl ys ws q bk).1).getD i 0)) (s_wb n rl ys ws bk (s_wp n rl ws q bk) (cdf (s_wp n rl ws q bk)) (s_wf n rl ys ws q bk).1).length := s_chk_congr _ (fun i hi => B5.1.2.2.1 i hi)
    refine q_aload_n (pc' := 76) dX1_writeOut_75 rfl rfl ?_
    refine h_getr (pc' := 79) dX1_writeOut_76 fX1_9 rfl rfl rfl ?_
    refine q_aload_n (pc' := 80) dX1_writeOut_79 rfl rfl ?_
    refine h_getr (pc' := 83) dX1_writeOut_80 fX1_9 rfl rfl rfl ?_
    refine q_aload_n (pc' := 84) dX1_writeOut_83 rfl rfl ?_
    refine h_getr (pc' := 87) dX1_writeOut_84 fX1_9 rfl rfl rfl ?_
    refine h_getiE (pc' := 90) dX1_writeOut_87 fX1_15 rfl rfl (B5.1.1) rfl ?_
    refine h_callV (pc' := 93) (M' := mX5_checkAt) (As := [_]) dX1_writeOut_90 iX5_checkAt lX1_47 rfl rfl rfl rfl (Nat.le_of_ble_eq_true rfl) (Nat.le_of_ble_eq_true rfl) rfl rfl (c_checkAt_8 B5.1.1 (by simp only []; omega) (Nat.le_refl _)) (fun r m' hq => ?_)
    obtain ⟨rfl, hmm⟩ := hq
    subst m'
    refine h_callV (pc' := 96) (M' := mX5_append) (As := [_]) dX1_writeOut_93 iX5_append lX1_30 rfl rfl rfl rfl (Nat.le_of_ble_eq_true rfl) (Nat.le_of_ble_eq_true rfl) rfl rfl (c_append_8 B5.1 (by simp only []; omega) hck.1 hck.2) (fun r m' hq => ?_)
    obtain ⟨rfl, f6, O6⟩ := hq
    have B6 := B5.o f6 (by decide) O6
    rw [e] at B6
    refine q_vret dX1_writeOut_96 rfl ⟨_, rfl, rfl, f5.trans (f6.mono (by decide)), k5.trans (Kp.fr f6 (by decide)), B6⟩
  refine q_aload_n (pc' := 14) dX1_writeOut_13 rfl rfl ?_
  refine h_getr (pc' := 17) dX1_writeOut_14 fX1_9 rfl rfl rfl ?_
  refine q_aload_n (pc' := 18) dX1_writeOut_17 rfl rfl ?_
  refine h_getiE (pc' := 21) dX1_writeOut_18 fX1_27 rfl rfl (W1.2.1) rfl ?_
  refine h_callV (pc' := 24) (M' := mX5_append) (As := [_]) dX1_writeOut_21 iX5_append lX1_30 rfl rfl rfl rfl (Nat.le_of_ble_eq_true rfl) (Nat.le_of_ble_eq_true rfl) rfl rfl (c_append_8 (b := (s_wf n rl ys ws q bk).1) B1.1 (by simp only [List.length_nil]; omega) (z_b (by omega)) (by omega)) (fun r m' hq => ?_)
  obtain ⟨rfl, f2, O2⟩ := hq
  have hP2 := hP1.fr f2 (congrFun (f2.i (by decide)) 4) (by decide) (by decide) (by decide) (by decide)
  obtain ⟨m2, hm2⟩ : ∃ z, z = m' := ⟨_, rfl⟩
  subst hm2
  refine q_aload_n (pc' := 25) dX1_writeOut_24 rfl rfl ?_
  refine h_getr (pc' := 28) dX1_writeOut_25 fX1_9 rfl rfl rfl ?_
  refine q_aload_n (pc' := 29) dX1_writeOut_28 rfl rfl ?_
  refine q_iload_n (pc' := 30) dX1_writeOut_29 rfl rfl ?_
  refine h_callV (pc' := 33) (M' := mX8_sizeOf) (As := [_]) dX1_writeOut_30 iX8_sizeOf lX1_33 rfl rfl rfl rfl (Nat.le_of_ble_eq_true rfl) (Nat.le_of_ble_eq_true rfl) rfl rfl (c_sizeOf_194 hP2 hb) (fun r m' hq => ?_)
  obtain ⟨rfl, hmm⟩ := hq
  subst m'
  refine h_callV (pc' := 36) (M' := mX5_append) (As := [_]) dX1_writeOut_33 iX5_append lX1_30 rfl rfl rfl rfl (Nat.le_of_ble_eq_true rfl) (Nat.le_of_ble_eq_true rfl) rfl rfl (c_append_8 (b := s_sz n rl bk) O2 (by simp only [List.length_append, List.length_singleton, List.length_nil]; omega) (z_b (by omega)) (by omega)) (fun r m' hq => ?_)
  obtain ⟨rfl, f3, O3⟩ := hq
  have f3 := f2.trans f3
  have hP3 := hP1.fr f3 (congrFun (f3.i (by decide)) 4) (by decide) (by decide) (by decide) (by decide)
  have B3 : Bw m' ([(s_wf n rl ys ws q bk).1] ++ [s_sz n rl bk], 0, 0) := B1.o f3 (by decide) O3
  have w12 := (congrFun (f3.i (p := 194) (by decide)) 12).trans W1.1
  have w13 := (congrFun (f3.i (p := 194) (by decide)) 13).trans W1.2.1
  have w15 := (congrFun (f3.i (p := 194) (by decide)) 15).trans W1.2.2.2
  have c1 := (congrFun (f3.i (p := 199) (by decide)) 1).trans C1.1
  have c2 := fun i hi => (congrFun (f3.a (p := 200) (by decide)) i).trans (C1.2.1 i hi)
  have hcc : m'.2.2.1 190 (s_wp n rl ws q bk) = nI (cdf (s_wp n rl ws q bk)) := (congrFun ((f3.a (p := 190) (by decide)).trans hc1) _).trans hc.1
  have k3 : Kp 194 [11, 12, 13, 14, 15] m m' := k1.trans (Kp.fr f3 (by decide))
  have f3 : Fr [194, 199, 200, 201, 202, 212, 8, 9] m m' := f1.trans (f3.mono (by decide))
  clear O3 O2 B1 O1 W1 C1 hP2 hP1 f2 hc1
  obtain ⟨m3, hm3⟩ : ∃ z, z = m' := ⟨_, rfl⟩
  subst hm3
  have hfc : (s_wf n rl ys ws q bk).1 = 0 ∨ (s_wf n rl ys ws q bk).1 = 1 ∨ (s_wf n rl ys ws q bk).1 = 2 := by omega
  rcases hfc with hf | hf | hf
  · rw [hf] at fin B3 w13
    refine q_aload_n (pc' := 37) dX1_writeOut_36 rfl rfl ?_
    refine h_getiE (pc' := 40) dX1_writeOut_37 fX1_27 rfl rfl (w13) rfl ?_
    refine q_if_neN (tgt := 52) (pc' := 43) dX1_writeOut_40 (by decide) rfl (by omega) (fun c_40 => ?_) (fun c_40 => ?_)
    · exact absurd c_40 (Nat.lt_irrefl 0)
    refine q_aload_n (pc' := 44) dX1_writeOut_43 rfl rfl ?_
    refine q_aload_n (pc' := 45) dX1_writeOut_44 rfl rfl ?_
    refine q_iload_n (pc' := 46) dX1_writeOut_45 rfl rfl ?_
    refine h_callV (pc' := 49) (M' := mX1_rawOut) (As := [_, _]) dX1_writeOut_46 iX1_rawOut lX1_37 rfl rfl rfl rfl (Nat.le_of_ble_eq_true rfl) (Nat.le_of_ble_eq_true rfl) rfl rfl (c_rawOut_194 B3.1 (by simp only [List.length_append, List.length_singleton]; omega) hP3 hb) (fun r m' hq => ?_)
    obtain ⟨rfl, f4, O4⟩ := hq
    refine q_goto (pc' := 75) dX1_writeOut_49 (by decide) ?_
    exact fin _ (f3.trans (f4.mono (by decide))) (k3.trans (Kp.fr f4 (by decide))) (B3.o f4 (by decide) O4)
  · rw [hf] at fin B3 w13 w15
    refine q_aload_n (pc' := 37) dX1_writeOut_36 rfl rfl ?_
    refine h_getiE (pc' := 40) dX1_writeOut_37 fX1_27 rfl rfl (w13) rfl ?_
    refine q_if_neN (tgt := 52) (pc' := 43) dX1_writeOut_40 (by decide) rfl (by omega) (fun c_40 => ?_) (fun c_40 => ?_)
    rotate_left
    · exact absurd c_40 (by decide)
    refine q_aload_n (pc' := 53) dX1_writeOut_52 rfl rfl ?_
    refine h_getiE (pc' := 56) dX1_writeOut_53 fX1_27 rfl rfl (w13) rfl ?_
    refine q_iconst (pc' := 57) (v := nI 1) dX1_writeOut_56 rfl rfl ?_
    refine q_icmp_neN (tgt := 69) (pc' := 60) dX1_writeOut_57 (by decide) rfl (by omega) (fun c_57 => ?_) (fun c_57 => ?_)
    · exact absurd rfl c_57
    have w15 : m3.1 194 15 = nI (s_mk (s_un rl ws bk (s_wp n rl ws q bk)) (s_sz n rl bk)) := w15
    refine q_aload_n (pc' := 61) dX1_writeOut_60 rfl rfl ?_
    refine q_aload_n (pc' := 62) dX1_writeOut_61 rfl rfl ?_
    refine q_iload_n (pc' := 63) dX1_writeOut_62 rfl rfl ?_
    refine h_callV (pc' := 66) (M' := mX1_decimalOut) (As := [_, _]) dX1_writeOut_63 iX1_decimalOut lX1_41 rfl rfl rfl rfl (Nat.le_of_ble_eq_true rfl) (Nat.le_of_ble_eq_true rfl) rfl rfl (c_decimalOut_194 (g := fun i => ws (bk * rl 0 + i) (s_wp n rl ws q bk)) B3 (by simp only [List.length_append, List.length_singleton]; omega) hP3 hb hwp w12 w15 hcc hc.2 rfl rfl (fun _ => rfl) rfl rfl) (fun r m' hq => ?_)
    obtain ⟨rfl, f4, k4, B4⟩ := hq
    refine q_goto (pc' := 75) dX1_writeOut_66 (by decide) ?_
    exact fin _ (f3.trans (f4.mono (by decide))) (k3.trans (k4.mono (by decide))) B4
  · rw [hf] at fin B3 w13 w15
    have hS := s_S_in hr ys hz.2.1
    refine q_aload_n (pc' := 37) dX1_writeOut_36 rfl rfl ?_
    refine h_getiE (pc' := 40) dX1_writeOut_37 fX1_27 rfl rfl (w13) rfl ?_
    refine q_if_neN (tgt := 52) (pc' := 43) dX1_writeOut_40 (by decide) rfl (by omega) (fun c_40 => ?_) (fun c_40 => ?_)
    rotate_left
    · exact absurd c_40 (by decide)
    refine q_aload_n (pc' := 53) dX1_writeOut_52 rfl rfl ?_
    refine h_getiE (pc' := 56) dX1_writeOut_53 fX1_27 rfl rfl (w13) rfl ?_
    refine q_iconst (pc' := 57) (v := nI 1) dX1_writeOut_56 rfl rfl ?_
    refine q_icmp_neN (tgt := 69) (pc' := 60) dX1_writeOut_57 (by decide) rfl (by omega) (fun c_57 => ?_) (fun c_57 => ?_)
    rotate_left
    · exact absurd c_57 (by decide)
    have w15 : m3.1 194 15 = nI (s_mk (s_mi n rl ys bk) (s_sz n rl bk)) := w15
    refine q_aload_n (pc' := 70) dX1_writeOut_69 rfl rfl ?_
    refine q_aload_n (pc' := 71) dX1_writeOut_70 rfl rfl ?_
    refine q_iload_n (pc' := 72) dX1_writeOut_71 rfl rfl ?_
    refine h_callV (pc' := 75) (M' := mX1_splitOut) (As := [_, _]) dX1_writeOut_72 iX1_splitOut lX1_44 rfl rfl rfl rfl (Nat.le_of_ble_eq_true rfl) (Nat.le_of_ble_eq_true rfl) rfl rfl (c_splitOut_194 (k := (s_S n rl ys bk).1) (hi := (s_S n rl ys bk).2.2) B3 (by simp only [List.length_append, List.length_singleton]; omega) hP3 hb w15 c1 hS c2 rfl rfl rfl) (fun r m' hq => ?_)
    obtain ⟨rfl, f4, B4⟩ := hq
    exact fin _ (f3.trans (f4.mono (by decide))) (k3.trans (Kp.fr f4 (by decide))) B4
set_option maxHeartbeats 4000000 in
set_option maxRecDepth 20000 in
theorem c_writeOut_203 {Z : q_Z} {m : q_Mm} {d : Nat} {n bk : Nat} {L : List Nat} {rl : Nat → Nat} {ys : Nat → Int64} {ws : Nat → Nat → Int64} {q : s_F} {cdf : Nat → Nat} (hB : Bw m (L, 0, 0)) (hP : Pl m 203 n rl ys ws) (hF : Fiv m 203 q) (hb : bk < s_nb n rl) (hc : ∀ p, p < 120 → m.2.2.1 190 p = nI (cdf p) ∧ cdf p < 256) : q_V (q_g Z) mX1_writeOut (d+5) 0 0 0 [some (.ref (q_ad Z 212)), some (.ref (q_ad Z 203)), some (.int (nI bk))] [] (q_W Z m) (q_P Z fun r m2 => r = none ∧ Fr [203, 208, 209, 210, 211, 212, 8, 9] m m2 ∧ Kp 203 [11, 12, 13, 14, 15] m m2 ∧ Bw m2 (s_wo n rl ys ws q cdf bk, 0, 0)) := by
  have hr := hP.2.2.2.1
  have hz := s_nb_in hr hb
  have h16 := s_sz16 (n := n) hr bk
  have hwp := s_wp_lt (n := n) hr ws (fun i hi => (hF.2.2.2 i hi).1) bk
  have hwf := (s_wf_le (n := n) hr ys ws q (bk := bk)).1
  obtain ⟨hO, hb1, hb2, -, -⟩ := hB
  refine q_aload_n (pc' := 1) dX1_writeOut_0 rfl rfl ?_
  refine h_getr (pc' := 4) dX1_writeOut_1 fX1_9 rfl rfl rfl ?_
  refine q_iconst (pc' := 5) (v := nI 0) dX1_writeOut_4 rfl rfl ?_
  refine h_puti (pc' := 8) dX1_writeOut_5 fX1_15 rfl rfl rfl rfl rfl ?_
  have O0 : Oct (sI m 8 1 (nI 0)) 8 [] := ⟨rfl, by decide, fun i hi => absurd hi (Nat.not_lt_zero i), fun x hx => absurd hx (List.not_mem_nil)⟩
  have f0 : Fr [8] m (sI m 8 1 (nI 0)) := Fr.rf.I (by decide)
  generalize sI m 8 1 (nI 0) = m0 at O0 f0 ⊢
  have hP0 := hP.fr f0 (congrFun (f0.i (by decide)) 4) (by decide) (by decide) (by decide) (by decide)
  have hF0 := hF.fr f0 (congrFun (f0.i (by decide)) 7) (by decide) (by decide)
  refine q_aload_n (pc' := 9) dX1_writeOut_8 rfl rfl ?_
  refine q_iload_n (pc' := 10) dX1_writeOut_9 rfl rfl ?_
  refine h_callV (pc' := 13) (M' := mX8_weigh) (As := [_]) dX1_writeOut_10 iX8_weigh lX1_21 rfl rfl rfl rfl (Nat.le_of_ble_eq_true rfl) (Nat.le_of_ble_eq_true rfl) rfl rfl (c_weigh_203 hP0 hF0 hb) (fun r m' hq => ?_)
  obtain ⟨rfl, f1, k1, W1, C1, -⟩ := hq
  have O1 := O0.fr f1 (by decide) (by decide)
  have B1 : Bw m' ([], 0, 0) := ⟨O1, (congrFun (f1.i (p := 212) (by decide)) 1).trans ((congrFun (f0.i (p := 212) (by decide)) 1).trans hb1), (congrFun (f1.i (p := 212) (by decide)) 2).trans ((congrFun (f0.i (p := 212) (by decide)) 2).trans hb2), Nat.one_pos, Nat.succ_pos 7⟩
  have hc1 : m'.2.2.1 190 = m.2.2.1 190 := (f1.a (p := 190) (by decide)).trans (f0.a (p := 190) (by decide))
  have hc := hc (s_wp n rl ws q bk) hwp
  have k1 : Kp 203 [11, 12, 13, 14, 15] m m' := (Kp.fr f0 (by decide)).trans k1
  have f1 : Fr [203, 208, 209, 210, 211, 212, 8, 9] m m' := (f0.mono (by decide)).trans (f1.mono (by decide))
  clear f0 hP0 hF0 O0 hO hb1 hb2
  obtain ⟨m1, hm1⟩ : ∃ z, z = m' := ⟨_, rfl⟩
  subst hm1
  have hP1 := hP.kp f1 k1 (by decide) (by decide) (by decide) (by decide) (by decide)
  have hwl := s_wb_len hr ys ws (s_wp n rl ws q bk) (cdf (s_wp n rl ws q bk)) hz.2.1 (s_wf n rl ys ws q bk).1
  have fin : ∀ (m5 : q_Mm), Fr [203, 208, 209, 210, 211, 212, 8, 9] m m5 → Kp 203 [11, 12, 13, 14, 15] m m5 → Bw m5 (s_wb n rl ys ws bk (s_wp n rl ws q bk) (cdf (s_wp n rl ws q bk)) (s_wf n rl ys ws q bk).1, 0, 0) → q_V (q_g Z) mX1_writeOut (d+5) 0 0 75 [some (.ref (q_ad Z 212)), some (.ref (q_ad Z 203)), some (.int (nI bk))] [] (q_W Z (m5)) (q_P Z fun r m2 => r = none ∧ Fr [203, 208, 209, 210, 211, 212, 8, 9] m m2 ∧ Kp 203 [11, 12, 13, 14, 15] m m2 ∧ Bw m2 (s_wo n rl ys ws q cdf bk, 0, 0)) := by
    intro m5 f5 k5 B5
    have hck := z_by (s_chk (m5.2.2.1 9) (s_wb n rl ys ws bk (s_wp n rl ws q bk) (cdf (s_wp n rl ws q bk)) (s_wf n rl ys ws q bk).1).length)
    have e : s_chk (m5.2.2.1 9) (s_wb n rl ys ws bk (s_wp n rl ws q bk) (cdf (s_wp n rl ws q bk)) (s_wf n rl ys ws q bk).1).length = s_chk (fun i => nI ((s_wb n rl ys ws bk (s_wp n rl ws q bk) (cdf (s_wp n rl ws q bk)) (s_wf n rl ys ws q bk).1).getD i 0)) (s_wb n rl ys ws bk (s_wp n rl ws q bk) (cdf (s_wp n rl ws q bk)) (s_wf n rl ys ws q bk).1).length := s_chk_congr _ (fun i hi => B5.1.2.2.1 i hi)
    refine q_aload_n (pc' := 76) dX1_writeOut_75 rfl rfl ?_
    refine h_getr (pc' := 79) dX1_writeOut_76 fX1_9 rfl rfl rfl ?_
    refine q_aload_n (pc' := 80) dX1_writeOut_79 rfl rfl ?_
    refine h_getr (pc' := 83) dX1_writeOut_80 fX1_9 rfl rfl rfl ?_
    refine q_aload_n (pc' := 84) dX1_writeOut_83 rfl rfl ?_
    refine h_getr (pc' := 87) dX1_writeOut_84 fX1_9 rfl rfl rfl ?_
    refine h_getiE (pc' := 90) dX1_writeOut_87 fX1_15 rfl rfl (B5.1.1) rfl ?_
    refine h_callV (pc' := 93) (M' := mX5_checkAt) (As := [_]) dX1_writeOut_90 iX5_checkAt lX1_47 rfl rfl rfl rfl (Nat.le_of_ble_eq_true rfl) (Nat.le_of_ble_eq_true rfl) rfl rfl (c_checkAt_8 B5.1.1 (by simp only []; omega) (Nat.le_refl _)) (fun r m' hq => ?_)
    obtain ⟨rfl, hmm⟩ := hq
    subst m'
    refine h_callV (pc' := 96) (M' := mX5_append) (As := [_]) dX1_writeOut_93 iX5_append lX1_30 rfl rfl rfl rfl (Nat.le_of_ble_eq_true rfl) (Nat.le_of_ble_eq_true rfl) rfl rfl (c_append_8 B5.1 (by simp only []; omega) hck.1 hck.2) (fun r m' hq => ?_)
    obtain ⟨rfl, f6, O6⟩ := hq
    have B6 := B5.o f6 (by decide) O6
    rw [e] at B6
    refine q_vret dX1_writeOut_96 rfl ⟨_, rfl, rfl, f5.trans (f6.mono (by decide)), k5.trans (Kp.fr f6 (by decide)), B6⟩
  refine q_aload_n (pc' := 14) dX1_writeOut_13 rfl rfl ?_
  refine h_getr (pc' := 17) dX1_writeOut_14 fX1_9 rfl rfl rfl ?_
  refine q_aload_n (pc' := 18) dX1_writeOut_17 rfl rfl ?_
  refine h_getiE (pc' := 21) dX1_writeOut_18 fX1_27 rfl rfl (W1.2.1) rfl ?_
  refine h_callV (pc' := 24) (M' := mX5_append) (As := [_]) dX1_writeOut_21 iX5_append lX1_30 rfl rfl rfl rfl (Nat.le_of_ble_eq_true rfl) (Nat.le_of_ble_eq_true rfl) rfl rfl (c_append_8 (b := (s_wf n rl ys ws q bk).1) B1.1 (by simp only [List.length_nil]; omega) (z_b (by omega)) (by omega)) (fun r m' hq => ?_)
  obtain ⟨rfl, f2, O2⟩ := hq
  have hP2 := hP1.fr f2 (congrFun (f2.i (by decide)) 4) (by decide) (by decide) (by decide) (by decide)
  obtain ⟨m2, hm2⟩ : ∃ z, z = m' := ⟨_, rfl⟩
  subst hm2
  refine q_aload_n (pc' := 25) dX1_writeOut_24 rfl rfl ?_
  refine h_getr (pc' := 28) dX1_writeOut_25 fX1_9 rfl rfl rfl ?_
  refine q_aload_n (pc' := 29) dX1_writeOut_28 rfl rfl ?_
  refine q_iload_n (pc' := 30) dX1_writeOut_29 rfl rfl ?_
  refine h_callV (pc' := 33) (M' := mX8_sizeOf) (As := [_]) dX1_writeOut_30 iX8_sizeOf lX1_33 rfl rfl rfl rfl (Nat.le_of_ble_eq_true rfl) (Nat.le_of_ble_eq_true rfl) rfl rfl (c_sizeOf_203 hP2 hb) (fun r m' hq => ?_)
  obtain ⟨rfl, hmm⟩ := hq
  subst m'
  refine h_callV (pc' := 36) (M' := mX5_append) (As := [_]) dX1_writeOut_33 iX5_append lX1_30 rfl rfl rfl rfl (Nat.le_of_ble_eq_true rfl) (Nat.le_of_ble_eq_true rfl) rfl rfl (c_append_8 (b := s_sz n rl bk) O2 (by simp only [List.length_append, List.length_singleton, List.length_nil]; omega) (z_b (by omega)) (by omega)) (fun r m' hq => ?_)
  obtain ⟨rfl, f3, O3⟩ := hq
  have f3 := f2.trans f3
  have hP3 := hP1.fr f3 (congrFun (f3.i (by decide)) 4) (by decide) (by decide) (by decide) (by decide)
  have B3 : Bw m' ([(s_wf n rl ys ws q bk).1] ++ [s_sz n rl bk], 0, 0) := B1.o f3 (by decide) O3
  have w12 := (congrFun (f3.i (p := 203) (by decide)) 12).trans W1.1
  have w13 := (congrFun (f3.i (p := 203) (by decide)) 13).trans W1.2.1
  have w15 := (congrFun (f3.i (p := 203) (by decide)) 15).trans W1.2.2.2
  have c1 := (congrFun (f3.i (p := 208) (by decide)) 1).trans C1.1
  have c2 := fun i hi => (congrFun (f3.a (p := 209) (by decide)) i).trans (C1.2.1 i hi)
  have hcc : m'.2.2.1 190 (s_wp n rl ws q bk) = nI (cdf (s_wp n rl ws q bk)) := (congrFun ((f3.a (p := 190) (by decide)).trans hc1) _).trans hc.1
  have k3 : Kp 203 [11, 12, 13, 14, 15] m m' := k1.trans (Kp.fr f3 (by decide))
  have f3 : Fr [203, 208, 209, 210, 211, 212, 8, 9] m m' := f1.trans (f3.mono (by decide))
  clear O3 O2 B1 O1 W1 C1 hP2 hP1 f2 hc1
  obtain ⟨m3, hm3⟩ : ∃ z, z = m' := ⟨_, rfl⟩
  subst hm3
  have hfc : (s_wf n rl ys ws q bk).1 = 0 ∨ (s_wf n rl ys ws q bk).1 = 1 ∨ (s_wf n rl ys ws q bk).1 = 2 := by omega
  rcases hfc with hf | hf | hf
  · rw [hf] at fin B3 w13
    refine q_aload_n (pc' := 37) dX1_writeOut_36 rfl rfl ?_
    refine h_getiE (pc' := 40) dX1_writeOut_37 fX1_27 rfl rfl (w13) rfl ?_
    refine q_if_neN (tgt := 52) (pc' := 43) dX1_writeOut_40 (by decide) rfl (by omega) (fun c_40 => ?_) (fun c_40 => ?_)
    · exact absurd c_40 (Nat.lt_irrefl 0)
    refine q_aload_n (pc' := 44) dX1_writeOut_43 rfl rfl ?_
    refine q_aload_n (pc' := 45) dX1_writeOut_44 rfl rfl ?_
    refine q_iload_n (pc' := 46) dX1_writeOut_45 rfl rfl ?_
    refine h_callV (pc' := 49) (M' := mX1_rawOut) (As := [_, _]) dX1_writeOut_46 iX1_rawOut lX1_37 rfl rfl rfl rfl (Nat.le_of_ble_eq_true rfl) (Nat.le_of_ble_eq_true rfl) rfl rfl (c_rawOut_203 B3.1 (by simp only [List.length_append, List.length_singleton]; omega) hP3 hb) (fun r m' hq => ?_)
    obtain ⟨rfl, f4, O4⟩ := hq
    refine q_goto (pc' := 75) dX1_writeOut_49 (by decide) ?_
    exact fin _ (f3.trans (f4.mono (by decide))) (k3.trans (Kp.fr f4 (by decide))) (B3.o f4 (by decide) O4)
  · rw [hf] at fin B3 w13 w15
    refine q_aload_n (pc' := 37) dX1_writeOut_36 rfl rfl ?_
    refine h_getiE (pc' := 40) dX1_writeOut_37 fX1_27 rfl rfl (w13) rfl ?_
    refine q_if_neN (tgt := 52) (pc' := 43) dX1_writeOut_40 (by decide) rfl (by omega) (fun c_40 => ?_) (fun c_40 => ?_)
    rotate_left
    · exact absurd c_40 (by decide)
    refine q_aload_n (pc' := 53) dX1_writeOut_52 rfl rfl ?_
    refine h_getiE (pc' := 56) dX1_writeOut_53 fX1_27 rfl rfl (w13) rfl ?_
    refine q_iconst (pc' := 57) (v := nI 1) dX1_writeOut_56 rfl rfl ?_
    refine q_icmp_neN (tgt := 69) (pc' := 60) dX1_writeOut_57 (by decide) rfl (by omega) (fun c_57 => ?_) (fun c_57 => ?_)
    · exact absurd rfl c_57
    have w15 : m3.1 203 15 = nI (s_mk (s_un rl ws bk (s_wp n rl ws q bk)) (s_sz n rl bk)) := w15
    refine q_aload_n (pc' := 61) dX1_writeOut_60 rfl rfl ?_
    refine q_aload_n (pc' := 62) dX1_writeOut_61 rfl rfl ?_
    refine q_iload_n (pc' := 63) dX1_writeOut_62 rfl rfl ?_
    refine h_callV (pc' := 66) (M' := mX1_decimalOut) (As := [_, _]) dX1_writeOut_63 iX1_decimalOut lX1_41 rfl rfl rfl rfl (Nat.le_of_ble_eq_true rfl) (Nat.le_of_ble_eq_true rfl) rfl rfl (c_decimalOut_203 (g := fun i => ws (bk * rl 0 + i) (s_wp n rl ws q bk)) B3 (by simp only [List.length_append, List.length_singleton]; omega) hP3 hb hwp w12 w15 hcc hc.2 rfl rfl (fun _ => rfl) rfl rfl) (fun r m' hq => ?_)
    obtain ⟨rfl, f4, k4, B4⟩ := hq
    refine q_goto (pc' := 75) dX1_writeOut_66 (by decide) ?_
    exact fin _ (f3.trans (f4.mono (by decide))) (k3.trans (k4.mono (by decide))) B4
  · rw [hf] at fin B3 w13 w15
    have hS := s_S_in hr ys hz.2.1
    refine q_aload_n (pc' := 37) dX1_writeOut_36 rfl rfl ?_
    refine h_getiE (pc' := 40) dX1_writeOut_37 fX1_27 rfl rfl (w13) rfl ?_
    refine q_if_neN (tgt := 52) (pc' := 43) dX1_writeOut_40 (by decide) rfl (by omega) (fun c_40 => ?_) (fun c_40 => ?_)
    rotate_left
    · exact absurd c_40 (by decide)
    refine q_aload_n (pc' := 53) dX1_writeOut_52 rfl rfl ?_
    refine h_getiE (pc' := 56) dX1_writeOut_53 fX1_27 rfl rfl (w13) rfl ?_
    refine q_iconst (pc' := 57) (v := nI 1) dX1_writeOut_56 rfl rfl ?_
    refine q_icmp_neN (tgt := 69) (pc' := 60) dX1_writeOut_57 (by decide) rfl (by omega) (fun c_57 => ?_) (fun c_57 => ?_)
    rotate_left
    · exact absurd c_57 (by decide)
    have w15 : m3.1 203 15 = nI (s_mk (s_mi n rl ys bk) (s_sz n rl bk)) := w15
    refine q_aload_n (pc' := 70) dX1_writeOut_69 rfl rfl ?_
    refine q_aload_n (pc' := 71) dX1_writeOut_70 rfl rfl ?_
    refine q_iload_n (pc' := 72) dX1_writeOut_71 rfl rfl ?_
    refine h_callV (pc' := 75) (M' := mX1_splitOut) (As := [_, _]) dX1_writeOut_72 iX1_splitOut lX1_44 rfl rfl rfl rfl (Nat.le_of_ble_eq_true rfl) (Nat.le_of_ble_eq_true rfl) rfl rfl (c_splitOut_203 (k := (s_S n rl ys bk).1) (hi := (s_S n rl ys bk).2.2) B3 (by simp only [List.length_append, List.length_singleton]; omega) hP3 hb w15 c1 hS c2 rfl rfl rfl) (fun r m' hq => ?_)
    obtain ⟨rfl, f4, B4⟩ := hq
    exact fin _ (f3.trans (f4.mono (by decide))) (k3.trans (Kp.fr f4 (by decide))) B4
