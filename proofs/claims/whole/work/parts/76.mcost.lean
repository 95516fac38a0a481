/-! ===== the reference: costs by a PAIR ===== -/
/-- what is told of those at hand by a PAIR -/
def ML (m : q_Mm) (w : Nat → Int64) (k : Nat) : Prop := m.1 215 28 = nI (s_mk (fun i => decide (w i = s_no)) k) ∧ m.2.1 215 26 = (s_ms w k).1 ∧ m.2.1 215 27 = (s_ms w k).2.1 ∧ m.1 215 29 = nI (s_bl ((s_ms w k).2.1 - (s_ms w k).1))
theorem s_ms_n {w : Nat → Int64} {i : Nat} (h : w i = s_no) : s_ms w (i + 1) = s_ms w i := if_pos h
theorem s_ms_0 {w : Nat → Int64} {i : Nat} (h : w i ≠ s_no) (z : (s_ms w i).2.2 = 0) : s_ms w (i + 1) = (w i, w i, (s_ms w i).2.2 + 1) := by
  rw [show s_ms w (i + 1) = if w i = s_no then s_ms w i else (if (s_ms w i).2.2 = 0 then w i else if w i < (s_ms w i).1 then w i else (s_ms w i).1, if (s_ms w i).2.2 = 0 then w i else if w i < (s_ms w i).2.1 then (s_ms w i).2.1 else w i, (s_ms w i).2.2 + 1) from rfl, if_neg h, if_pos z, if_pos z]
theorem s_ms_1 {w : Nat → Int64} {i : Nat} (h : w i ≠ s_no) (z : (s_ms w i).2.2 ≠ 0) : s_ms w (i + 1) = (if w i < (s_ms w i).1 then w i else (s_ms w i).1, if w i < (s_ms w i).2.1 then (s_ms w i).2.1 else w i, (s_ms w i).2.2 + 1) := by
  rw [show s_ms w (i + 1) = if w i = s_no then s_ms w i else (if (s_ms w i).2.2 = 0 then w i else if w i < (s_ms w i).1 then w i else (s_ms w i).1, if (s_ms w i).2.2 = 0 then w i else if w i < (s_ms w i).2.1 then (s_ms w i).2.1 else w i, (s_ms w i).2.2 + 1) from rfl, if_neg h, if_neg z, if_neg z]
theorem s_ms_cnt (w : Nat → Int64) : ∀ k, s_cnt (fun i => decide (w i = s_no)) k + (s_ms w k).2.2 = k
  | 0 => rfl
  | k + 1 => by
    have ih := s_ms_cnt w k
    by_cases h : w k = s_no
    · rw [s_ms_n h, s_cnt_t (decide_eq_true h)]; omega
    · rw [s_cnt_f (decide_eq_false h)]
      by_cases z : (s_ms w k).2.2 = 0
      · rw [s_ms_0 h z]; show _ + ((s_ms w k).2.2 + 1) = _; omega
      · rw [s_ms_1 h z]; show _ + ((s_ms w k).2.2 + 1) = _; omega
theorem s_bl_64 (v : Int64) : s_bl v ≤ 64 := s_find_le _ 64 0
set_option maxHeartbeats 4000000 in
set_option maxRecDepth 20000 in
theorem k_layDecimal {Z : q_Z} {m : q_Mm} {d : Nat} {g : Nat → Int64} {k e f : Nat} (hM : MD m) (hH : MH m k g) (hk : k ≤ 16) (he : e < 15) (hf : f < 15) : q_V (q_g Z) mX11_layDecimal (d+3) 0 0 0 [some (.ref (q_ad Z 215)), some (.int (nI e)), some (.int (nI f)), none, none, none, none] [] (q_W Z m) (q_P Z fun r m2 => r = none ∧ Fr [215] m m2 ∧ Kp 215 [23, 28, 29] m m2 ∧ ML m2 (fun i => s_w2 (g i) e f) k) := by
  obtain ⟨w, hw⟩ : ∃ w, (fun i => s_w2 (g i) e f) = w := ⟨_, rfl⟩
  rw [hw]
  have hwi : ∀ i, s_w2 (g i) e f = w i := fun i => congrFun hw i
  refine q_aload_n (pc' := 1) dX11_layDecimal_0 rfl rfl ?_
  refine q_iconst (pc' := 2) (v := nI 0) dX11_layDecimal_1 rfl rfl ?_
  refine h_puti (pc' := 5) dX11_layDecimal_2 fX11_289 rfl rfl rfl rfl rfl ?_
  refine q_aload_n (pc' := 6) dX11_layDecimal_5 rfl rfl ?_
  refine q_lconst (pc' := 7) (v := 0) dX11_layDecimal_6 rfl rfl ?_
  refine h_putj (pc' := 10) dX11_layDecimal_7 fX11_292 rfl rfl rfl rfl rfl ?_
  refine q_aload_n (pc' := 11) dX11_layDecimal_10 rfl rfl ?_
  refine q_lconst (pc' := 12) (v := 0) dX11_layDecimal_11 rfl rfl ?_
  refine h_putj (pc' := 15) dX11_layDecimal_12 fX11_295 rfl rfl rfl rfl rfl ?_
  refine q_iconst (pc' := 16) (v := nI 1) dX11_layDecimal_15 rfl rfl ?_
  refine q_istore_n (pc' := 17) (lv' := [_, _, _, _, _, _, _]) dX11_layDecimal_16 (by decide) rfl rfl ?_
  refine q_iconst (pc' := 18) (v := nI 0) dX11_layDecimal_17 rfl rfl ?_
  refine q_istore (pc' := 20) (lv' := [_, _, _, _, _, _, _]) dX11_layDecimal_18 (by decide) rfl rfl ?_
  suffices h : ∀ n i m1 u v, i + n = k → Fr [215] m m1 → Kp 215 [23, 28] m m1 → m1.1 215 28 = nI (s_mk (fun i => decide (w i = s_no)) i) → m1.2.1 215 26 = (s_ms w i).1 → m1.2.1 215 27 = (s_ms w i).2.1 → q_V (q_g Z) mX11_layDecimal (d+3) 0 0 20 [some (.ref (q_ad Z 215)), some (.int (nI e)), some (.int (nI f)), some (.int (q_b (decide ((s_ms w i).2.2 = 0)))), some (.int (nI i)), u, v] [] (q_W Z (m1)) (q_P Z fun r m2 => r = none ∧ Fr [215] m m2 ∧ Kp 215 [23, 28, 29] m m2 ∧ ML m2 w k) from h k 0 _ _ _ (by omega) (((Fr.rf.I (by decide)).J (by decide)).J (by decide)) (kp_J (kp_J (kp_I Kp.rf (by decide)))) rfl rfl rfl
  intro n
  induction n with
  | zero =>
    intro i m1 u v hi f1 k1 h28 h26 h27
    obtain rfl : i = k := by omega
    refine q_iload (pc' := 22) dX11_layDecimal_20 rfl rfl ?_
    refine q_aload_n (pc' := 23) dX11_layDecimal_22 rfl rfl ?_
    refine h_getiE (pc' := 26) dX11_layDecimal_23 fX11_286 rfl rfl ((k1 25 (by decide)).trans hH.1) rfl ?_
    refine q_icmp_geN (tgt := 119) (pc' := 29) dX11_layDecimal_26 (by decide) rfl (by omega) (fun c_26 => ?_) (fun c_26 => ?_)
    rotate_left
    · omega
    refine q_aload_n (pc' := 120) dX11_layDecimal_119 rfl rfl ?_
    refine q_aload_n (pc' := 121) dX11_layDecimal_120 rfl rfl ?_
    refine h_getjE (pc' := 124) dX11_layDecimal_121 fX11_295 rfl rfl (h27) rfl ?_
    refine q_aload_n (pc' := 125) dX11_layDecimal_124 rfl rfl ?_
    refine h_getjE (pc' := 128) dX11_layDecimal_125 fX11_292 rfl rfl (h26) rfl ?_
    refine q_lsub (pc' := 129) dX11_layDecimal_128 rfl ?_
    refine h_callS (pc' := 132) (M' := mX11_widthOf) (As := [_]) dX11_layDecimal_129 iX11_widthOf lX11_217 rfl rfl (Nat.le_of_ble_eq_true rfl) (Nat.le_of_ble_eq_true rfl) rfl rfl (k_widthOf.up (Nat.zero_le _)) (fun r m' hq => ?_)
    obtain ⟨rfl, hmm⟩ := hq
    subst m'
    refine h_puti (pc' := 135) dX11_layDecimal_132 fX11_304 rfl rfl rfl rfl rfl ?_
    refine q_vret dX11_layDecimal_135 rfl ⟨_, rfl, rfl, f1.I (by decide), kp_I (k1.mono (by decide)) (by decide), ⟨h28, h26, h27, rfl⟩⟩
  | succ n ih =>
    intro i m1 u v hi f1 k1 h28 h26 h27
    have hM1 := hM.fr f1 (by decide) (by decide)
    refine q_iload (pc' := 22) dX11_layDecimal_20 rfl rfl ?_
    refine q_aload_n (pc' := 23) dX11_layDecimal_22 rfl rfl ?_
    refine h_getiE (pc' := 26) dX11_layDecimal_23 fX11_286 rfl rfl ((k1 25 (by decide)).trans hH.1) rfl ?_
    refine q_icmp_geN (tgt := 119) (pc' := 29) dX11_layDecimal_26 (by decide) rfl (by omega) (fun c_26 => ?_) (fun c_26 => ?_)
    · omega
    refine q_aload_n (pc' := 30) dX11_layDecimal_29 rfl rfl ?_
    refine q_aload_n (pc' := 31) dX11_layDecimal_30 rfl rfl ?_
    refine h_getr (pc' := 34) dX11_layDecimal_31 fX11_45 rfl rfl rfl ?_
    refine q_iload (pc' := 36) dX11_layDecimal_34 rfl rfl ?_
    refine h_laldE (pc' := 37) dX11_layDecimal_36 rfl (rfl) (by omega) (by decide) ((congrFun (f1.l (by decide)) i).trans (hH.2 i (by omega))) rfl ?_
    refine q_iload_n (pc' := 38) dX11_layDecimal_37 rfl rfl ?_
    refine q_iload_n (pc' := 39) dX11_layDecimal_38 rfl rfl ?_
    refine h_callV (pc' := 42) (M' := mX11_wholeOf) (As := [_, _, _]) dX11_layDecimal_39 iX11_wholeOf lX11_274 rfl rfl rfl rfl (Nat.le_of_ble_eq_true rfl) (Nat.le_of_ble_eq_true rfl) rfl rfl (k_wholeOf hM1 he hf) (fun r m' hq => ?_)
    obtain ⟨x, rfl, hx, f2, k2, e2, h23⟩ := hq
    rw [hwi] at hx h23
    have f3 := f1.trans f2
    have k3 : Kp 215 [23, 28] m m' := k1.trans (k2.mono (by decide))
    have h28 := (k2 28 (by decide)).trans h28
    have h26 : m'.2.1 215 26 = (s_ms w i).1 := by rw [e2]; exact h26
    have h27 : m'.2.1 215 27 = (s_ms w i).2.1 := by rw [e2]; exact h27
    refine q_lstore (pc' := 44) (lv' := [_, _, _, _, _, _, _]) dX11_layDecimal_42 (by decide) rfl rfl ?_
    refine q_aload_n (pc' := 45) dX11_layDecimal_44 rfl rfl ?_
    refine h_getiE (pc' := 48) dX11_layDecimal_45 fX11_257 rfl rfl (h23) rfl ?_
    refine q_if_neB (tgt := 67) (pc' := 51) dX11_layDecimal_48 (by decide) rfl (fun c_48 => ?_) (fun c_48 => ?_)
    rotate_left
    · have hn : w i = s_no := of_decide_eq_true (by rw [Bool.not_eq_false'] at c_48; exact c_48)
      refine q_aload_n (pc' := 52) dX11_layDecimal_51 rfl rfl ?_
      refine q_dup (pc' := 53) dX11_layDecimal_52 rfl rfl ?_
      refine h_getiE (pc' := 56) dX11_layDecimal_53 fX11_289 rfl rfl (h28) rfl ?_
      refine q_iconst (pc' := 57) (v := nI 1) dX11_layDecimal_56 rfl rfl ?_
      refine q_iload (pc' := 59) dX11_layDecimal_57 rfl rfl ?_
      refine q_ishl (pc' := 60) dX11_layDecimal_59 rfl ?_
      refine q_ior (pc' := 61) dX11_layDecimal_60 rfl ?_
      rw [s_mk_t (by omega) (decide_eq_true hn)]
      refine h_puti (pc' := 64) dX11_layDecimal_61 fX11_289 rfl rfl rfl rfl rfl ?_
      refine q_goto (pc' := 113) dX11_layDecimal_64 (by decide) ?_
      refine q_iincN (pc' := 116) (j := 1) (lv' := [_, _, _, _, _, _, _]) dX11_layDecimal_113 rfl (by decide) rfl rfl ?_
      refine q_goto (pc' := 20) dX11_layDecimal_116 (by decide) ?_
      have ih := ih (i + 1) (sI m' 215 28 (nI (s_mk (fun i => decide (w i = s_no)) (i + 1)))) (some (.long x)) none (by omega) (f3.I (by decide)) (kp_I k3 (by decide)) rfl (by rw [s_ms_n hn]; exact h26) (by rw [s_ms_n hn]; exact h27)
      rw [s_ms_n hn] at ih
      exact ih
    · have hn : ¬ w i = s_no := fun z => by rw [decide_eq_true z] at c_48; cases c_48
      have hx := hx hn
      subst hx
      have h28 : m'.1 215 28 = nI (s_mk (fun i => decide (w i = s_no)) (i + 1)) := by rw [s_mk_f (decide_eq_false hn)]; exact h28
      by_cases z : (s_ms w i).2.2 = 0
      · rw [decide_eq_true z]
        refine q_aload_n (pc' := 68) dX11_layDecimal_67 rfl rfl ?_
        refine q_iload_n (pc' := 69) dX11_layDecimal_68 rfl rfl ?_
        refine q_if_eqB (tgt := 77) (pc' := 72) dX11_layDecimal_69 (by decide) rfl (fun c_69 => ?_) (fun c_69 => ?_)
        · cases c_69
        refine q_lload (pc' := 74) dX11_layDecimal_72 rfl rfl ?_
        refine q_goto (pc' := 86) dX11_layDecimal_74 (by decide) ?_
        refine h_putj (pc' := 89) dX11_layDecimal_86 fX11_292 rfl rfl rfl rfl rfl ?_
        refine q_aload_n (pc' := 90) dX11_layDecimal_89 rfl rfl ?_
        refine q_iload_n (pc' := 91) dX11_layDecimal_90 rfl rfl ?_
        refine q_if_eqB (tgt := 99) (pc' := 94) dX11_layDecimal_91 (by decide) rfl (fun c_91 => ?_) (fun c_91 => ?_)
        · cases c_91
        refine q_lload (pc' := 96) dX11_layDecimal_94 rfl rfl ?_
        refine q_goto (pc' := 108) dX11_layDecimal_96 (by decide) ?_
        refine h_putj (pc' := 111) dX11_layDecimal_108 fX11_295 rfl rfl rfl rfl rfl ?_
        refine q_iconst (pc' := 112) (v := nI 0) dX11_layDecimal_111 rfl rfl ?_
        refine q_istore_n (pc' := 113) (lv' := [_, _, _, _, _, _, _]) dX11_layDecimal_112 (by decide) rfl rfl ?_
        refine q_iincN (pc' := 116) (j := 1) (lv' := [_, _, _, _, _, _, _]) dX11_layDecimal_113 rfl (by decide) rfl rfl ?_
        refine q_goto (pc' := 20) dX11_layDecimal_116 (by decide) ?_
        have ih := ih (i + 1) (sJ (sJ m' 215 26 (w i)) 215 27 (w i)) (some (.long (w i))) none (by omega) ((f3.J (by decide)).J (by decide)) (kp_J (kp_J k3)) h28 (by rw [s_ms_0 hn z]; rfl) (by rw [s_ms_0 hn z]; rfl)
        rw [s_ms_0 hn z] at ih
        exact ih
      · rw [decide_eq_false z]
        refine q_aload_n (pc' := 68) dX11_layDecimal_67 rfl rfl ?_
        refine q_iload_n (pc' := 69) dX11_layDecimal_68 rfl rfl ?_
        refine q_if_eqB (tgt := 77) (pc' := 72) dX11_layDecimal_69 (by decide) rfl (fun c_69 => ?_) (fun c_69 => ?_)
        rotate_left
        · cases c_69
        refine q_aload_n (pc' := 78) dX11_layDecimal_77 rfl rfl ?_
        refine h_getjE (pc' := 81) dX11_layDecimal_78 fX11_292 rfl rfl (h26) rfl ?_
        refine q_lload (pc' := 83) dX11_layDecimal_81 rfl rfl ?_
        refine q_mminl (pc' := 86) dX11_layDecimal_83 lX11_298 mminl_s mz_i mminl_c (Nat.le_of_ble_eq_true rfl) rfl ?_
        refine h_putj (pc' := 89) dX11_layDecimal_86 fX11_292 rfl rfl rfl rfl rfl ?_
        refine q_aload_n (pc' := 90) dX11_layDecimal_89 rfl rfl ?_
        refine q_iload_n (pc' := 91) dX11_layDecimal_90 rfl rfl ?_
        refine q_if_eqB (tgt := 99) (pc' := 94) dX11_layDecimal_91 (by decide) rfl (fun c_91 => ?_) (fun c_91 => ?_)
        rotate_left
        · cases c_91
        have h27 : (sJ m' 215 26 (if w i < (s_ms w i).1 then w i else (s_ms w i).1)).2.1 215 27 = (s_ms w i).2.1 := h27
        refine q_aload_n (pc' := 100) dX11_layDecimal_99 rfl rfl ?_
        refine h_getjE (pc' := 103) dX11_layDecimal_100 fX11_295 rfl rfl (h27) rfl ?_
        refine q_lload (pc' := 105) dX11_layDecimal_103 rfl rfl ?_
        refine q_mmaxl (pc' := 108) dX11_layDecimal_105 lX11_301 mmaxl_s mz_i mmaxl_c (Nat.le_of_ble_eq_true rfl) rfl ?_
        refine h_putj (pc' := 111) dX11_layDecimal_108 fX11_295 rfl rfl rfl rfl rfl ?_
        refine q_iconst (pc' := 112) (v := nI 0) dX11_layDecimal_111 rfl rfl ?_
        refine q_istore_n (pc' := 113) (lv' := [_, _, _, _, _, _, _]) dX11_layDecimal_112 (by decide) rfl rfl ?_
        refine q_iincN (pc' := 116) (j := 1) (lv' := [_, _, _, _, _, _, _]) dX11_layDecimal_113 rfl (by decide) rfl rfl ?_
        refine q_goto (pc' := 20) dX11_layDecimal_116 (by decide) ?_
        have ih := ih (i + 1) (sJ (sJ m' 215 26 (if w i < (s_ms w i).1 then w i else (s_ms w i).1)) 215 27 (if w i < (s_ms w i).2.1 then (s_ms w i).2.1 else w i)) (some (.long (w i))) none (by omega) ((f3.J (by decide)).J (by decide)) (kp_J (kp_J k3)) h28 (by rw [s_ms_1 hn z]; rfl) (by rw [s_ms_1 hn z]; rfl)
        rw [s_ms_1 hn z] at ih
        exact ih
set_option maxHeartbeats 4000000 in
set_option maxRecDepth 20000 in
theorem k_bytesFor {Z : q_Z} {m : q_Mm} {d : Nat} {b : Nat} (hb : b < 100000) : q_V (q_g Z) mX11_bytesFor (d) 0 0 0 [some (.int (nI b))] [] (q_W Z m) (q_P Z fun r m2 => r = some (.int (nI ((b + 7) / 8))) ∧ m2 = m) := by
  refine q_iload_n (pc' := 1) dX11_bytesFor_0 rfl rfl ?_
  refine q_bipush (pc' := 3) (v := nI 7) dX11_bytesFor_1 rfl rfl ?_
  refine q_iaddN (pc' := 4) dX11_bytesFor_3 rfl ?_
  refine q_bipush (pc' := 6) (v := nI 8) dX11_bytesFor_4 rfl rfl ?_
  refine q_idivN (pc' := 7) dX11_bytesFor_6 (by omega) rfl ?_
  refine q_iret dX11_bytesFor_7 rfl rfl ⟨_, rfl, rfl, rfl⟩
set_option maxHeartbeats 4000000 in
set_option maxRecDepth 20000 in
theorem k_rawCost {Z : q_Z} {m : q_Mm} {d : Nat} {g : Nat → Int64} {k : Nat} (hH : MH m k g) : q_V (q_g Z) mX11_rawCost (d) 0 0 0 [some (.ref (q_ad Z 215))] [] (q_W Z m) (q_P Z fun r m2 => r = some (.int (nI (3 + 8 * k))) ∧ m2 = m) := by
  refine q_iconst (pc' := 1) (v := nI 3) dX11_rawCost_0 rfl rfl ?_
  refine q_bipush (pc' := 3) (v := nI 8) dX11_rawCost_1 rfl rfl ?_
  refine q_aload_n (pc' := 4) dX11_rawCost_3 rfl rfl ?_
  refine h_getiE (pc' := 7) dX11_rawCost_4 fX11_286 rfl rfl (hH.1) rfl ?_
  refine q_imulN (pc' := 8) dX11_rawCost_7 rfl ?_
  refine q_iaddN (pc' := 9) dX11_rawCost_8 rfl ?_
  refine q_iret dX11_rawCost_9 rfl rfl ⟨_, rfl, rfl, rfl⟩
set_option maxHeartbeats 4000000 in
set_option maxRecDepth 20000 in
theorem k_decimalCost {Z : q_Z} {m : q_Mm} {d : Nat} {g : Nat → Int64} {k e f : Nat} (hM : MD m) (hH : MH m k g) (hk : k ≤ 16) (he : e < 15) (hf : f < 15) : q_V (q_g Z) mX11_decimalCost (d+4) 0 0 0 [some (.ref (q_ad Z 215)), some (.int (nI e)), some (.int (nI f))] [] (q_W Z m) (q_P Z fun r m2 => r = some (.int (nI (s_mc k (s_ms (fun i => s_w2 (g i) e f) k)))) ∧ Fr [215] m m2 ∧ Kp 215 [23, 28, 29] m m2 ∧ ML m2 (fun i => s_w2 (g i) e f) k) := by
  refine q_aload_n (pc' := 1) dX11_decimalCost_0 rfl rfl ?_
  refine q_iload_n (pc' := 2) dX11_decimalCost_1 rfl rfl ?_
  refine q_iload_n (pc' := 3) dX11_decimalCost_2 rfl rfl ?_
  refine h_callV (pc' := 6) (M' := mX11_layDecimal) (As := [_, _]) dX11_decimalCost_3 iX11_layDecimal lX11_307 rfl rfl rfl rfl (Nat.le_of_ble_eq_true rfl) (Nat.le_of_ble_eq_true rfl) rfl rfl (k_layDecimal hM hH hk he hf) (fun r m' hq => ?_)
  obtain ⟨rfl, f1, k1, L1⟩ := hq
  have hb := s_bl_64 ((s_ms (fun i => s_w2 (g i) e f) k).2.1 - (s_ms (fun i => s_w2 (g i) e f) k).1)
  have hc := s_ms_cnt (fun i => s_w2 (g i) e f) k
  have hkb : k * s_bl ((s_ms (fun i => s_w2 (g i) e f) k).2.1 - (s_ms (fun i => s_w2 (g i) e f) k).1) ≤ 16 * 64 := Nat.mul_le_mul hk hb
  obtain ⟨m1, hm1⟩ : ∃ z, z = m' := ⟨_, rfl⟩
  subst hm1
  refine q_bipush (pc' := 8) (v := nI 15) dX11_decimalCost_6 rfl rfl ?_
  refine q_aload_n (pc' := 9) dX11_decimalCost_8 rfl rfl ?_
  refine h_getiE (pc' := 12) dX11_decimalCost_9 fX11_286 rfl rfl ((k1 25 (by decide)).trans hH.1) rfl ?_
  refine q_aload_n (pc' := 13) dX11_decimalCost_12 rfl rfl ?_
  refine h_getiE (pc' := 16) dX11_decimalCost_13 fX11_304 rfl rfl (L1.2.2.2) rfl ?_
  refine q_imulN (pc' := 17) dX11_decimalCost_16 rfl ?_
  refine h_callS (pc' := 20) (M' := mX11_bytesFor) (As := [_]) dX11_decimalCost_17 iX11_bytesFor lX11_311 rfl rfl (Nat.le_of_ble_eq_true rfl) (Nat.le_of_ble_eq_true rfl) rfl rfl ((k_bytesFor (by omega)).up (Nat.zero_le _)) (fun r m' hq => ?_)
  obtain ⟨rfl, hmm⟩ := hq
  subst m'
  refine q_iaddN (pc' := 21) dX11_decimalCost_20 rfl ?_
  refine q_bipush (pc' := 23) (v := nI 9) dX11_decimalCost_21 rfl rfl ?_
  refine q_aload_n (pc' := 24) dX11_decimalCost_23 rfl rfl ?_
  refine h_getiE (pc' := 27) dX11_decimalCost_24 fX11_289 rfl rfl (L1.1) rfl ?_
  refine h_callS (pc' := 30) (M' := mX11_bits) (As := [_]) dX11_decimalCost_27 iX11_bits lX11_314 rfl rfl (Nat.le_of_ble_eq_true rfl) (Nat.le_of_ble_eq_true rfl) rfl rfl ((k_bits (by omega)).up (Nat.zero_le _)) (fun r m' hq => ?_)
  obtain ⟨rfl, hmm⟩ := hq
  subst m'
  have e1 : s_cnt (fun i => decide (s_w2 (g i) e f = s_no)) k = k - (s_ms (fun i => s_w2 (g i) e f) k).2.2 := by omega
  rw [e1]
  refine q_imulN (pc' := 31) dX11_decimalCost_30 rfl ?_
  refine q_iaddN (pc' := 32) dX11_decimalCost_31 rfl ?_
  refine q_iret dX11_decimalCost_32 rfl rfl ⟨_, rfl, rfl, f1, k1, L1⟩
set_option maxHeartbeats 4000000 in
set_option maxRecDepth 20000 in
theorem k_scoreOf {Z : q_Z} {m : q_Mm} {d : Nat} {n p e f : Nat} {rl : Nat → Nat} {xs : Nat → Int64} (hM : MD m) (hV : MV m n rl xs) (hpe : s_cd p / 16 = e) (hpf : s_cd p % 16 = f) (he : e < 15) (hf : f < 15) : q_V (q_g Z) mX11_scoreOf (d+5) 0 0 0 [some (.ref (q_ad Z 215)), some (.int (nI e)), some (.int (nI f)), none, none] [] (q_W Z m) (q_P Z fun r m2 => r = some (.int (nI (s_score n rl (s_ws xs) p))) ∧ Fr [215, 227] m m2 ∧ Kp 215 [23, 25, 28, 29] m m2) := by
  have hok := hV.2.2.2.2
  have hnb := s_nb_le hok hV.2.1
  refine q_iconst (pc' := 1) (v := nI 0) dX11_scoreOf_0 rfl rfl ?_
  refine q_istore_n (pc' := 2) (lv' := [_, _, _, _, _]) dX11_scoreOf_1 (by decide) rfl rfl ?_
  refine q_iconst (pc' := 3) (v := nI 0) dX11_scoreOf_2 rfl rfl ?_
  refine q_istore (pc' := 5) (lv' := [_, _, _, _, _]) dX11_scoreOf_3 (by decide) rfl rfl ?_
  suffices h : ∀ g b m1, b + g = s_nb n rl → Fr [215, 227] m m1 → Kp 215 [23, 25, 28, 29] m m1 → q_V (q_g Z) mX11_scoreOf (d+5) 0 0 5 [some (.ref (q_ad Z 215)), some (.int (nI e)), some (.int (nI f)), some (.int (nI (s_sum (fun b => s_sc n rl (s_ws xs) b p) b))), some (.int (nI b))] [] (q_W Z (m1)) (q_P Z fun r m2 => r = some (.int (nI (s_score n rl (s_ws xs) p))) ∧ Fr [215, 227] m m2 ∧ Kp 215 [23, 25, 28, 29] m m2) from h _ 0 m (Nat.zero_add _) Fr.rf Kp.rf
  intro g
  induction g with
  | zero =>
    intro b m1 hb f1 k1
    have hb : b = s_nb n rl := by omega
    have hV1 := hV.fr f1 (k1 20 (by decide)) (by decide) (by decide)
    refine q_iload (pc' := 7) dX11_scoreOf_5 rfl rfl ?_
    refine q_aload_n (pc' := 8) dX11_scoreOf_7 rfl rfl ?_
    refine h_callV (pc' := 11) (M' := mX11_blocks) (As := []) dX11_scoreOf_8 iX11_blocks lX11_329 rfl rfl rfl rfl (Nat.le_of_ble_eq_true rfl) (Nat.le_of_ble_eq_true rfl) rfl rfl ((k_blocks hV1).up (Nat.zero_le _)) (fun r m' hq => ?_)
    obtain ⟨rfl, hmm⟩ := hq
    subst m'
    refine q_icmp_geN (tgt := 35) (pc' := 14) dX11_scoreOf_11 (by decide) rfl (by omega) (fun c_11 => ?_) (fun c_11 => ?_)
    rotate_left
    · omega
    refine q_iload_n (pc' := 36) dX11_scoreOf_35 rfl rfl ?_
    refine q_iret dX11_scoreOf_36 rfl rfl ⟨_, rfl, by rw [hb]; rfl, f1, k1⟩
  | succ g ih =>
    intro b m1 hb f1 k1
    have hV1 := hV.fr f1 (k1 20 (by decide)) (by decide) (by decide)
    have hM1 := hM.fr f1 (by decide) (by decide)
    refine q_iload (pc' := 7) dX11_scoreOf_5 rfl rfl ?_
    refine q_aload_n (pc' := 8) dX11_scoreOf_7 rfl rfl ?_
    refine h_callV (pc' := 11) (M' := mX11_blocks) (As := []) dX11_scoreOf_8 iX11_blocks lX11_329 rfl rfl rfl rfl (Nat.le_of_ble_eq_true rfl) (Nat.le_of_ble_eq_true rfl) rfl rfl ((k_blocks hV1).up (Nat.zero_le _)) (fun r m' hq => ?_)
    obtain ⟨rfl, hmm⟩ := hq
    subst m'
    refine q_icmp_geN (tgt := 35) (pc' := 14) dX11_scoreOf_11 (by decide) rfl (by omega) (fun c_11 => ?_) (fun c_11 => ?_)
    · omega
    refine q_aload_n (pc' := 15) dX11_scoreOf_14 rfl rfl ?_
    refine q_iload (pc' := 17) dX11_scoreOf_15 rfl rfl ?_
    refine h_callV (pc' := 20) (M' := mX11_laySample) (As := [_]) dX11_scoreOf_17 iX11_laySample lX11_332 rfl rfl rfl rfl (Nat.le_of_ble_eq_true rfl) (Nat.le_of_ble_eq_true rfl) rfl rfl ((k_laySample (d := d) hV1 (by omega)).up (by omega)) (fun r m' hq => ?_)
    obtain ⟨rfl, f2, k2, H2⟩ := hq
    have hM2 := hM1.fr f2 (by decide) (by decide)
    have hs : s_sn n rl b ≤ 16 := by unfold s_sn; have := hok.2.1.2; split <;> omega
    obtain ⟨m2, hm2⟩ : ∃ z, z = m' := ⟨_, rfl⟩
    subst hm2
    refine q_iload_n (pc' := 21) dX11_scoreOf_20 rfl rfl ?_
    refine q_aload_n (pc' := 22) dX11_scoreOf_21 rfl rfl ?_
    refine q_iload_n (pc' := 23) dX11_scoreOf_22 rfl rfl ?_
    refine q_iload_n (pc' := 24) dX11_scoreOf_23 rfl rfl ?_
    refine h_callV (pc' := 27) (M' := mX11_decimalCost) (As := [_, _]) dX11_scoreOf_24 iX11_decimalCost lX11_336 rfl rfl rfl rfl (Nat.le_of_ble_eq_true rfl) (Nat.le_of_ble_eq_true rfl) rfl rfl (k_decimalCost hM2 H2 hs he hf) (fun r m' hq => ?_)
    obtain ⟨rfl, f3, k3, -⟩ := hq
    rw [show s_mc (s_sn n rl b) (s_ms (fun i => s_w2 (xs (b * rl 0 + i * s_sz n rl b / s_sn n rl b)) e f) (s_sn n rl b)) = s_sc n rl (s_ws xs) b p by rw [← hpe, ← hpf]; rfl]
    refine q_iaddN (pc' := 28) dX11_scoreOf_27 rfl ?_
    refine q_istore_n (pc' := 29) (lv' := [_, _, _, _, _]) dX11_scoreOf_28 (by decide) rfl rfl ?_
    refine q_iincN (pc' := 32) (j := 1) (lv' := [_, _, _, _, _]) dX11_scoreOf_29 rfl (by decide) rfl rfl ?_
    refine q_goto (pc' := 5) dX11_scoreOf_32 (by decide) ?_
    exact ih (b + 1) _ (by omega) (f1.trans (f2.trans (f3.mono (by decide)))) ((k1.trans (k2.mono (by decide))).trans (k3.mono (by decide)))
