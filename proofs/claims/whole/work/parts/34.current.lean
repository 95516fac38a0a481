/-! ===== GuisePack, its own small methods ===== -/
theorem PlI.fr {S : List Nat} {m m2 : q_Mm} {b n : Nat} {r : Nat → Nat} {ys : Nat → Int64} {ws : Nat → Nat → Int64} (h : PlI m b n r ys ws) (f : Fr S m m2) (h0 : m2.1 b 4 = m.1 b 4) (h1 : b + 1 ∉ S) (h2 : b + 2 ∉ S) (h3 : 20 ∉ S) (h4 : 193 ∉ S) : PlI m2 b n r ys ws := by
  obtain ⟨a1, a2, a3, a4, a5⟩ := h
  refine ⟨h0.trans a1, a2, fun i hi => (congrFun (f.a h1) i).trans (a3 i hi), a4, fun i hi => ?_⟩
  obtain ⟨k2, k3, k4⟩ := a5 i hi
  exact ⟨(congrFun (f.a h2) i).trans k2, (congrFun (f.l h3) i).trans k3, fun p hp => (congrFun (f.l h4) _).trans (k4 p hp)⟩
def s_ws (xs : Nat → Int64) (i p : Nat) : Int64 := s_wv (xs i) p
def s_five (n : Nat) (rl : Nat → Nat) (xs : Nat → Int64) : s_F := s_rk (s_score n rl (s_ws xs)) (s_pn (rl 2 + 1) 0)
/-- the plan at b stands for this COLUMN -/
def Cur (m : q_Mm) (b n : Nat) (rl : Nat → Nat) (xs : Nat → Int64) : Prop := PlI m b n rl xs (s_ws xs) ∧ Fiv m b (s_five n rl xs)
set_option maxHeartbeats 4000000 in
set_option maxRecDepth 20000 in
theorem c_current {Z : q_Z} {m : q_Mm} {d : Nat} {n k : Nat} {st : Bool} {rl : Nat → Nat} {xs : Nat → Int64} {nt : Nat → Int32} (hD : DblOk m) (hCd : CdOk m) (hF : FitsOk m) (hC : Col m 19 n k xs rl nt) (hst : m.1 0 16 = q_b st) (hcur : st = false → Cur m 194 n rl xs) : q_V (q_g Z) mX10_current (d+5) 0 0 0 [some (.ref (q_ad Z 0))] [] (q_W Z m) (q_P Z fun r m2 => r = some (.ref (q_ad Z 194)) ∧ Fr [0, 191, 192, 193, 194, 195, 196, 197, 198] m m2 ∧ Kp 0 [16] m m2 ∧ m2.1 0 16 = q_b false ∧ FitsOk m2 ∧ Cur m2 194 n rl xs) := by
  refine q_aload_n (pc' := 1) dX10_current_0 rfl rfl ?_
  refine h_getiE (pc' := 4) dX10_current_1 fX10_125 rfl rfl (hst) rfl ?_
  refine q_if_eqB (tgt := 37) (pc' := 7) dX10_current_4 (by decide) rfl (fun c_4 => ?_) (fun c_4 => ?_)
  · refine q_aload_n (pc' := 38) dX10_current_37 rfl rfl ?_
    refine h_getr (pc' := 41) dX10_current_38 fX10_73 rfl rfl rfl ?_
    refine q_aret dX10_current_41 rfl ⟨_, rfl, rfl, Fr.rf, Kp.rf, by rw [hst, c_4], hF, hcur c_4⟩
  refine q_aload_n (pc' := 8) dX10_current_7 rfl rfl ?_
  refine h_getr (pc' := 11) dX10_current_8 fX10_64 rfl rfl rfl ?_
  refine q_aload_n (pc' := 12) dX10_current_11 rfl rfl ?_
  refine h_getr (pc' := 15) dX10_current_12 fX10_45 rfl rfl rfl ?_
  refine h_callV (pc' := 18) (M' := mX4_learn) (As := [_]) dX10_current_15 iX4_learn lX10_382 rfl rfl rfl rfl (Nat.le_of_ble_eq_true rfl) (Nat.le_of_ble_eq_true rfl) rfl rfl (c_learn hD hCd hF hC) (fun r m' hq => ?_)
  obtain ⟨rfl, f1, F1, e1⟩ := hq
  have hC1 := hC.fr f1 (by decide) (by decide) (by decide) (by decide)
  obtain ⟨m1, hm1⟩ : ∃ z, z = m' := ⟨_, rfl⟩
  subst hm1
  refine q_aload_n (pc' := 19) dX10_current_18 rfl rfl ?_
  refine h_getr (pc' := 22) dX10_current_19 fX10_73 rfl rfl rfl ?_
  refine h_callV (pc' := 25) (M' := mX8_lay) (As := []) dX10_current_22 iX8_lay lX10_337 rfl rfl rfl rfl (Nat.le_of_ble_eq_true rfl) (Nat.le_of_ble_eq_true rfl) rfl rfl (c_lay_194 (ws := s_ws xs) hC1 e1) (fun r m' hq => ?_)
  obtain ⟨rfl, f2, k2, P2⟩ := hq
  have F2 := F1.fr f2 (by decide) (by decide) (by decide)
  have f2 : Fr [0, 191, 192, 193, 194, 195, 196, 197, 198] m m' := (f1.mono (by decide)).trans (f2.mono (by decide))
  obtain ⟨m2, hm2⟩ : ∃ z, z = m' := ⟨_, rfl⟩
  subst hm2
  refine q_aload_n (pc' := 26) dX10_current_25 rfl rfl ?_
  refine h_getr (pc' := 29) dX10_current_26 fX10_73 rfl rfl rfl ?_
  refine h_callV (pc' := 32) (M' := mX8_rank) (As := []) dX10_current_29 iX8_rank lX10_343 rfl rfl rfl rfl (Nat.le_of_ble_eq_true rfl) (Nat.le_of_ble_eq_true rfl) rfl rfl (c_rank_194 P2.pl) (fun r m' hq => ?_)
  obtain ⟨rfl, f3, k3, V3⟩ := hq
  have F3 := F2.fr f3 (by decide) (by decide) (by decide)
  have P3 := P2.fr f3 (k3 4 (by decide)) (by decide) (by decide) (by decide) (by decide)
  have k3 : Kp 0 [16] m m' := ((Kp.fr f1 (by decide)).trans (Kp.fr (S := [194, 195, 196]) ‹Fr [194, 194 + 1, 194 + 2] m1 m2› (by decide))).trans (Kp.fr f3 (by decide))
  have f3 : Fr [0, 191, 192, 193, 194, 195, 196, 197, 198] m m' := f2.trans (f3.mono (by decide))
  refine q_aload_n (pc' := 33) dX10_current_32 rfl rfl ?_
  refine q_iconst (pc' := 34) (v := nI 0) dX10_current_33 rfl rfl ?_
  refine h_puti (pc' := 37) dX10_current_34 fX10_125 rfl rfl (rfl) rfl rfl ?_
  refine q_aload_n (pc' := 38) dX10_current_37 rfl rfl ?_
  refine h_getr (pc' := 41) dX10_current_38 fX10_73 rfl rfl rfl ?_
  refine q_aret dX10_current_41 rfl ⟨_, rfl, rfl, f3.I (by decide), k3.trans ?_, rfl, F3, ⟨P3, V3⟩⟩
  intro j hj
  exact q_u_n _ _ (by simpa using hj)
set_option maxHeartbeats 4000000 in
set_option maxRecDepth 20000 in
theorem c_placesOf {Z : q_Z} {m : q_Mm} {d : Nat} {i n g : Nat} {v : Int64} (hCd : CdOk m) (hi : i < 64) (hg : g ≤ 120) (hw : ∀ p, p < 120 → m.2.2.2.1 193 (i * 120 + p) = s_wv v p) : q_V (q_g Z) mX10_placesOf (d+1) 0 0 0 [some (.ref (q_ad Z 0)), some (.int (nI i)), some (.int (nI g)), none] [] (q_W Z m) (q_P Z fun r m2 => r = some (.int (if s_find (fun p => !decide (s_wv v p = s_no)) g 0 < g then nI (s_cd (s_find (fun p => !decide (s_wv v p = s_no)) g 0) / 16) else -1)) ∧ m2 = m) := by
  refine q_iconst (pc' := 1) (v := nI 0) dX10_placesOf_0 rfl rfl ?_
  refine q_istore_n (pc' := 2) (lv' := [_, _, _, _]) dX10_placesOf_1 (by decide) rfl rfl ?_
  suffices h : ∀ c p, p + c = g → s_find (fun p => !decide (s_wv v p = s_no)) c p = s_find (fun p => !decide (s_wv v p = s_no)) g 0 → q_V (q_g Z) mX10_placesOf (d+1) 0 0 2 [some (.ref (q_ad Z 0)), some (.int (nI i)), some (.int (nI g)), some (.int (nI p))] [] (q_W Z (m)) (q_P Z fun r m2 => r = some (.int (if s_find (fun p => !decide (s_wv v p = s_no)) g 0 < g then nI (s_cd (s_find (fun p => !decide (s_wv v p = s_no)) g 0) / 16) else -1)) ∧ m2 = m) from h g 0 (by omega) rfl
  intro c
  induction c with
  | zero =>
    intro p hp hs
    have hs : p = s_find (fun p => !decide (s_wv v p = s_no)) g 0 := hs
    refine q_iload_n (pc' := 3) dX10_placesOf_2 rfl rfl ?_
    refine q_iload_n (pc' := 4) dX10_placesOf_3 rfl rfl ?_
    refine q_icmp_geN (tgt := 40) (pc' := 7) dX10_placesOf_4 (by decide) rfl (by omega) (fun c_4 => ?_) (fun c_4 => ?_)
    · refine q_iconst (pc' := 41) (v := (-1)) dX10_placesOf_40 rfl rfl ?_
      refine q_iret dX10_placesOf_41 rfl rfl ⟨_, rfl, by rw [if_neg (by omega)], rfl⟩
    · omega
  | succ c ih =>
    intro p hp hs
    rw [s_find_succ] at hs
    refine q_iload_n (pc' := 3) dX10_placesOf_2 rfl rfl ?_
    refine q_iload_n (pc' := 4) dX10_placesOf_3 rfl rfl ?_
    refine q_icmp_geN (tgt := 40) (pc' := 7) dX10_placesOf_4 (by decide) rfl (by omega) (fun c_4 => ?_) (fun c_4 => ?_)
    · omega
    refine q_aload_n (pc' := 8) dX10_placesOf_7 rfl rfl ?_
    refine h_getr (pc' := 11) dX10_placesOf_8 fX10_64 rfl rfl rfl ?_
    refine q_iload_n (pc' := 12) dX10_placesOf_11 rfl rfl ?_
    refine q_iload_n (pc' := 13) dX10_placesOf_12 rfl rfl ?_
    refine h_callV (pc' := 16) (M' := mX4_at) (As := [_, _]) dX10_placesOf_13 iX4_at lX10_196 rfl rfl rfl rfl (Nat.le_of_ble_eq_true rfl) (Nat.le_of_ble_eq_true rfl) rfl rfl (c_at hi (by omega)) (fun r m' hq => ?_)
    obtain ⟨rfl, hmm⟩ := hq
    subst m'
    rw [hw p (by omega)]
    refine q_ldc2 (pc' := 19) dX10_placesOf_16 kX10_200 rfl ?_
    refine q_lcmp (pc' := 20) dX10_placesOf_19 rfl ?_
    refine q_if_eqL (tgt := 34) (pc' := 23) dX10_placesOf_20 (by decide) rfl (fun c_20 => ?_) (fun c_20 => ?_)
    · rw [if_neg (by rw [decide_eq_true (show s_wv v p = s_no from c_20)]; decide)] at hs
      refine q_iincN (pc' := 37) (j := 1) (lv' := [_, _, _, _]) dX10_placesOf_34 rfl (by decide) rfl rfl ?_
      refine q_goto (pc' := 2) dX10_placesOf_37 (by decide) ?_
      exact ih (p + 1) (by omega) hs
    · rw [if_pos (by rw [decide_eq_false (show ¬ s_wv v p = s_no from c_20)]; rfl)] at hs
      have hcd := (s_cd_ok (p := p) (by omega)).2.2
      refine q_aload_n (pc' := 24) dX10_placesOf_23 rfl rfl ?_
      refine h_getr (pc' := 27) dX10_placesOf_24 fX10_64 rfl rfl rfl ?_
      refine q_iload_n (pc' := 28) dX10_placesOf_27 rfl rfl ?_
      refine h_callV (pc' := 31) (M' := mX4_code) (As := [_]) dX10_placesOf_28 iX4_code lX10_233 rfl rfl rfl rfl (Nat.le_of_ble_eq_true rfl) (Nat.le_of_ble_eq_true rfl) rfl rfl (c_code (by omega)) (fun r m' hq => ?_)
      obtain ⟨rfl, hmm⟩ := hq
      subst m'
      rw [hCd p (by omega)]
      refine q_iconst (pc' := 32) (v := nI 4) dX10_placesOf_31 rfl rfl ?_
      refine q_ishr (pc' := 33) dX10_placesOf_32 rfl ?_
      rw [pk_shrN (by omega) (nI 4 &&& 31) 4 rfl]
      refine q_iret dX10_placesOf_33 rfl rfl ⟨_, rfl, by rw [← hs, if_pos (by omega)], rfl⟩
set_option maxHeartbeats 4000000 in
set_option maxRecDepth 20000 in
theorem c_waysOf {Z : q_Z} {m : q_Mm} {d : Nat} {i g : Nat} {v : Int64} (hi : i < 64) (hg : g ≤ 120) (hw : ∀ p, p < 120 → m.2.2.2.1 193 (i * 120 + p) = s_wv v p) : q_V (q_g Z) mX10_waysOf (d+1) 0 0 0 [some (.ref (q_ad Z 0)), some (.int (nI i)), some (.int (nI g)), none, none] [] (q_W Z m) (q_P Z fun r m2 => r = some (.int (nI (s_cnt (fun p => !decide (s_wv v p = s_no)) g))) ∧ m2 = m) := by
  refine q_iconst (pc' := 1) (v := nI 0) dX10_waysOf_0 rfl rfl ?_
  refine q_istore_n (pc' := 2) (lv' := [_, _, _, _, _]) dX10_waysOf_1 (by decide) rfl rfl ?_
  refine q_iconst (pc' := 3) (v := nI 0) dX10_waysOf_2 rfl rfl ?_
  refine q_istore (pc' := 5) (lv' := [_, _, _, _, _]) dX10_waysOf_3 (by decide) rfl rfl ?_
  suffices h : ∀ c p, p + c = g → q_V (q_g Z) mX10_waysOf (d+1) 0 0 5 [some (.ref (q_ad Z 0)), some (.int (nI i)), some (.int (nI g)), some (.int (nI (s_cnt (fun p => !decide (s_wv v p = s_no)) p))), some (.int (nI p))] [] (q_W Z (m)) (q_P Z fun r m2 => r = some (.int (nI (s_cnt (fun p => !decide (s_wv v p = s_no)) g))) ∧ m2 = m) from h g 0 (by omega)
  intro c
  induction c with
  | zero =>
    intro p hp
    obtain rfl : p = g := by omega
    refine q_iload (pc' := 7) dX10_waysOf_5 rfl rfl ?_
    refine q_iload_n (pc' := 8) dX10_waysOf_7 rfl rfl ?_
    refine q_icmp_geN (tgt := 37) (pc' := 11) dX10_waysOf_8 (by decide) rfl (by omega) (fun c_8 => ?_) (fun c_8 => ?_)
    · refine q_iload_n (pc' := 38) dX10_waysOf_37 rfl rfl ?_
      refine q_iret dX10_waysOf_38 rfl rfl ⟨_, rfl, rfl, rfl⟩
    · omega
  | succ c ih =>
    intro p hp
    have ih := ih (p + 1) (by omega)
    refine q_iload (pc' := 7) dX10_waysOf_5 rfl rfl ?_
    refine q_iload_n (pc' := 8) dX10_waysOf_7 rfl rfl ?_
    refine q_icmp_geN (tgt := 37) (pc' := 11) dX10_waysOf_8 (by decide) rfl (by omega) (fun c_8 => ?_) (fun c_8 => ?_)
    · omega
    refine q_aload_n (pc' := 12) dX10_waysOf_11 rfl rfl ?_
    refine h_getr (pc' := 15) dX10_waysOf_12 fX10_64 rfl rfl rfl ?_
    refine q_iload_n (pc' := 16) dX10_waysOf_15 rfl rfl ?_
    refine q_iload (pc' := 18) dX10_waysOf_16 rfl rfl ?_
    refine h_callV (pc' := 21) (M' := mX4_at) (As := [_, _]) dX10_waysOf_18 iX4_at lX10_196 rfl rfl rfl rfl (Nat.le_of_ble_eq_true rfl) (Nat.le_of_ble_eq_true rfl) rfl rfl (c_at hi (by omega)) (fun r m' hq => ?_)
    obtain ⟨rfl, hmm⟩ := hq
    subst m'
    rw [hw p (by omega)]
    refine q_ldc2 (pc' := 24) dX10_waysOf_21 kX10_200 rfl ?_
    refine q_lcmp (pc' := 25) dX10_waysOf_24 rfl ?_
    refine q_if_eqL (tgt := 31) (pc' := 28) dX10_waysOf_25 (by decide) rfl (fun c_25 => ?_) (fun c_25 => ?_)
    · rw [s_cnt_f (by rw [decide_eq_true (show s_wv v p = s_no from c_25)]; rfl)] at ih
      refine q_iincN (pc' := 34) (j := 1) (lv' := [_, _, _, _, _]) dX10_waysOf_31 rfl (by decide) rfl rfl ?_
      refine q_goto (pc' := 5) dX10_waysOf_34 (by decide) ?_
      exact ih
    · rw [s_cnt_t (by rw [decide_eq_false (show ¬ s_wv v p = s_no from c_25)]; rfl)] at ih
      refine q_iincN (pc' := 31) (j := 1) (lv' := [_, _, _, _, _]) dX10_waysOf_28 rfl (by decide) rfl rfl ?_
      refine q_iincN (pc' := 34) (j := 1) (lv' := [_, _, _, _, _]) dX10_waysOf_31 rfl (by decide) rfl rfl ?_
      refine q_goto (pc' := 5) dX10_waysOf_34 (by decide) ?_
      exact ih
def s_sio (xs : Nat → Int64) : Nat → Int64
  | 0 => 0
  | i + 1 => if s_fin (xs i) = true then s_plus (s_sio xs i) (xs i) else s_sio xs i
set_option maxHeartbeats 4000000 in
set_option maxRecDepth 20000 in
theorem c_sumInOrder {Z : q_Z} {m : q_Mm} {d : Nat} {n k : Nat} {rl : Nat → Nat} {xs : Nat → Int64} {nt : Nat → Int32} (hD : DblOk m) (hC : Col m 19 n k xs rl nt) : q_V (q_g Z) mX10_sumInOrder (d+3) 0 0 0 [some (.ref (q_ad Z 0)), none, none, none] [] (q_W Z m) (q_P Z fun r m2 => r = some (.long (s_sio xs n)) ∧ m2 = m) := by
  have hn := hC.2.2.1
  refine q_lconst (pc' := 1) (v := 0) dX10_sumInOrder_0 rfl rfl ?_
  refine q_lstore_n (pc' := 2) (lv' := [_, _, _, _]) dX10_sumInOrder_1 (by decide) rfl rfl ?_
  refine q_iconst (pc' := 3) (v := nI 0) dX10_sumInOrder_2 rfl rfl ?_
  refine q_istore_n (pc' := 4) (lv' := [_, _, _, _]) dX10_sumInOrder_3 (by decide) rfl rfl ?_
  suffices h : ∀ c j, j + c = n → q_V (q_g Z) mX10_sumInOrder (d+3) 0 0 4 [some (.ref (q_ad Z 0)), some (.long (s_sio xs j)), none, some (.int (nI j))] [] (q_W Z (m)) (q_P Z fun r m2 => r = some (.long (s_sio xs n)) ∧ m2 = m) from h n 0 (by omega)
  intro c
  induction c with
  | zero =>
    intro j hj
    obtain rfl : n = j := by omega
    refine q_iload_n (pc' := 5) dX10_sumInOrder_4 rfl rfl ?_
    refine q_aload_n (pc' := 6) dX10_sumInOrder_5 rfl rfl ?_
    refine h_getr (pc' := 9) dX10_sumInOrder_6 fX10_45 rfl rfl rfl ?_
    refine h_getiE (pc' := 12) dX10_sumInOrder_9 fX10_128 rfl rfl (hC.1) rfl ?_
    refine q_icmp_geN (tgt := 54) (pc' := 15) dX10_sumInOrder_12 (by decide) rfl (by omega) (fun c_12 => ?_) (fun c_12 => ?_)
    · refine q_lload_n (pc' := 55) dX10_sumInOrder_54 rfl rfl ?_
      refine q_lret dX10_sumInOrder_55 rfl ⟨_, rfl, rfl, rfl⟩
    · omega
  | succ c ih =>
    intro j hj
    have hxj := hC.2.2.2.2.1 j (by omega)
    have ih := ih (j + 1) (by omega)
    refine q_iload_n (pc' := 5) dX10_sumInOrder_4 rfl rfl ?_
    refine q_aload_n (pc' := 6) dX10_sumInOrder_5 rfl rfl ?_
    refine h_getr (pc' := 9) dX10_sumInOrder_6 fX10_45 rfl rfl rfl ?_
    refine h_getiE (pc' := 12) dX10_sumInOrder_9 fX10_128 rfl rfl (hC.1) rfl ?_
    refine q_icmp_geN (tgt := 54) (pc' := 15) dX10_sumInOrder_12 (by decide) rfl (by omega) (fun c_12 => ?_) (fun c_12 => ?_)
    · omega
    refine q_aload_n (pc' := 16) dX10_sumInOrder_15 rfl rfl ?_
    refine h_getr (pc' := 19) dX10_sumInOrder_16 fX10_45 rfl rfl rfl ?_
    refine h_getr (pc' := 22) dX10_sumInOrder_19 fX10_154 rfl rfl rfl ?_
    refine q_iload_n (pc' := 23) dX10_sumInOrder_22 rfl rfl ?_
    refine h_laldE (pc' := 24) dX10_sumInOrder_23 rfl (rfl) (by omega) (by decide) (hxj) rfl ?_
    refine h_callS (pc' := 27) (M' := mX10_isFinite) (As := [_]) dX10_sumInOrder_24 iX10_isFinite lX10_158 rfl rfl (Nat.le_of_ble_eq_true rfl) (Nat.le_of_ble_eq_true rfl) rfl rfl (c_isFinite) (fun r m' hq => ?_)
    obtain ⟨rfl, hmm⟩ := hq
    subst m'
    refine q_if_eqB (tgt := 48) (pc' := 30) dX10_sumInOrder_27 (by decide) rfl (fun c_27 => ?_) (fun c_27 => ?_)
    · rw [show s_sio xs (j + 1) = s_sio xs j from if_neg (by rw [c_27]; decide)] at ih
      refine q_iincN (pc' := 51) (j := 1) (lv' := [_, _, _, _]) dX10_sumInOrder_48 rfl (by decide) rfl rfl ?_
      refine q_goto (pc' := 4) dX10_sumInOrder_51 (by decide) ?_
      exact ih
    · rw [show s_sio xs (j + 1) = s_plus (s_sio xs j) (xs j) from if_pos c_27] at ih
      refine q_aload_n (pc' := 31) dX10_sumInOrder_30 rfl rfl ?_
      refine h_getr (pc' := 34) dX10_sumInOrder_31 fX10_12 rfl rfl rfl ?_
      refine q_lload_n (pc' := 35) dX10_sumInOrder_34 rfl rfl ?_
      refine q_aload_n (pc' := 36) dX10_sumInOrder_35 rfl rfl ?_
      refine h_getr (pc' := 39) dX10_sumInOrder_36 fX10_45 rfl rfl rfl ?_
      refine h_getr (pc' := 42) dX10_sumInOrder_39 fX10_154 rfl rfl rfl ?_
      refine q_iload_n (pc' := 43) dX10_sumInOrder_42 rfl rfl ?_
      refine h_laldE (pc' := 44) dX10_sumInOrder_43 rfl (rfl) (by omega) (by decide) (hxj) rfl ?_
      refine h_callV (pc' := 47) (M' := mX3_plus) (As := [_, _]) dX10_sumInOrder_44 iX3_plus lX10_386 rfl rfl rfl rfl (Nat.le_of_ble_eq_true rfl) (Nat.le_of_ble_eq_true rfl) rfl rfl (c_plus hD) (fun r m' hq => ?_)
      obtain ⟨rfl, hmm⟩ := hq
      subst m'
      refine q_lstore_n (pc' := 48) (lv' := [_, _, _, _]) dX10_sumInOrder_47 (by decide) rfl rfl ?_
      refine q_iincN (pc' := 51) (j := 1) (lv' := [_, _, _, _]) dX10_sumInOrder_48 rfl (by decide) rfl rfl ?_
      refine q_goto (pc' := 4) dX10_sumInOrder_51 (by decide) ?_
      exact ih
