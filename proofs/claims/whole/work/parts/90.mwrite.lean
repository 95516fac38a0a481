/-! ===== the reference writes a BLOCK ===== -/
abbrev s_Sw : List Nat := [215, 227, 228, 229, 230, 231, 232]
abbrev s_Jw : List Nat := [23, 25, 28, 29, 32, 35, 36, 37, 38, 39, 41, 42]
theorem MO.nil {m : q_Mm} (h : m.1 215 41 = nI 0) : MO m [] := ⟨h, by decide, fun i hi => absurd hi (by simp)⟩
theorem z_chk (f : Nat → Int32) (k : Nat) : s_chk f (k + 1) = (nI 31 * s_chk f k + f k) - (nI 31 * s_chk f k + f k) / nI 251 * nI 251 := rfl
set_option maxHeartbeats 4000000 in
set_option maxRecDepth 20000 in
theorem k_wchk {Z : q_Z} {m : q_Mm} {d : Nat} {B : List Nat} {u0 : Int32} {u v : Option Value} {Q : _} (hO : MO m B) (kk : ∀ m2 w, Fr [215, 232] m m2 → Kp 215 [41] m m2 → MO m2 (B ++ [s_ck B]) → q_V (q_g Z) mX11_write (d + 1) 0 0 141 [some (.ref (q_ad Z 215)), some (.int u0), some (.int w), some (.int (nI B.length))] [] (q_W Z (m2)) Q) (hB : B.length ≤ 310) : q_V (q_g Z) mX11_write (d + 1) 0 0 101 [some (.ref (q_ad Z 215)), some (.int u0), u, v] [] (q_W Z (m)) Q := by
  refine q_bipush (pc' := 103) (v := nI 7) dX11_write_101 rfl rfl ?_
  refine q_istore_n (pc' := 104) (lv' := [_, _, _, _]) dX11_write_103 (by decide) rfl rfl ?_
  refine q_iconst (pc' := 105) (v := nI 0) dX11_write_104 rfl rfl ?_
  refine q_istore_n (pc' := 106) (lv' := [_, _, _, _]) dX11_write_105 (by decide) rfl rfl ?_
  suffices h : ∀ c i, i + c = B.length → q_V (q_g Z) mX11_write (d + 1) 0 0 106 [some (.ref (q_ad Z 215)), some (.int u0), some (.int (s_chk (fun i => nI (B.getD i 0)) i)), some (.int (nI i))] [] (q_W Z (m)) Q from h _ 0 (Nat.zero_add _)
  intro c
  induction c with
  | zero =>
    intro i hi
    have hi : i = B.length := by omega
    rw [hi]
    refine q_iload_n (pc' := 107) dX11_write_106 rfl rfl ?_
    refine q_aload_n (pc' := 108) dX11_write_107 rfl rfl ?_
    refine h_getiE (pc' := 111) dX11_write_108 fX11_251 rfl rfl (hO.1) rfl ?_
    refine q_icmp_geN (tgt := 136) (pc' := 114) dX11_write_111 (by decide) rfl (by omega) (fun c_111 => ?_) (fun c_111 => ?_)
    rotate_left
    · omega
    refine q_aload_n (pc' := 137) dX11_write_136 rfl rfl ?_
    refine q_iload_n (pc' := 138) dX11_write_137 rfl rfl ?_
    refine h_callV (pc' := 141) (M' := mX11_putByte) (As := [_]) dX11_write_138 iX11_putByte lX11_407 rfl rfl rfl rfl (Nat.le_of_ble_eq_true rfl) (Nat.le_of_ble_eq_true rfl) rfl rfl (k_putByte hO (by omega)) (fun r m' hq => ?_)
    obtain ⟨rfl, f1, k1, -, O1⟩ := hq
    rw [← z_byW] at O1
    exact kk m' _ f1 k1 O1
  | succ c ih =>
    intro i hi
    have ih := ih (i + 1) (by omega)
    rw [z_chk] at ih
    have hb : m.2.2.1 232 i = nI (B.getD i 0) := hO.2.2 i (by omega)
    refine q_iload_n (pc' := 107) dX11_write_106 rfl rfl ?_
    refine q_aload_n (pc' := 108) dX11_write_107 rfl rfl ?_
    refine h_getiE (pc' := 111) dX11_write_108 fX11_251 rfl rfl (hO.1) rfl ?_
    refine q_icmp_geN (tgt := 136) (pc' := 114) dX11_write_111 (by decide) rfl (by omega) (fun c_111 => ?_) (fun c_111 => ?_)
    · omega
    refine q_bipush (pc' := 116) (v := nI 31) dX11_write_114 rfl rfl ?_
    refine q_iload_n (pc' := 117) dX11_write_116 rfl rfl ?_
    refine q_imul (pc' := 118) dX11_write_117 rfl ?_
    refine q_aload_n (pc' := 119) dX11_write_118 rfl rfl ?_
    refine h_getr (pc' := 122) dX11_write_119 fX11_60 rfl rfl rfl ?_
    refine q_iload_n (pc' := 123) dX11_write_122 rfl rfl ?_
    refine h_ialdE (pc' := 124) dX11_write_123 rfl (rfl) (by omega) (by decide) (hb) rfl ?_
    refine q_iadd (pc' := 125) dX11_write_124 rfl ?_
    refine q_sipush (pc' := 128) (v := nI 251) dX11_write_125 rfl rfl ?_
    refine q_irem (pc' := 129) dX11_write_128 (by decide) rfl ?_
    refine q_istore_n (pc' := 130) (lv' := [_, _, _, _]) dX11_write_129 (by decide) rfl rfl ?_
    refine q_iincN (pc' := 133) (j := 1) (lv' := [_, _, _, _]) dX11_write_130 rfl (by decide) rfl rfl ?_
    refine q_goto (pc' := 106) dX11_write_133 (by decide) ?_
    exact ih
set_option maxHeartbeats 4000000 in
set_option maxRecDepth 20000 in
theorem k_write {Z : q_Z} {m : q_Mm} {d : Nat} {n : Nat} {t : Bool} {x : Int32} {rl : Nat → Nat} {xs : Nat → Int64} {L0 : List Nat} (h : MAsk m t n rl xs) (hO : MO m L0) : q_V (q_g Z) mX11_write (d+8) 0 0 0 [some (.ref (q_ad Z 215)), some (.int x), none, none] [] (q_W Z m) (q_P Z fun r m2 => r = some (.int (if s_has t (s_nb n rl) x = true then nI (s_wo n rl xs (s_ws xs) (s_five n rl xs) s_cd (s_i x)).length else -1)) ∧ Fr s_Sw m m2 ∧ Kp 215 s_Jw m m2 ∧ MO m2 (if s_has t (s_nb n rl) x = true then s_wo n rl xs (s_ws xs) (s_five n rl xs) s_cd (s_i x) else L0)) := by
  obtain ⟨hM, hV, ht, hn, hn6⟩ := h
  refine q_aload_n (pc' := 1) dX11_write_0 rfl rfl ?_
  refine q_iload_n (pc' := 2) dX11_write_1 rfl rfl ?_
  refine h_callV (pc' := 5) (M' := mX11_isBlock) (As := [_]) dX11_write_2 iX11_isBlock lX11_398 rfl rfl rfl rfl (Nat.le_of_ble_eq_true rfl) (Nat.le_of_ble_eq_true rfl) rfl rfl ((k_isBlock (d := d) hV ht).up (by omega)) (fun r m' hq => ?_)
  obtain ⟨rfl, hmm⟩ := hq
  subst m'
  refine q_if_neB (tgt := 10) (pc' := 8) dX11_write_5 (by decide) rfl (fun c_5 => ?_) (fun c_5 => ?_)
  rotate_left
  · refine q_iconst (pc' := 9) (v := (-1)) dX11_write_8 rfl rfl ?_
    refine q_iret dX11_write_9 rfl rfl ⟨_, rfl, by rw [if_neg (by rw [c_5]; decide)], Fr.rf, Kp.rf, by rw [if_neg (by rw [c_5]; decide)]; exact hO⟩
  have htt : t = true := by
    unfold s_has at c_5
    rw [Bool.and_eq_true] at c_5
    exact c_5.1
  have hV := hV htt
  have hok := hV.2.2.2.2
  have hnb := s_nb_le hok hn6
  obtain ⟨j, hxj, hj⟩ := z_has c_5 (by omega)
  obtain ⟨-, hz1, -, -⟩ := s_nb_in hok hj
  have hz := s_sz16 (n := n) hok j
  have e1 : s_i x = j := by rw [hxj, s_i_n (by omega)]
  rw [if_pos c_5, if_pos c_5, e1, hxj]
  refine q_aload_n (pc' := 11) dX11_write_10 rfl rfl ?_
  refine h_callV (pc' := 14) (M' := mX11_layFive) (As := []) dX11_write_11 iX11_layFive lX11_369 rfl rfl rfl rfl (Nat.le_of_ble_eq_true rfl) (Nat.le_of_ble_eq_true rfl) rfl rfl ((k_layFive (d := d) hM hV).up (by omega)) (fun r m' hq => ?_)
  obtain ⟨rfl, f0, k0, F0⟩ := hq
  have f0 : Fr s_Sw m m' := f0.mono (by decide)
  have k0 : Kp 215 s_Jw m m' := k0.mono (by decide)
  have hV0 := hV.fr f0 (k0 20 (by decide)) (by decide) (by decide)
  have hM0 := hM.fr f0 (by decide) (by decide)
  have hwp := s_wp_lt (n := n) hok (s_ws xs) (fun i hi => (F0.2.2.2 i hi).1) j
  have hcd := s_cd_ok hwp
  obtain ⟨m0, hm0⟩ : ∃ z, z = m' := ⟨_, rfl⟩
  subst hm0
  refine q_aload_n (pc' := 15) dX11_write_14 rfl rfl ?_
  refine q_iload_n (pc' := 16) dX11_write_15 rfl rfl ?_
  refine h_callV (pc' := 19) (M' := mX11_layForm) (As := [_]) dX11_write_16 iX11_layForm lX11_372 rfl rfl rfl rfl (Nat.le_of_ble_eq_true rfl) (Nat.le_of_ble_eq_true rfl) rfl rfl ((k_layForm (d := d) hM0 hV0 F0 (five_pos n rl xs) hj).up (by omega)) (fun r m' hq => ?_)
  obtain ⟨rfl, f1, k1, G1, G2, G3, G4, G5, G6⟩ := hq
  have hw2 := (s_tot_m (n := n) (xs := xs) hok hj (s_five n rl xs)).2
  have hV1 := hV0.fr f1 (k1 20 (by decide)) (by decide) (by decide)
  have hM1 := hM0.fr f1 (by decide) (by decide)
  have f1 : Fr s_Sw m m' := f0.trans (f1.mono (by decide))
  have k1 : Kp 215 s_Jw m m' := k0.trans (k1.mono (by decide))
  have hlen := fun p cd f => s_wb_len (n := n) hok xs (s_ws xs) p cd hz1 f
  rw [show s_wo n rl xs (s_ws xs) (s_five n rl xs) s_cd j = s_wb n rl xs (s_ws xs) j (s_wp n rl (s_ws xs) (s_five n rl xs) j) (s_cd (s_wp n rl (s_ws xs) (s_five n rl xs) j)) (s_wf n rl xs (s_ws xs) (s_five n rl xs) j).1 ++ [s_ck (s_wb n rl xs (s_ws xs) j (s_wp n rl (s_ws xs) (s_five n rl xs) j) (s_cd (s_wp n rl (s_ws xs) (s_five n rl xs) j)) (s_wf n rl xs (s_ws xs) (s_five n rl xs) j).1)] from rfl]
  generalize s_wp n rl (s_ws xs) (s_five n rl xs) j = p at hwp hcd G1 G5 ⊢
  generalize (s_wf n rl xs (s_ws xs) (s_five n rl xs) j).1 = W at hw2 G2 G5 ⊢
  have hlW := hlen p (s_cd p) W
  refine q_aload_n (pc' := 20) dX11_write_19 rfl rfl ?_
  refine q_iconst (pc' := 21) (v := nI 0) dX11_write_20 rfl rfl ?_
  refine h_puti (pc' := 24) dX11_write_21 fX11_251 rfl rfl rfl rfl rfl ?_
  refine q_aload_n (pc' := 25) dX11_write_24 rfl rfl ?_
  refine q_iconst (pc' := 26) (v := nI 0) dX11_write_25 rfl rfl ?_
  refine h_puti (pc' := 29) dX11_write_26 fX11_410 rfl rfl rfl rfl rfl ?_
  generalize hm2 : sI (sI m' 215 41 (nI 0)) 215 42 (nI 0) = m2
  have g2 : Fr [215] m' m2 := hm2 ▸ (Fr.rf.I (by decide)).I (by decide)
  have l2 : Kp 215 [41, 42] m' m2 := hm2 ▸ kp_I (kp_I Kp.rf (by decide)) (by decide)
  have e41 : m2.1 215 41 = nI 0 := hm2 ▸ rfl
  have e42 : m2.1 215 42 = nI 0 := hm2 ▸ rfl
  have O2 := MO.nil e41
  have G1 := (l2 37 (by decide)).trans G1
  have G2 := (l2 36 (by decide)).trans G2
  have H2 := G6.fr g2 (l2 25 (by decide)) (by decide)
  have hV2 := hV1.fr g2 (l2 20 (by decide)) (by decide) (by decide)
  have hM2 := hM1.fr g2 (by decide) (by decide)
  have f2 : Fr s_Sw m m2 := f1.trans (g2.mono (by decide))
  have k2 : Kp 215 s_Jw m m2 := k1.trans (l2.mono (by decide))
  clear hm2 g2 l2 f1 k1 G3 G4 G5 G6 hV1 hM1 f0 k0 F0 hV0 hM0
  refine q_aload_n (pc' := 30) dX11_write_29 rfl rfl ?_
  refine q_aload_n (pc' := 31) dX11_write_30 rfl rfl ?_
  refine h_getiE (pc' := 34) dX11_write_31 fX11_360 rfl rfl (G2) rfl ?_
  refine h_callV (pc' := 37) (M' := mX11_putByte) (As := [_]) dX11_write_34 iX11_putByte lX11_407 rfl rfl rfl rfl (Nat.le_of_ble_eq_true rfl) (Nat.le_of_ble_eq_true rfl) rfl rfl ((k_putByte O2 (by decide)).up (Nat.zero_le _)) (fun r m' hq => ?_)
  obtain ⟨rfl, f3, k3, -, O3⟩ := hq
  rw [s_y_n (by omega)] at O3
  have G1 := (k3 37 (by decide)).trans G1
  have G2 := (k3 36 (by decide)).trans G2
  have e42 := (k3 42 (by decide)).trans e42
  have H3 := H2.fr f3 (k3 25 (by decide)) (by decide)
  have hV3 := hV2.fr f3 (k3 20 (by decide)) (by decide) (by decide)
  have hM3 := hM2.fr f3 (by decide) (by decide)
  have f3 : Fr s_Sw m m' := f2.trans (f3.mono (by decide))
  have k3 : Kp 215 s_Jw m m' := k2.trans (k3.mono (by decide))
  obtain ⟨m3, hm3⟩ : ∃ z, z = m' := ⟨_, rfl⟩
  subst hm3
  refine q_aload_n (pc' := 38) dX11_write_37 rfl rfl ?_
  refine q_aload_n (pc' := 39) dX11_write_38 rfl rfl ?_
  refine h_getiE (pc' := 42) dX11_write_39 fX11_286 rfl rfl (H3.1) rfl ?_
  refine h_callV (pc' := 45) (M' := mX11_putByte) (As := [_]) dX11_write_42 iX11_putByte lX11_407 rfl rfl rfl rfl (Nat.le_of_ble_eq_true rfl) (Nat.le_of_ble_eq_true rfl) rfl rfl ((k_putByte O3 (by rw [s_ln1]; show 0 + 1 < 320; omega)).up (Nat.zero_le _)) (fun r m' hq => ?_)
  obtain ⟨rfl, f4, k4, -, O4⟩ := hq
  rw [s_y_n (by omega)] at O4
  have O4 : MO m' ([W] ++ [s_sz n rl j]) := O4
  have G1 := (k4 37 (by decide)).trans G1
  have G2 := (k4 36 (by decide)).trans G2
  have e42 := (k4 42 (by decide)).trans e42
  have H4 := H3.fr f4 (k4 25 (by decide)) (by decide)
  have hV4 := hV3.fr f4 (k4 20 (by decide)) (by decide) (by decide)
  have hM4 := hM3.fr f4 (by decide) (by decide)
  have f4 : Fr s_Sw m m' := f3.trans (f4.mono (by decide))
  have k4 : Kp 215 s_Jw m m' := k3.trans (k4.mono (by decide))
  obtain ⟨m4, hm4⟩ : ∃ z, z = m' := ⟨_, rfl⟩
  subst hm4
  have fin : ∀ m5 u v, Fr s_Sw m m5 → Kp 215 s_Jw m m5 → MO m5 (s_wb n rl xs (s_ws xs) j p (s_cd p) W) → q_V (q_g Z) mX11_write (d+8) 0 0 101 [some (.ref (q_ad Z 215)), some (.int (nI j)), u, v] [] (q_W Z (m5)) (q_P Z fun r m2 => r = some (.int (nI (s_wb n rl xs (s_ws xs) j (p) (s_cd (p)) W ++ [s_ck (s_wb n rl xs (s_ws xs) j (p) (s_cd (p)) W)]).length)) ∧ Fr s_Sw m m2 ∧ Kp 215 s_Jw m m2 ∧ MO m2 (s_wb n rl xs (s_ws xs) j (p) (s_cd (p)) W ++ [s_ck (s_wb n rl xs (s_ws xs) j (p) (s_cd (p)) W)])) := by
    intro m5 u v f5 k5 O5
    refine k_wchk O5 (fun m6 w f6 k6 O6 => ?_) hlW
    refine q_aload_n (pc' := 142) dX11_write_141 rfl rfl ?_
    refine h_getiE (pc' := 145) dX11_write_142 fX11_251 rfl rfl (O6.1) rfl ?_
    refine q_iret dX11_write_145 rfl rfl ⟨_, rfl, rfl, f5.trans (f6.mono (by decide)), k5.trans (k6.mono (by decide)), O6⟩
  refine q_aload_n (pc' := 46) dX11_write_45 rfl rfl ?_
  refine h_getiE (pc' := 49) dX11_write_46 fX11_360 rfl rfl (G2) rfl ?_
  refine q_iconst (pc' := 50) (v := nI 1) dX11_write_49 rfl rfl ?_
  refine q_icmp_neN (tgt := 60) (pc' := 53) dX11_write_50 (by decide) rfl (by omega) (fun c_50 => ?_) (fun c_50 => ?_)
  rotate_left
  · have hW : W = 1 := by omega
    subst hW
    refine q_aload_n (pc' := 54) dX11_write_53 rfl rfl ?_
    refine h_callV (pc' := 57) (M' := mX11_writeDecimal) (As := []) dX11_write_54 iX11_writeDecimal lX11_424 rfl rfl rfl rfl (Nat.le_of_ble_eq_true rfl) (Nat.le_of_ble_eq_true rfl) rfl rfl ((k_writeDecimal (d := d) (L := [1] ++ [s_sz n rl j]) hM4 H4 hz G1 hcd.2.2 rfl rfl hcd.1 hcd.2.1 O4 rfl e42).up (by omega)) (fun r m' hq => ?_)
    obtain ⟨rfl, f5, k5, O5⟩ := hq
    refine q_goto (pc' := 101) dX11_write_57 (by decide) ?_
    exact fin m' _ _ (f4.trans (f5.mono (by decide))) (k4.trans (k5.mono (by decide))) O5
  refine q_aload_n (pc' := 61) dX11_write_60 rfl rfl ?_
  refine h_getiE (pc' := 64) dX11_write_61 fX11_360 rfl rfl (G2) rfl ?_
  refine q_iconst (pc' := 65) (v := nI 2) dX11_write_64 rfl rfl ?_
  refine q_icmp_neN (tgt := 75) (pc' := 68) dX11_write_65 (by decide) rfl (by omega) (fun c_65 => ?_) (fun c_65 => ?_)
  rotate_left
  · have hW : W = 2 := by omega
    subst hW
    refine q_aload_n (pc' := 69) dX11_write_68 rfl rfl ?_
    refine h_callV (pc' := 72) (M' := mX11_writeSplit) (As := []) dX11_write_69 iX11_writeSplit lX11_427 rfl rfl rfl rfl (Nat.le_of_ble_eq_true rfl) (Nat.le_of_ble_eq_true rfl) rfl rfl ((k_writeSplit (d := d) (L := [2] ++ [s_sz n rl j]) (ps := s_ps rl xs j) hV4 H4 hz hz1 (fun i _ => rfl) O4 rfl e42).up (by omega)) (fun r m' hq => ?_)
    obtain ⟨rfl, f5, k5, O5⟩ := hq
    refine q_goto (pc' := 101) dX11_write_72 (by decide) ?_
    exact fin m' _ _ (f4.trans (f5.mono (by decide))) (k4.trans (k5.mono (by decide))) O5
  have hW : W = 0 := by omega
  subst hW
  refine q_iconst (pc' := 76) (v := nI 0) dX11_write_75 rfl rfl ?_
  refine q_istore_n (pc' := 77) (lv' := [_, _, _, _]) dX11_write_76 (by decide) rfl rfl ?_
  suffices h : ∀ c i m5, i + c = s_sz n rl j → Fr [215, 232] m4 m5 → Kp 215 [41] m4 m5 → MO m5 ([0] ++ [s_sz n rl j] ++ s_raw (fun i => xs (j * rl 0 + i)) i) → q_V (q_g Z) mX11_write (d+8) 0 0 77 [some (.ref (q_ad Z 215)), some (.int (nI j)), some (.int (nI i)), none] [] (q_W Z (m5)) (q_P Z fun r m2 => r = some (.int (nI (s_wb n rl xs (s_ws xs) j (p) (s_cd (p)) 0 ++ [s_ck (s_wb n rl xs (s_ws xs) j (p) (s_cd (p)) 0)]).length)) ∧ Fr s_Sw m m2 ∧ Kp 215 s_Jw m m2 ∧ MO m2 (s_wb n rl xs (s_ws xs) j (p) (s_cd (p)) 0 ++ [s_ck (s_wb n rl xs (s_ws xs) j (p) (s_cd (p)) 0)])) from h _ 0 m4 (Nat.zero_add _) Fr.rf Kp.rf (by show MO m4 ([0] ++ [s_sz n rl j] ++ []); rw [List.append_nil]; exact O4)
  intro c
  induction c with
  | zero =>
    intro i m5 hi f5 k5 O5
    have hi : i = s_sz n rl j := by omega
    rw [hi] at O5 ⊢
    refine q_iload_n (pc' := 78) dX11_write_77 rfl rfl ?_
    refine q_aload_n (pc' := 79) dX11_write_78 rfl rfl ?_
    refine h_getiE (pc' := 82) dX11_write_79 fX11_286 rfl rfl ((k5 25 (by decide)).trans H4.1) rfl ?_
    refine q_icmp_geN (tgt := 101) (pc' := 85) dX11_write_82 (by decide) rfl (by omega) (fun c_82 => ?_) (fun c_82 => ?_)
    rotate_left
    · omega
    exact fin m5 _ _ (f4.trans (f5.mono (by decide))) (k4.trans (k5.mono (by decide))) O5
  | succ c ih =>
    intro i m5 hi f5 k5 O5
    have ih := fun m6 => ih (i + 1) m6 (by omega)
    have hl := s_raw_len (fun i => xs (j * rl 0 + i)) i
    refine q_iload_n (pc' := 78) dX11_write_77 rfl rfl ?_
    refine q_aload_n (pc' := 79) dX11_write_78 rfl rfl ?_
    refine h_getiE (pc' := 82) dX11_write_79 fX11_286 rfl rfl ((k5 25 (by decide)).trans H4.1) rfl ?_
    refine q_icmp_geN (tgt := 101) (pc' := 85) dX11_write_82 (by decide) rfl (by omega) (fun c_82 => ?_) (fun c_82 => ?_)
    · omega
    refine q_aload_n (pc' := 86) dX11_write_85 rfl rfl ?_
    refine q_aload_n (pc' := 87) dX11_write_86 rfl rfl ?_
    refine h_getr (pc' := 90) dX11_write_87 fX11_45 rfl rfl rfl ?_
    refine q_iload_n (pc' := 91) dX11_write_90 rfl rfl ?_
    refine h_laldE (pc' := 92) dX11_write_91 rfl (rfl) (by omega) (by decide) ((congrFun (f5.l (by decide)) i).trans (H4.2 i (by omega))) rfl ?_
    refine h_callV (pc' := 95) (M' := mX11_putLong) (As := [_]) dX11_write_92 iX11_putLong lX11_413 rfl rfl rfl rfl (Nat.le_of_ble_eq_true rfl) (Nat.le_of_ble_eq_true rfl) rfl rfl ((k_putLong (d := d) O5 (by rw [List.length_append, hl]; show 2 + 8 * i + 8 ≤ 320; omega)).up (by omega)) (fun r m' hq => ?_)
    obtain ⟨rfl, f6, k6, -, O6⟩ := hq
    rw [show s_raw (fun i => xs (j * rl 0 + i)) (i + 1) = s_raw (fun i => xs (j * rl 0 + i)) i ++ s_i8 (xs (j * rl 0 + i)) from rfl, ← List.append_assoc] at ih
    refine q_iincN (pc' := 98) (j := 1) (lv' := [_, _, _, _]) dX11_write_95 rfl (by decide) rfl rfl ?_
    refine q_goto (pc' := 77) dX11_write_98 (by decide) ?_
    exact ih m' (f5.trans f6) (k5.trans k6) O6
