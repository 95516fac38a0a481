/-! ===== the reference's face: most, alone ===== -/
set_option maxHeartbeats 4000000 in
set_option maxRecDepth 20000 in
theorem k_rawOfAll {Z : q_Z} {m : q_Mm} {d : Nat} {n : Nat} {rl : Nat → Nat} {xs : Nat → Int64} (hV : MV m n rl xs) : q_V (q_g Z) mX11_rawOfAll (d+2) 0 0 0 [some (.ref (q_ad Z 215)), none, none] [] (q_W Z m) (q_P Z fun r m2 => r = some (.int (nI (s_sum (fun b => 3 + 8 * s_sz n rl b) (s_nb n rl)))) ∧ m2 = m) := by
  have hok := hV.2.2.2.2
  have hnb := s_nb_le hok hV.2.1
  refine q_iconst (pc' := 1) (v := nI 0) dX11_rawOfAll_0 rfl rfl ?_
  refine q_istore_n (pc' := 2) (lv' := [_, _, _]) dX11_rawOfAll_1 (by decide) rfl rfl ?_
  refine q_iconst (pc' := 3) (v := nI 0) dX11_rawOfAll_2 rfl rfl ?_
  refine q_istore_n (pc' := 4) (lv' := [_, _, _]) dX11_rawOfAll_3 (by decide) rfl rfl ?_
  suffices h : ∀ g b, b + g = s_nb n rl → q_V (q_g Z) mX11_rawOfAll (d+2) 0 0 4 [some (.ref (q_ad Z 215)), some (.int (nI (s_sum (fun b => 3 + 8 * s_sz n rl b) b))), some (.int (nI b))] [] (q_W Z (m)) (q_P Z fun r m2 => r = some (.int (nI (s_sum (fun b => 3 + 8 * s_sz n rl b) (s_nb n rl)))) ∧ m2 = m) from h _ 0 (Nat.zero_add _)
  intro g
  induction g with
  | zero =>
    intro b hb
    have hb : b = s_nb n rl := by omega
    refine q_iload_n (pc' := 5) dX11_rawOfAll_4 rfl rfl ?_
    refine q_aload_n (pc' := 6) dX11_rawOfAll_5 rfl rfl ?_
    refine h_callV (pc' := 9) (M' := mX11_blocks) (As := []) dX11_rawOfAll_6 iX11_blocks lX11_329 rfl rfl rfl rfl (Nat.le_of_ble_eq_true rfl) (Nat.le_of_ble_eq_true rfl) rfl rfl ((k_blocks (d := d) hV).up (by omega)) (fun r m' hq => ?_)
    obtain ⟨rfl, hmm⟩ := hq
    subst m'
    refine q_icmp_geN (tgt := 31) (pc' := 12) dX11_rawOfAll_9 (by decide) rfl (by omega) (fun c_9 => ?_) (fun c_9 => ?_)
    rotate_left
    · omega
    refine q_iload_n (pc' := 32) dX11_rawOfAll_31 rfl rfl ?_
    refine q_iret dX11_rawOfAll_32 rfl rfl ⟨_, rfl, by rw [hb], rfl⟩
  | succ g ih =>
    intro b hb
    refine q_iload_n (pc' := 5) dX11_rawOfAll_4 rfl rfl ?_
    refine q_aload_n (pc' := 6) dX11_rawOfAll_5 rfl rfl ?_
    refine h_callV (pc' := 9) (M' := mX11_blocks) (As := []) dX11_rawOfAll_6 iX11_blocks lX11_329 rfl rfl rfl rfl (Nat.le_of_ble_eq_true rfl) (Nat.le_of_ble_eq_true rfl) rfl rfl ((k_blocks (d := d) hV).up (by omega)) (fun r m' hq => ?_)
    obtain ⟨rfl, hmm⟩ := hq
    subst m'
    refine q_icmp_geN (tgt := 31) (pc' := 12) dX11_rawOfAll_9 (by decide) rfl (by omega) (fun c_9 => ?_) (fun c_9 => ?_)
    · omega
    refine q_iload_n (pc' := 13) dX11_rawOfAll_12 rfl rfl ?_
    refine q_iconst (pc' := 14) (v := nI 3) dX11_rawOfAll_13 rfl rfl ?_
    refine q_bipush (pc' := 16) (v := nI 8) dX11_rawOfAll_14 rfl rfl ?_
    refine q_aload_n (pc' := 17) dX11_rawOfAll_16 rfl rfl ?_
    refine q_iload_n (pc' := 18) dX11_rawOfAll_17 rfl rfl ?_
    refine h_callV (pc' := 21) (M' := mX11_longOf) (As := [_]) dX11_rawOfAll_18 iX11_longOf lX11_283 rfl rfl rfl rfl (Nat.le_of_ble_eq_true rfl) (Nat.le_of_ble_eq_true rfl) rfl rfl (k_longOf hV (by omega)) (fun r m' hq => ?_)
    obtain ⟨rfl, hmm⟩ := hq
    subst m'
    refine q_imulN (pc' := 22) dX11_rawOfAll_21 rfl ?_
    refine q_iaddN (pc' := 23) dX11_rawOfAll_22 rfl ?_
    refine q_iaddN (pc' := 24) dX11_rawOfAll_23 rfl ?_
    refine q_istore_n (pc' := 25) (lv' := [_, _, _]) dX11_rawOfAll_24 (by decide) rfl rfl ?_
    refine q_iincN (pc' := 28) (j := 1) (lv' := [_, _, _]) dX11_rawOfAll_25 rfl (by decide) rfl rfl ?_
    refine q_goto (pc' := 4) dX11_rawOfAll_28 (by decide) ?_
    exact ih (b + 1) (by omega)
set_option maxHeartbeats 4000000 in
set_option maxRecDepth 20000 in
theorem k_oddOfAll {Z : q_Z} {m : q_Mm} {d : Nat} {n : Nat} {rl : Nat → Nat} {xs : Nat → Int64} (hM : MD m) (hV : MV m n rl xs) : q_V (q_g Z) mX11_oddOfAll (d+7) 0 0 0 [some (.ref (q_ad Z 215)), none, none] [] (q_W Z m) (q_P Z fun r m2 => r = some (.int (nI (s_sum (fun bk => s_cnt (s_ex n rl xs (s_ws xs) (s_wp n rl (s_ws xs) (s_five n rl xs) bk) bk (s_wf n rl xs (s_ws xs) (s_five n rl xs) bk).1) (s_sz n rl bk)) (s_nb n rl)))) ∧ Fr s_Sx m m2 ∧ Kp 215 s_Jx m m2) := by
  have hok := hV.2.2.2.2
  have hnb := s_nb_le hok hV.2.1
  refine q_aload_n (pc' := 1) dX11_oddOfAll_0 rfl rfl ?_
  refine h_callV (pc' := 4) (M' := mX11_layFive) (As := []) dX11_oddOfAll_1 iX11_layFive lX11_369 rfl rfl rfl rfl (Nat.le_of_ble_eq_true rfl) (Nat.le_of_ble_eq_true rfl) rfl rfl (k_layFive hM hV) (fun r m' hq => ?_)
  obtain ⟨rfl, f0, k0, F0⟩ := hq
  have f0 : Fr s_Sx m m' := f0.mono (by decide)
  have k0 : Kp 215 s_Jx m m' := k0.mono (by decide)
  refine q_iconst (pc' := 5) (v := nI 0) dX11_oddOfAll_4 rfl rfl ?_
  refine q_istore_n (pc' := 6) (lv' := [_, _, _]) dX11_oddOfAll_5 (by decide) rfl rfl ?_
  refine q_iconst (pc' := 7) (v := nI 0) dX11_oddOfAll_6 rfl rfl ?_
  refine q_istore_n (pc' := 8) (lv' := [_, _, _]) dX11_oddOfAll_7 (by decide) rfl rfl ?_
  suffices h : ∀ g b m1, b + g = s_nb n rl → Fr s_Sx m m1 → Kp 215 s_Jx m m1 → FV m1 (s_five n rl xs) → q_V (q_g Z) mX11_oddOfAll (d+7) 0 0 8 [some (.ref (q_ad Z 215)), some (.int (nI (s_sum (fun bk => s_cnt (s_ex n rl xs (s_ws xs) (s_wp n rl (s_ws xs) (s_five n rl xs) bk) bk (s_wf n rl xs (s_ws xs) (s_five n rl xs) bk).1) (s_sz n rl bk)) b))), some (.int (nI b))] [] (q_W Z (m1)) (q_P Z fun r m2 => r = some (.int (nI (s_sum (fun bk => s_cnt (s_ex n rl xs (s_ws xs) (s_wp n rl (s_ws xs) (s_five n rl xs) bk) bk (s_wf n rl xs (s_ws xs) (s_five n rl xs) bk).1) (s_sz n rl bk)) (s_nb n rl)))) ∧ Fr s_Sx m m2 ∧ Kp 215 s_Jx m m2) from h _ 0 m' (Nat.zero_add _) f0 k0 F0
  intro g
  induction g with
  | zero =>
    intro b m1 hb f1 k1 F1
    have hb : b = s_nb n rl := by omega
    have hV1 := hV.fr f1 (k1 20 (by decide)) (by decide) (by decide)
    refine q_iload_n (pc' := 9) dX11_oddOfAll_8 rfl rfl ?_
    refine q_aload_n (pc' := 10) dX11_oddOfAll_9 rfl rfl ?_
    refine h_callV (pc' := 13) (M' := mX11_blocks) (As := []) dX11_oddOfAll_10 iX11_blocks lX11_329 rfl rfl rfl rfl (Nat.le_of_ble_eq_true rfl) (Nat.le_of_ble_eq_true rfl) rfl rfl ((k_blocks hV1).up (Nat.zero_le _)) (fun r m' hq => ?_)
    obtain ⟨rfl, hmm⟩ := hq
    subst m'
    refine q_icmp_geN (tgt := 37) (pc' := 16) dX11_oddOfAll_13 (by decide) rfl (by omega) (fun c_13 => ?_) (fun c_13 => ?_)
    rotate_left
    · omega
    refine q_iload_n (pc' := 38) dX11_oddOfAll_37 rfl rfl ?_
    refine q_iret dX11_oddOfAll_38 rfl rfl ⟨_, rfl, by rw [hb], f1, k1⟩
  | succ g ih =>
    intro b m1 hb f1 k1 F1
    have hV1 := hV.fr f1 (k1 20 (by decide)) (by decide) (by decide)
    have hM1 := hM.fr f1 (by decide) (by decide)
    have hz := s_sz16 (n := n) hok b
    have hw := (s_tot_m (n := n) (xs := xs) hok (b := b) (by omega) (s_five n rl xs)).2
    refine q_iload_n (pc' := 9) dX11_oddOfAll_8 rfl rfl ?_
    refine q_aload_n (pc' := 10) dX11_oddOfAll_9 rfl rfl ?_
    refine h_callV (pc' := 13) (M' := mX11_blocks) (As := []) dX11_oddOfAll_10 iX11_blocks lX11_329 rfl rfl rfl rfl (Nat.le_of_ble_eq_true rfl) (Nat.le_of_ble_eq_true rfl) rfl rfl ((k_blocks hV1).up (Nat.zero_le _)) (fun r m' hq => ?_)
    obtain ⟨rfl, hmm⟩ := hq
    subst m'
    refine q_icmp_geN (tgt := 37) (pc' := 16) dX11_oddOfAll_13 (by decide) rfl (by omega) (fun c_13 => ?_) (fun c_13 => ?_)
    · omega
    refine q_aload_n (pc' := 17) dX11_oddOfAll_16 rfl rfl ?_
    refine q_iload_n (pc' := 18) dX11_oddOfAll_17 rfl rfl ?_
    refine h_callV (pc' := 21) (M' := mX11_layForm) (As := [_]) dX11_oddOfAll_18 iX11_layForm lX11_372 rfl rfl rfl rfl (Nat.le_of_ble_eq_true rfl) (Nat.le_of_ble_eq_true rfl) rfl rfl (k_layForm hM1 hV1 F1 (five_pos n rl xs) (by omega)) (fun r m' hq => ?_)
    obtain ⟨rfl, f2, k2, G2⟩ := hq
    have ih := fun m3 => ih (b + 1) m3 (by omega)
    have f3 := f1.trans (f2.mono (by decide) : Fr s_Sx m1 m')
    have k3 : Kp 215 s_Jx m m' := k1.trans (k2.mono (by decide))
    have F3 := F1.fr f2 (k2 35 (by decide)) (by decide) (by decide)
    obtain ⟨m3, hm3⟩ : ∃ z, z = m' := ⟨_, rfl⟩
    subst hm3
    refine q_iload_n (pc' := 22) dX11_oddOfAll_21 rfl rfl ?_
    refine q_aload_n (pc' := 23) dX11_oddOfAll_22 rfl rfl ?_
    refine h_getiE (pc' := 26) dX11_oddOfAll_23 fX11_289 rfl rfl (G2.2.2.2.2.1) rfl ?_
    refine h_callS (pc' := 29) (M' := mX11_bits) (As := [_]) dX11_oddOfAll_26 iX11_bits lX11_314 rfl rfl (Nat.le_of_ble_eq_true rfl) (Nat.le_of_ble_eq_true rfl) rfl rfl ((k_bits (by omega)).up (Nat.zero_le _)) (fun r m' hq => ?_)
    obtain ⟨rfl, hmm⟩ := hq
    subst m'
    refine q_iaddN (pc' := 30) dX11_oddOfAll_29 rfl ?_
    refine q_istore_n (pc' := 31) (lv' := [_, _, _]) dX11_oddOfAll_30 (by decide) rfl rfl ?_
    refine q_iincN (pc' := 34) (j := 1) (lv' := [_, _, _]) dX11_oddOfAll_31 rfl (by decide) rfl rfl ?_
    refine q_goto (pc' := 8) dX11_oddOfAll_34 (by decide) ?_
    exact ih m3 f3 k3 F3
set_option maxHeartbeats 4000000 in
set_option maxRecDepth 20000 in
theorem k_blocksOf {Z : q_Z} {m : q_Mm} {d : Nat} {n : Nat} {W : Nat} (hW : W ≤ 2) {rl : Nat → Nat} {xs : Nat → Int64} (hM : MD m) (hV : MV m n rl xs) : q_V (q_g Z) mX11_blocksOf (d+7) 0 0 0 [some (.ref (q_ad Z 215)), some (.int (nI W)), none, none] [] (q_W Z m) (q_P Z fun r m2 => r = some (.int (nI (s_sum (fun bk => if (s_wf n rl xs (s_ws xs) (s_five n rl xs) bk).1 = W then 1 else 0) (s_nb n rl)))) ∧ Fr s_Sx m m2 ∧ Kp 215 s_Jx m m2) := by
  have hok := hV.2.2.2.2
  have hnb := s_nb_le hok hV.2.1
  refine q_aload_n (pc' := 1) dX11_blocksOf_0 rfl rfl ?_
  refine h_callV (pc' := 4) (M' := mX11_layFive) (As := []) dX11_blocksOf_1 iX11_layFive lX11_369 rfl rfl rfl rfl (Nat.le_of_ble_eq_true rfl) (Nat.le_of_ble_eq_true rfl) rfl rfl (k_layFive hM hV) (fun r m' hq => ?_)
  obtain ⟨rfl, f0, k0, F0⟩ := hq
  have f0 : Fr s_Sx m m' := f0.mono (by decide)
  have k0 : Kp 215 s_Jx m m' := k0.mono (by decide)
  refine q_iconst (pc' := 5) (v := nI 0) dX11_blocksOf_4 rfl rfl ?_
  refine q_istore_n (pc' := 6) (lv' := [_, _, _, _]) dX11_blocksOf_5 (by decide) rfl rfl ?_
  refine q_iconst (pc' := 7) (v := nI 0) dX11_blocksOf_6 rfl rfl ?_
  refine q_istore_n (pc' := 8) (lv' := [_, _, _, _]) dX11_blocksOf_7 (by decide) rfl rfl ?_
  suffices h : ∀ g b m1, b + g = s_nb n rl → Fr s_Sx m m1 → Kp 215 s_Jx m m1 → FV m1 (s_five n rl xs) → q_V (q_g Z) mX11_blocksOf (d+7) 0 0 8 [some (.ref (q_ad Z 215)), some (.int (nI W)), some (.int (nI (s_sum (fun bk => if (s_wf n rl xs (s_ws xs) (s_five n rl xs) bk).1 = W then 1 else 0) b))), some (.int (nI b))] [] (q_W Z (m1)) (q_P Z fun r m2 => r = some (.int (nI (s_sum (fun bk => if (s_wf n rl xs (s_ws xs) (s_five n rl xs) bk).1 = W then 1 else 0) (s_nb n rl)))) ∧ Fr s_Sx m m2 ∧ Kp 215 s_Jx m m2) from h _ 0 m' (Nat.zero_add _) f0 k0 F0
  intro g
  induction g with
  | zero =>
    intro b m1 hb f1 k1 F1
    have hb : b = s_nb n rl := by omega
    have hV1 := hV.fr f1 (k1 20 (by decide)) (by decide) (by decide)
    refine q_iload_n (pc' := 9) dX11_blocksOf_8 rfl rfl ?_
    refine q_aload_n (pc' := 10) dX11_blocksOf_9 rfl rfl ?_
    refine h_callV (pc' := 13) (M' := mX11_blocks) (As := []) dX11_blocksOf_10 iX11_blocks lX11_329 rfl rfl rfl rfl (Nat.le_of_ble_eq_true rfl) (Nat.le_of_ble_eq_true rfl) rfl rfl ((k_blocks hV1).up (Nat.zero_le _)) (fun r m' hq => ?_)
    obtain ⟨rfl, hmm⟩ := hq
    subst m'
    refine q_icmp_geN (tgt := 43) (pc' := 16) dX11_blocksOf_13 (by decide) rfl (by omega) (fun c_13 => ?_) (fun c_13 => ?_)
    rotate_left
    · omega
    refine q_iload_n (pc' := 44) dX11_blocksOf_43 rfl rfl ?_
    refine q_iret dX11_blocksOf_44 rfl rfl ⟨_, rfl, by rw [hb], f1, k1⟩
  | succ g ih =>
    intro b m1 hb f1 k1 F1
    have hV1 := hV.fr f1 (k1 20 (by decide)) (by decide) (by decide)
    have hM1 := hM.fr f1 (by decide) (by decide)
    have hz := s_sz16 (n := n) hok b
    have hw := (s_tot_m (n := n) (xs := xs) hok (b := b) (by omega) (s_five n rl xs)).2
    refine q_iload_n (pc' := 9) dX11_blocksOf_8 rfl rfl ?_
    refine q_aload_n (pc' := 10) dX11_blocksOf_9 rfl rfl ?_
    refine h_callV (pc' := 13) (M' := mX11_blocks) (As := []) dX11_blocksOf_10 iX11_blocks lX11_329 rfl rfl rfl rfl (Nat.le_of_ble_eq_true rfl) (Nat.le_of_ble_eq_true rfl) rfl rfl ((k_blocks hV1).up (Nat.zero_le _)) (fun r m' hq => ?_)
    obtain ⟨rfl, hmm⟩ := hq
    subst m'
    refine q_icmp_geN (tgt := 43) (pc' := 16) dX11_blocksOf_13 (by decide) rfl (by omega) (fun c_13 => ?_) (fun c_13 => ?_)
    · omega
    refine q_aload_n (pc' := 17) dX11_blocksOf_16 rfl rfl ?_
    refine q_iload_n (pc' := 18) dX11_blocksOf_17 rfl rfl ?_
    refine h_callV (pc' := 21) (M' := mX11_layForm) (As := [_]) dX11_blocksOf_18 iX11_layForm lX11_372 rfl rfl rfl rfl (Nat.le_of_ble_eq_true rfl) (Nat.le_of_ble_eq_true rfl) rfl rfl (k_layForm hM1 hV1 F1 (five_pos n rl xs) (by omega)) (fun r m' hq => ?_)
    obtain ⟨rfl, f2, k2, G2⟩ := hq
    have ih := fun m3 => ih (b + 1) m3 (by omega)
    have f3 := f1.trans (f2.mono (by decide) : Fr s_Sx m1 m')
    have k3 : Kp 215 s_Jx m m' := k1.trans (k2.mono (by decide))
    have F3 := F1.fr f2 (k2 35 (by decide)) (by decide) (by decide)
    have ih := ih m' f3 k3 F3
    rw [show s_sum (fun bk => if (s_wf n rl xs (s_ws xs) (s_five n rl xs) bk).1 = W then 1 else 0) (b + 1) = s_sum (fun bk => if (s_wf n rl xs (s_ws xs) (s_five n rl xs) bk).1 = W then 1 else 0) b + (if (s_wf n rl xs (s_ws xs) (s_five n rl xs) b).1 = W then 1 else 0) from rfl] at ih
    refine q_iload_n (pc' := 22) dX11_blocksOf_21 rfl rfl ?_
    refine q_aload_n (pc' := 23) dX11_blocksOf_22 rfl rfl ?_
    refine h_getiE (pc' := 26) dX11_blocksOf_23 fX11_360 rfl rfl (G2.2.1) rfl ?_
    refine q_iload_n (pc' := 27) dX11_blocksOf_26 rfl rfl ?_
    refine q_icmp_neN (tgt := 34) (pc' := 30) dX11_blocksOf_27 (by decide) rfl (by omega) (fun c_27 => ?_) (fun c_27 => ?_)
    · rw [if_neg (by omega)] at ih
      refine q_iconst (pc' := 35) (v := nI 0) dX11_blocksOf_34 rfl rfl ?_
      refine q_iaddN (pc' := 36) dX11_blocksOf_35 rfl ?_
      refine q_istore_n (pc' := 37) (lv' := [_, _, _, _]) dX11_blocksOf_36 (by decide) rfl rfl ?_
      refine q_iincN (pc' := 40) (j := 1) (lv' := [_, _, _, _]) dX11_blocksOf_37 rfl (by decide) rfl rfl ?_
      refine q_goto (pc' := 8) dX11_blocksOf_40 (by decide) ?_
      exact ih
    · rw [if_pos (by omega)] at ih
      refine q_iconst (pc' := 31) (v := nI 1) dX11_blocksOf_30 rfl rfl ?_
      refine q_goto (pc' := 35) dX11_blocksOf_31 (by decide) ?_
      refine q_iaddN (pc' := 36) dX11_blocksOf_35 rfl ?_
      refine q_istore_n (pc' := 37) (lv' := [_, _, _, _]) dX11_blocksOf_36 (by decide) rfl rfl ?_
      refine q_iincN (pc' := 40) (j := 1) (lv' := [_, _, _, _]) dX11_blocksOf_37 rfl (by decide) rfl rfl ?_
      refine q_goto (pc' := 8) dX11_blocksOf_40 (by decide) ?_
      exact ih
set_option maxHeartbeats 4000000 in
set_option maxRecDepth 20000 in
theorem k_most {Z : q_Z} {m : q_Mm} {d : Nat} {n : Nat} {t : Bool} {x : Int32} {rl : Nat → Nat} {xs : Nat → Int64} (h : MAsk m t n rl xs) : q_V (q_g Z) mX11_most (d+8) 0 0 0 [some (.ref (q_ad Z 215)), some (.int x)] [] (q_W Z m) (q_P Z fun r m2 => r = some (.int (if t = true then s_most n rl xs x.toInt else -1000000)) ∧ Fr s_Sx m m2 ∧ Kp 215 s_Jx m m2) := by
  obtain ⟨hM, hV, ht, hn, hn6⟩ := h
  refine q_aload_n (pc' := 1) dX11_most_0 rfl rfl ?_
  refine h_getiE (pc' := 4) dX11_most_1 fX11_238 rfl rfl (ht) rfl ?_
  refine q_if_eqB (tgt := 17) (pc' := 7) dX11_most_4 (by decide) rfl (fun c_4 => ?_) (fun c_4 => ?_)
  · refine q_ldcw (pc' := 20) dX11_most_17 kX11_382 rfl ?_
    refine q_iret dX11_most_20 rfl rfl ⟨_, rfl, by rw [if_neg (by rw [c_4]; decide)], Fr.rf, Kp.rf⟩
  have hV := hV c_4
  rw [if_pos c_4]
  unfold s_most
  refine q_iload_n (pc' := 8) dX11_most_7 rfl rfl ?_
  refine q_iconst (pc' := 9) (v := nI 0) dX11_most_8 rfl rfl ?_
  refine q_bipush (pc' := 11) (v := nI 13) dX11_most_9 rfl rfl ?_
  refine h_callS (pc' := 14) (M' := mX11_in) (As := [_, _, _]) dX11_most_11 iX11_in lX11_99 rfl rfl (Nat.le_of_ble_eq_true rfl) (Nat.le_of_ble_eq_true rfl) rfl rfl (k_in.up (Nat.zero_le _)) (fun r m' hq => ?_)
  obtain ⟨rfl, hmm⟩ := hq
  subst m'
  rw [show (nI 0).toInt = 0 from rfl, show (nI 13).toInt = 13 from rfl]
  refine q_if_neB (tgt := 21) (pc' := 17) dX11_most_14 (by decide) rfl (fun c_14 => ?_) (fun c_14 => ?_)
  rotate_left
  · have c_14 := of_decide_eq_false c_14
    refine q_ldcw (pc' := 20) dX11_most_17 kX11_382 rfl ?_
    refine q_iret dX11_most_20 rfl rfl ⟨_, rfl, by rw [if_neg (by omega), if_neg (by omega), if_neg (by omega), if_neg (by omega), if_neg (by omega), if_neg (by omega), if_neg (by omega), if_neg (by omega), if_neg (by omega), if_neg (by omega), if_neg (by omega), if_neg (by omega)], Fr.rf, Kp.rf⟩
  have c_14 := of_decide_eq_true c_14
  refine q_iload_n (pc' := 22) dX11_most_21 rfl rfl ?_
  by_cases hy : x.toInt < 0 ∨ 10 < x.toInt
  · refine q_tabOut (tgt := 141) dX11_most_22 hy (by decide) ?_
    rw [if_neg (by omega), if_neg (by omega), if_neg (by omega), if_neg (by omega), if_neg (by omega), if_neg (by omega), if_neg (by omega), if_neg (by omega), if_neg (by omega), if_neg (by omega), if_neg (by omega), if_pos (by omega)]
    obtain ⟨j, hj, hx⟩ := z_ex (x := x) (n := 14) (by omega) (by omega) (by omega)
    subst hx
    rw [z_n (by omega)] at hy c_14 ⊢
    rw [show ((j : Int) - 11).toNat = j - 11 by omega]
    refine q_aload_n (pc' := 142) dX11_most_141 rfl rfl ?_
    refine q_iload_n (pc' := 143) dX11_most_142 rfl rfl ?_
    refine q_bipush (pc' := 145) (v := nI 11) dX11_most_143 rfl rfl ?_
    refine q_isubN (pc' := 146) dX11_most_145 (by omega) rfl ?_
    refine h_callV (pc' := 149) (M' := mX11_blocksOf) (As := [_]) dX11_most_146 iX11_blocksOf lX11_476 rfl rfl rfl rfl (Nat.le_of_ble_eq_true rfl) (Nat.le_of_ble_eq_true rfl) rfl rfl (k_blocksOf (W := j - 11) (by omega) hM hV) (fun r m' hq => ?_)
    obtain ⟨rfl, f1, k1⟩ := hq
    refine q_iret dX11_most_149 rfl rfl ⟨_, rfl, rfl, f1, k1⟩
  have hy3 : x.toInt = 0 ∨ x.toInt = 1 ∨ x.toInt = 2 ∨ x.toInt = 3 ∨ x.toInt = 4 ∨ x.toInt = 5 ∨ x.toInt = 6 ∨ x.toInt = 7 ∨ x.toInt = 8 ∨ x.toInt = 9 ∨ x.toInt = 10 := by omega
  rcases hy3 with z | z | z | z | z | z | z | z | z | z | z
  · refine q_tabIn (tgt := 80) dX11_most_22 (by omega) (by omega) (by rw [z]; rfl) (by decide) ?_
    refine q_aload_n (pc' := 81) dX11_most_80 rfl rfl ?_
    refine h_callV (pc' := 84) (M' := mX11_blocks) (As := []) dX11_most_81 iX11_blocks lX11_329 rfl rfl rfl rfl (Nat.le_of_ble_eq_true rfl) (Nat.le_of_ble_eq_true rfl) rfl rfl ((k_blocks (d := d) hV).up (by omega)) (fun r m' hq => ?_)
    obtain ⟨rfl, hmm⟩ := hq
    subst m'
    refine q_iret dX11_most_84 rfl rfl ⟨_, rfl, by rw [z]; rfl, Fr.rf, Kp.rf⟩
  · refine q_tabIn (tgt := 85) dX11_most_22 (by omega) (by omega) (by rw [z]; rfl) (by decide) ?_
    refine q_aload_n (pc' := 86) dX11_most_85 rfl rfl ?_
    refine h_callV (pc' := 89) (M' := mX11_costOfAll) (As := []) dX11_most_86 iX11_costOfAll lX11_452 rfl rfl rfl rfl (Nat.le_of_ble_eq_true rfl) (Nat.le_of_ble_eq_true rfl) rfl rfl (k_costOfAll hM hV) (fun r m' hq => ?_)
    obtain ⟨rfl, f1, k1⟩ := hq
    refine q_iret dX11_most_89 rfl rfl ⟨_, rfl, by rw [z]; rfl, f1, k1⟩
  · refine q_tabIn (tgt := 90) dX11_most_22 (by omega) (by omega) (by rw [z]; rfl) (by decide) ?_
    refine q_aload_n (pc' := 91) dX11_most_90 rfl rfl ?_
    refine h_callV (pc' := 94) (M' := mX11_rawOfAll) (As := []) dX11_most_91 iX11_rawOfAll lX11_461 rfl rfl rfl rfl (Nat.le_of_ble_eq_true rfl) (Nat.le_of_ble_eq_true rfl) rfl rfl ((k_rawOfAll (d := d) hV).up (by omega)) (fun r m' hq => ?_)
    obtain ⟨rfl, hmm⟩ := hq
    subst m'
    refine q_iret dX11_most_94 rfl rfl ⟨_, rfl, by rw [z]; rfl, Fr.rf, Kp.rf⟩
  · refine q_tabIn (tgt := 95) dX11_most_22 (by omega) (by omega) (by rw [z]; rfl) (by decide) ?_
    refine q_aload_n (pc' := 96) dX11_most_95 rfl rfl ?_
    refine q_iconst (pc' := 97) (v := nI 0) dX11_most_96 rfl rfl ?_
    refine h_callV (pc' := 100) (M' := mX11_unlike) (As := [_]) dX11_most_97 iX11_unlike lX11_464 rfl rfl rfl rfl (Nat.le_of_ble_eq_true rfl) (Nat.le_of_ble_eq_true rfl) rfl rfl ((k_unlikeAll (d := d) hV).up (by omega)) (fun r m' hq => ?_)
    obtain ⟨rfl, hmm⟩ := hq
    subst m'
    refine q_iret dX11_most_100 rfl rfl ⟨_, rfl, by rw [z]; rfl, Fr.rf, Kp.rf⟩
  · refine q_tabIn (tgt := 101) dX11_most_22 (by omega) (by omega) (by rw [z]; rfl) (by decide) ?_
    refine q_aload_n (pc' := 102) dX11_most_101 rfl rfl ?_
    refine h_callV (pc' := 105) (M' := mX11_runs) (As := []) dX11_most_102 iX11_runs lX11_467 rfl rfl rfl rfl (Nat.le_of_ble_eq_true rfl) (Nat.le_of_ble_eq_true rfl) rfl rfl ((k_runs (d := d) hV).up (by omega)) (fun r m' hq => ?_)
    obtain ⟨rfl, hmm⟩ := hq
    subst m'
    refine q_iret dX11_most_105 rfl rfl ⟨_, rfl, by rw [z]; rfl, Fr.rf, Kp.rf⟩
  · refine q_tabIn (tgt := 106) dX11_most_22 (by omega) (by omega) (by rw [z]; rfl) (by decide) ?_
    refine q_aload_n (pc' := 107) dX11_most_106 rfl rfl ?_
    refine q_iconst (pc' := 108) (v := nI 0) dX11_most_107 rfl rfl ?_
    refine h_callV (pc' := 111) (M' := mX11_manyOf) (As := [_]) dX11_most_108 iX11_manyOf lX11_470 rfl rfl rfl rfl (Nat.le_of_ble_eq_true rfl) (Nat.le_of_ble_eq_true rfl) rfl rfl ((k_finites (d := d) hV).up (by omega)) (fun r m' hq => ?_)
    obtain ⟨rfl, hmm⟩ := hq
    subst m'
    refine q_iret dX11_most_111 rfl rfl ⟨_, rfl, by rw [z]; rfl, Fr.rf, Kp.rf⟩
  · refine q_tabIn (tgt := 112) dX11_most_22 (by omega) (by omega) (by rw [z]; rfl) (by decide) ?_
    refine q_aload_n (pc' := 113) dX11_most_112 rfl rfl ?_
    refine q_iconst (pc' := 114) (v := nI 1) dX11_most_113 rfl rfl ?_
    refine h_callV (pc' := 117) (M' := mX11_manyOf) (As := [_]) dX11_most_114 iX11_manyOf lX11_470 rfl rfl rfl rfl (Nat.le_of_ble_eq_true rfl) (Nat.le_of_ble_eq_true rfl) rfl rfl ((k_missing (d := d) hV).up (by omega)) (fun r m' hq => ?_)
    obtain ⟨rfl, hmm⟩ := hq
    subst m'
    refine q_iret dX11_most_117 rfl rfl ⟨_, rfl, by rw [z]; rfl, Fr.rf, Kp.rf⟩
  · refine q_tabIn (tgt := 118) dX11_most_22 (by omega) (by omega) (by rw [z]; rfl) (by decide) ?_
    refine q_aload_n (pc' := 119) dX11_most_118 rfl rfl ?_
    refine q_iconst (pc' := 120) (v := nI 1) dX11_most_119 rfl rfl ?_
    refine h_callV (pc' := 123) (M' := mX11_unlike) (As := [_]) dX11_most_120 iX11_unlike lX11_464 rfl rfl rfl rfl (Nat.le_of_ble_eq_true rfl) (Nat.le_of_ble_eq_true rfl) rfl rfl ((k_unlikeMis (d := d) hV).up (by omega)) (fun r m' hq => ?_)
    obtain ⟨rfl, hmm⟩ := hq
    subst m'
    refine q_iret dX11_most_123 rfl rfl ⟨_, rfl, by rw [z]; rfl, Fr.rf, Kp.rf⟩
  · refine q_tabIn (tgt := 124) dX11_most_22 (by omega) (by omega) (by rw [z]; rfl) (by decide) ?_
    refine q_aload_n (pc' := 125) dX11_most_124 rfl rfl ?_
    refine q_iconst (pc' := 126) (v := nI 2) dX11_most_125 rfl rfl ?_
    refine h_callV (pc' := 129) (M' := mX11_manyOf) (As := [_]) dX11_most_126 iX11_manyOf lX11_470 rfl rfl rfl rfl (Nat.le_of_ble_eq_true rfl) (Nat.le_of_ble_eq_true rfl) rfl rfl ((k_minus (d := d) hV).up (by omega)) (fun r m' hq => ?_)
    obtain ⟨rfl, hmm⟩ := hq
    subst m'
    refine q_iret dX11_most_129 rfl rfl ⟨_, rfl, by rw [z]; rfl, Fr.rf, Kp.rf⟩
  · refine q_tabIn (tgt := 130) dX11_most_22 (by omega) (by omega) (by rw [z]; rfl) (by decide) ?_
    refine q_aload_n (pc' := 131) dX11_most_130 rfl rfl ?_
    refine h_callV (pc' := 134) (M' := mX11_oddOfAll) (As := []) dX11_most_131 iX11_oddOfAll lX11_473 rfl rfl rfl rfl (Nat.le_of_ble_eq_true rfl) (Nat.le_of_ble_eq_true rfl) rfl rfl (k_oddOfAll hM hV) (fun r m' hq => ?_)
    obtain ⟨rfl, f1, k1⟩ := hq
    refine q_iret dX11_most_134 rfl rfl ⟨_, rfl, by rw [z]; rfl, f1, k1⟩
  · refine q_tabIn (tgt := 135) dX11_most_22 (by omega) (by omega) (by rw [z]; rfl) (by decide) ?_
    refine q_aload_n (pc' := 136) dX11_most_135 rfl rfl ?_
    refine q_iconst (pc' := 137) (v := nI 2) dX11_most_136 rfl rfl ?_
    refine h_callV (pc' := 140) (M' := mX11_unlike) (As := [_]) dX11_most_137 iX11_unlike lX11_464 rfl rfl rfl rfl (Nat.le_of_ble_eq_true rfl) (Nat.le_of_ble_eq_true rfl) rfl rfl ((k_unlikePart (d := d) hV).up (by omega)) (fun r m' hq => ?_)
    obtain ⟨rfl, hmm⟩ := hq
    subst m'
    refine q_iret dX11_most_140 rfl rfl ⟨_, rfl, by rw [z]; rfl, Fr.rf, Kp.rf⟩
set_option maxHeartbeats 4000000 in
set_option maxRecDepth 20000 in
theorem k_alone {Z : q_Z} {m : q_Mm} {d : Nat} {n : Nat} {t : Bool} {x : Int32} {rl : Nat → Nat} {xs : Nat → Int64} (h : MAsk m t n rl xs) : q_V (q_g Z) mX11_alone (d+5) 0 0 0 [some (.ref (q_ad Z 215)), some (.int x), none, none, none, none, none, none] [] (q_W Z m) (q_P Z fun r m2 => r = some (.int (if t = true ∧ n ≠ 0 ∧ 0 ≤ x.toInt ∧ x.toInt ≤ 1 then (if x.toInt = 0 then nI (s_cd (s_al (s_dt n rl xs) (s_pn (rl 2 + 1) 0 - 1)).1) else nI (s_al (s_dt n rl xs) (s_pn (rl 2 + 1) 0 - 1)).2) else -1)) ∧ Fr s_Sx m m2 ∧ Kp 215 s_Jx m m2) := by
  obtain ⟨hM, hV, ht, hn, hn6⟩ := h
  refine q_aload_n (pc' := 1) dX11_alone_0 rfl rfl ?_
  refine h_getiE (pc' := 4) dX11_alone_1 fX11_238 rfl rfl (ht) rfl ?_
  refine q_if_eqB (tgt := 23) (pc' := 7) dX11_alone_4 (by decide) rfl (fun c_4 => ?_) (fun c_4 => ?_)
  · refine q_iconst (pc' := 24) (v := (-1)) dX11_alone_23 rfl rfl ?_
    refine q_iret dX11_alone_24 rfl rfl ⟨_, rfl, by rw [if_neg (fun z => by rw [c_4] at z; exact absurd z.1 (by decide))], Fr.rf, Kp.rf⟩
  have hV := hV c_4
  refine q_aload_n (pc' := 8) dX11_alone_7 rfl rfl ?_
  refine h_getiE (pc' := 11) dX11_alone_8 fX11_242 rfl rfl (hn) rfl ?_
  refine q_if_eqN (tgt := 23) (pc' := 14) dX11_alone_11 (by decide) rfl (by omega) (fun c_11 => ?_) (fun c_11 => ?_)
  · refine q_iconst (pc' := 24) (v := (-1)) dX11_alone_23 rfl rfl ?_
    refine q_iret dX11_alone_24 rfl rfl ⟨_, rfl, by rw [if_neg (fun z => z.2.1 c_11)], Fr.rf, Kp.rf⟩
  refine q_iload_n (pc' := 15) dX11_alone_14 rfl rfl ?_
  refine q_iconst (pc' := 16) (v := nI 0) dX11_alone_15 rfl rfl ?_
  refine q_iconst (pc' := 17) (v := nI 1) dX11_alone_16 rfl rfl ?_
  refine h_callS (pc' := 20) (M' := mX11_in) (As := [_, _, _]) dX11_alone_17 iX11_in lX11_99 rfl rfl (Nat.le_of_ble_eq_true rfl) (Nat.le_of_ble_eq_true rfl) rfl rfl (k_in.up (Nat.zero_le _)) (fun r m' hq => ?_)
  obtain ⟨rfl, hmm⟩ := hq
  subst m'
  rw [show (nI 0).toInt = 0 from rfl, show (nI 1).toInt = 1 from rfl]
  refine q_if_neB (tgt := 25) (pc' := 23) dX11_alone_20 (by decide) rfl (fun c_20 => ?_) (fun c_20 => ?_)
  rotate_left
  · have c_20 := of_decide_eq_false c_20
    refine q_iconst (pc' := 24) (v := (-1)) dX11_alone_23 rfl rfl ?_
    refine q_iret dX11_alone_24 rfl rfl ⟨_, rfl, by rw [if_neg (fun z => c_20 ⟨z.2.2.1, z.2.2.2⟩)], Fr.rf, Kp.rf⟩
  have c_20 := of_decide_eq_true c_20
  rw [if_pos ⟨c_4, by omega, c_20.1, c_20.2⟩]
  have hok := hV.2.2.2.2
  have h2 := hok.2.2.1
  have hnb := s_nb_le hok hn6
  have hdt : ∀ p, s_dt n rl xs p ≤ 64000 := fun p => s_dt_le hok hn6 xs p
  obtain ⟨D, hD⟩ : ∃ D, s_dt n rl xs = D := ⟨_, rfl⟩
  have hDp : ∀ p, s_sum (fun b => s_dc n rl (s_ws xs) b p) (s_nb n rl) = D p := fun p => by rw [← hD]; rfl
  rw [hD] at hdt ⊢
  have hal := fun k => (s_al_le (f := D) (c := 64000) k (fun i _ => hdt i))
  refine q_iconst (pc' := 26) (v := (-1)) dX11_alone_25 rfl rfl ?_
  refine q_istore_n (pc' := 27) (lv' := [_, _, _, _, _, _, _, _]) dX11_alone_26 (by decide) rfl rfl ?_
  refine q_iconst (pc' := 28) (v := nI 0) dX11_alone_27 rfl rfl ?_
  refine q_istore_n (pc' := 29) (lv' := [_, _, _, _, _, _, _, _]) dX11_alone_28 (by decide) rfl rfl ?_
  refine q_iconst (pc' := 30) (v := nI 0) dX11_alone_29 rfl rfl ?_
  refine q_istore (pc' := 32) (lv' := [_, _, _, _, _, _, _, _]) dX11_alone_30 (by decide) rfl rfl ?_
  suffices h : ∀ g e m1 u v w, e + g = rl 2 + 1 → Fr [215, 227] m m1 → Kp 215 [23, 25, 28, 29] m m1 → q_V (q_g Z) mX11_alone (d+5) 0 0 32 [some (.ref (q_ad Z 215)), some (.int x), some (.int (if s_pn e 0 = 0 then -1 else nI (s_cd (s_al D (s_pn e 0 - 1)).1))), some (.int (if s_pn e 0 = 0 then nI 0 else nI (s_al D (s_pn e 0 - 1)).2)), some (.int (nI e)), u, v, w] [] (q_W Z (m1)) (q_P Z fun r m2 => r = some (.int (if x.toInt = 0 then nI (s_cd (s_al (D) (s_pn (rl 2 + 1) 0 - 1)).1) else nI (s_al (D) (s_pn (rl 2 + 1) 0 - 1)).2)) ∧ Fr s_Sx m m2 ∧ Kp 215 s_Jx m m2) from h _ 0 m _ _ _ (Nat.zero_add _) Fr.rf Kp.rf
  intro g
  induction g with
  | zero =>
    intro e m1 u v w he f1 k1
    obtain rfl : e = rl 2 + 1 := by omega
    have hr1 : m1.2.2.1 224 2 = nI (rl 2) := (congrFun (f1.a (by decide)) 2).trans (hV.2.2.2.1 2 (by decide))
    have hp0 : ¬ s_pn (rl 2 + 1) 0 = 0 := by
      have : 1 * 2 ≤ (rl 2 + 1) * (rl 2 + 1 + 1) := Nat.mul_le_mul (by omega) (by omega)
      unfold s_pn
      omega
    rw [if_neg hp0, if_neg hp0]
    refine q_iload (pc' := 34) dX11_alone_32 rfl rfl ?_
    refine q_aload_n (pc' := 35) dX11_alone_34 rfl rfl ?_
    refine h_getr (pc' := 38) dX11_alone_35 fX11_36 rfl rfl rfl ?_
    refine q_iconst (pc' := 39) (v := nI 2) dX11_alone_38 rfl rfl ?_
    refine h_ialdE (pc' := 40) dX11_alone_39 rfl (rfl) (by omega) (by decide) (hr1) rfl ?_
    refine q_icmp_gtN (tgt := 128) (pc' := 43) dX11_alone_40 (by decide) rfl (by omega) (fun c_40 => ?_) (fun c_40 => ?_)
    rotate_left
    · omega
    refine q_iload_n (pc' := 129) dX11_alone_128 rfl rfl ?_
    refine q_if_ne (tgt := 136) (pc' := 132) dX11_alone_129 (by decide) rfl (fun c_129 => ?_) (fun c_129 => ?_)
    · rw [z_eq, z_0] at c_129
      refine q_iload_n (pc' := 137) dX11_alone_136 rfl rfl ?_
      refine q_iret dX11_alone_137 rfl rfl ⟨_, rfl, by rw [if_neg c_129], f1.mono (by decide), k1.mono (by decide)⟩
    · rw [z_eq, z_0] at c_129
      refine q_iload_n (pc' := 133) dX11_alone_132 rfl rfl ?_
      refine q_goto (pc' := 137) dX11_alone_133 (by decide) ?_
      refine q_iret dX11_alone_137 rfl rfl ⟨_, rfl, by rw [if_pos c_129], f1.mono (by decide), k1.mono (by decide)⟩
  | succ g ih =>
    intro e m1 u v w he f1 k1
    have hr1 : m1.2.2.1 224 2 = nI (rl 2) := (congrFun (f1.a (by decide)) 2).trans (hV.2.2.2.1 2 (by decide))
    refine q_iload (pc' := 34) dX11_alone_32 rfl rfl ?_
    refine q_aload_n (pc' := 35) dX11_alone_34 rfl rfl ?_
    refine h_getr (pc' := 38) dX11_alone_35 fX11_36 rfl rfl rfl ?_
    refine q_iconst (pc' := 39) (v := nI 2) dX11_alone_38 rfl rfl ?_
    refine h_ialdE (pc' := 40) dX11_alone_39 rfl (rfl) (by omega) (by decide) (hr1) rfl ?_
    refine q_icmp_gtN (tgt := 128) (pc' := 43) dX11_alone_40 (by decide) rfl (by omega) (fun c_40 => ?_) (fun c_40 => ?_)
    · omega
    refine q_iconst (pc' := 44) (v := nI 0) dX11_alone_43 rfl rfl ?_
    refine q_istore (pc' := 46) (lv' := [_, _, _, _, _, _, _, _]) dX11_alone_44 (by decide) rfl rfl ?_
    suffices h : ∀ g2 f m1 v w, f + g2 = e + 1 → Fr [215, 227] m m1 → Kp 215 [23, 25, 28, 29] m m1 → q_V (q_g Z) mX11_alone (d+5) 0 0 46 [some (.ref (q_ad Z 215)), some (.int x), some (.int (if s_pn e f = 0 then -1 else nI (s_cd (s_al D (s_pn e f - 1)).1))), some (.int (if s_pn e f = 0 then nI 0 else nI (s_al D (s_pn e f - 1)).2)), some (.int (nI e)), some (.int (nI f)), v, w] [] (q_W Z (m1)) (q_P Z fun r m2 => r = some (.int (if x.toInt = 0 then nI (s_cd (s_al (D) (s_pn (rl 2 + 1) 0 - 1)).1) else nI (s_al (D) (s_pn (rl 2 + 1) 0 - 1)).2)) ∧ Fr s_Sx m m2 ∧ Kp 215 s_Jx m m2) from h _ 0 m1 _ _ (Nat.zero_add _) f1 k1
    intro g2
    induction g2 with
    | zero =>
      intro f m1 v w hf f1 k1
      obtain rfl : f = e + 1 := by omega
      rw [k_pn_next0 ⟨e, by omega⟩]
      refine q_iload (pc' := 48) dX11_alone_46 rfl rfl ?_
      refine q_iload (pc' := 50) dX11_alone_48 rfl rfl ?_
      refine q_icmp_gtN (tgt := 122) (pc' := 53) dX11_alone_50 (by decide) rfl (by omega) (fun c_50 => ?_) (fun c_50 => ?_)
      rotate_left
      · omega
      refine q_iincN (pc' := 125) (j := 1) (lv' := [_, _, _, _, _, _, _, _]) dX11_alone_122 rfl (by decide) rfl rfl ?_
      refine q_goto (pc' := 32) dX11_alone_125 (by decide) ?_
      exact ih (e + 1) m1 _ _ _ (by omega) f1 k1
    | succ g2 ih2 =>
      intro f m1 v w hf f1 k1
      have ih2 := fun m3 v w => ih2 (f + 1) m3 v w (by omega)
      have hcd := k_cd_pn (e := e) (f := f) (by omega) (by omega)
      have hp120 : s_pn e f < 120 := s_pn_lt (by omega) (by omega)
      rw [show s_pn e (f + 1) = s_pn e f + 1 from rfl, if_neg (Nat.succ_ne_zero _), if_neg (Nat.succ_ne_zero _), Nat.add_sub_cancel] at ih2
      generalize s_pn e f = p at hcd ih2 hp120 ⊢
      refine q_iload (pc' := 48) dX11_alone_46 rfl rfl ?_
      refine q_iload (pc' := 50) dX11_alone_48 rfl rfl ?_
      refine q_icmp_gtN (tgt := 122) (pc' := 53) dX11_alone_50 (by decide) rfl (by omega) (fun c_50 => ?_) (fun c_50 => ?_)
      · omega
      refine q_iconst (pc' := 54) (v := nI 0) dX11_alone_53 rfl rfl ?_
      refine q_istore (pc' := 56) (lv' := [_, _, _, _, _, _, _, _]) dX11_alone_54 (by decide) rfl rfl ?_
      refine q_iconst (pc' := 57) (v := nI 0) dX11_alone_56 rfl rfl ?_
      refine q_istore (pc' := 59) (lv' := [_, _, _, _, _, _, _, _]) dX11_alone_57 (by decide) rfl rfl ?_
      suffices h : ∀ g3 b m2, b + g3 = s_nb n rl → Fr [215, 227] m m2 → Kp 215 [23, 25, 28, 29] m m2 → q_V (q_g Z) mX11_alone (d+5) 0 0 59 [some (.ref (q_ad Z 215)), some (.int x), some (.int (if p = 0 then -1 else nI (s_cd (s_al D (p - 1)).1))), some (.int (if p = 0 then nI 0 else nI (s_al D (p - 1)).2)), some (.int (nI e)), some (.int (nI f)), some (.int (nI (s_sum (fun b => s_dc n rl (s_ws xs) b p) b))), some (.int (nI b))] [] (q_W Z (m2)) (q_P Z fun r m2 => r = some (.int (if x.toInt = 0 then nI (s_cd (s_al (D) (s_pn (rl 2 + 1) 0 - 1)).1) else nI (s_al (D) (s_pn (rl 2 + 1) 0 - 1)).2)) ∧ Fr s_Sx m m2 ∧ Kp 215 s_Jx m m2) from h _ 0 m1 (Nat.zero_add _) f1 k1
      intro g3
      induction g3 with
      | zero =>
        intro b m2 hb f2 k2
        have hb : b = s_nb n rl := by omega
        have hV2 := hV.fr f2 (k2 20 (by decide)) (by decide) (by decide)
        refine q_iload (pc' := 61) dX11_alone_59 rfl rfl ?_
        refine q_aload_n (pc' := 62) dX11_alone_61 rfl rfl ?_
        refine h_callV (pc' := 65) (M' := mX11_blocks) (As := []) dX11_alone_62 iX11_blocks lX11_329 rfl rfl rfl rfl (Nat.le_of_ble_eq_true rfl) (Nat.le_of_ble_eq_true rfl) rfl rfl ((k_blocks hV2).up (Nat.zero_le _)) (fun r m' hq => ?_)
        obtain ⟨rfl, hmm⟩ := hq
        subst m'
        refine q_icmp_geN (tgt := 93) (pc' := 68) dX11_alone_65 (by decide) rfl (by omega) (fun c_65 => ?_) (fun c_65 => ?_)
        rotate_left
        · omega
        rw [hb, hDp]
        have hDb := hdt p
        have take : s_al D p = (p, D p) → ∀ y z, q_V (q_g Z) mX11_alone (d+5) 0 0 104 [some (.ref (q_ad Z 215)), some (.int x), some (.int y), some (.int z), some (.int (nI e)), some (.int (nI f)), some (.int (nI (D p))), some (.int (nI (s_nb n rl)))] [] (q_W Z (m2)) (q_P Z fun r m2 => r = some (.int (if x.toInt = 0 then nI (s_cd (s_al (D) (s_pn (rl 2 + 1) 0 - 1)).1) else nI (s_al (D) (s_pn (rl 2 + 1) 0 - 1)).2)) ∧ Fr s_Sx m m2 ∧ Kp 215 s_Jx m m2) := by
          intro hc y z
          rw [hc] at ih2
          have ih2 := ih2 m2 (some (.int (nI (D p)))) (some (.int (nI (s_nb n rl)))) f2 k2
          rw [show s_cd ((p, D p) : Nat × Nat).1 = 16 * e + f from hcd] at ih2
          refine q_bipush (pc' := 106) (v := nI 16) dX11_alone_104 rfl rfl ?_
          refine q_iload (pc' := 108) dX11_alone_106 rfl rfl ?_
          refine q_imulN (pc' := 109) dX11_alone_108 rfl ?_
          refine q_iload (pc' := 111) dX11_alone_109 rfl rfl ?_
          refine q_iaddN (pc' := 112) dX11_alone_111 rfl ?_
          refine q_istore_n (pc' := 113) (lv' := [_, _, _, _, _, _, _, _]) dX11_alone_112 (by decide) rfl rfl ?_
          refine q_iload (pc' := 115) dX11_alone_113 rfl rfl ?_
          refine q_istore_n (pc' := 116) (lv' := [_, _, _, _, _, _, _, _]) dX11_alone_115 (by decide) rfl rfl ?_
          refine q_iincN (pc' := 119) (j := 1) (lv' := [_, _, _, _, _, _, _, _]) dX11_alone_116 rfl (by decide) rfl rfl ?_
          refine q_goto (pc' := 46) dX11_alone_119 (by decide) ?_
          exact ih2
        by_cases h0 : p = 0
        · rw [if_pos h0]
          refine q_iload_n (pc' := 94) dX11_alone_93 rfl rfl ?_
          refine q_iconst (pc' := 95) (v := (-1)) dX11_alone_94 rfl rfl ?_
          refine q_icmp_eq (tgt := 104) (pc' := 98) dX11_alone_95 (by decide) rfl (fun c_95 => ?_) (fun c_95 => ?_)
          · exact take (by rw [h0]; rfl) _ _
          · exact absurd rfl c_95
        · rw [if_neg h0, if_neg h0]
          obtain ⟨p', rfl⟩ : ∃ p', p = p' + 1 := ⟨p - 1, by omega⟩
          rw [Nat.add_sub_cancel]
          have hl := hal p'
          have hcb : s_cd (s_al D p').1 < 2 ^ 31 := by
            have := (s_cd_ok (show (s_al D p').1 < 120 by omega)).2.2
            omega
          have es : s_al D (p' + 1) = if D (p' + 1) < (s_al D p').2 then (p' + 1, D (p' + 1)) else s_al D p' := rfl
          refine q_iload_n (pc' := 94) dX11_alone_93 rfl rfl ?_
          refine q_iconst (pc' := 95) (v := (-1)) dX11_alone_94 rfl rfl ?_
          refine q_icmp_eq (tgt := 104) (pc' := 98) dX11_alone_95 (by decide) rfl (fun c_95 => ?_) (fun c_95 => ?_)
          · exact absurd c_95 (z_m1n hcb)
          refine q_iload (pc' := 100) dX11_alone_98 rfl rfl ?_
          refine q_iload_n (pc' := 101) dX11_alone_100 rfl rfl ?_
          refine q_icmp_geN (tgt := 116) (pc' := 104) dX11_alone_101 (by decide) rfl (by omega) (fun c_101 => ?_) (fun c_101 => ?_)
          · rw [es, if_neg (by omega)] at ih2
            refine q_iincN (pc' := 119) (j := 1) (lv' := [_, _, _, _, _, _, _, _]) dX11_alone_116 rfl (by decide) rfl rfl ?_
            refine q_goto (pc' := 46) dX11_alone_119 (by decide) ?_
            exact ih2 m2 _ _ f2 k2
          · exact take (by rw [es, if_pos (by omega)]) _ _
      | succ g3 ih3 =>
        intro b m2 hb f2 k2
        have hV2 := hV.fr f2 (k2 20 (by decide)) (by decide) (by decide)
        have hM2 := hM.fr f2 (by decide) (by decide)
        have hz := s_sz16 (n := n) hok b
        refine q_iload (pc' := 61) dX11_alone_59 rfl rfl ?_
        refine q_aload_n (pc' := 62) dX11_alone_61 rfl rfl ?_
        refine h_callV (pc' := 65) (M' := mX11_blocks) (As := []) dX11_alone_62 iX11_blocks lX11_329 rfl rfl rfl rfl (Nat.le_of_ble_eq_true rfl) (Nat.le_of_ble_eq_true rfl) rfl rfl ((k_blocks hV2).up (Nat.zero_le _)) (fun r m' hq => ?_)
        obtain ⟨rfl, hmm⟩ := hq
        subst m'
        refine q_icmp_geN (tgt := 93) (pc' := 68) dX11_alone_65 (by decide) rfl (by omega) (fun c_65 => ?_) (fun c_65 => ?_)
        · omega
        refine q_aload_n (pc' := 69) dX11_alone_68 rfl rfl ?_
        refine q_iload (pc' := 71) dX11_alone_69 rfl rfl ?_
        refine h_callV (pc' := 74) (M' := mX11_layBlock) (As := [_]) dX11_alone_71 iX11_layBlock lX11_351 rfl rfl rfl rfl (Nat.le_of_ble_eq_true rfl) (Nat.le_of_ble_eq_true rfl) rfl rfl ((k_layBlock (d := d) hV2 (by omega)).up (by omega)) (fun r m' hq => ?_)
        obtain ⟨rfl, f3, k3, H3⟩ := hq
        have hM3 := hM2.fr f3 (by decide) (by decide)
        obtain ⟨m3, hm3⟩ : ∃ z, z = m' := ⟨_, rfl⟩
        subst hm3
        refine q_iload (pc' := 76) dX11_alone_74 rfl rfl ?_
        refine q_aload_n (pc' := 77) dX11_alone_76 rfl rfl ?_
        refine q_iload (pc' := 79) dX11_alone_77 rfl rfl ?_
        refine q_iload (pc' := 81) dX11_alone_79 rfl rfl ?_
        refine h_callV (pc' := 84) (M' := mX11_decimalCost) (As := [_, _]) dX11_alone_81 iX11_decimalCost lX11_336 rfl rfl rfl rfl (Nat.le_of_ble_eq_true rfl) (Nat.le_of_ble_eq_true rfl) rfl rfl (k_decimalCost (e := e) (f := f) hM3 H3 hz (by omega) (by omega)) (fun r m' hq => ?_)
        obtain ⟨rfl, f4, k4, -⟩ := hq
        have e2 : s_mc (s_sz n rl b) (s_ms (fun i => s_w2 (xs (b * rl 0 + i)) e f) (s_sz n rl b)) = s_dc n rl (s_ws xs) b p := by
          show _ = s_mc (s_sz n rl b) (s_ms (fun i => s_w2 (xs (b * rl 0 + i)) (s_cd p / 16) (s_cd p % 16)) (s_sz n rl b))
          rw [hcd, show (16 * e + f) / 16 = e by omega, show (16 * e + f) % 16 = f by omega]
        rw [e2]
        refine q_iaddN (pc' := 85) dX11_alone_84 rfl ?_
        refine q_istore (pc' := 87) (lv' := [_, _, _, _, _, _, _, _]) dX11_alone_85 (by decide) rfl rfl ?_
        refine q_iincN (pc' := 90) (j := 1) (lv' := [_, _, _, _, _, _, _, _]) dX11_alone_87 rfl (by decide) rfl rfl ?_
        refine q_goto (pc' := 59) dX11_alone_90 (by decide) ?_
        exact ih3 (b + 1) _ (by omega) (f2.trans (f3.trans (f4.mono (by decide)))) ((k2.trans (k3.mono (by decide))).trans (k4.mono (by decide)))
