/-! ===== the reference's near ===== -/
set_option maxHeartbeats 4000000 in
set_option maxRecDepth 20000 in
theorem k_near {Z : q_Z} {m : q_Mm} {d : Nat} {n : Nat} {t : Bool} {x y : Int32} {rl : Nat → Nat} {xs : Nat → Int64} (hV : t = true → MV m n rl xs) (ht : m.1 215 22 = q_b t) (hn : m.1 215 20 = nI n) (hn6 : n ≤ 64) : q_V (q_g Z) mX11_near (d+2) 0 0 0 [some (.ref (q_ad Z 215)), some (.int x), some (.int y), none, none, none, none] [] (q_W Z m) (q_P Z fun r m2 => r = some (.int (if (s_has t n x && s_has t n y) = true then s_bcl (xs (s_i x) ^^^ xs (s_i y)) else -1)) ∧ m2 = m) := by
  refine q_aload_n (pc' := 1) dX11_near_0 rfl rfl ?_
  refine q_iload_n (pc' := 2) dX11_near_1 rfl rfl ?_
  refine h_callV (pc' := 5) (M' := mX11_isPlace) (As := [_]) dX11_near_2 iX11_isPlace lX11_375 rfl rfl rfl rfl (Nat.le_of_ble_eq_true rfl) (Nat.le_of_ble_eq_true rfl) rfl rfl (k_isPlace ht hn hn6) (fun r m' hq => ?_)
  obtain ⟨rfl, hmm⟩ := hq
  subst m'
  refine q_if_eqB (tgt := 16) (pc' := 8) dX11_near_5 (by decide) rfl (fun c_5 => ?_) (fun c_5 => ?_)
  · refine q_iconst (pc' := 17) (v := (-1)) dX11_near_16 rfl rfl ?_
    refine q_iret dX11_near_17 rfl rfl ⟨_, rfl, by rw [c_5, Bool.false_and, if_neg (by decide)], rfl⟩
  refine q_aload_n (pc' := 9) dX11_near_8 rfl rfl ?_
  refine q_iload_n (pc' := 10) dX11_near_9 rfl rfl ?_
  refine h_callV (pc' := 13) (M' := mX11_isPlace) (As := [_]) dX11_near_10 iX11_isPlace lX11_375 rfl rfl rfl rfl (Nat.le_of_ble_eq_true rfl) (Nat.le_of_ble_eq_true rfl) rfl rfl (k_isPlace ht hn hn6) (fun r m' hq => ?_)
  obtain ⟨rfl, hmm⟩ := hq
  subst m'
  refine q_if_neB (tgt := 18) (pc' := 16) dX11_near_13 (by decide) rfl (fun c_13 => ?_) (fun c_13 => ?_)
  rotate_left
  · refine q_iconst (pc' := 17) (v := (-1)) dX11_near_16 rfl rfl ?_
    refine q_iret dX11_near_17 rfl rfl ⟨_, rfl, by rw [c_5, c_13, if_neg (by decide)], rfl⟩
  obtain ⟨i, hx, hi⟩ := z_has c_5 (by omega)
  obtain ⟨j, hy, hj⟩ := z_has c_13 (by omega)
  have htt : t = true := by
    unfold s_has at c_5
    rw [Bool.and_eq_true] at c_5
    exact c_5.1
  have hV := hV htt
  rw [c_5, c_13, Bool.and_self, if_pos rfl, hx, hy, s_i_n (by omega), s_i_n (by omega), s_bcl_n, s_pc_cnt]
  obtain ⟨v, hv⟩ : ∃ v, xs i ^^^ xs j = v := ⟨_, rfl⟩
  rw [hv]
  refine q_aload_n (pc' := 19) dX11_near_18 rfl rfl ?_
  refine h_getr (pc' := 22) dX11_near_19 fX11_33 rfl rfl rfl ?_
  refine q_iload_n (pc' := 23) dX11_near_22 rfl rfl ?_
  refine h_laldE (pc' := 24) dX11_near_23 rfl (rfl) (by omega) (by decide) (hV.2.2.1 i hi) rfl ?_
  refine q_aload_n (pc' := 25) dX11_near_24 rfl rfl ?_
  refine h_getr (pc' := 28) dX11_near_25 fX11_33 rfl rfl rfl ?_
  refine q_iload_n (pc' := 29) dX11_near_28 rfl rfl ?_
  refine h_laldE (pc' := 30) dX11_near_29 rfl (rfl) (by omega) (by decide) (hV.2.2.1 j hj) rfl ?_
  refine q_lxor (pc' := 31) dX11_near_30 rfl ?_
  rw [hv]
  refine q_lstore_n (pc' := 32) (lv' := [_, _, _, _, _, _, _]) dX11_near_31 (by decide) rfl rfl ?_
  refine q_iconst (pc' := 33) (v := nI 0) dX11_near_32 rfl rfl ?_
  refine q_istore (pc' := 35) (lv' := [_, _, _, _, _, _, _]) dX11_near_33 (by decide) rfl rfl ?_
  refine q_iconst (pc' := 36) (v := nI 0) dX11_near_35 rfl rfl ?_
  refine q_istore (pc' := 38) (lv' := [_, _, _, _, _, _, _]) dX11_near_36 (by decide) rfl rfl ?_
  suffices h : ∀ g k, k + g = 64 → q_V (q_g Z) mX11_near (d+2) 0 0 38 [some (.ref (q_ad Z 215)), some (.int (nI i)), some (.int (nI j)), some (.long v), none, some (.int (nI (s_cnt (fun i => decide (s_N v / 2 ^ i % 2 = 1)) k))), some (.int (nI k))] [] (q_W Z (m)) (q_P Z fun r m2 => r = some (.int (nI (s_cnt (fun i => decide (s_N v / 2 ^ i % 2 = 1)) 64))) ∧ m2 = m) from h 64 0 rfl
  intro g
  induction g with
  | zero =>
    intro k hk
    obtain rfl : k = 64 := by omega
    refine q_iload (pc' := 40) dX11_near_38 rfl rfl ?_
    refine q_bipush (pc' := 42) (v := nI 64) dX11_near_40 rfl rfl ?_
    refine q_icmp_geN (tgt := 72) (pc' := 45) dX11_near_42 (by decide) rfl (by omega) (fun c_42 => ?_) (fun c_42 => ?_)
    rotate_left
    · omega
    refine q_iload (pc' := 74) dX11_near_72 rfl rfl ?_
    refine q_iret dX11_near_74 rfl rfl ⟨_, rfl, rfl, rfl⟩
  | succ g ih =>
    intro k hk
    have ih := ih (k + 1) (by omega)
    have e : s_N ((v.toUInt64 >>> ((nI k).toInt64.toUInt64 &&& Int64.toUInt64 63)).toInt64 &&& 1) = s_N v / 2 ^ k % 2 := by
      rw [N_and, N_u v (nI k) k (z_us64 ⟨k, by omega⟩), show s_N 1 = 2 ^ 1 - 1 from rfl, Nat.and_two_pow_sub_one_eq_mod]
    have hc := s_cnt_le (fun i => decide (s_N v / 2 ^ i % 2 = 1)) k
    refine q_iload (pc' := 40) dX11_near_38 rfl rfl ?_
    refine q_bipush (pc' := 42) (v := nI 64) dX11_near_40 rfl rfl ?_
    refine q_icmp_geN (tgt := 72) (pc' := 45) dX11_near_42 (by decide) rfl (by omega) (fun c_42 => ?_) (fun c_42 => ?_)
    · omega
    refine q_iload (pc' := 47) dX11_near_45 rfl rfl ?_
    refine q_lload_n (pc' := 48) dX11_near_47 rfl rfl ?_
    refine q_iload (pc' := 50) dX11_near_48 rfl rfl ?_
    refine q_lushr (pc' := 51) dX11_near_50 rfl rfl ?_
    refine q_lconst (pc' := 52) (v := 1) dX11_near_51 rfl rfl ?_
    refine q_land (pc' := 53) dX11_near_52 rfl ?_
    refine q_lconst (pc' := 54) (v := 1) dX11_near_53 rfl rfl ?_
    refine q_lcmp (pc' := 55) dX11_near_54 rfl ?_
    refine q_if_neL (tgt := 62) (pc' := 58) dX11_near_55 (by decide) rfl (fun c_55 => ?_) (fun c_55 => ?_)
    · rw [s_cnt_f (decide_eq_false (fun z => c_55 (s_N_inj (e.trans z))))] at ih
      refine q_iconst (pc' := 63) (v := nI 0) dX11_near_62 rfl rfl ?_
      refine q_iaddN (pc' := 64) dX11_near_63 rfl ?_
      refine q_istore (pc' := 66) (lv' := [_, _, _, _, _, _, _]) dX11_near_64 (by decide) rfl rfl ?_
      refine q_iincN (pc' := 69) (j := 1) (lv' := [_, _, _, _, _, _, _]) dX11_near_66 rfl (by decide) rfl rfl ?_
      refine q_goto (pc' := 38) dX11_near_69 (by decide) ?_
      exact ih
    · rw [s_cnt_t (decide_eq_true (e.symm.trans (congrArg s_N c_55)))] at ih
      refine q_iconst (pc' := 59) (v := nI 1) dX11_near_58 rfl rfl ?_
      refine q_goto (pc' := 63) dX11_near_59 (by decide) ?_
      refine q_iaddN (pc' := 64) dX11_near_63 rfl ?_
      refine q_istore (pc' := 66) (lv' := [_, _, _, _, _, _, _]) dX11_near_64 (by decide) rfl rfl ?_
      refine q_iincN (pc' := 69) (j := 1) (lv' := [_, _, _, _, _, _, _]) dX11_near_66 rfl (by decide) rfl rfl ?_
      refine q_goto (pc' := 38) dX11_near_69 (by decide) ?_
      exact ih
