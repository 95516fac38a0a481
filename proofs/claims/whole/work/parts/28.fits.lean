/-! ===== Fits ===== -/
def s_pe (p : Nat) : Nat := s_find (fun e => decide (p < (e + 1) * (e + 2) / 2)) 15 0
def s_cd (p : Nat) : Nat := 16 * s_pe p + (p - s_pe p * (s_pe p + 1) / 2)
theorem s_cd_ok0 : ∀ p : Fin 120, s_cd p.1 / 16 < 15 ∧ s_cd p.1 % 16 < 15 ∧ s_cd p.1 < 256 := by decide +kernel
theorem s_cd_ok {p : Nat} (h : p < 120) : s_cd p / 16 < 15 ∧ s_cd p % 16 < 15 ∧ s_cd p < 256 := s_cd_ok0 ⟨p, h⟩
def CdOk (m : q_Mm) : Prop := ∀ p, p < 120 → m.2.2.1 190 p = nI (s_cd p)
/-- whether a VALUE can FIT at all; its R by each PAIR, s_no where it does not FIT -/
def s_able (v : Int64) : Bool := s_fin v && !decide (v = s_minus)
def s_wv (v : Int64) (p : Nat) : Int64 := if s_able v = true then s_whole (s_num v) (s_cd p / 16) (s_cd p % 16) else s_no
def FitsOk (m : q_Mm) : Prop := ∀ i, i < 64 → m.2.2.1 191 i = nI 0 ∨ (m.2.2.1 191 i = nI 1 ∧ ∀ p, p < 120 → m.2.2.2.1 193 (i * 120 + p) = s_wv (m.2.2.2.1 192 i) p)
theorem nn_num {v : Int64} (h : s_fin v = true) : FP.Core.val64 (s_num v) ≠ .nan := by
  unfold s_num
  split
  · exact dv_nn dv_0
  · exact dv_nn (dv_num h)
set_option maxHeartbeats 4000000 in
set_option maxRecDepth 20000 in
theorem c_learnOne {Z : q_Z} {m : q_Mm} {d : Nat} {pl : Nat} {v : Int64} (hD : DblOk m) (hC : CdOk m) (hpl : pl < 64) (hv : m.2.2.2.1 192 pl = v) : q_V (q_g Z) mX4_learnOne (d+2) 0 0 0 [some (.ref (q_ad Z 189)), some (.int (nI pl)), none, none, none, none] [] (q_W Z m) (q_P Z fun r m2 => r = none ∧ Fr [193] m m2 ∧ (∀ p, p < 120 → m2.2.2.2.1 193 (pl * 120 + p) = s_wv v p) ∧ ∀ j, (j < pl * 120 ∨ pl * 120 + 120 ≤ j) → m2.2.2.2.1 193 j = m.2.2.2.1 193 j) := by
  have lp : ∀ (ab : Nat) (x : UInt64), (ab = 1 ∧ s_able v = true ∧ x = s_num v ∧ FP.Core.val64 x ≠ .nan) ∨ (ab = 0 ∧ s_able v = false) → q_V (q_g Z) mX4_learnOne (d+2) 0 0 53 [some (.ref (q_ad Z 189)), some (.int (nI pl)), some (.int (nI ab)), some (.double x), none, none] [] (q_W Z (m)) (q_P Z fun r m2 => r = none ∧ Fr [193] m m2 ∧ (∀ p, p < 120 → m2.2.2.2.1 193 (pl * 120 + p) = s_wv v p) ∧ ∀ j, (j < pl * 120 ∨ pl * 120 + 120 ≤ j) → m2.2.2.2.1 193 j = m.2.2.2.1 193 j) := by
    intro ab x hab
    refine q_iconst (pc' := 54) (v := nI 0) dX4_learnOne_53 rfl rfl ?_
    refine q_istore (pc' := 56) (lv' := [_, _, _, _, _, _]) dX4_learnOne_54 (by decide) rfl rfl ?_
    suffices h : ∀ c p (m1 : q_Mm), p + c = 120 → Fr [193] m m1 → (∀ q, q < p → m1.2.2.2.1 193 (pl * 120 + q) = s_wv v q) → (∀ j, (j < pl * 120 ∨ pl * 120 + 120 ≤ j) → m1.2.2.2.1 193 j = m.2.2.2.1 193 j) → q_V (q_g Z) mX4_learnOne (d+2) 0 0 56 [some (.ref (q_ad Z 189)), some (.int (nI pl)), some (.int (nI ab)), some (.double x), none, some (.int (nI p))] [] (q_W Z (m1)) (q_P Z fun r m2 => r = none ∧ Fr [193] m m2 ∧ (∀ p, p < 120 → m2.2.2.2.1 193 (pl * 120 + p) = s_wv v p) ∧ ∀ j, (j < pl * 120 ∨ pl * 120 + 120 ≤ j) → m2.2.2.2.1 193 j = m.2.2.2.1 193 j) from h 120 0 m (by omega) Fr.rf (fun q h => absurd h (Nat.not_lt_zero q)) (fun _ _ => rfl)
    intro c
    induction c with
    | zero =>
      intro p m1 hp f1 e1 e2
      obtain rfl : p = 120 := by omega
      refine q_iload (pc' := 58) dX4_learnOne_56 rfl rfl ?_
      refine q_bipush (pc' := 60) (v := nI 120) dX4_learnOne_58 rfl rfl ?_
      refine q_icmp_geN (tgt := 118) (pc' := 63) dX4_learnOne_60 (by decide) rfl (by omega) (fun c_60 => ?_) (fun c_60 => ?_)
      · refine q_vret dX4_learnOne_118 rfl ⟨_, rfl, rfl, f1, e1, e2⟩
      · omega
    | succ c ih =>
      intro p m1 hp f1 e1 e2
      have hp1 : p < 120 := by omega
      obtain ⟨k1, k2, k3⟩ := s_cd_ok hp1
      have hD1 : DblOk m1 := by unfold DblOk; rw [f1.d (p := 4) (by decide), f1.d (p := 5) (by decide), f1.d (p := 2) (by decide), f1.d (p := 3) (by decide)]; exact hD
      have hcd : m1.2.2.1 190 p = nI (s_cd p) := (congrFun (f1.a (by decide)) p).trans (hC p hp1)
      have nx : ∀ w, w = s_wv v p → q_V (q_g Z) mX4_learnOne (d+2) 0 0 112 [some (.ref (q_ad Z 189)), some (.int (nI pl)), some (.int (nI ab)), some (.double x), none, some (.int (nI p))] [] (q_W Z (sL m1 193 (q_u (m1.2.2.2.1 193) (pl * 120 + p) w))) (q_P Z fun r m2 => r = none ∧ Fr [193] m m2 ∧ (∀ p, p < 120 → m2.2.2.2.1 193 (pl * 120 + p) = s_wv v p) ∧ ∀ j, (j < pl * 120 ∨ pl * 120 + 120 ≤ j) → m2.2.2.2.1 193 j = m.2.2.2.1 193 j) := by
        intro w hw
        refine q_iincN (pc' := 115) (j := 1) (lv' := [_, _, _, _, _, _]) dX4_learnOne_112 rfl (by decide) rfl rfl ?_
        refine q_goto (pc' := 56) dX4_learnOne_115 (by decide) ?_
        refine ih (p + 1) _ (by omega) (f1.L (by decide)) (fun q h => ?_) (fun j h => ?_)
        · show q_u (m1.2.2.2.1 193) (pl * 120 + p) w (pl * 120 + q) = _
          by_cases z : q = p
          · rw [z, q_u_s, hw]
          · rw [q_u_n _ _ (by omega)]
            exact e1 q (by omega)
        · show q_u (m1.2.2.2.1 193) (pl * 120 + p) w j = _
          rw [q_u_n _ _ (by omega)]
          exact e2 j h
      refine q_iload (pc' := 58) dX4_learnOne_56 rfl rfl ?_
      refine q_bipush (pc' := 60) (v := nI 120) dX4_learnOne_58 rfl rfl ?_
      refine q_icmp_geN (tgt := 118) (pc' := 63) dX4_learnOne_60 (by decide) rfl (by omega) (fun c_60 => ?_) (fun c_60 => ?_)
      · omega
      refine q_aload_n (pc' := 64) dX4_learnOne_63 rfl rfl ?_
      refine h_getr (pc' := 67) dX4_learnOne_64 fX4_23 rfl rfl rfl ?_
      refine q_iload_n (pc' := 68) dX4_learnOne_67 rfl rfl ?_
      refine q_bipush (pc' := 70) (v := nI 120) dX4_learnOne_68 rfl rfl ?_
      refine q_imulN (pc' := 71) dX4_learnOne_70 rfl ?_
      refine q_iload (pc' := 73) dX4_learnOne_71 rfl rfl ?_
      refine q_iaddN (pc' := 74) dX4_learnOne_73 rfl ?_
      refine q_iload_n (pc' := 75) dX4_learnOne_74 rfl rfl ?_
      refine q_if_eqN (tgt := 108) (pc' := 78) dX4_learnOne_75 (by decide) rfl (by omega) (fun c_75 => ?_) (fun c_75 => ?_)
      · have hs : s_wv v p = s_no := by
          unfold s_wv
          rcases hab with z | z
          · omega
          · rw [z.2]; rfl
        refine q_ldc2 (pc' := 111) dX4_learnOne_108 kX4_45 rfl ?_
        refine h_last (pc' := 112) dX4_learnOne_111 rfl (rfl) (by omega) (by decide) rfl ?_
        exact nx _ hs.symm
      · obtain ⟨a1, a2, a3, a4⟩ : ab = 1 ∧ s_able v = true ∧ x = s_num v ∧ FP.Core.val64 x ≠ .nan := by
          rcases hab with z | z
          · exact z
          · omega
        have hs : s_wv v p = s_whole x (s_cd p / 16) (s_cd p % 16) := by unfold s_wv; rw [if_pos a2, a3]
        refine q_aload_n (pc' := 79) dX4_learnOne_78 rfl rfl ?_
        refine h_getr (pc' := 82) dX4_learnOne_79 fX4_26 rfl rfl rfl ?_
        refine q_dload_n (pc' := 83) dX4_learnOne_82 rfl rfl ?_
        refine q_aload_n (pc' := 84) dX4_learnOne_83 rfl rfl ?_
        refine h_getr (pc' := 87) dX4_learnOne_84 fX4_9 rfl rfl rfl ?_
        refine q_iload (pc' := 89) dX4_learnOne_87 rfl rfl ?_
        refine h_ialdE (pc' := 90) dX4_learnOne_89 rfl (rfl) (by omega) (by decide) (hcd) rfl ?_
        refine q_iconst (pc' := 91) (v := nI 4) dX4_learnOne_90 rfl rfl ?_
        refine q_ishr (pc' := 92) dX4_learnOne_91 rfl ?_
        rw [pk_shrN (by omega) (nI 4 &&& 31) 4 rfl]
        refine q_aload_n (pc' := 93) dX4_learnOne_92 rfl rfl ?_
        refine h_getr (pc' := 96) dX4_learnOne_93 fX4_9 rfl rfl rfl ?_
        refine q_iload (pc' := 98) dX4_learnOne_96 rfl rfl ?_
        refine h_ialdE (pc' := 99) dX4_learnOne_98 rfl (rfl) (by omega) (by decide) (hcd) rfl ?_
        refine q_bipush (pc' := 101) (v := nI 15) dX4_learnOne_99 rfl rfl ?_
        refine q_iand (pc' := 102) dX4_learnOne_101 rfl ?_
        rw [pk_andN (by omega) 4 rfl]
        refine h_callV (pc' := 105) (M' := mX3_wholeOf) (As := [_, _, _]) dX4_learnOne_102 iX3_wholeOf lX4_53 rfl rfl rfl rfl (Nat.le_of_ble_eq_true rfl) (Nat.le_of_ble_eq_true rfl) rfl rfl (c_wholeOf hD1 a4 k1 k2) (fun r m' hq => ?_)
        obtain ⟨rfl, hmm⟩ := hq
        subst m'
        refine q_goto (pc' := 111) dX4_learnOne_105 (by decide) ?_
        refine h_last (pc' := 112) dX4_learnOne_111 rfl (rfl) (by omega) (by decide) rfl ?_
        exact nx _ hs.symm
  have no : s_able v = false → q_V (q_g Z) mX4_learnOne (d+2) 0 0 29 [some (.ref (q_ad Z 189)), some (.int (nI pl)), none, none, none, none] [] (q_W Z (m)) (q_P Z fun r m2 => r = none ∧ Fr [193] m m2 ∧ (∀ p, p < 120 → m2.2.2.2.1 193 (pl * 120 + p) = s_wv v p) ∧ ∀ j, (j < pl * 120 ∨ pl * 120 + 120 ≤ j) → m2.2.2.2.1 193 j = m.2.2.2.1 193 j) := by
    intro h
    refine q_iconst (pc' := 30) (v := nI 0) dX4_learnOne_29 rfl rfl ?_
    refine q_istore_n (pc' := 31) (lv' := [_, _, _, _, _, _]) dX4_learnOne_30 (by decide) rfl rfl ?_
    refine q_iload_n (pc' := 32) dX4_learnOne_31 rfl rfl ?_
    refine q_if_eqN (tgt := 51) (pc' := 35) dX4_learnOne_32 (by decide) rfl (by omega) (fun c_32 => ?_) (fun c_32 => ?_)
    · refine q_dconst0 (pc' := 52) dX4_learnOne_51 rfl ?_
      refine q_dstore_n (pc' := 53) (lv' := [_, _, _, _, _, _]) dX4_learnOne_52 (by decide) rfl rfl ?_
      exact lp 0 _ (Or.inr ⟨rfl, h⟩)
    · exact absurd c_32 (Nat.lt_irrefl 0)
  refine q_aload_n (pc' := 1) dX4_learnOne_0 rfl rfl ?_
  refine h_getr (pc' := 4) dX4_learnOne_1 fX4_19 rfl rfl rfl ?_
  refine q_iload_n (pc' := 5) dX4_learnOne_4 rfl rfl ?_
  refine h_laldE (pc' := 6) dX4_learnOne_5 rfl (rfl) (by omega) (by decide) (hv) rfl ?_
  refine h_callSN (pc' := 9) (M' := mX10_isFinite) (As := [_]) dX4_learnOne_6 iX10_isFinite nm_X4_41 rfl rfl (Nat.le_of_ble_eq_true rfl) (Nat.le_of_ble_eq_true rfl) rfl rfl (c_isFinite) (fun r m' hq => ?_)
  obtain ⟨rfl, hmm⟩ := hq
  subst m'
  refine q_if_eqB (tgt := 29) (pc' := 12) dX4_learnOne_9 (by decide) rfl (fun c_9 => ?_) (fun c_9 => ?_)
  · exact no (by unfold s_able; rw [c_9]; rfl)
  refine q_aload_n (pc' := 13) dX4_learnOne_12 rfl rfl ?_
  refine h_getr (pc' := 16) dX4_learnOne_13 fX4_19 rfl rfl rfl ?_
  refine q_iload_n (pc' := 17) dX4_learnOne_16 rfl rfl ?_
  refine h_laldE (pc' := 18) dX4_learnOne_17 rfl (rfl) (by omega) (by decide) (hv) rfl ?_
  refine q_ldc2 (pc' := 21) dX4_learnOne_18 kX4_45 rfl ?_
  refine q_lcmp (pc' := 22) dX4_learnOne_21 rfl ?_
  refine q_if_eqL (tgt := 29) (pc' := 25) dX4_learnOne_22 (by decide) rfl (fun c_22 => ?_) (fun c_22 => ?_)
  · exact no (by unfold s_able; rw [decide_eq_true (show v = s_minus from c_22)]; exact Bool.and_false _)
  refine q_iconst (pc' := 26) (v := nI 1) dX4_learnOne_25 rfl rfl ?_
  refine q_goto (pc' := 30) dX4_learnOne_26 (by decide) ?_
  refine q_istore_n (pc' := 31) (lv' := [_, _, _, _, _, _]) dX4_learnOne_30 (by decide) rfl rfl ?_
  refine q_iload_n (pc' := 32) dX4_learnOne_31 rfl rfl ?_
  refine q_if_eqN (tgt := 51) (pc' := 35) dX4_learnOne_32 (by decide) rfl (by omega) (fun c_32 => ?_) (fun c_32 => ?_)
  · exact absurd c_32 (by decide)
  refine q_aload_n (pc' := 36) dX4_learnOne_35 rfl rfl ?_
  refine h_getr (pc' := 39) dX4_learnOne_36 fX4_26 rfl rfl rfl ?_
  refine q_aload_n (pc' := 40) dX4_learnOne_39 rfl rfl ?_
  refine h_getr (pc' := 43) dX4_learnOne_40 fX4_19 rfl rfl rfl ?_
  refine q_iload_n (pc' := 44) dX4_learnOne_43 rfl rfl ?_
  refine h_laldE (pc' := 45) dX4_learnOne_44 rfl (rfl) (by omega) (by decide) (hv) rfl ?_
  refine h_callV (pc' := 48) (M' := mX3_numberOf) (As := [_]) dX4_learnOne_45 iX3_numberOf lX4_47 rfl rfl rfl rfl (Nat.le_of_ble_eq_true rfl) (Nat.le_of_ble_eq_true rfl) rfl rfl (c_numberOf hD c_9) (fun r m' hq => ?_)
  obtain ⟨rfl, hmm⟩ := hq
  subst m'
  refine q_goto (pc' := 52) dX4_learnOne_48 (by decide) ?_
  refine q_dstore_n (pc' := 53) (lv' := [_, _, _, _, _, _]) dX4_learnOne_52 (by decide) rfl rfl ?_
  exact lp 1 _ (Or.inl ⟨rfl, by unfold s_able; rw [c_9, decide_eq_false (show ¬ v = s_minus from c_22)]; rfl, rfl, nn_num c_9⟩)
