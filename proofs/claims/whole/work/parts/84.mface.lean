/-! ===== the reference's face: whole, most ===== -/
set_option maxHeartbeats 4000000 in
set_option maxRecDepth 20000 in
theorem k_commonest {Z : q_Z} {m : q_Mm} {d : Nat} {g : Nat → Int64} {k e f : Nat} {l0 : Int64} (hM : MD m) (hH : MH m k g) (hk : k ≤ 16) (he : e < 15) (hf : f < 15) (hb : m.2.1 215 26 = l0) : q_V (q_g Z) mX11_commonest (d+3) 0 0 0 [some (.ref (q_ad Z 215)), some (.int (nI e)), some (.int (nI f)), none, none, none, none, none, none, none, none, none, none] [] (q_W Z m) (q_P Z fun r m2 => r = some (.long (s_us (fun i => s_w2 (g i) e f) k l0 k).1) ∧ Fr [215] m m2 ∧ Kp 215 [23] m m2) := by
  obtain ⟨w, hw⟩ : ∃ w, (fun i => s_w2 (g i) e f) = w := ⟨_, rfl⟩
  rw [hw]
  have hwi : ∀ i, s_w2 (g i) e f = w i := fun i => congrFun hw i
  refine q_aload_n (pc' := 1) dX11_commonest_0 rfl rfl ?_
  refine h_getjE (pc' := 4) dX11_commonest_1 fX11_292 rfl rfl (hb) rfl ?_
  refine q_lstore_n (pc' := 5) (lv' := [_, _, _, _, _, _, _, _, _, _, _, _, _]) dX11_commonest_4 (by decide) rfl rfl ?_
  refine q_iconst (pc' := 6) (v := nI 0) dX11_commonest_5 rfl rfl ?_
  refine q_istore (pc' := 8) (lv' := [_, _, _, _, _, _, _, _, _, _, _, _, _]) dX11_commonest_6 (by decide) rfl rfl ?_
  refine q_iconst (pc' := 9) (v := nI 0) dX11_commonest_8 rfl rfl ?_
  refine q_istore (pc' := 11) (lv' := [_, _, _, _, _, _, _, _, _, _, _, _, _]) dX11_commonest_9 (by decide) rfl rfl ?_
  suffices h : ∀ c i m1 u1 u2 u3 u4 u5 u6, i + c = k → Fr [215] m m1 → Kp 215 [23] m m1 → q_V (q_g Z) mX11_commonest (d+3) 0 0 11 [some (.ref (q_ad Z 215)), some (.int (nI e)), some (.int (nI f)), some (.long (s_us w k l0 i).1), none, some (.int (nI (s_us w k l0 i).2)), some (.int (nI i)), u1, u2, u3, u4, u5, u6] [] (q_W Z (m1)) (q_P Z fun r m2 => r = some (.long (s_us w k l0 k).1) ∧ Fr [215] m m2 ∧ Kp 215 [23] m m2) from h k 0 m _ _ _ _ _ _ (Nat.zero_add _) Fr.rf Kp.rf
  intro c
  induction c with
  | zero =>
    intro i m1 u1 u2 u3 u4 u5 u6 hi f1 k1
    obtain rfl : i = k := by omega
    refine q_iload (pc' := 13) dX11_commonest_11 rfl rfl ?_
    refine q_aload_n (pc' := 14) dX11_commonest_13 rfl rfl ?_
    refine h_getiE (pc' := 17) dX11_commonest_14 fX11_286 rfl rfl ((k1 25 (by decide)).trans hH.1) rfl ?_
    refine q_icmp_geN (tgt := 146) (pc' := 20) dX11_commonest_17 (by decide) rfl (by omega) (fun c_17 => ?_) (fun c_17 => ?_)
    rotate_left
    · omega
    refine q_lload_n (pc' := 147) dX11_commonest_146 rfl rfl ?_
    refine q_lret dX11_commonest_147 rfl ⟨_, rfl, rfl, f1, k1⟩
  | succ c ih =>
    intro i m1 u1 u2 u3 u4 u5 u6 hi f1 k1
    have hM1 := hM.fr f1 (by decide) (by decide)
    have hus := s_us_le w k l0 i
    refine q_iload (pc' := 13) dX11_commonest_11 rfl rfl ?_
    refine q_aload_n (pc' := 14) dX11_commonest_13 rfl rfl ?_
    refine h_getiE (pc' := 17) dX11_commonest_14 fX11_286 rfl rfl ((k1 25 (by decide)).trans hH.1) rfl ?_
    refine q_icmp_geN (tgt := 146) (pc' := 20) dX11_commonest_17 (by decide) rfl (by omega) (fun c_17 => ?_) (fun c_17 => ?_)
    · omega
    refine q_aload_n (pc' := 21) dX11_commonest_20 rfl rfl ?_
    refine q_aload_n (pc' := 22) dX11_commonest_21 rfl rfl ?_
    refine h_getr (pc' := 25) dX11_commonest_22 fX11_45 rfl rfl rfl ?_
    refine q_iload (pc' := 27) dX11_commonest_25 rfl rfl ?_
    refine h_laldE (pc' := 28) dX11_commonest_27 rfl (rfl) (by omega) (by decide) ((congrFun (f1.l (by decide)) i).trans (hH.2 i (by omega))) rfl ?_
    refine q_iload_n (pc' := 29) dX11_commonest_28 rfl rfl ?_
    refine q_iload_n (pc' := 30) dX11_commonest_29 rfl rfl ?_
    refine h_callV (pc' := 33) (M' := mX11_wholeOf) (As := [_, _, _]) dX11_commonest_30 iX11_wholeOf lX11_274 rfl rfl rfl rfl (Nat.le_of_ble_eq_true rfl) (Nat.le_of_ble_eq_true rfl) rfl rfl ((k_wholeOf hM1 he hf)) (fun r m' hq => ?_)
    obtain ⟨x, rfl, hx, f2, k2, -, h23⟩ := hq
    rw [hwi] at hx h23
    have f2 := f1.trans f2
    have k2 : Kp 215 [23] m m' := k1.trans k2
    have ih := fun m3 u1 u2 u3 u4 u5 u6 => ih (i + 1) m3 u1 u2 u3 u4 u5 u6 (by omega)
    rw [show s_us w k l0 (i + 1) = if (s_us w k l0 i).2 < (if w i = s_no then 0 else s_cnt (fun j => decide (w j = w i)) k) ∨ ((if w i = s_no then 0 else s_cnt (fun j => decide (w j = w i)) k) = (s_us w k l0 i).2 ∧ 0 < (if w i = s_no then 0 else s_cnt (fun j => decide (w j = w i)) k) ∧ w i < (s_us w k l0 i).1) then (w i, if w i = s_no then 0 else s_cnt (fun j => decide (w j = w i)) k) else s_us w k l0 i from rfl] at ih
    refine q_lstore (pc' := 35) (lv' := [_, _, _, _, _, _, _, _, _, _, _, _, _]) dX11_commonest_33 (by decide) rfl rfl ?_
    refine q_aload_n (pc' := 36) dX11_commonest_35 rfl rfl ?_
    refine h_getiE (pc' := 39) dX11_commonest_36 fX11_257 rfl rfl (h23) rfl ?_
    refine q_if_eqB (tgt := 140) (pc' := 42) dX11_commonest_39 (by decide) rfl (fun c_39 => ?_) (fun c_39 => ?_)
    · have hn : w i = s_no := of_decide_eq_true (by rw [Bool.not_eq_false'] at c_39; exact c_39)
      rw [if_pos hn, if_neg (by omega)] at ih
      refine q_iincN (pc' := 143) (j := 1) (lv' := [_, _, _, _, _, _, _, _, _, _, _, _, _]) dX11_commonest_140 rfl (by decide) rfl rfl ?_
      refine q_goto (pc' := 11) dX11_commonest_143 (by decide) ?_
      exact ih m' _ _ _ _ _ _ f2 k2
    have hn : ¬ w i = s_no := fun z => by rw [decide_eq_true z] at c_39; cases c_39
    have hx := hx hn
    subst hx
    have hcp : 0 < s_cnt (fun j => decide (w j = w i)) k := by
      have : s_cnt (fun j => decide (w j = w i)) (i + 1) ≤ s_cnt (fun j => decide (w j = w i)) k := by
        have aux : ∀ a b, s_cnt (fun j => decide (w j = w i)) a ≤ s_cnt (fun j => decide (w j = w i)) (a + b) := by
          intro a b
          induction b with
          | zero => exact Nat.le_refl _
          | succ b ih =>
            refine Nat.le_trans ih ?_
            show _ ≤ s_cnt (fun j => decide (w j = w i)) (a + b + 1)
            cases hb : decide (w (a + b) = w i) with
            | false => rw [s_cnt_f (p := fun j => decide (w j = w i)) hb]; exact Nat.le_refl _
            | true => rw [s_cnt_t (p := fun j => decide (w j = w i)) hb]; exact Nat.le_succ _
        have := aux (i + 1) (k - (i + 1))
        rw [show i + 1 + (k - (i + 1)) = k by omega] at this
        exact this
      rw [s_cnt_t (p := fun j => decide (w j = w i)) (decide_eq_true rfl)] at this
      omega
    have hck := s_cnt_le (fun j => decide (w j = w i)) k
    rw [if_neg hn] at ih
    refine q_iconst (pc' := 43) (v := nI 0) dX11_commonest_42 rfl rfl ?_
    refine q_istore (pc' := 45) (lv' := [_, _, _, _, _, _, _, _, _, _, _, _, _]) dX11_commonest_43 (by decide) rfl rfl ?_
    refine q_iconst (pc' := 46) (v := nI 0) dX11_commonest_45 rfl rfl ?_
    refine q_istore (pc' := 48) (lv' := [_, _, _, _, _, _, _, _, _, _, _, _, _]) dX11_commonest_46 (by decide) rfl rfl ?_
    obtain ⟨m2, hm2⟩ : ∃ z, z = m' := ⟨_, rfl⟩
    subst hm2
    suffices hin : ∀ c2 j m3 u5 u6, j + c2 = k → Fr [215] m m3 → Kp 215 [23] m m3 → q_V (q_g Z) mX11_commonest (d+3) 0 0 48 [some (.ref (q_ad Z 215)), some (.int (nI e)), some (.int (nI f)), some (.long (s_us w k l0 i).1), none, some (.int (nI (s_us w k l0 i).2)), some (.int (nI i)), some (.long (w i)), none, some (.int (nI (s_cnt (fun j => decide (w j = w i)) j))), some (.int (nI j)), u5, u6] [] (q_W Z (m3)) (q_P Z fun r m2 => r = some (.long (s_us w k l0 k).1) ∧ Fr [215] m m2 ∧ Kp 215 [23] m m2) from hin k 0 m2 _ _ (Nat.zero_add _) f2 k2
    intro c2
    induction c2 with
    | zero =>
      intro j m3 u5 u6 hj f3 k3
      obtain rfl : j = k := by omega
      have fin : ∀ b : Int64, (if (s_us w j l0 i).2 < s_cnt (fun l => decide (w l = w i)) j ∨ (s_cnt (fun l => decide (w l = w i)) j = (s_us w j l0 i).2 ∧ 0 < s_cnt (fun l => decide (w l = w i)) j ∧ w i < (s_us w j l0 i).1) then (w i, s_cnt (fun l => decide (w l = w i)) j) else s_us w j l0 i) = (b, if (s_us w j l0 i).2 < s_cnt (fun l => decide (w l = w i)) j then s_cnt (fun l => decide (w l = w i)) j else (s_us w j l0 i).2) → q_V (q_g Z) mX11_commonest (d+3) 0 0 130 [some (.ref (q_ad Z 215)), some (.int (nI e)), some (.int (nI f)), some (.long (s_us w j l0 i).1), none, some (.int (nI (s_us w j l0 i).2)), some (.int (nI i)), some (.long (w i)), none, some (.int (nI (s_cnt (fun l => decide (w l = w i)) j))), some (.int (nI j)), u5, u6] [.long b] (q_W Z (m3)) (q_P Z fun r m2 => r = some (.long (s_us w j l0 j).1) ∧ Fr [215] m m2 ∧ Kp 215 [23] m m2) := by
        intro b hb
        rw [hb] at ih
        refine q_lstore_n (pc' := 131) (lv' := [_, _, _, _, _, _, _, _, _, _, _, _, _]) dX11_commonest_130 (by decide) rfl rfl ?_
        refine q_iload (pc' := 133) dX11_commonest_131 rfl rfl ?_
        refine q_iload (pc' := 135) dX11_commonest_133 rfl rfl ?_
        refine q_mmax (pc' := 138) dX11_commonest_135 lX11_401 mmax_s mz_i mmax_c (Nat.le_of_ble_eq_true rfl) rfl ?_
        rw [show (if nI (s_us w j l0 i).2 < nI (s_cnt (fun l => decide (w l = w i)) j) then nI (s_cnt (fun l => decide (w l = w i)) j) else nI (s_us w j l0 i).2) = nI (if (s_us w j l0 i).2 < s_cnt (fun l => decide (w l = w i)) j then s_cnt (fun l => decide (w l = w i)) j else (s_us w j l0 i).2) by
          have h : nI (s_us w j l0 i).2 < nI (s_cnt (fun l => decide (w l = w i)) j) ↔ (s_us w j l0 i).2 < s_cnt (fun l => decide (w l = w i)) j := by rw [z_lt, z_n (by omega), z_n (by omega)]; omega
          by_cases z : (s_us w j l0 i).2 < s_cnt (fun l => decide (w l = w i)) j
          · rw [if_pos z, if_pos (h.mpr z)]
          · rw [if_neg z, if_neg (fun q => z (h.mp q))]]
        refine q_istore (pc' := 140) (lv' := [_, _, _, _, _, _, _, _, _, _, _, _, _]) dX11_commonest_138 (by decide) rfl rfl ?_
        refine q_iincN (pc' := 143) (j := 1) (lv' := [_, _, _, _, _, _, _, _, _, _, _, _, _]) dX11_commonest_140 rfl (by decide) rfl rfl ?_
        refine q_goto (pc' := 11) dX11_commonest_143 (by decide) ?_
        exact ih m3 _ _ _ _ _ _ f3 k3
      have hne : ∀ b : Int64, ¬ (s_us w j l0 i).2 < s_cnt (fun l => decide (w l = w i)) j → (s_cnt (fun l => decide (w l = w i)) j = (s_us w j l0 i).2 → ¬ w i < (s_us w j l0 i).1) → (if (s_us w j l0 i).2 < s_cnt (fun l => decide (w l = w i)) j ∨ (s_cnt (fun l => decide (w l = w i)) j = (s_us w j l0 i).2 ∧ 0 < s_cnt (fun l => decide (w l = w i)) j ∧ w i < (s_us w j l0 i).1) then (w i, s_cnt (fun l => decide (w l = w i)) j) else s_us w j l0 i) = ((s_us w j l0 i).1, if (s_us w j l0 i).2 < s_cnt (fun l => decide (w l = w i)) j then s_cnt (fun l => decide (w l = w i)) j else (s_us w j l0 i).2) := fun b h1 h2 => by
        rw [if_neg (fun z => by
          rcases z with z | z
          · exact h1 z
          · exact h2 z.1 z.2.2), if_neg h1]
      refine q_iload (pc' := 50) dX11_commonest_48 rfl rfl ?_
      refine q_aload_n (pc' := 51) dX11_commonest_50 rfl rfl ?_
      refine h_getiE (pc' := 54) dX11_commonest_51 fX11_286 rfl rfl ((k3 25 (by decide)).trans hH.1) rfl ?_
      refine q_icmp_geN (tgt := 103) (pc' := 57) dX11_commonest_54 (by decide) rfl (by omega) (fun c_54 => ?_) (fun c_54 => ?_)
      rotate_left
      · omega
      refine q_iload (pc' := 105) dX11_commonest_103 rfl rfl ?_
      refine q_iload (pc' := 107) dX11_commonest_105 rfl rfl ?_
      refine q_icmp_gtN (tgt := 124) (pc' := 110) dX11_commonest_107 (by decide) rfl (by omega) (fun c_107 => ?_) (fun c_107 => ?_)
      · refine q_lload (pc' := 126) dX11_commonest_124 rfl rfl ?_
        refine q_goto (pc' := 130) dX11_commonest_126 (by decide) ?_
        exact fin (w i) (by rw [if_pos (Or.inl (by omega)), if_pos (by omega)])
      refine q_iload (pc' := 112) dX11_commonest_110 rfl rfl ?_
      refine q_iload (pc' := 114) dX11_commonest_112 rfl rfl ?_
      refine q_icmp_neN (tgt := 129) (pc' := 117) dX11_commonest_114 (by decide) rfl (by omega) (fun c_114 => ?_) (fun c_114 => ?_)
      · refine q_lload_n (pc' := 130) dX11_commonest_129 rfl rfl ?_
        exact fin _ (hne 0 (by omega) (fun z => by omega))
      refine q_lload (pc' := 119) dX11_commonest_117 rfl rfl ?_
      refine q_lload_n (pc' := 120) dX11_commonest_119 rfl rfl ?_
      refine q_lcmp (pc' := 121) dX11_commonest_120 rfl ?_
      refine q_if_geL (tgt := 129) (pc' := 124) dX11_commonest_121 (by decide) rfl (fun c_121 => ?_) (fun c_121 => ?_)
      · refine q_lload_n (pc' := 130) dX11_commonest_129 rfl rfl ?_
        exact fin _ (hne 0 (by omega) (fun _ => c_121))
      · refine q_lload (pc' := 126) dX11_commonest_124 rfl rfl ?_
        refine q_goto (pc' := 130) dX11_commonest_126 (by decide) ?_
        exact fin (w i) (by rw [if_pos (Or.inr ⟨by omega, hcp, c_121⟩), if_neg (by omega)]; congr 1)
    | succ c2 ih2 =>
      intro j m3 u5 u6 hj f3 k3
      have hM3 := hM.fr f3 (by decide) (by decide)
      refine q_iload (pc' := 50) dX11_commonest_48 rfl rfl ?_
      refine q_aload_n (pc' := 51) dX11_commonest_50 rfl rfl ?_
      refine h_getiE (pc' := 54) dX11_commonest_51 fX11_286 rfl rfl ((k3 25 (by decide)).trans hH.1) rfl ?_
      refine q_icmp_geN (tgt := 103) (pc' := 57) dX11_commonest_54 (by decide) rfl (by omega) (fun c_54 => ?_) (fun c_54 => ?_)
      · omega
      refine q_aload_n (pc' := 58) dX11_commonest_57 rfl rfl ?_
      refine q_aload_n (pc' := 59) dX11_commonest_58 rfl rfl ?_
      refine h_getr (pc' := 62) dX11_commonest_59 fX11_45 rfl rfl rfl ?_
      refine q_iload (pc' := 64) dX11_commonest_62 rfl rfl ?_
      refine h_laldE (pc' := 65) dX11_commonest_64 rfl (rfl) (by omega) (by decide) ((congrFun (f3.l (by decide)) j).trans (hH.2 j (by omega))) rfl ?_
      refine q_iload_n (pc' := 66) dX11_commonest_65 rfl rfl ?_
      refine q_iload_n (pc' := 67) dX11_commonest_66 rfl rfl ?_
      refine h_callV (pc' := 70) (M' := mX11_wholeOf) (As := [_, _, _]) dX11_commonest_67 iX11_wholeOf lX11_274 rfl rfl rfl rfl (Nat.le_of_ble_eq_true rfl) (Nat.le_of_ble_eq_true rfl) rfl rfl ((k_wholeOf hM3 he hf)) (fun r m' hq => ?_)
      obtain ⟨y, rfl, hy, f4, k4, -, h234⟩ := hq
      rw [hwi] at hy h234
      have f4 := f3.trans f4
      have k4 : Kp 215 [23] m m' := k3.trans k4
      have ih2 := fun m5 u5 u6 => ih2 (j + 1) m5 u5 u6 (by omega)
      refine q_lstore (pc' := 72) (lv' := [_, _, _, _, _, _, _, _, _, _, _, _, _]) dX11_commonest_70 (by decide) rfl rfl ?_
      refine q_iload (pc' := 74) dX11_commonest_72 rfl rfl ?_
      refine q_aload_n (pc' := 75) dX11_commonest_74 rfl rfl ?_
      refine h_getiE (pc' := 78) dX11_commonest_75 fX11_257 rfl rfl (h234) rfl ?_
      refine q_if_eqB (tgt := 93) (pc' := 81) dX11_commonest_78 (by decide) rfl (fun c_78 => ?_) (fun c_78 => ?_)
      · have hnj : w j = s_no := of_decide_eq_true (by rw [Bool.not_eq_false'] at c_78; exact c_78)
        rw [s_cnt_f (p := fun j => decide (w j = w i)) (decide_eq_false (fun z => hn (z.symm.trans hnj)))] at ih2
        refine q_iconst (pc' := 94) (v := nI 0) dX11_commonest_93 rfl rfl ?_
        refine q_iaddN (pc' := 95) dX11_commonest_94 rfl ?_
        refine q_istore (pc' := 97) (lv' := [_, _, _, _, _, _, _, _, _, _, _, _, _]) dX11_commonest_95 (by decide) rfl rfl ?_
        refine q_iincN (pc' := 100) (j := 1) (lv' := [_, _, _, _, _, _, _, _, _, _, _, _, _]) dX11_commonest_97 rfl (by decide) rfl rfl ?_
        refine q_goto (pc' := 48) dX11_commonest_100 (by decide) ?_
        exact ih2 m' _ _ f4 k4
      have hnj : ¬ w j = s_no := fun z => by rw [decide_eq_true z] at c_78; cases c_78
      have hy := hy hnj
      subst hy
      refine q_lload (pc' := 83) dX11_commonest_81 rfl rfl ?_
      refine q_lload (pc' := 85) dX11_commonest_83 rfl rfl ?_
      refine q_lcmp (pc' := 86) dX11_commonest_85 rfl ?_
      refine q_if_neL (tgt := 93) (pc' := 89) dX11_commonest_86 (by decide) rfl (fun c_86 => ?_) (fun c_86 => ?_)
      · rw [s_cnt_f (p := fun j => decide (w j = w i)) (decide_eq_false c_86)] at ih2
        refine q_iconst (pc' := 94) (v := nI 0) dX11_commonest_93 rfl rfl ?_
        refine q_iaddN (pc' := 95) dX11_commonest_94 rfl ?_
        refine q_istore (pc' := 97) (lv' := [_, _, _, _, _, _, _, _, _, _, _, _, _]) dX11_commonest_95 (by decide) rfl rfl ?_
        refine q_iincN (pc' := 100) (j := 1) (lv' := [_, _, _, _, _, _, _, _, _, _, _, _, _]) dX11_commonest_97 rfl (by decide) rfl rfl ?_
        refine q_goto (pc' := 48) dX11_commonest_100 (by decide) ?_
        exact ih2 m' _ _ f4 k4
      · rw [s_cnt_t (p := fun j => decide (w j = w i)) (decide_eq_true c_86)] at ih2
        refine q_iconst (pc' := 90) (v := nI 1) dX11_commonest_89 rfl rfl ?_
        refine q_goto (pc' := 94) dX11_commonest_90 (by decide) ?_
        refine q_iaddN (pc' := 95) dX11_commonest_94 rfl ?_
        refine q_istore (pc' := 97) (lv' := [_, _, _, _, _, _, _, _, _, _, _, _, _]) dX11_commonest_95 (by decide) rfl rfl ?_
        refine q_iincN (pc' := 100) (j := 1) (lv' := [_, _, _, _, _, _, _, _, _, _, _, _, _]) dX11_commonest_97 rfl (by decide) rfl rfl ?_
        refine q_goto (pc' := 48) dX11_commonest_100 (by decide) ?_
        exact ih2 m' _ _ f4 k4
set_option maxHeartbeats 4000000 in
set_option maxRecDepth 20000 in
theorem k_whole {Z : q_Z} {m : q_Mm} {d : Nat} {n : Nat} {t : Bool} {x y : Int32} {rl : Nat → Nat} {xs : Nat → Int64} (h : MAsk m t n rl xs) : q_V (q_g Z) mX11_whole (d+7) 0 0 0 [some (.ref (q_ad Z 215)), some (.int x), some (.int y), none] [] (q_W Z m) (q_P Z fun r m2 => r = some (.long (if s_has t (s_nb n rl) x = true then s_whw n rl xs (s_i x) y.toInt else -1000000)) ∧ Fr s_Sx m m2 ∧ Kp 215 s_Jx m m2) := by
  obtain ⟨hM, hV, ht, hn, hn6⟩ := h
  refine q_aload_n (pc' := 1) dX11_whole_0 rfl rfl ?_
  refine q_iload_n (pc' := 2) dX11_whole_1 rfl rfl ?_
  refine h_callV (pc' := 5) (M' := mX11_isBlock) (As := [_]) dX11_whole_2 iX11_isBlock lX11_398 rfl rfl rfl rfl (Nat.le_of_ble_eq_true rfl) (Nat.le_of_ble_eq_true rfl) rfl rfl ((k_isBlock (d := d) hV ht).up (by omega)) (fun r m' hq => ?_)
  obtain ⟨rfl, hmm⟩ := hq
  subst m'
  refine q_if_eqB (tgt := 17) (pc' := 8) dX11_whole_5 (by decide) rfl (fun c_5 => ?_) (fun c_5 => ?_)
  · refine q_ldc2 (pc' := 20) dX11_whole_17 kX11_236 rfl ?_
    refine q_lret dX11_whole_20 rfl ⟨_, rfl, by rw [if_neg (by rw [c_5]; decide)], Fr.rf, Kp.rf⟩
  have htt : t = true := by
    unfold s_has at c_5
    rw [Bool.and_eq_true] at c_5
    exact c_5.1
  have hV := hV htt
  have hok := hV.2.2.2.2
  have hnb := s_nb_le hok hn6
  obtain ⟨j, hxj, hj⟩ := z_has c_5 (by omega)
  have hz := s_sz16 (n := n) hok j
  rw [if_pos c_5, hxj, s_i_n (by omega)]
  unfold s_whw
  refine q_iload_n (pc' := 9) dX11_whole_8 rfl rfl ?_
  refine q_iconst (pc' := 10) (v := nI 0) dX11_whole_9 rfl rfl ?_
  refine q_iconst (pc' := 11) (v := nI 2) dX11_whole_10 rfl rfl ?_
  refine h_callS (pc' := 14) (M' := mX11_in) (As := [_, _, _]) dX11_whole_11 iX11_in lX11_99 rfl rfl (Nat.le_of_ble_eq_true rfl) (Nat.le_of_ble_eq_true rfl) rfl rfl (k_in.up (Nat.zero_le _)) (fun r m' hq => ?_)
  obtain ⟨rfl, hmm⟩ := hq
  subst m'
  rw [show (nI 0).toInt = 0 from rfl, show (nI 2).toInt = 2 from rfl]
  refine q_if_neB (tgt := 21) (pc' := 17) dX11_whole_14 (by decide) rfl (fun c_14 => ?_) (fun c_14 => ?_)
  rotate_left
  · have c_14 := of_decide_eq_false c_14
    refine q_ldc2 (pc' := 20) dX11_whole_17 kX11_236 rfl ?_
    refine q_lret dX11_whole_20 rfl ⟨_, rfl, by rw [if_neg (by omega), if_neg (by omega), if_neg (by omega)], Fr.rf, Kp.rf⟩
  have c_14 := of_decide_eq_true c_14
  refine q_aload_n (pc' := 22) dX11_whole_21 rfl rfl ?_
  refine h_callV (pc' := 25) (M' := mX11_layFive) (As := []) dX11_whole_22 iX11_layFive lX11_369 rfl rfl rfl rfl (Nat.le_of_ble_eq_true rfl) (Nat.le_of_ble_eq_true rfl) rfl rfl (k_layFive hM hV) (fun r m' hq => ?_)
  obtain ⟨rfl, f0, k0, F0⟩ := hq
  have f0 : Fr s_Sx m m' := f0.mono (by decide)
  have k0 : Kp 215 s_Jx m m' := k0.mono (by decide)
  have hV0 := hV.fr f0 (k0 20 (by decide)) (by decide) (by decide)
  have hM0 := hM.fr f0 (by decide) (by decide)
  have hwp := s_wp_lt (n := n) hok (s_ws xs) (fun i hi => (F0.2.2.2 i hi).1) j
  have hcd := s_cd_ok hwp
  obtain ⟨m0, hm0⟩ : ∃ z, z = m' := ⟨_, rfl⟩
  subst hm0
  refine q_aload_n (pc' := 26) dX11_whole_25 rfl rfl ?_
  refine q_iload_n (pc' := 27) dX11_whole_26 rfl rfl ?_
  refine h_callV (pc' := 30) (M' := mX11_pairOf) (As := [_]) dX11_whole_27 iX11_pairOf lX11_345 rfl rfl rfl rfl (Nat.le_of_ble_eq_true rfl) (Nat.le_of_ble_eq_true rfl) rfl rfl ((k_pairOf (d := d) hM0 hV0 F0 (five_pos n rl xs) hj).up (by omega)) (fun r m' hq => ?_)
  obtain ⟨rfl, f1, k1⟩ := hq
  have hV1 := hV0.fr f1 (k1 20 (by decide)) (by decide) (by decide)
  have hM1 := hM0.fr f1 (by decide) (by decide)
  have f1 : Fr s_Sx m m' := f0.trans (f1.mono (by decide))
  have k1 : Kp 215 s_Jx m m' := k0.trans (k1.mono (by decide))
  obtain ⟨m1, hm1⟩ : ∃ z, z = m' := ⟨_, rfl⟩
  subst hm1
  generalize s_wp n rl (s_ws xs) (s_five n rl xs) j = p at hwp hcd ⊢
  refine q_istore_n (pc' := 31) (lv' := [_, _, _, _]) dX11_whole_30 (by decide) rfl rfl ?_
  refine q_aload_n (pc' := 32) dX11_whole_31 rfl rfl ?_
  refine q_iload_n (pc' := 33) dX11_whole_32 rfl rfl ?_
  refine h_callV (pc' := 36) (M' := mX11_layBlock) (As := [_]) dX11_whole_33 iX11_layBlock lX11_351 rfl rfl rfl rfl (Nat.le_of_ble_eq_true rfl) (Nat.le_of_ble_eq_true rfl) rfl rfl ((k_layBlock (d := d) hV1 hj).up (by omega)) (fun r m' hq => ?_)
  obtain ⟨rfl, f2, k2, H2⟩ := hq
  have hM2 := hM1.fr f2 (by decide) (by decide)
  have f2 : Fr s_Sx m m' := f1.trans (f2.mono (by decide))
  have k2 : Kp 215 s_Jx m m' := k1.trans (k2.mono (by decide))
  obtain ⟨m2, hm2⟩ : ∃ z, z = m' := ⟨_, rfl⟩
  subst hm2
  refine q_aload_n (pc' := 37) dX11_whole_36 rfl rfl ?_
  refine q_iload_n (pc' := 38) dX11_whole_37 rfl rfl ?_
  refine q_bipush (pc' := 40) (v := nI 16) dX11_whole_38 rfl rfl ?_
  refine q_idivN (pc' := 41) dX11_whole_40 (by omega) rfl ?_
  refine q_iload_n (pc' := 42) dX11_whole_41 rfl rfl ?_
  refine q_bipush (pc' := 44) (v := nI 16) dX11_whole_42 rfl rfl ?_
  refine q_iremN (pc' := 45) dX11_whole_44 (by omega) rfl ?_
  refine h_callV (pc' := 48) (M' := mX11_layDecimal) (As := [_, _]) dX11_whole_45 iX11_layDecimal lX11_307 rfl rfl rfl rfl (Nat.le_of_ble_eq_true rfl) (Nat.le_of_ble_eq_true rfl) rfl rfl ((k_layDecimal (d := d) hM2 H2 hz hcd.1 hcd.2.1).up (by omega)) (fun r m' hq => ?_)
  obtain ⟨rfl, f3, k3, L3⟩ := hq
  have hM3 := hM2.fr f3 (by decide) (by decide)
  have H3 := H2.fr f3 (k3 25 (by decide)) (by decide)
  have f3 : Fr s_Sx m m' := f2.trans (f3.mono (by decide))
  have k3 : Kp 215 s_Jx m m' := k2.trans (k3.mono (by decide))
  obtain ⟨m3, hm3⟩ : ∃ z, z = m' := ⟨_, rfl⟩
  subst hm3
  refine q_iload_n (pc' := 49) dX11_whole_48 rfl rfl ?_
  refine q_if_ne (tgt := 59) (pc' := 52) dX11_whole_49 (by decide) rfl (fun c_49 => ?_) (fun c_49 => ?_)
  rotate_left
  · rw [z_eq, z_0] at c_49
    refine q_aload_n (pc' := 53) dX11_whole_52 rfl rfl ?_
    refine h_getjE (pc' := 56) dX11_whole_53 fX11_292 rfl rfl (L3.2.1) rfl ?_
    refine q_goto (pc' := 83) dX11_whole_56 (by decide) ?_
    refine q_lret dX11_whole_83 rfl ⟨_, rfl, by rw [c_49]; rfl, f3, k3⟩
  rw [z_eq, z_0] at c_49
  refine q_iload_n (pc' := 60) dX11_whole_59 rfl rfl ?_
  refine q_iconst (pc' := 61) (v := nI 1) dX11_whole_60 rfl rfl ?_
  refine q_icmp_ne (tgt := 71) (pc' := 64) dX11_whole_61 (by decide) rfl (fun c_61 => ?_) (fun c_61 => ?_)
  rotate_left
  · rw [z_eq, z_n (by decide)] at c_61
    have c_61 : y.toInt = 1 := c_61
    refine q_aload_n (pc' := 65) dX11_whole_64 rfl rfl ?_
    refine h_getjE (pc' := 68) dX11_whole_65 fX11_295 rfl rfl (L3.2.2.1) rfl ?_
    refine q_goto (pc' := 83) dX11_whole_68 (by decide) ?_
    refine q_lret dX11_whole_83 rfl ⟨_, rfl, by rw [c_61]; rfl, f3, k3⟩
  rw [z_eq, z_n (by decide)] at c_61
  have c_61 : ¬ y.toInt = 1 := c_61
  have z : y.toInt = 2 := by omega
  refine q_aload_n (pc' := 72) dX11_whole_71 rfl rfl ?_
  refine q_iload_n (pc' := 73) dX11_whole_72 rfl rfl ?_
  refine q_bipush (pc' := 75) (v := nI 16) dX11_whole_73 rfl rfl ?_
  refine q_idivN (pc' := 76) dX11_whole_75 (by omega) rfl ?_
  refine q_iload_n (pc' := 77) dX11_whole_76 rfl rfl ?_
  refine q_bipush (pc' := 79) (v := nI 16) dX11_whole_77 rfl rfl ?_
  refine q_iremN (pc' := 80) dX11_whole_79 (by omega) rfl ?_
  refine h_callV (pc' := 83) (M' := mX11_commonest) (As := [_, _]) dX11_whole_80 iX11_commonest lX11_403 rfl rfl rfl rfl (Nat.le_of_ble_eq_true rfl) (Nat.le_of_ble_eq_true rfl) rfl rfl ((k_commonest (d := d) hM3 H3 hz hcd.1 hcd.2.1 L3.2.1).up (by omega)) (fun r m' hq => ?_)
  obtain ⟨rfl, f4, k4⟩ := hq
  refine q_lret dX11_whole_83 rfl ⟨_, rfl, by rw [z]; rfl, f3.trans (f4.mono (by decide)), k3.trans (k4.mono (by decide))⟩
