/-! ===== the reference's sum ===== -/
set_option maxHeartbeats 4000000 in
set_option maxRecDepth 20000 in
theorem k_sumInOrder {Z : q_Z} {m : q_Mm} {d : Nat} {n : Nat} {rl : Nat → Nat} {xs : Nat → Int64} (hV : MV m n rl xs) : q_V (q_g Z) mX11_sumInOrder (d+1) 0 0 0 [some (.ref (q_ad Z 215)), none, none, none] [] (q_W Z m) (q_P Z fun r m2 => (∃ x, r = some (.double x) ∧ s_dl x = s_sio xs n) ∧ m2 = m) := by
  obtain ⟨hn, hn6, hx, -⟩ := hV
  refine q_dconst0 (pc' := 1) dX11_sumInOrder_0 rfl ?_
  refine q_dstore_n (pc' := 2) (lv' := [_, _, _, _]) dX11_sumInOrder_1 (by decide) rfl rfl ?_
  refine q_iconst (pc' := 3) (v := nI 0) dX11_sumInOrder_2 rfl rfl ?_
  refine q_istore_n (pc' := 4) (lv' := [_, _, _, _]) dX11_sumInOrder_3 (by decide) rfl rfl ?_
  suffices h : ∀ g j x, j + g = n → s_dl x = s_sio xs j → q_V (q_g Z) mX11_sumInOrder (d+1) 0 0 4 [some (.ref (q_ad Z 215)), some (.double x), none, some (.int (nI j))] [] (q_W Z (m)) (q_P Z fun r m2 => (∃ x, r = some (.double x) ∧ s_dl x = s_sio xs n) ∧ m2 = m) from h n 0 _ (by omega) ((s_dl_o (dv_nn dv_0)).trans (show FP.Core.dconst0.toInt64 = (0 : Int64) from by decide +kernel))
  intro g
  induction g with
  | zero =>
    intro j x hj hs
    obtain rfl : j = n := by omega
    refine q_iload_n (pc' := 5) dX11_sumInOrder_4 rfl rfl ?_
    refine q_aload_n (pc' := 6) dX11_sumInOrder_5 rfl rfl ?_
    refine h_getiE (pc' := 9) dX11_sumInOrder_6 fX11_242 rfl rfl (hn) rfl ?_
    refine q_icmp_geN (tgt := 42) (pc' := 12) dX11_sumInOrder_9 (by decide) rfl (by omega) (fun c_9 => ?_) (fun c_9 => ?_)
    rotate_left
    · omega
    refine q_dload_n (pc' := 43) dX11_sumInOrder_42 rfl rfl ?_
    refine q_dret dX11_sumInOrder_43 rfl ⟨_, rfl, ⟨_, rfl, hs⟩, rfl⟩
  | succ g ih =>
    intro j x hj hs
    have ih := fun x => ih (j + 1) x (by omega)
    refine q_iload_n (pc' := 5) dX11_sumInOrder_4 rfl rfl ?_
    refine q_aload_n (pc' := 6) dX11_sumInOrder_5 rfl rfl ?_
    refine h_getiE (pc' := 9) dX11_sumInOrder_6 fX11_242 rfl rfl (hn) rfl ?_
    refine q_icmp_geN (tgt := 42) (pc' := 12) dX11_sumInOrder_9 (by decide) rfl (by omega) (fun c_9 => ?_) (fun c_9 => ?_)
    · omega
    refine q_aload_n (pc' := 13) dX11_sumInOrder_12 rfl rfl ?_
    refine h_getr (pc' := 16) dX11_sumInOrder_13 fX11_33 rfl rfl rfl ?_
    refine q_iload_n (pc' := 17) dX11_sumInOrder_16 rfl rfl ?_
    refine h_laldE (pc' := 18) dX11_sumInOrder_17 rfl (rfl) (by omega) (by decide) (hx j (by omega)) rfl ?_
    refine h_callS (pc' := 21) (M' := mX11_isFinite) (As := [_]) dX11_sumInOrder_18 iX11_isFinite lX11_260 rfl rfl (Nat.le_of_ble_eq_true rfl) (Nat.le_of_ble_eq_true rfl) rfl rfl (k_isFinite) (fun r m' hq => ?_)
    obtain ⟨rfl, hmm⟩ := hq
    subst m'
    refine q_if_eqB (tgt := 36) (pc' := 24) dX11_sumInOrder_21 (by decide) rfl (fun c_21 => ?_) (fun c_21 => ?_)
    · rw [show s_sio xs (j + 1) = s_sio xs j from if_neg (by rw [c_21]; decide)] at ih
      refine q_iincN (pc' := 39) (j := 1) (lv' := [_, _, _, _]) dX11_sumInOrder_36 rfl (by decide) rfl rfl ?_
      refine q_goto (pc' := 4) dX11_sumInOrder_39 (by decide) ?_
      exact ih x hs
    · rw [show s_sio xs (j + 1) = s_plus (s_sio xs j) (xs j) from if_pos c_21] at ih
      refine q_dload_n (pc' := 25) dX11_sumInOrder_24 rfl rfl ?_
      refine q_aload_n (pc' := 26) dX11_sumInOrder_25 rfl rfl ?_
      refine h_getr (pc' := 29) dX11_sumInOrder_26 fX11_33 rfl rfl rfl ?_
      refine q_iload_n (pc' := 30) dX11_sumInOrder_29 rfl rfl ?_
      refine h_laldE (pc' := 31) dX11_sumInOrder_30 rfl (rfl) (by omega) (by decide) (hx j (by omega)) rfl ?_
      refine q_l2double (pc' := 34) dX11_sumInOrder_31 lX11_264 dz_nl2d dz_sl2d dz_i (snl_fin c_21) (Nat.le_of_ble_eq_true rfl) rfl ?_
      refine q_dadd_any (pc' := 35) dX11_sumInOrder_34 rfl (fun w hw => ?_)
      refine q_dstore_n (pc' := 36) (lv' := [_, _, _, _]) dX11_sumInOrder_35 (by decide) rfl rfl ?_
      refine q_iincN (pc' := 39) (j := 1) (lv' := [_, _, _, _]) dX11_sumInOrder_36 rfl (by decide) rfl rfl ?_
      refine q_goto (pc' := 4) dX11_sumInOrder_39 (by decide) ?_
      exact ih w (by rw [dl_alike hw, dl_add, dl_num c_21, hs])
set_option maxHeartbeats 4000000 in
set_option maxRecDepth 20000 in
theorem k_sumByPairs {Z : q_Z} {m : q_Mm} {d : Nat} {n : Nat} {rl : Nat → Nat} {xs : Nat → Int64} (hV : MV m n rl xs) : q_V (q_g Z) mX11_sumByPairs (d+1) 0 0 0 [some (.ref (q_ad Z 215)), none, none, none] [] (q_W Z m) (q_P Z fun r m2 => (∃ x, r = some (.double x) ∧ s_dl x = s_sbp xs n) ∧ Fr [238] m m2) := by
  have hgn := s_gat_le xs n
  have hn6 := hV.2.1
  have fin : ∀ (m1 : q_Mm) w2 w3 G, 1 ≤ G → G ≤ 64 → Fr [238] m m1 → s_dl (m1.2.2.2.2 238 0) = s_sbp xs n → q_V (q_g Z) mX11_sumByPairs (d+1) 0 0 127 [some (.ref (q_ad Z 215)), some (.int (nI G)), w2, w3] [] (q_W Z (m1)) (q_P Z fun r m2 => (∃ x, r = some (.double x) ∧ s_dl x = s_sbp xs n) ∧ Fr [238] m m2) := by
    intro m1 w2 w3 G h1 h2 f1 hs
    refine q_iload_n (pc' := 128) dX11_sumByPairs_127 rfl rfl ?_
    refine q_if_neN (tgt := 135) (pc' := 131) dX11_sumByPairs_128 (by decide) rfl (by omega) (fun c_128 => ?_) (fun c_128 => ?_)
    rotate_left
    · omega
    refine q_aload_n (pc' := 136) dX11_sumByPairs_135 rfl rfl ?_
    refine h_getr (pc' := 139) dX11_sumByPairs_136 fX11_78 rfl rfl rfl ?_
    refine q_iconst (pc' := 140) (v := nI 0) dX11_sumByPairs_139 rfl rfl ?_
    refine h_dald (pc' := 141) dX11_sumByPairs_140 rfl (rfl) (by omega) (by decide) rfl ?_
    refine q_dret dX11_sumByPairs_141 rfl ⟨_, rfl, ⟨_, rfl, hs⟩, f1⟩
  have lp : ∀ f l g (m1 : q_Mm) w3 G, l ≤ f → 1 ≤ l → l ≤ 64 → 1 ≤ G → G ≤ 64 → Fr [238] m m1 → (∀ i, i < l → s_dl (m1.2.2.2.2 238 i) = g i) → s_tree f l g = s_sbp xs n → q_V (q_g Z) mX11_sumByPairs (d+1) 0 0 50 [some (.ref (q_ad Z 215)), some (.int (nI G)), some (.int (nI l)), w3] [] (q_W Z (m1)) (q_P Z fun r m2 => (∃ x, r = some (.double x) ∧ s_dl x = s_sbp xs n) ∧ Fr [238] m m2) := by
    intro f
    induction f with
    | zero => intro l g m1 w3 G h1 h2; omega
    | succ f ih =>
      intro l g m1 w3 G h1 h2 h3 h4 h5 f1 e1 hs
      unfold s_tree at hs
      refine q_iload_n (pc' := 51) dX11_sumByPairs_50 rfl rfl ?_
      refine q_iconst (pc' := 52) (v := nI 1) dX11_sumByPairs_51 rfl rfl ?_
      refine q_icmp_leN (tgt := 127) (pc' := 55) dX11_sumByPairs_52 (by decide) rfl (by omega) (fun c_52 => ?_) (fun c_52 => ?_)
      · rw [if_pos c_52] at hs
        exact fin m1 _ _ G h4 h5 f1 ((e1 0 (by omega)).trans hs)
      rw [if_neg (by omega)] at hs
      refine q_iconst (pc' := 56) (v := nI 0) dX11_sumByPairs_55 rfl rfl ?_
      refine q_istore_n (pc' := 57) (lv' := [_, _, _, _]) dX11_sumByPairs_56 (by decide) rfl rfl ?_
      suffices h : ∀ c j (m2 : q_Mm), j + c = l / 2 → Fr [238] m m2 → (∀ i, i < j → s_dl (m2.2.2.2.2 238 i) = s_step l g i) → (∀ i, j ≤ i → i < l → s_dl (m2.2.2.2.2 238 i) = g i) → q_V (q_g Z) mX11_sumByPairs (d+1) 0 0 57 [some (.ref (q_ad Z 215)), some (.int (nI G)), some (.int (nI l)), some (.int (nI j))] [] (q_W Z (m2)) (q_P Z fun r m2 => (∃ x, r = some (.double x) ∧ s_dl x = s_sbp xs n) ∧ Fr [238] m m2) from h (l / 2) 0 m1 (by omega) f1 (fun i hi => absurd hi (Nat.not_lt_zero i)) (fun i _ hi => e1 i hi)
      intro c
      induction c with
      | zero =>
        intro j m2 hj f2 a1 a2
        have hj2 : j = l / 2 := by omega
        refine q_iload_n (pc' := 58) dX11_sumByPairs_57 rfl rfl ?_
        refine q_iload_n (pc' := 59) dX11_sumByPairs_58 rfl rfl ?_
        refine q_iconst (pc' := 60) (v := nI 2) dX11_sumByPairs_59 rfl rfl ?_
        refine q_idivN (pc' := 61) dX11_sumByPairs_60 (by omega) rfl ?_
        refine q_icmp_geN (tgt := 95) (pc' := 64) dX11_sumByPairs_61 (by decide) rfl (by omega) (fun c_61 => ?_) (fun c_61 => ?_)
        rotate_left
        · omega
        have nx : ∀ (m3 : q_Mm) w3, Fr [238] m m3 → (∀ i, i < l - l / 2 → s_dl (m3.2.2.2.2 238 i) = s_step l g i) → q_V (q_g Z) mX11_sumByPairs (d+1) 0 0 118 [some (.ref (q_ad Z 215)), some (.int (nI G)), some (.int (nI l)), w3] [] (q_W Z (m3)) (q_P Z fun r m2 => (∃ x, r = some (.double x) ∧ s_dl x = s_sbp xs n) ∧ Fr [238] m m2) := by
          intro m3 w3 f3 b1
          refine q_iload_n (pc' := 119) dX11_sumByPairs_118 rfl rfl ?_
          refine q_iconst (pc' := 120) (v := nI 1) dX11_sumByPairs_119 rfl rfl ?_
          refine q_iaddN (pc' := 121) dX11_sumByPairs_120 rfl ?_
          refine q_iconst (pc' := 122) (v := nI 2) dX11_sumByPairs_121 rfl rfl ?_
          refine q_idivN (pc' := 123) dX11_sumByPairs_122 (by omega) rfl ?_
          rw [show (l + 1) / 2 = l - l / 2 by omega]
          refine q_istore_n (pc' := 124) (lv' := [_, _, _, _]) dX11_sumByPairs_123 (by decide) rfl rfl ?_
          refine q_goto (pc' := 50) dX11_sumByPairs_124 (by decide) ?_
          exact ih (l - l / 2) (s_step l g) m3 _ G (by omega) (by omega) (by omega) h4 h5 f3 b1 hs
        refine q_iload_n (pc' := 96) dX11_sumByPairs_95 rfl rfl ?_
        refine q_iconst (pc' := 97) (v := nI 2) dX11_sumByPairs_96 rfl rfl ?_
        refine q_iremN (pc' := 98) dX11_sumByPairs_97 (by omega) rfl ?_
        refine q_iconst (pc' := 99) (v := nI 1) dX11_sumByPairs_98 rfl rfl ?_
        refine q_icmp_neN (tgt := 118) (pc' := 102) dX11_sumByPairs_99 (by decide) rfl (by omega) (fun c_99 => ?_) (fun c_99 => ?_)
        · exact nx m2 _ f2 (fun i hi => a1 i (by omega))
        · refine q_aload_n (pc' := 103) dX11_sumByPairs_102 rfl rfl ?_
          refine h_getr (pc' := 106) dX11_sumByPairs_103 fX11_78 rfl rfl rfl ?_
          refine q_iload_n (pc' := 107) dX11_sumByPairs_106 rfl rfl ?_
          refine q_iconst (pc' := 108) (v := nI 2) dX11_sumByPairs_107 rfl rfl ?_
          refine q_idivN (pc' := 109) dX11_sumByPairs_108 (by omega) rfl ?_
          refine q_aload_n (pc' := 110) dX11_sumByPairs_109 rfl rfl ?_
          refine h_getr (pc' := 113) dX11_sumByPairs_110 fX11_78 rfl rfl rfl ?_
          refine q_iload_n (pc' := 114) dX11_sumByPairs_113 rfl rfl ?_
          refine q_iconst (pc' := 115) (v := nI 1) dX11_sumByPairs_114 rfl rfl ?_
          refine q_isubN (pc' := 116) dX11_sumByPairs_115 (by omega) rfl ?_
          refine h_dald (pc' := 117) dX11_sumByPairs_116 rfl (rfl) (by omega) (by decide) rfl ?_
          refine h_dast (pc' := 118) dX11_sumByPairs_117 rfl (rfl) (by omega) (by decide) rfl ?_
          refine nx _ _ (f2.D (by decide)) (fun i hi => ?_)
          show s_dl (q_u (m2.2.2.2.2 238) (l / 2) (m2.2.2.2.2 238 (l - 1)) i) = s_step l g i
          by_cases z : i = l / 2
          · rw [z, q_u_s, a2 (l - 1) (by omega) (by omega)]
            unfold s_step
            rw [if_neg (Nat.lt_irrefl _)]
          · rw [q_u_n _ _ z]
            exact a1 i (by omega)
      | succ c ihc =>
        intro j m2 hj f2 a1 a2
        refine q_iload_n (pc' := 58) dX11_sumByPairs_57 rfl rfl ?_
        refine q_iload_n (pc' := 59) dX11_sumByPairs_58 rfl rfl ?_
        refine q_iconst (pc' := 60) (v := nI 2) dX11_sumByPairs_59 rfl rfl ?_
        refine q_idivN (pc' := 61) dX11_sumByPairs_60 (by omega) rfl ?_
        refine q_icmp_geN (tgt := 95) (pc' := 64) dX11_sumByPairs_61 (by decide) rfl (by omega) (fun c_61 => ?_) (fun c_61 => ?_)
        · omega
        refine q_aload_n (pc' := 65) dX11_sumByPairs_64 rfl rfl ?_
        refine h_getr (pc' := 68) dX11_sumByPairs_65 fX11_78 rfl rfl rfl ?_
        refine q_iload_n (pc' := 69) dX11_sumByPairs_68 rfl rfl ?_
        refine q_aload_n (pc' := 70) dX11_sumByPairs_69 rfl rfl ?_
        refine h_getr (pc' := 73) dX11_sumByPairs_70 fX11_78 rfl rfl rfl ?_
        refine q_iconst (pc' := 74) (v := nI 2) dX11_sumByPairs_73 rfl rfl ?_
        refine q_iload_n (pc' := 75) dX11_sumByPairs_74 rfl rfl ?_
        refine q_imulN (pc' := 76) dX11_sumByPairs_75 rfl ?_
        refine h_dald (pc' := 77) dX11_sumByPairs_76 rfl (rfl) (by omega) (by decide) rfl ?_
        refine q_aload_n (pc' := 78) dX11_sumByPairs_77 rfl rfl ?_
        refine h_getr (pc' := 81) dX11_sumByPairs_78 fX11_78 rfl rfl rfl ?_
        refine q_iconst (pc' := 82) (v := nI 2) dX11_sumByPairs_81 rfl rfl ?_
        refine q_iload_n (pc' := 83) dX11_sumByPairs_82 rfl rfl ?_
        refine q_imulN (pc' := 84) dX11_sumByPairs_83 rfl ?_
        refine q_iconst (pc' := 85) (v := nI 1) dX11_sumByPairs_84 rfl rfl ?_
        refine q_iaddN (pc' := 86) dX11_sumByPairs_85 rfl ?_
        refine h_dald (pc' := 87) dX11_sumByPairs_86 rfl (rfl) (by omega) (by decide) rfl ?_
        refine q_dadd_any (pc' := 88) dX11_sumByPairs_87 rfl (fun w hw => ?_)
        refine h_dast (pc' := 89) dX11_sumByPairs_88 rfl (rfl) (by omega) (by decide) rfl ?_
        refine q_iincN (pc' := 92) (j := 1) (lv' := [_, _, _, _]) dX11_sumByPairs_89 rfl (by decide) rfl rfl ?_
        refine q_goto (pc' := 57) dX11_sumByPairs_92 (by decide) ?_
        have hw2 : s_dl w = s_plus (g (2 * j)) (g (2 * j + 1)) := by rw [dl_alike hw, dl_add, a2 (2 * j) (by omega) (by omega), a2 (2 * j + 1) (by omega) (by omega)]
        refine ihc (j + 1) _ (by omega) (f2.D (by decide)) (fun i hi => ?_) (fun i hi hi2 => ?_)
        · show s_dl (q_u (m2.2.2.2.2 238) j w i) = s_step l g i
          by_cases z : i = j
          · rw [z, q_u_s, hw2]
            unfold s_step
            rw [if_pos (by omega)]
          · rw [q_u_n _ _ z]
            exact a1 i (by omega)
        · show s_dl (q_u (m2.2.2.2.2 238) j w i) = g i
          rw [q_u_n _ _ (by omega)]
          exact a2 i (by omega) hi2
  refine q_iconst (pc' := 1) (v := nI 0) dX11_sumByPairs_0 rfl rfl ?_
  refine q_istore_n (pc' := 2) (lv' := [_, _, _, _]) dX11_sumByPairs_1 (by decide) rfl rfl ?_
  refine q_iconst (pc' := 3) (v := nI 0) dX11_sumByPairs_2 rfl rfl ?_
  refine q_istore_n (pc' := 4) (lv' := [_, _, _, _]) dX11_sumByPairs_3 (by decide) rfl rfl ?_
  suffices h : ∀ c j (m1 : q_Mm), j + c = n → Fr [238] m m1 → (∀ i, i < (s_gat xs j).1 → s_dl (m1.2.2.2.2 238 i) = (s_gat xs j).2 i) → q_V (q_g Z) mX11_sumByPairs (d+1) 0 0 4 [some (.ref (q_ad Z 215)), some (.int (nI (s_gat xs j).1)), some (.int (nI j)), none] [] (q_W Z (m1)) (q_P Z fun r m2 => (∃ x, r = some (.double x) ∧ s_dl x = s_sbp xs n) ∧ Fr [238] m m2) from h n 0 m (by omega) Fr.rf (fun i hi => absurd hi (Nat.not_lt_zero i))
  intro c
  induction c with
  | zero =>
    intro j m1 hj f1 e1
    obtain rfl : n = j := by omega
    have hV1 := hV.fr f1 (congrFun (f1.i (by decide)) 20) (by decide) (by decide)
    refine q_iload_n (pc' := 5) dX11_sumByPairs_4 rfl rfl ?_
    refine q_aload_n (pc' := 6) dX11_sumByPairs_5 rfl rfl ?_
    refine h_getiE (pc' := 9) dX11_sumByPairs_6 fX11_242 rfl rfl (hV1.1) rfl ?_
    refine q_icmp_geN (tgt := 48) (pc' := 12) dX11_sumByPairs_9 (by decide) rfl (by omega) (fun c_9 => ?_) (fun c_9 => ?_)
    rotate_left
    · omega
    refine q_iload_n (pc' := 49) dX11_sumByPairs_48 rfl rfl ?_
    refine q_istore_n (pc' := 50) (lv' := [_, _, _, _]) dX11_sumByPairs_49 (by decide) rfl rfl ?_
    by_cases z : (s_gat xs n).1 = 0
    · refine q_iload_n (pc' := 51) dX11_sumByPairs_50 rfl rfl ?_
      refine q_iconst (pc' := 52) (v := nI 1) dX11_sumByPairs_51 rfl rfl ?_
      refine q_icmp_leN (tgt := 127) (pc' := 55) dX11_sumByPairs_52 (by decide) rfl (by omega) (fun c_52 => ?_) (fun c_52 => ?_)
      rotate_left
      · omega
      refine q_iload_n (pc' := 128) dX11_sumByPairs_127 rfl rfl ?_
      refine q_if_neN (tgt := 135) (pc' := 131) dX11_sumByPairs_128 (by decide) rfl (by omega) (fun c_128 => ?_) (fun c_128 => ?_)
      · omega
      refine q_dconst0 (pc' := 132) dX11_sumByPairs_131 rfl ?_
      refine q_goto (pc' := 141) dX11_sumByPairs_132 (by decide) ?_
      refine q_dret dX11_sumByPairs_141 rfl ⟨_, rfl, ⟨_, rfl, by unfold s_sbp; rw [if_pos z]; exact (s_dl_o (dv_nn dv_0)).trans (show FP.Core.dconst0.toInt64 = (0 : Int64) from by decide +kernel)⟩, f1⟩
    · exact lp 64 _ _ m1 _ _ (by omega) (by omega) (by omega) (by omega) (by omega) f1 e1 (by unfold s_sbp; rw [if_neg z])
  | succ c ih =>
    intro j m1 hj f1 e1
    have hV1 := hV.fr f1 (congrFun (f1.i (by decide)) 20) (by decide) (by decide)
    have hxj := hV1.2.2.1 j (by omega)
    have hgj := s_gat_le xs j
    refine q_iload_n (pc' := 5) dX11_sumByPairs_4 rfl rfl ?_
    refine q_aload_n (pc' := 6) dX11_sumByPairs_5 rfl rfl ?_
    refine h_getiE (pc' := 9) dX11_sumByPairs_6 fX11_242 rfl rfl (hV1.1) rfl ?_
    refine q_icmp_geN (tgt := 48) (pc' := 12) dX11_sumByPairs_9 (by decide) rfl (by omega) (fun c_9 => ?_) (fun c_9 => ?_)
    · omega
    refine q_aload_n (pc' := 13) dX11_sumByPairs_12 rfl rfl ?_
    refine h_getr (pc' := 16) dX11_sumByPairs_13 fX11_33 rfl rfl rfl ?_
    refine q_iload_n (pc' := 17) dX11_sumByPairs_16 rfl rfl ?_
    refine h_laldE (pc' := 18) dX11_sumByPairs_17 rfl (rfl) (by omega) (by decide) (hxj) rfl ?_
    refine h_callS (pc' := 21) (M' := mX11_isFinite) (As := [_]) dX11_sumByPairs_18 iX11_isFinite lX11_260 rfl rfl (Nat.le_of_ble_eq_true rfl) (Nat.le_of_ble_eq_true rfl) rfl rfl (k_isFinite) (fun r m' hq => ?_)
    obtain ⟨rfl, hmm⟩ := hq
    subst m'
    refine q_if_eqB (tgt := 42) (pc' := 24) dX11_sumByPairs_21 (by decide) rfl (fun c_21 => ?_) (fun c_21 => ?_)
    · have e : s_gat xs (j + 1) = s_gat xs j := if_neg (by rw [c_21]; decide)
      have ih := ih (j + 1) m1 (by omega) f1 (by rw [e]; exact e1)
      rw [e] at ih
      refine q_iincN (pc' := 45) (j := 1) (lv' := [_, _, _, _]) dX11_sumByPairs_42 rfl (by decide) rfl rfl ?_
      refine q_goto (pc' := 4) dX11_sumByPairs_45 (by decide) ?_
      exact ih
    · have e : s_gat xs (j + 1) = ((s_gat xs j).1 + 1, q_u (s_gat xs j).2 (s_gat xs j).1 (xs j)) := if_pos c_21
      refine q_aload_n (pc' := 25) dX11_sumByPairs_24 rfl rfl ?_
      refine h_getr (pc' := 28) dX11_sumByPairs_25 fX11_78 rfl rfl rfl ?_
      refine q_iload_n (pc' := 29) dX11_sumByPairs_28 rfl rfl ?_
      refine q_aload_n (pc' := 30) dX11_sumByPairs_29 rfl rfl ?_
      refine h_getr (pc' := 33) dX11_sumByPairs_30 fX11_33 rfl rfl rfl ?_
      refine q_iload_n (pc' := 34) dX11_sumByPairs_33 rfl rfl ?_
      refine h_laldE (pc' := 35) dX11_sumByPairs_34 rfl (rfl) (by omega) (by decide) (hxj) rfl ?_
      refine q_l2double (pc' := 38) dX11_sumByPairs_35 lX11_264 dz_nl2d dz_sl2d dz_i (snl_fin c_21) (Nat.le_of_ble_eq_true rfl) rfl ?_
      refine h_dast (pc' := 39) dX11_sumByPairs_38 rfl (rfl) (by omega) (by decide) rfl ?_
      refine q_iincN (pc' := 42) (j := 1) (lv' := [_, _, _, _]) dX11_sumByPairs_39 rfl (by decide) rfl rfl ?_
      refine q_iincN (pc' := 45) (j := 1) (lv' := [_, _, _, _]) dX11_sumByPairs_42 rfl (by decide) rfl rfl ?_
      refine q_goto (pc' := 4) dX11_sumByPairs_45 (by decide) ?_
      have ih := ih (j + 1) (sD m1 238 (q_u (m1.2.2.2.2 238) (s_gat xs j).1 (xs j).toUInt64)) (by omega) (f1.D (by decide)) (by
        rw [e]
        intro i hi
        have hi : i < (s_gat xs j).1 + 1 := hi
        show s_dl (q_u (m1.2.2.2.2 238) (s_gat xs j).1 (xs j).toUInt64 i) = q_u (s_gat xs j).2 (s_gat xs j).1 (xs j) i
        by_cases z : i = (s_gat xs j).1
        · rw [z, q_u_s, q_u_s, dl_num c_21]
        · rw [q_u_n _ _ z, q_u_n _ _ z]
          exact e1 i (by omega))
      rw [e] at ih
      exact ih
set_option maxHeartbeats 4000000 in
set_option maxRecDepth 20000 in
theorem k_sum {Z : q_Z} {m : q_Mm} {d : Nat} {n : Nat} {t : Bool} {x : Int32} {rl : Nat → Nat} {xs : Nat → Int64} (hV : t = true → MV m n rl xs) (ht : m.1 215 22 = q_b t) : q_V (q_g Z) mX11_sum (d+2) 0 0 0 [some (.ref (q_ad Z 215)), some (.int x)] [] (q_W Z m) (q_P Z fun r m2 => r = some (.long (if t = true ∧ 0 ≤ x.toInt ∧ x.toInt ≤ 1 then (if x.toInt = 0 then s_sio xs n else s_sbp xs n) else -1000000)) ∧ Fr [238] m m2) := by
  refine q_aload_n (pc' := 1) dX11_sum_0 rfl rfl ?_
  refine h_getiE (pc' := 4) dX11_sum_1 fX11_238 rfl rfl (ht) rfl ?_
  refine q_if_eqB (tgt := 37) (pc' := 7) dX11_sum_4 (by decide) rfl (fun c_4 => ?_) (fun c_4 => ?_)
  · refine q_ldc2 (pc' := 40) dX11_sum_37 kX11_236 rfl ?_
    refine q_lret dX11_sum_40 rfl ⟨_, rfl, by rw [if_neg (fun z => by rw [c_4] at z; exact absurd z.1 (by decide))], Fr.rf⟩
  refine q_iload_n (pc' := 8) dX11_sum_7 rfl rfl ?_
  refine q_iconst (pc' := 9) (v := nI 0) dX11_sum_8 rfl rfl ?_
  refine q_iconst (pc' := 10) (v := nI 1) dX11_sum_9 rfl rfl ?_
  refine h_callS (pc' := 13) (M' := mX11_in) (As := [_, _, _]) dX11_sum_10 iX11_in lX11_99 rfl rfl (Nat.le_of_ble_eq_true rfl) (Nat.le_of_ble_eq_true rfl) rfl rfl (k_in.up (Nat.zero_le _)) (fun r m' hq => ?_)
  obtain ⟨rfl, hmm⟩ := hq
  subst m'
  rw [show (nI 0).toInt = 0 from rfl, show (nI 1).toInt = 1 from rfl]
  have hV := hV c_4
  refine q_if_eqB (tgt := 37) (pc' := 16) dX11_sum_13 (by decide) rfl (fun c_13 => ?_) (fun c_13 => ?_)
  · have c_13 := of_decide_eq_false c_13
    refine q_ldc2 (pc' := 40) dX11_sum_37 kX11_236 rfl ?_
    refine q_lret dX11_sum_40 rfl ⟨_, rfl, by rw [if_neg (fun z => c_13 z.2)], Fr.rf⟩
  have c_13 := of_decide_eq_true c_13
  rw [if_pos ⟨c_4, c_13⟩]
  refine q_iload_n (pc' := 17) dX11_sum_16 rfl rfl ?_
  refine q_if_ne (tgt := 27) (pc' := 20) dX11_sum_17 (by decide) rfl (fun c_17 => ?_) (fun c_17 => ?_)
  · rw [z_eq, z_0] at c_17
    refine q_aload_n (pc' := 28) dX11_sum_27 rfl rfl ?_
    refine h_callV (pc' := 31) (M' := mX11_sumByPairs) (As := []) dX11_sum_28 iX11_sumByPairs lX11_449 rfl rfl rfl rfl (Nat.le_of_ble_eq_true rfl) (Nat.le_of_ble_eq_true rfl) rfl rfl (k_sumByPairs (d := d) hV) (fun r m' hq => ?_)
    obtain ⟨⟨w, rfl, hw⟩, f1⟩ := hq
    refine h_callS (pc' := 34) (M' := mJxe99ae_doubleToLongBits_ccdee) (As := [_]) dX11_sum_31 iJxe99ae_doubleToLongBits_ccdee lX11_153 rfl rfl (Nat.le_of_ble_eq_true rfl) (Nat.le_of_ble_eq_true rfl) rfl rfl (k_d2lA) (fun r m' hq => ?_)
    obtain ⟨rfl, hmm⟩ := hq
    subst m'
    refine q_goto (pc' := 40) dX11_sum_34 (by decide) ?_
    refine q_lret dX11_sum_40 rfl ⟨_, rfl, by rw [if_neg c_17, hw], f1⟩
  · rw [z_eq, z_0] at c_17
    refine q_aload_n (pc' := 21) dX11_sum_20 rfl rfl ?_
    refine h_callV (pc' := 24) (M' := mX11_sumInOrder) (As := []) dX11_sum_21 iX11_sumInOrder lX11_445 rfl rfl rfl rfl (Nat.le_of_ble_eq_true rfl) (Nat.le_of_ble_eq_true rfl) rfl rfl (k_sumInOrder (d := d) hV) (fun r m' hq => ?_)
    obtain ⟨⟨w, rfl, hw⟩, hmm⟩ := hq
    subst m'
    refine q_goto (pc' := 31) dX11_sum_24 (by decide) ?_
    refine h_callS (pc' := 34) (M' := mJxe99ae_doubleToLongBits_ccdee) (As := [_]) dX11_sum_31 iJxe99ae_doubleToLongBits_ccdee lX11_153 rfl rfl (Nat.le_of_ble_eq_true rfl) (Nat.le_of_ble_eq_true rfl) rfl rfl (k_d2lA) (fun r m' hq => ?_)
    obtain ⟨rfl, hmm⟩ := hq
    subst m'
    refine q_goto (pc' := 40) dX11_sum_34 (by decide) ?_
    refine q_lret dX11_sum_40 rfl ⟨_, rfl, by rw [if_pos c_17, hw], Fr.rf⟩
