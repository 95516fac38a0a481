/-! ===== GuisePack.sumByPairs ===== -/
def s_gat (xs : Nat → Int64) : Nat → Nat × (Nat → Int64)
  | 0 => (0, fun _ => 0)
  | i + 1 => if s_fin (xs i) = true then ((s_gat xs i).1 + 1, q_u (s_gat xs i).2 (s_gat xs i).1 (xs i)) else s_gat xs i
theorem s_gat_le (xs : Nat → Int64) : ∀ i, (s_gat xs i).1 ≤ i
  | 0 => Nat.le_refl _
  | i + 1 => by
    have := s_gat_le xs i
    unfold s_gat
    split
    · exact Nat.succ_le_succ this
    · omega
def s_step (l : Nat) (g : Nat → Int64) (i : Nat) : Int64 := if i < l / 2 then s_plus (g (2 * i)) (g (2 * i + 1)) else g (l - 1)
def s_tree : Nat → Nat → (Nat → Int64) → Int64
  | 0, _, g => g 0
  | f + 1, l, g => if l ≤ 1 then g 0 else s_tree f (l - l / 2) (s_step l g)
def s_sbp (xs : Nat → Int64) (n : Nat) : Int64 := if (s_gat xs n).1 = 0 then 0 else s_tree 64 (s_gat xs n).1 (s_gat xs n).2
set_option maxHeartbeats 4000000 in
set_option maxRecDepth 20000 in
theorem c_sumByPairs {Z : q_Z} {m : q_Mm} {d : Nat} {n k : Nat} {rl : Nat → Nat} {xs : Nat → Int64} {nt : Nat → Int32} (hD : DblOk m) (hC : Col m 19 n k xs rl nt) : q_V (q_g Z) mX10_sumByPairs (d+3) 0 0 0 [some (.ref (q_ad Z 0)), none, none, none] [] (q_W Z m) (q_P Z fun r m2 => r = some (.long (s_sbp xs n)) ∧ Fr [214] m m2) := by
  have hn := hC.2.2.1
  have hgn := s_gat_le xs n
  have lp : ∀ f l g (m1 : q_Mm) w2 w3, l ≤ f → 1 ≤ l → l ≤ 64 → Fr [214] m m1 → (∀ i, i < l → m1.2.2.2.1 214 i = g i) → s_tree f l g = s_sbp xs n → q_V (q_g Z) mX10_sumByPairs (d+3) 0 0 60 [some (.ref (q_ad Z 0)), some (.int (nI l)), w2, w3] [] (q_W Z (m1)) (q_P Z fun r m2 => r = some (.long (s_sbp xs n)) ∧ Fr [214] m m2) := by
    intro f
    induction f with
    | zero => intro l g m1 w2 w3 h1 h2; omega
    | succ f ih =>
      intro l g m1 w2 w3 h1 h2 h3 f1 e1 hs
      unfold s_tree at hs
      refine q_iload_n (pc' := 61) dX10_sumByPairs_60 rfl rfl ?_
      refine q_iconst (pc' := 62) (v := nI 1) dX10_sumByPairs_61 rfl rfl ?_
      refine q_icmp_leN (tgt := 141) (pc' := 65) dX10_sumByPairs_62 (by decide) rfl (by omega) (fun c_62 => ?_) (fun c_62 => ?_)
      · rw [if_pos c_62] at hs
        refine q_aload_n (pc' := 142) dX10_sumByPairs_141 rfl rfl ?_
        refine h_getr (pc' := 145) dX10_sumByPairs_142 fX10_93 rfl rfl rfl ?_
        refine q_iconst (pc' := 146) (v := nI 0) dX10_sumByPairs_145 rfl rfl ?_
        refine h_laldE (pc' := 147) dX10_sumByPairs_146 rfl (rfl) (by omega) (by decide) ((e1 0 (by omega)).trans hs) rfl ?_
        refine q_lret dX10_sumByPairs_147 rfl ⟨_, rfl, rfl, f1⟩
      rw [if_neg (by omega)] at hs
      refine q_iload_n (pc' := 66) dX10_sumByPairs_65 rfl rfl ?_
      refine q_iconst (pc' := 67) (v := nI 2) dX10_sumByPairs_66 rfl rfl ?_
      refine q_idivN (pc' := 68) dX10_sumByPairs_67 (by omega) rfl ?_
      refine q_istore_n (pc' := 69) (lv' := [_, _, _, _]) dX10_sumByPairs_68 (by decide) rfl rfl ?_
      refine q_iconst (pc' := 70) (v := nI 0) dX10_sumByPairs_69 rfl rfl ?_
      refine q_istore_n (pc' := 71) (lv' := [_, _, _, _]) dX10_sumByPairs_70 (by decide) rfl rfl ?_
      suffices h : ∀ c j (m2 : q_Mm), j + c = l / 2 → Fr [214] m m2 → (∀ i, i < j → m2.2.2.2.1 214 i = s_step l g i) → (∀ i, j ≤ i → i < l → m2.2.2.2.1 214 i = g i) → q_V (q_g Z) mX10_sumByPairs (d+3) 0 0 71 [some (.ref (q_ad Z 0)), some (.int (nI l)), some (.int (nI (l / 2))), some (.int (nI j))] [] (q_W Z (m2)) (q_P Z fun r m2 => r = some (.long (s_sbp xs n)) ∧ Fr [214] m m2) from h (l / 2) 0 m1 (by omega) f1 (fun i hi => absurd hi (Nat.not_lt_zero i)) (fun i _ hi => e1 i hi)
      intro c
      induction c with
      | zero =>
        intro j m2 hj f2 a1 a2
        have hj2 : j = l / 2 := by omega
        refine q_iload_n (pc' := 72) dX10_sumByPairs_71 rfl rfl ?_
        refine q_iload_n (pc' := 73) dX10_sumByPairs_72 rfl rfl ?_
        refine q_icmp_geN (tgt := 113) (pc' := 76) dX10_sumByPairs_73 (by decide) rfl (by omega) (fun c_73 => ?_) (fun c_73 => ?_)
        rotate_left
        · omega
        have nx : ∀ (m3 : q_Mm) w3, Fr [214] m m3 → (∀ i, i < l - l / 2 → m3.2.2.2.1 214 i = s_step l g i) → q_V (q_g Z) mX10_sumByPairs (d+3) 0 0 134 [some (.ref (q_ad Z 0)), some (.int (nI l)), some (.int (nI (l / 2))), w3] [] (q_W Z (m3)) (q_P Z fun r m2 => r = some (.long (s_sbp xs n)) ∧ Fr [214] m m2) := by
          intro m3 w3 f3 b1
          refine q_iload_n (pc' := 135) dX10_sumByPairs_134 rfl rfl ?_
          refine q_iload_n (pc' := 136) dX10_sumByPairs_135 rfl rfl ?_
          refine q_isubN (pc' := 137) dX10_sumByPairs_136 (by omega) rfl ?_
          refine q_istore_n (pc' := 138) (lv' := [_, _, _, _]) dX10_sumByPairs_137 (by decide) rfl rfl ?_
          refine q_goto (pc' := 60) dX10_sumByPairs_138 (by decide) ?_
          exact ih (l - l / 2) (s_step l g) m3 _ _ (by omega) (by omega) (by omega) f3 b1 hs
        refine q_iload_n (pc' := 114) dX10_sumByPairs_113 rfl rfl ?_
        refine q_iconst (pc' := 115) (v := nI 2) dX10_sumByPairs_114 rfl rfl ?_
        refine q_iremN (pc' := 116) dX10_sumByPairs_115 (by omega) rfl ?_
        refine q_iconst (pc' := 117) (v := nI 1) dX10_sumByPairs_116 rfl rfl ?_
        refine q_icmp_neN (tgt := 134) (pc' := 120) dX10_sumByPairs_117 (by decide) rfl (by omega) (fun c_117 => ?_) (fun c_117 => ?_)
        · exact nx m2 _ f2 (fun i hi => a1 i (by omega))
        · refine q_aload_n (pc' := 121) dX10_sumByPairs_120 rfl rfl ?_
          refine h_getr (pc' := 124) dX10_sumByPairs_121 fX10_93 rfl rfl rfl ?_
          refine q_iload_n (pc' := 125) dX10_sumByPairs_124 rfl rfl ?_
          refine q_aload_n (pc' := 126) dX10_sumByPairs_125 rfl rfl ?_
          refine h_getr (pc' := 129) dX10_sumByPairs_126 fX10_93 rfl rfl rfl ?_
          refine q_iload_n (pc' := 130) dX10_sumByPairs_129 rfl rfl ?_
          refine q_iconst (pc' := 131) (v := nI 1) dX10_sumByPairs_130 rfl rfl ?_
          refine q_isubN (pc' := 132) dX10_sumByPairs_131 (by omega) rfl ?_
          refine h_laldE (pc' := 133) dX10_sumByPairs_132 rfl (rfl) (by omega) (by decide) (a2 (l - 1) (by omega) (by omega)) rfl ?_
          refine h_last (pc' := 134) dX10_sumByPairs_133 rfl (rfl) (by omega) (by decide) rfl ?_
          refine nx _ _ (f2.L (by decide)) (fun i hi => ?_)
          show q_u (m2.2.2.2.1 214) (l / 2) (g (l - 1)) i = s_step l g i
          by_cases z : i = l / 2
          · rw [z, q_u_s]
            unfold s_step
            rw [if_neg (Nat.lt_irrefl _)]
          · rw [q_u_n _ _ z]
            exact a1 i (by omega)
      | succ c ihc =>
        intro j m2 hj f2 a1 a2
        refine q_iload_n (pc' := 72) dX10_sumByPairs_71 rfl rfl ?_
        refine q_iload_n (pc' := 73) dX10_sumByPairs_72 rfl rfl ?_
        refine q_icmp_geN (tgt := 113) (pc' := 76) dX10_sumByPairs_73 (by decide) rfl (by omega) (fun c_73 => ?_) (fun c_73 => ?_)
        · omega
        have hD2 := hD.fr f2 (by decide) (by decide) (by decide) (by decide)
        refine q_aload_n (pc' := 77) dX10_sumByPairs_76 rfl rfl ?_
        refine h_getr (pc' := 80) dX10_sumByPairs_77 fX10_93 rfl rfl rfl ?_
        refine q_iload_n (pc' := 81) dX10_sumByPairs_80 rfl rfl ?_
        refine q_aload_n (pc' := 82) dX10_sumByPairs_81 rfl rfl ?_
        refine h_getr (pc' := 85) dX10_sumByPairs_82 fX10_12 rfl rfl rfl ?_
        refine q_aload_n (pc' := 86) dX10_sumByPairs_85 rfl rfl ?_
        refine h_getr (pc' := 89) dX10_sumByPairs_86 fX10_93 rfl rfl rfl ?_
        refine q_iconst (pc' := 90) (v := nI 2) dX10_sumByPairs_89 rfl rfl ?_
        refine q_iload_n (pc' := 91) dX10_sumByPairs_90 rfl rfl ?_
        refine q_imulN (pc' := 92) dX10_sumByPairs_91 rfl ?_
        refine h_laldE (pc' := 93) dX10_sumByPairs_92 rfl (rfl) (by omega) (by decide) (a2 (2 * j) (by omega) (by omega)) rfl ?_
        refine q_aload_n (pc' := 94) dX10_sumByPairs_93 rfl rfl ?_
        refine h_getr (pc' := 97) dX10_sumByPairs_94 fX10_93 rfl rfl rfl ?_
        refine q_iconst (pc' := 98) (v := nI 2) dX10_sumByPairs_97 rfl rfl ?_
        refine q_iload_n (pc' := 99) dX10_sumByPairs_98 rfl rfl ?_
        refine q_imulN (pc' := 100) dX10_sumByPairs_99 rfl ?_
        refine q_iconst (pc' := 101) (v := nI 1) dX10_sumByPairs_100 rfl rfl ?_
        refine q_iaddN (pc' := 102) dX10_sumByPairs_101 rfl ?_
        refine h_laldE (pc' := 103) dX10_sumByPairs_102 rfl (rfl) (by omega) (by decide) (a2 (2 * j + 1) (by omega) (by omega)) rfl ?_
        refine h_callV (pc' := 106) (M' := mX3_plus) (As := [_, _]) dX10_sumByPairs_103 iX3_plus lX10_386 rfl rfl rfl rfl (Nat.le_of_ble_eq_true rfl) (Nat.le_of_ble_eq_true rfl) rfl rfl (c_plus hD2) (fun r m' hq => ?_)
        obtain ⟨rfl, hmm⟩ := hq
        subst m'
        refine h_last (pc' := 107) dX10_sumByPairs_106 rfl (rfl) (by omega) (by decide) rfl ?_
        refine q_iincN (pc' := 110) (j := 1) (lv' := [_, _, _, _]) dX10_sumByPairs_107 rfl (by decide) rfl rfl ?_
        refine q_goto (pc' := 71) dX10_sumByPairs_110 (by decide) ?_
        refine ihc (j + 1) _ (by omega) (f2.L (by decide)) (fun i hi => ?_) (fun i hi hi2 => ?_)
        · show q_u (m2.2.2.2.1 214) j (s_plus (g (2 * j)) (g (2 * j + 1))) i = s_step l g i
          by_cases z : i = j
          · rw [z, q_u_s]
            unfold s_step
            rw [if_pos (by omega)]
          · rw [q_u_n _ _ z]
            exact a1 i (by omega)
        · show q_u (m2.2.2.2.1 214) j (s_plus (g (2 * j)) (g (2 * j + 1))) i = g i
          rw [q_u_n _ _ (by omega)]
          exact a2 i (by omega) hi2
  refine q_iconst (pc' := 1) (v := nI 0) dX10_sumByPairs_0 rfl rfl ?_
  refine q_istore_n (pc' := 2) (lv' := [_, _, _, _]) dX10_sumByPairs_1 (by decide) rfl rfl ?_
  refine q_iconst (pc' := 3) (v := nI 0) dX10_sumByPairs_2 rfl rfl ?_
  refine q_istore_n (pc' := 4) (lv' := [_, _, _, _]) dX10_sumByPairs_3 (by decide) rfl rfl ?_
  suffices h : ∀ c j (m1 : q_Mm), j + c = n → Fr [214] m m1 → (∀ i, i < (s_gat xs j).1 → m1.2.2.2.1 214 i = (s_gat xs j).2 i) → q_V (q_g Z) mX10_sumByPairs (d+3) 0 0 4 [some (.ref (q_ad Z 0)), some (.int (nI (s_gat xs j).1)), some (.int (nI j)), none] [] (q_W Z (m1)) (q_P Z fun r m2 => r = some (.long (s_sbp xs n)) ∧ Fr [214] m m2) from h n 0 m (by omega) Fr.rf (fun i hi => absurd hi (Nat.not_lt_zero i))
  intro c
  induction c with
  | zero =>
    intro j m1 hj f1 e1
    obtain rfl : n = j := by omega
    have hC1 := hC.fr f1 (by decide) (by decide) (by decide) (by decide)
    refine q_iload_n (pc' := 5) dX10_sumByPairs_4 rfl rfl ?_
    refine q_aload_n (pc' := 6) dX10_sumByPairs_5 rfl rfl ?_
    refine h_getr (pc' := 9) dX10_sumByPairs_6 fX10_45 rfl rfl rfl ?_
    refine h_getiE (pc' := 12) dX10_sumByPairs_9 fX10_128 rfl rfl (hC1.1) rfl ?_
    refine q_icmp_geN (tgt := 54) (pc' := 15) dX10_sumByPairs_12 (by decide) rfl (by omega) (fun c_12 => ?_) (fun c_12 => ?_)
    rotate_left
    · omega
    refine q_iload_n (pc' := 55) dX10_sumByPairs_54 rfl rfl ?_
    refine q_if_neN (tgt := 60) (pc' := 58) dX10_sumByPairs_55 (by decide) rfl (by omega) (fun c_55 => ?_) (fun c_55 => ?_)
    · exact lp 64 _ _ m1 _ _ (by omega) (by omega) (by omega) f1 e1 (by unfold s_sbp; rw [if_neg (by omega)])
    · refine q_lconst (pc' := 59) (v := 0) dX10_sumByPairs_58 rfl rfl ?_
      refine q_lret dX10_sumByPairs_59 rfl ⟨_, rfl, by unfold s_sbp; rw [if_pos (by omega)], f1⟩
  | succ c ih =>
    intro j m1 hj f1 e1
    have hC1 := hC.fr f1 (by decide) (by decide) (by decide) (by decide)
    have hxj := hC1.2.2.2.2.1 j (by omega)
    have hgj := s_gat_le xs j
    refine q_iload_n (pc' := 5) dX10_sumByPairs_4 rfl rfl ?_
    refine q_aload_n (pc' := 6) dX10_sumByPairs_5 rfl rfl ?_
    refine h_getr (pc' := 9) dX10_sumByPairs_6 fX10_45 rfl rfl rfl ?_
    refine h_getiE (pc' := 12) dX10_sumByPairs_9 fX10_128 rfl rfl (hC1.1) rfl ?_
    refine q_icmp_geN (tgt := 54) (pc' := 15) dX10_sumByPairs_12 (by decide) rfl (by omega) (fun c_12 => ?_) (fun c_12 => ?_)
    · omega
    refine q_aload_n (pc' := 16) dX10_sumByPairs_15 rfl rfl ?_
    refine h_getr (pc' := 19) dX10_sumByPairs_16 fX10_45 rfl rfl rfl ?_
    refine h_getr (pc' := 22) dX10_sumByPairs_19 fX10_154 rfl rfl rfl ?_
    refine q_iload_n (pc' := 23) dX10_sumByPairs_22 rfl rfl ?_
    refine h_laldE (pc' := 24) dX10_sumByPairs_23 rfl (rfl) (by omega) (by decide) (hxj) rfl ?_
    refine h_callS (pc' := 27) (M' := mX10_isFinite) (As := [_]) dX10_sumByPairs_24 iX10_isFinite lX10_158 rfl rfl (Nat.le_of_ble_eq_true rfl) (Nat.le_of_ble_eq_true rfl) rfl rfl (c_isFinite) (fun r m' hq => ?_)
    obtain ⟨rfl, hmm⟩ := hq
    subst m'
    refine q_if_eqB (tgt := 48) (pc' := 30) dX10_sumByPairs_27 (by decide) rfl (fun c_27 => ?_) (fun c_27 => ?_)
    · have e : s_gat xs (j + 1) = s_gat xs j := if_neg (by rw [c_27]; decide)
      have ih := ih (j + 1) m1 (by omega) f1 (by rw [e]; exact e1)
      rw [e] at ih
      refine q_iincN (pc' := 51) (j := 1) (lv' := [_, _, _, _]) dX10_sumByPairs_48 rfl (by decide) rfl rfl ?_
      refine q_goto (pc' := 4) dX10_sumByPairs_51 (by decide) ?_
      exact ih
    · have e : s_gat xs (j + 1) = ((s_gat xs j).1 + 1, q_u (s_gat xs j).2 (s_gat xs j).1 (xs j)) := if_pos c_27
      refine q_aload_n (pc' := 31) dX10_sumByPairs_30 rfl rfl ?_
      refine h_getr (pc' := 34) dX10_sumByPairs_31 fX10_93 rfl rfl rfl ?_
      refine q_iload_n (pc' := 35) dX10_sumByPairs_34 rfl rfl ?_
      refine q_aload_n (pc' := 36) dX10_sumByPairs_35 rfl rfl ?_
      refine h_getr (pc' := 39) dX10_sumByPairs_36 fX10_45 rfl rfl rfl ?_
      refine h_getr (pc' := 42) dX10_sumByPairs_39 fX10_154 rfl rfl rfl ?_
      refine q_iload_n (pc' := 43) dX10_sumByPairs_42 rfl rfl ?_
      refine h_laldE (pc' := 44) dX10_sumByPairs_43 rfl (rfl) (by omega) (by decide) (hxj) rfl ?_
      refine h_last (pc' := 45) dX10_sumByPairs_44 rfl (rfl) (by omega) (by decide) rfl ?_
      refine q_iincN (pc' := 48) (j := 1) (lv' := [_, _, _, _]) dX10_sumByPairs_45 rfl (by decide) rfl rfl ?_
      refine q_iincN (pc' := 51) (j := 1) (lv' := [_, _, _, _]) dX10_sumByPairs_48 rfl (by decide) rfl rfl ?_
      refine q_goto (pc' := 4) dX10_sumByPairs_51 (by decide) ?_
      have ih := ih (j + 1) (sL m1 214 (q_u (m1.2.2.2.1 214) (s_gat xs j).1 (xs j))) (by omega) (f1.L (by decide)) (by
        rw [e]
        intro i hi
        have hi : i < (s_gat xs j).1 + 1 := hi
        show q_u (m1.2.2.2.1 214) (s_gat xs j).1 (xs j) i = q_u (s_gat xs j).2 (s_gat xs j).1 (xs j) i
        by_cases z : i = (s_gat xs j).1
        · rw [z, q_u_s, q_u_s]
        · rw [q_u_n _ _ z, q_u_n _ _ z]
          exact e1 i (by omega))
      rw [e] at ih
      exact ih
