/-! ===== the reference: the FIVE ===== -/
theorem k_cd_pn0 : ∀ e f : Fin 15, f.1 ≤ e.1 → s_cd (s_pn e.1 f.1) = 16 * e.1 + f.1 := by decide +kernel
theorem k_cd_pn {e f : Nat} (he : e < 15) (hf : f ≤ e) : s_cd (s_pn e f) = 16 * e + f := k_cd_pn0 ⟨e, he⟩ ⟨f, by omega⟩ hf
theorem k_pn_next0 : ∀ e : Fin 15, s_pn e.1 (e.1 + 1) = s_pn (e.1 + 1) 0 := by decide +kernel
def FV (m : q_Mm) (q : s_F) : Prop := m.1 215 35 = nI q.1 ∧ q.1 ≤ 5 ∧ (∀ i, i < q.1 → m.2.2.1 230 i = nI (s_cd (q.2.1 i)) ∧ m.2.2.1 231 i = nI (q.2.2 i)) ∧ ∀ i, i < q.1 → q.2.1 i < 120 ∧ q.2.2 i ≤ 64000
theorem FV.fr {S : List Nat} {m m2 : q_Mm} {q : s_F} (h : FV m q) (f : Fr S m m2) (h0 : m2.1 215 35 = m.1 215 35) (h3 : 230 ∉ S) (h4 : 231 ∉ S) : FV m2 q := ⟨h0.trans h.1, h.2.1, fun i hi => ⟨(congrFun (f.a h3) i).trans (h.2.2.1 i hi).1, (congrFun (f.a h4) i).trans (h.2.2.1 i hi).2⟩, h.2.2.2⟩
set_option maxHeartbeats 4000000 in
set_option maxRecDepth 20000 in
theorem k_ins {Z : q_Z} {m : q_Mm} {d p x e f : Nat} {q : s_F} {u : Option Value} {Q : _} (hF : FV m q) (hp : p < 120) (hx : x ≤ 64000) (hc : s_cd p = 16 * e + f) (he : e < 15) (hf : f < 15) (kk : ∀ m1 u, Fr [215, 230, 231] m m1 → Kp 215 [35] m m1 → FV m1 (s_r1 p x q) → q_V (q_g Z) mX11_layFive (d + 1) 0 0 140 [some (.ref (q_ad Z 215)), some (.int (nI e)), some (.int (nI f)), some (.int (nI x)), u] [] (q_W Z (m1)) Q) : q_V (q_g Z) mX11_layFive (d + 1) 0 0 31 [some (.ref (q_ad Z 215)), some (.int (nI e)), some (.int (nI f)), some (.int (nI x)), u] [] (q_W Z (m)) Q := by
  obtain ⟨L, fv, sv, hqe⟩ : ∃ L fv sv, q = (L, fv, sv) := ⟨q.1, q.2.1, q.2.2, rfl⟩
  rw [hqe] at hF kk
  obtain ⟨h7, hL, hA, hB⟩ := hF
  have h7 : m.1 215 35 = nI L := h7
  have hL : L ≤ 5 := hL
  have hA : ∀ i, i < L → m.2.2.1 230 i = nI (s_cd (fv i)) ∧ m.2.2.1 231 i = nI (sv i) := hA
  have hB : ∀ i, i < L → fv i < 120 ∧ sv i ≤ 64000 := hB
  have fin : ∀ a m1, a = s_at sv x L → Fr [215, 230, 231] m m1 → Kp 215 [35] m m1 → m1.1 215 35 = nI L → (∀ j, a < j → j ≤ L → j < 5 → m1.2.2.1 230 j = nI (s_cd (fv (j - 1))) ∧ m1.2.2.1 231 j = nI (sv (j - 1))) → (∀ j, j ≤ a → j < L → m1.2.2.1 230 j = nI (s_cd (fv j)) ∧ m1.2.2.1 231 j = nI (sv j)) → q_V (q_g Z) mX11_layFive (d + 1) 0 0 99 [some (.ref (q_ad Z 215)), some (.int (nI e)), some (.int (nI f)), some (.int (nI x)), some (.int (nI a))] [] (q_W Z (m1)) Q := by
    intro a m1 ha f1 k1 e7 hs ho
    have haL : a ≤ L := ha ▸ s_at_le sv x L
    refine q_iload (pc' := 101) dX11_layFive_99 rfl rfl ?_
    refine q_iconst (pc' := 102) (v := nI 5) dX11_layFive_101 rfl rfl ?_
    refine q_icmp_geN (tgt := 140) (pc' := 105) dX11_layFive_102 (by decide) rfl (by omega) (fun c_102 => ?_) (fun c_102 => ?_)
    · have e : s_r1 p x (L, fv, sv) = (L, fv, sv) := by unfold s_r1; rw [if_pos (by show 5 ≤ s_at sv x L; omega)]
      refine kk m1 _ f1 k1 ?_
      rw [e]
      exact ⟨e7, hL, fun i hi => ho i (by have hi : i < L := hi; omega) hi, hB⟩
    generalize hL' : (if 5 < L + 1 then 5 else L + 1) = L'
    have hl1 : a < L' ∧ L' ≤ 5 ∧ L' ≤ L + 1 := by rw [← hL']; split <;> omega
    have hmin : (if nI (L + 1) < nI 5 then nI (L + 1) else nI 5) = nI L' := by
      rw [z_min (by decide) (by omega), ← hL']
      congr 1
      split <;> split <;> omega
    have er : s_r1 p x (L, fv, sv) = (L', s_ins a fv p, s_ins a sv x) := by
      unfold s_r1
      rw [if_neg (by show ¬ 5 ≤ s_at sv x L; omega)]
      simp only [hL', ← ha]
    refine q_aload_n (pc' := 106) dX11_layFive_105 rfl rfl ?_
    refine h_getr (pc' := 109) dX11_layFive_106 fX11_57 rfl rfl rfl ?_
    refine q_iload (pc' := 111) dX11_layFive_109 rfl rfl ?_
    refine q_iload_n (pc' := 112) dX11_layFive_111 rfl rfl ?_
    refine h_iast (pc' := 113) dX11_layFive_112 rfl (rfl) (by omega) (by decide) rfl ?_
    refine q_aload_n (pc' := 114) dX11_layFive_113 rfl rfl ?_
    refine h_getr (pc' := 117) dX11_layFive_114 fX11_54 rfl rfl rfl ?_
    refine q_iload (pc' := 119) dX11_layFive_117 rfl rfl ?_
    refine q_bipush (pc' := 121) (v := nI 16) dX11_layFive_119 rfl rfl ?_
    refine q_iload_n (pc' := 122) dX11_layFive_121 rfl rfl ?_
    refine q_imulN (pc' := 123) dX11_layFive_122 rfl ?_
    refine q_iload_n (pc' := 124) dX11_layFive_123 rfl rfl ?_
    refine q_iaddN (pc' := 125) dX11_layFive_124 rfl ?_
    refine h_iast (pc' := 126) dX11_layFive_125 rfl (rfl) (by omega) (by decide) rfl ?_
    rw [← hc]
    refine q_aload_n (pc' := 127) dX11_layFive_126 rfl rfl ?_
    refine q_iconst (pc' := 128) (v := nI 5) dX11_layFive_127 rfl rfl ?_
    refine q_aload_n (pc' := 129) dX11_layFive_128 rfl rfl ?_
    refine h_getiE (pc' := 132) dX11_layFive_129 fX11_339 rfl rfl (e7) rfl ?_
    refine q_iconst (pc' := 133) (v := nI 1) dX11_layFive_132 rfl rfl ?_
    refine q_iaddN (pc' := 134) dX11_layFive_133 rfl ?_
    refine q_mmin (pc' := 137) dX11_layFive_134 lX11_278 mmin_s mz_i mmin_c (Nat.le_of_ble_eq_true rfl) rfl ?_
    rw [hmin]
    refine h_puti (pc' := 140) dX11_layFive_137 fX11_339 rfl rfl rfl rfl rfl ?_
    refine kk _ _ (((f1.A (by decide)).A (by decide)).I (by decide)) (kp_I k1 (by decide)) ?_
    rw [er]
    refine ⟨rfl, hl1.2.1, fun i hi => ?_, fun i hi => ?_⟩
    · have hi : i < L' := hi
      show q_u (m1.2.2.1 230) a (nI (s_cd p)) i = nI (s_cd (s_ins a fv p i)) ∧ q_u (m1.2.2.1 231) a (nI x) i = nI (s_ins a sv x i)
      rcases Nat.lt_trichotomy i a with h | h | h
      · rw [q_u_n _ _ (by omega), q_u_n _ _ (by omega), s_ins_lt h, s_ins_lt h]
        exact ho i (by omega) (by omega)
      · rw [h, q_u_s, q_u_s, s_ins_eq, s_ins_eq]
        exact ⟨rfl, rfl⟩
      · rw [q_u_n _ _ (by omega), q_u_n _ _ (by omega), s_ins_gt h, s_ins_gt h]
        exact hs i h (by omega) (by omega)
    · have hi : i < L' := hi
      show s_ins a fv p i < 120 ∧ s_ins a sv x i ≤ 64000
      rcases Nat.lt_trichotomy i a with h | h | h
      · rw [s_ins_lt h, s_ins_lt h]
        exact hB i (by omega)
      · rw [h, s_ins_eq, s_ins_eq]
        exact ⟨hp, hx⟩
      · rw [s_ins_gt h, s_ins_gt h]
        exact hB (i - 1) (by omega)
  refine q_aload_n (pc' := 32) dX11_layFive_31 rfl rfl ?_
  refine h_getiE (pc' := 35) dX11_layFive_32 fX11_339 rfl rfl (h7) rfl ?_
  refine q_istore (pc' := 37) (lv' := [_, _, _, _, _]) dX11_layFive_35 (by decide) rfl rfl ?_
  suffices h : ∀ k m1, k ≤ L → s_at sv x k = s_at sv x L → Fr [215, 230, 231] m m1 → Kp 215 [35] m m1 → m1.1 215 35 = nI L → (∀ j, k < j → j ≤ L → j < 5 → m1.2.2.1 230 j = nI (s_cd (fv (j - 1))) ∧ m1.2.2.1 231 j = nI (sv (j - 1))) → (∀ j, j ≤ k → j < L → m1.2.2.1 230 j = nI (s_cd (fv j)) ∧ m1.2.2.1 231 j = nI (sv j)) → q_V (q_g Z) mX11_layFive (d + 1) 0 0 37 [some (.ref (q_ad Z 215)), some (.int (nI e)), some (.int (nI f)), some (.int (nI x)), some (.int (nI k))] [] (q_W Z (m1)) Q from h L m (Nat.le_refl _) rfl Fr.rf Kp.rf h7 (fun j h1 h2 _ => by omega) (fun j _ h2 => hA j h2)
  intro k
  induction k with
  | zero =>
    intro m1 hk hs f1 k1 e7 hsh ho
    refine q_iload (pc' := 39) dX11_layFive_37 rfl rfl ?_
    refine q_if_leN (tgt := 99) (pc' := 42) dX11_layFive_39 (by decide) rfl (by omega) (fun c_39 => ?_) (fun c_39 => ?_)
    · exact fin 0 m1 hs f1 k1 e7 hsh ho
    · omega
  | succ k ih =>
    intro m1 hk hs f1 k1 e7 hsh ho
    have hb := hB k (by omega)
    have hok := ho k (by omega) (by omega)
    refine q_iload (pc' := 39) dX11_layFive_37 rfl rfl ?_
    refine q_if_leN (tgt := 99) (pc' := 42) dX11_layFive_39 (by decide) rfl (by omega) (fun c_39 => ?_) (fun c_39 => ?_)
    · omega
    refine q_aload_n (pc' := 43) dX11_layFive_42 rfl rfl ?_
    refine h_getr (pc' := 46) dX11_layFive_43 fX11_57 rfl rfl rfl ?_
    refine q_iload (pc' := 48) dX11_layFive_46 rfl rfl ?_
    refine q_iconst (pc' := 49) (v := nI 1) dX11_layFive_48 rfl rfl ?_
    refine q_isubN (pc' := 50) dX11_layFive_49 (by omega) rfl ?_
    refine h_ialdE (pc' := 51) dX11_layFive_50 rfl (rfl) (by omega) (by decide) (hok.2) rfl ?_
    refine q_iload_n (pc' := 52) dX11_layFive_51 rfl rfl ?_
    refine q_icmp_leN (tgt := 99) (pc' := 55) dX11_layFive_52 (by decide) rfl (by omega) (fun c_52 => ?_) (fun c_52 => ?_)
    · exact fin (k + 1) m1 (by rw [← hs]; unfold s_at; rw [if_neg (by omega)]) f1 k1 e7 hsh ho
    have hs2 : s_at sv x k = s_at sv x L := by rw [← hs]; show _ = (if x < sv k then _ else _); rw [if_pos (by omega)]
    refine q_iload (pc' := 57) dX11_layFive_55 rfl rfl ?_
    refine q_iconst (pc' := 58) (v := nI 5) dX11_layFive_57 rfl rfl ?_
    refine q_icmp_geN (tgt := 93) (pc' := 61) dX11_layFive_58 (by decide) rfl (by omega) (fun c_58 => ?_) (fun c_58 => ?_)
    · refine q_idecN (pc' := 96) (lv' := [_, _, _, _, _]) dX11_layFive_93 rfl (by decide) rfl rfl ?_
      refine q_goto (pc' := 37) dX11_layFive_96 (by decide) ?_
      refine ih m1 (by omega) hs2 f1 k1 e7 (fun j h1 h2 h3 => by omega) (fun j h1 h2 => ho j (by omega) h2)
    refine q_aload_n (pc' := 62) dX11_layFive_61 rfl rfl ?_
    refine h_getr (pc' := 65) dX11_layFive_62 fX11_57 rfl rfl rfl ?_
    refine q_iload (pc' := 67) dX11_layFive_65 rfl rfl ?_
    refine q_aload_n (pc' := 68) dX11_layFive_67 rfl rfl ?_
    refine h_getr (pc' := 71) dX11_layFive_68 fX11_57 rfl rfl rfl ?_
    refine q_iload (pc' := 73) dX11_layFive_71 rfl rfl ?_
    refine q_iconst (pc' := 74) (v := nI 1) dX11_layFive_73 rfl rfl ?_
    refine q_isubN (pc' := 75) dX11_layFive_74 (by omega) rfl ?_
    refine h_ialdE (pc' := 76) dX11_layFive_75 rfl (rfl) (by omega) (by decide) (hok.2) rfl ?_
    refine h_iast (pc' := 77) dX11_layFive_76 rfl (rfl) (by omega) (by decide) rfl ?_
    refine q_aload_n (pc' := 78) dX11_layFive_77 rfl rfl ?_
    refine h_getr (pc' := 81) dX11_layFive_78 fX11_54 rfl rfl rfl ?_
    refine q_iload (pc' := 83) dX11_layFive_81 rfl rfl ?_
    refine q_aload_n (pc' := 84) dX11_layFive_83 rfl rfl ?_
    refine h_getr (pc' := 87) dX11_layFive_84 fX11_54 rfl rfl rfl ?_
    refine q_iload (pc' := 89) dX11_layFive_87 rfl rfl ?_
    refine q_iconst (pc' := 90) (v := nI 1) dX11_layFive_89 rfl rfl ?_
    refine q_isubN (pc' := 91) dX11_layFive_90 (by omega) rfl ?_
    refine h_ialdE (pc' := 92) dX11_layFive_91 rfl (rfl) (by omega) (by decide) (hok.1) rfl ?_
    refine h_iast (pc' := 93) dX11_layFive_92 rfl (rfl) (by omega) (by decide) rfl ?_
    refine q_idecN (pc' := 96) (lv' := [_, _, _, _, _]) dX11_layFive_93 rfl (by decide) rfl rfl ?_
    refine q_goto (pc' := 37) dX11_layFive_96 (by decide) ?_
    refine ih _ (by omega) hs2 ((f1.A (by decide)).A (by decide)) k1 e7 (fun j h1 h2 h3 => ?_) (fun j h1 h2 => ?_)
    · show q_u (m1.2.2.1 230) (k + 1) (nI (s_cd (fv k))) j = nI (s_cd (fv (j - 1))) ∧ q_u (m1.2.2.1 231) (k + 1) (nI (sv k)) j = nI (sv (j - 1))
      by_cases h : j = k + 1
      · subst h
        rw [q_u_s, q_u_s]
        exact ⟨rfl, rfl⟩
      · rw [q_u_n _ _ h, q_u_n _ _ h]
        exact hsh j (by omega) h2 h3
    · show q_u (m1.2.2.1 230) (k + 1) (nI (s_cd (fv k))) j = nI (s_cd (fv j)) ∧ q_u (m1.2.2.1 231) (k + 1) (nI (sv k)) j = nI (sv j)
      rw [q_u_n _ _ (by omega), q_u_n _ _ (by omega)]
      exact ho j (by omega) h2
set_option maxHeartbeats 4000000 in
set_option maxRecDepth 20000 in
theorem k_layFive {Z : q_Z} {m : q_Mm} {d : Nat} {n : Nat} {rl : Nat → Nat} {xs : Nat → Int64} (hM : MD m) (hV : MV m n rl xs) : q_V (q_g Z) mX11_layFive (d+6) 0 0 0 [some (.ref (q_ad Z 215)), none, none, none, none] [] (q_W Z m) (q_P Z fun r m2 => r = none ∧ Fr [215, 227, 230, 231] m m2 ∧ Kp 215 [23, 25, 28, 29, 35] m m2 ∧ FV m2 (s_five n rl xs)) := by
  have hok := hV.2.2.2.2
  have h2 := hok.2.2.1
  have hpn := s_pn_le hok
  refine q_aload_n (pc' := 1) dX11_layFive_0 rfl rfl ?_
  refine q_iconst (pc' := 2) (v := nI 0) dX11_layFive_1 rfl rfl ?_
  refine h_puti (pc' := 5) dX11_layFive_2 fX11_339 rfl rfl rfl rfl rfl ?_
  refine q_iconst (pc' := 6) (v := nI 0) dX11_layFive_5 rfl rfl ?_
  refine q_istore_n (pc' := 7) (lv' := [_, _, _, _, _]) dX11_layFive_6 (by decide) rfl rfl ?_
  suffices h : ∀ g e m1 u v w, e + g = rl 2 + 1 → Fr [215, 227, 230, 231] m m1 → Kp 215 [23, 25, 28, 29, 35] m m1 → FV m1 (s_rk (s_score n rl (s_ws xs)) (s_pn e 0)) → q_V (q_g Z) mX11_layFive (d+6) 0 0 7 [some (.ref (q_ad Z 215)), some (.int (nI e)), u, v, w] [] (q_W Z (m1)) (q_P Z fun r m2 => r = none ∧ Fr [215, 227, 230, 231] m m2 ∧ Kp 215 [23, 25, 28, 29, 35] m m2 ∧ FV m2 (s_five n rl xs)) from h _ 0 _ _ _ _ (Nat.zero_add _) (Fr.rf.I (by decide)) (kp_I Kp.rf (by decide)) ⟨rfl, Nat.zero_le _, fun i hi => absurd hi (Nat.not_lt_zero _), fun i hi => absurd hi (Nat.not_lt_zero _)⟩
  intro g
  induction g with
  | zero =>
    intro e m1 u v w he f1 k1 F1
    obtain rfl : e = rl 2 + 1 := by omega
    have hr1 : m1.2.2.1 224 2 = nI (rl 2) := (congrFun (f1.a (by decide)) 2).trans (hV.2.2.2.1 2 (by decide))
    refine q_iload_n (pc' := 8) dX11_layFive_7 rfl rfl ?_
    refine q_aload_n (pc' := 9) dX11_layFive_8 rfl rfl ?_
    refine h_getr (pc' := 12) dX11_layFive_9 fX11_36 rfl rfl rfl ?_
    refine q_iconst (pc' := 13) (v := nI 2) dX11_layFive_12 rfl rfl ?_
    refine h_ialdE (pc' := 14) dX11_layFive_13 rfl (rfl) (by omega) (by decide) (hr1) rfl ?_
    refine q_icmp_gtN (tgt := 152) (pc' := 17) dX11_layFive_14 (by decide) rfl (by omega) (fun c_14 => ?_) (fun c_14 => ?_)
    rotate_left
    · omega
    refine q_vret dX11_layFive_152 rfl ⟨_, rfl, rfl, f1, k1, F1⟩
  | succ g ih =>
    intro e m1 u v w he f1 k1 F1
    have hr1 : m1.2.2.1 224 2 = nI (rl 2) := (congrFun (f1.a (by decide)) 2).trans (hV.2.2.2.1 2 (by decide))
    refine q_iload_n (pc' := 8) dX11_layFive_7 rfl rfl ?_
    refine q_aload_n (pc' := 9) dX11_layFive_8 rfl rfl ?_
    refine h_getr (pc' := 12) dX11_layFive_9 fX11_36 rfl rfl rfl ?_
    refine q_iconst (pc' := 13) (v := nI 2) dX11_layFive_12 rfl rfl ?_
    refine h_ialdE (pc' := 14) dX11_layFive_13 rfl (rfl) (by omega) (by decide) (hr1) rfl ?_
    refine q_icmp_gtN (tgt := 152) (pc' := 17) dX11_layFive_14 (by decide) rfl (by omega) (fun c_14 => ?_) (fun c_14 => ?_)
    · omega
    refine q_iconst (pc' := 18) (v := nI 0) dX11_layFive_17 rfl rfl ?_
    refine q_istore_n (pc' := 19) (lv' := [_, _, _, _, _]) dX11_layFive_18 (by decide) rfl rfl ?_
    suffices h : ∀ g2 f m1 v w, f + g2 = e + 1 → Fr [215, 227, 230, 231] m m1 → Kp 215 [23, 25, 28, 29, 35] m m1 → FV m1 (s_rk (s_score n rl (s_ws xs)) (s_pn e f)) → q_V (q_g Z) mX11_layFive (d+6) 0 0 19 [some (.ref (q_ad Z 215)), some (.int (nI e)), some (.int (nI f)), v, w] [] (q_W Z (m1)) (q_P Z fun r m2 => r = none ∧ Fr [215, 227, 230, 231] m m2 ∧ Kp 215 [23, 25, 28, 29, 35] m m2 ∧ FV m2 (s_five n rl xs)) from h _ 0 m1 _ _ (Nat.zero_add _) f1 k1 F1
    intro g2
    induction g2 with
    | zero =>
      intro f m1 v w hf f1 k1 F1
      obtain rfl : f = e + 1 := by omega
      refine q_iload_n (pc' := 20) dX11_layFive_19 rfl rfl ?_
      refine q_iload_n (pc' := 21) dX11_layFive_20 rfl rfl ?_
      refine q_icmp_gtN (tgt := 146) (pc' := 24) dX11_layFive_21 (by decide) rfl (by omega) (fun c_21 => ?_) (fun c_21 => ?_)
      rotate_left
      · omega
      refine q_iincN (pc' := 149) (j := 1) (lv' := [_, _, _, _, _]) dX11_layFive_146 rfl (by decide) rfl rfl ?_
      refine q_goto (pc' := 7) dX11_layFive_149 (by decide) ?_
      rw [k_pn_next0 ⟨e, by omega⟩] at F1
      exact ih (e + 1) m1 _ _ _ (by omega) f1 k1 F1
    | succ g2 ih2 =>
      intro f m1 v w hf f1 k1 F1
      have hp : s_pn e f < 120 := s_pn_lt (by omega) (by omega)
      have hcd := k_cd_pn (e := e) (f := f) (by omega) (by omega)
      have hV1 := hV.fr f1 (k1 20 (by decide)) (by decide) (by decide)
      have hM1 := hM.fr f1 (by decide) (by decide)
      refine q_iload_n (pc' := 20) dX11_layFive_19 rfl rfl ?_
      refine q_iload_n (pc' := 21) dX11_layFive_20 rfl rfl ?_
      refine q_icmp_gtN (tgt := 146) (pc' := 24) dX11_layFive_21 (by decide) rfl (by omega) (fun c_21 => ?_) (fun c_21 => ?_)
      · omega
      refine q_aload_n (pc' := 25) dX11_layFive_24 rfl rfl ?_
      refine q_iload_n (pc' := 26) dX11_layFive_25 rfl rfl ?_
      refine q_iload_n (pc' := 27) dX11_layFive_26 rfl rfl ?_
      refine h_callV (pc' := 30) (M' := mX11_scoreOf) (As := [_, _]) dX11_layFive_27 iX11_scoreOf lX11_342 rfl rfl rfl rfl (Nat.le_of_ble_eq_true rfl) (Nat.le_of_ble_eq_true rfl) rfl rfl (k_scoreOf (p := s_pn e f) (e := e) (f := f) hM1 hV1 (by rw [hcd]; omega) (by rw [hcd]; omega) (by omega) (by omega)) (fun r m' hq => ?_)
      obtain ⟨rfl, f2, k2⟩ := hq
      have F2 := F1.fr f2 (k2 35 (by decide)) (by decide) (by decide)
      have f3 := f1.trans (f2.mono (by decide) : Fr [215, 227, 230, 231] m1 m')
      have k3 : Kp 215 [23, 25, 28, 29, 35] m m' := k1.trans (k2.mono (by decide))
      refine q_istore_n (pc' := 31) (lv' := [_, _, _, _, _]) dX11_layFive_30 (by decide) rfl rfl ?_
      refine k_ins F2 hp (s_score_le hok hV.2.1 _ _) hcd (by omega) (by omega) (fun m2 u f4 k4 F4 => ?_)
      refine q_iincN (pc' := 143) (j := 1) (lv' := [_, _, _, _, _]) dX11_layFive_140 rfl (by decide) rfl rfl ?_
      refine q_goto (pc' := 19) dX11_layFive_143 (by decide) ?_
      exact ih2 (f + 1) m2 _ _ (by omega) (f3.trans (f4.mono (by decide))) (k3.trans (k4.mono (by decide))) F4
