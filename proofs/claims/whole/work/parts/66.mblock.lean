/-! ===== the reference: RAW and DECIMAL ===== -/
theorem Kb.k {m m2 : q_Mm} {B : List Nat} {a : Nat} {J : List Nat} {S : List Nat} (h : Kb m B a) (k : Kp 215 J m m2) (h5 : 5 ∉ J) (h6 : 6 ∉ J) (h13 : 13 ∉ J) : Kb m2 B a := ⟨(k 5 h5).trans h.1, (k 13 h13).trans h.2.1, (k 6 h6).trans h.2.2.1, h.2.2.2⟩
set_option maxHeartbeats 4000000 in
set_option maxRecDepth 20000 in
theorem k_readRaw {Z : q_Z} {m : q_Mm} {d : Nat} {B : List Nat} {a sz : Nat} (hT : MT m B) (hK : Kb m B a) (hsz : m.1 215 12 = nI sz) (hz : sz ≤ 16) : q_V (q_g Z) mX11_readRaw (d+3) 0 0 0 [some (.ref (q_ad Z 215)), none] [] (q_W Z m) (q_P Z fun r m2 => r = none ∧ Ko m m2 B [221] [] (decide (a + 8 * sz ≤ B.length)) (if a + 8 * sz ≤ B.length then a + 8 * sz else B.length) ∧ (a + 8 * sz ≤ B.length → ∀ i, i < sz → m2.2.2.2.1 221 i = lN (s_ln B (a + 8 * i) 8))) := by
  have hb := hT.2.1
  have hle := hK.2.2.2
  have wr : ¬ a + 8 * sz ≤ B.length → ∀ g j m1, j + g = sz → Fr [215, 221] m m1 → Kp 215 [5, 6, 13] m m1 → m1.1 215 6 = nI B.length → q_V (q_g Z) mX11_readRaw (d+3) 0 0 2 [some (.ref (q_ad Z 215)), some (.int (nI j))] [] (q_W Z (m1)) (q_P Z fun r m2 => r = none ∧ Ko m m2 B [221] [] (decide (a + 8 * sz ≤ B.length)) (if a + 8 * sz ≤ B.length then a + 8 * sz else B.length) ∧ (a + 8 * sz ≤ B.length → ∀ i, i < sz → m2.2.2.2.1 221 i = lN (s_ln B (a + 8 * i) 8))) := by
    intro hn g
    induction g with
    | zero =>
      intro j m1 hj f1 k1 e6
      refine q_iload_n (pc' := 3) dX11_readRaw_2 rfl rfl ?_
      refine q_aload_n (pc' := 4) dX11_readRaw_3 rfl rfl ?_
      refine h_getiE (pc' := 7) dX11_readRaw_4 fX11_197 rfl rfl ((k1 12 (by decide)).trans hsz) rfl ?_
      refine q_icmp_geN (tgt := 26) (pc' := 10) dX11_readRaw_7 (by decide) rfl (by omega) (fun c_7 => ?_) (fun c_7 => ?_)
      · refine q_vret dX11_readRaw_26 rfl ⟨_, rfl, rfl, ⟨f1, k1, by rw [decide_eq_false hn, if_neg hn]; exact e6⟩, fun z => absurd z hn⟩
      · omega
    | succ g ih =>
      intro j m1 hj f1 k1 e6
      refine q_iload_n (pc' := 3) dX11_readRaw_2 rfl rfl ?_
      refine q_aload_n (pc' := 4) dX11_readRaw_3 rfl rfl ?_
      refine h_getiE (pc' := 7) dX11_readRaw_4 fX11_197 rfl rfl ((k1 12 (by decide)).trans hsz) rfl ?_
      refine q_icmp_geN (tgt := 26) (pc' := 10) dX11_readRaw_7 (by decide) rfl (by omega) (fun c_7 => ?_) (fun c_7 => ?_)
      · omega
      refine q_aload_n (pc' := 11) dX11_readRaw_10 rfl rfl ?_
      refine h_getr (pc' := 14) dX11_readRaw_11 fX11_27 rfl rfl rfl ?_
      refine q_iload_n (pc' := 15) dX11_readRaw_14 rfl rfl ?_
      refine q_aload_n (pc' := 16) dX11_readRaw_15 rfl rfl ?_
      refine h_callV (pc' := 19) (M' := mX11_eight) (As := []) dX11_readRaw_16 iX11_eight lX11_200 rfl rfl rfl rfl (Nat.le_of_ble_eq_true rfl) (Nat.le_of_ble_eq_true rfl) rfl rfl ((k_eightW (d := d) e6 (z_m1n (by omega))).up (by omega)) (fun r m' hq => ?_)
      obtain ⟨⟨x, rfl⟩, hmm⟩ := hq
      subst m'
      refine h_last (pc' := 20) dX11_readRaw_19 rfl (rfl) (by omega) (by decide) rfl ?_
      refine q_iincN (pc' := 23) (j := 1) (lv' := [_, _]) dX11_readRaw_20 rfl (by decide) rfl rfl ?_
      refine q_goto (pc' := 2) dX11_readRaw_23 (by decide) ?_
      exact ih (j + 1) _ (by omega) (f1.L (by decide)) k1 e6
  refine q_iconst (pc' := 1) (v := nI 0) dX11_readRaw_0 rfl rfl ?_
  refine q_istore_n (pc' := 2) (lv' := [_, _]) dX11_readRaw_1 (by decide) rfl rfl ?_
  suffices h : ∀ g j m1, j + g = sz → a + 8 * j ≤ B.length → Fr [215, 221] m m1 → Kp 215 [5, 6, 13] m m1 → Kb m1 B (a + 8 * j) → (∀ i, i < j → m1.2.2.2.1 221 i = lN (s_ln B (a + 8 * i) 8)) → q_V (q_g Z) mX11_readRaw (d+3) 0 0 2 [some (.ref (q_ad Z 215)), some (.int (nI j))] [] (q_W Z (m1)) (q_P Z fun r m2 => r = none ∧ Ko m m2 B [221] [] (decide (a + 8 * sz ≤ B.length)) (if a + 8 * sz ≤ B.length then a + 8 * sz else B.length) ∧ (a + 8 * sz ≤ B.length → ∀ i, i < sz → m2.2.2.2.1 221 i = lN (s_ln B (a + 8 * i) 8))) from h sz 0 m (by omega) hle Fr.rf Kp.rf hK (fun i hi => absurd hi (by omega))
  intro g
  induction g with
  | zero =>
    intro j m1 hj hl f1 k1 K1 hv
    obtain rfl : j = sz := by omega
    refine q_iload_n (pc' := 3) dX11_readRaw_2 rfl rfl ?_
    refine q_aload_n (pc' := 4) dX11_readRaw_3 rfl rfl ?_
    refine h_getiE (pc' := 7) dX11_readRaw_4 fX11_197 rfl rfl ((k1 12 (by decide)).trans hsz) rfl ?_
    refine q_icmp_geN (tgt := 26) (pc' := 10) dX11_readRaw_7 (by decide) rfl (by omega) (fun c_7 => ?_) (fun c_7 => ?_)
    · refine q_vret dX11_readRaw_26 rfl ⟨_, rfl, rfl, ⟨f1, k1, by rw [decide_eq_true hl, if_pos rfl, if_pos hl]; exact K1⟩, fun _ => hv⟩
    · omega
  | succ g ih =>
    intro j m1 hj hl f1 k1 K1 hv
    have hT1 := hT.fr f1 (k1 4 (by decide)) (by decide)
    refine q_iload_n (pc' := 3) dX11_readRaw_2 rfl rfl ?_
    refine q_aload_n (pc' := 4) dX11_readRaw_3 rfl rfl ?_
    refine h_getiE (pc' := 7) dX11_readRaw_4 fX11_197 rfl rfl ((k1 12 (by decide)).trans hsz) rfl ?_
    refine q_icmp_geN (tgt := 26) (pc' := 10) dX11_readRaw_7 (by decide) rfl (by omega) (fun c_7 => ?_) (fun c_7 => ?_)
    · omega
    refine q_aload_n (pc' := 11) dX11_readRaw_10 rfl rfl ?_
    refine h_getr (pc' := 14) dX11_readRaw_11 fX11_27 rfl rfl rfl ?_
    refine q_iload_n (pc' := 15) dX11_readRaw_14 rfl rfl ?_
    refine q_aload_n (pc' := 16) dX11_readRaw_15 rfl rfl ?_
    refine h_callV (pc' := 19) (M' := mX11_eight) (As := []) dX11_readRaw_16 iX11_eight lX11_200 rfl rfl rfl rfl (Nat.le_of_ble_eq_true rfl) (Nat.le_of_ble_eq_true rfl) rfl rfl (k_eight hT1 K1) (fun r m' hq => ?_)
    obtain ⟨⟨x, rfl, hx⟩, f2, k2, h2⟩ := hq
    have f3 : Fr [215, 221] m m' := f1.trans (f2.mono (by decide))
    have k3 : Kp 215 [5, 6, 13] m m' := k1.trans k2
    refine h_last (pc' := 20) dX11_readRaw_19 rfl (rfl) (by omega) (by decide) rfl ?_
    refine q_iincN (pc' := 23) (j := 1) (lv' := [_, _]) dX11_readRaw_20 rfl (by decide) rfl rfl ?_
    refine q_goto (pc' := 2) dX11_readRaw_23 (by decide) ?_
    by_cases hl8 : a + 8 * j + 8 ≤ B.length
    · rw [decide_eq_true hl8, if_pos rfl, if_pos hl8] at h2
      refine ih (j + 1) _ (by omega) (by omega) (f3.L (by decide)) k3 h2 (fun i hi => ?_)
      show q_u (m'.2.2.2.1 221) j x i = _
      by_cases z : i = j
      · rw [z, q_u_s]; exact hx hl8
      · rw [q_u_n _ _ z]
        exact (congrFun (f2.l (by decide)) i).trans (hv i (by omega))
    · rw [decide_eq_false hl8, if_neg (by decide), if_neg hl8] at h2
      exact wr (by omega) g (j + 1) _ (by omega) (f3.L (by decide)) k3 h2
set_option maxHeartbeats 4000000 in
set_option maxRecDepth 20000 in
theorem k_unguised {Z : q_Z} {m : q_Mm} {d : Nat} {w : Int64} {e f : Nat} (hM : MD m) (he : e < 15) (hf : f < 15) : q_V (q_g Z) mX11_unguised (d) 0 0 0 [some (.ref (q_ad Z 215)), some (.long w), none, some (.int (nI e)), some (.int (nI f)), none, none] [] (q_W Z m) (q_P Z fun r m2 => r = some (.double (s_dec w e f)) ∧ m2 = m) := by
  refine q_lload_n (pc' := 1) dX11_unguised_0 rfl rfl ?_
  refine q_l2d (pc' := 2) dX11_unguised_1 rfl ?_
  refine q_aload_n (pc' := 3) dX11_unguised_2 rfl rfl ?_
  refine h_getr (pc' := 6) dX11_unguised_3 fX11_9 rfl rfl rfl ?_
  refine q_iload (pc' := 8) dX11_unguised_6 rfl rfl ?_
  refine h_daldE (pc' := 9) dX11_unguised_8 rfl (rfl) (by omega) (by decide) ((hM f hf).1) rfl ?_
  refine q_dmul (pc' := 10) dX11_unguised_9 (dv_n64 (nn_mul (nn_l2d w) (nz_tn ⟨f, hf⟩))) rfl ?_
  refine q_dstore (pc' := 12) (lv' := [_, _, _, _, _, _, _]) dX11_unguised_10 (by decide) rfl rfl ?_
  refine q_dload (pc' := 14) dX11_unguised_12 rfl rfl ?_
  refine q_aload_n (pc' := 15) dX11_unguised_14 rfl rfl ?_
  refine h_getr (pc' := 18) dX11_unguised_15 fX11_13 rfl rfl rfl ?_
  refine q_iload_n (pc' := 19) dX11_unguised_18 rfl rfl ?_
  refine h_daldE (pc' := 20) dX11_unguised_19 rfl (rfl) (by omega) (by decide) ((hM e he).2) rfl ?_
  refine q_dmul (pc' := 21) dX11_unguised_20 (dv_n64 (nn_dec w he hf)) rfl ?_
  refine q_dret dX11_unguised_21 rfl ⟨_, rfl, rfl, rfl⟩
theorem nn_dec2 (w : Int64) {e f : Nat} (he : e < 15) (hf : f < 15) : FP.Core.val64 (s_dec w e f) ≠ .nan := nn_dec w he hf
set_option maxHeartbeats 4000000 in
set_option maxRecDepth 20000 in
theorem k_readDecimals {Z : q_Z} {m : q_Mm} {d : Nat} {B : List Nat} {a sz : Nat} (hM : MD m) (hT : MT m B) (hK : Kb m B a) (hsz : m.1 215 12 = nI sz) (hz : sz ≤ 16) : q_V (q_g Z) mX11_readDecimals (d+3) 0 0 0 [some (.ref (q_ad Z 215)), none, none, none, none, none, none, none, none, none] [] (q_W Z m) (q_P Z fun r m2 => r = none ∧ Ko m m2 B [221] [14] (s_dIn B sz a).1 (s_dIn B sz a).2.1 ∧ ((s_dIn B sz a).1 = true → ∀ i, i < sz → m2.2.2.2.1 221 i = (s_dIn B sz a).2.2 i)) := by
  have hb := hT.2.1
  have hb2 := hT.2.2.2
  have hal := hK.2.2.2
  obtain ⟨R, hR⟩ : ∃ R, s_dIn B sz a = R := ⟨_, rfl⟩
  rw [hR]
  unfold s_dIn at hR
  have w98 : ∀ g k lo m1 e f od ba wd u x, k + g = od → od ≤ sz → lo ≤ sz - od + k → x ≤ 320 → R.1 = false → R.2.1 = x → Fr [215, 221] m m1 → Kp 215 [5, 6, 13, 14] m m1 → m1.1 215 6 = nI x → q_V (q_g Z) mX11_readDecimals (d+3) 0 0 98 [some (.ref (q_ad Z 215)), some (.int e), some (.int f), some (.int (nI od)), some (.long ba), none, some (.int wd), some (.int (nI lo)), some (.int (nI k)), u] [] (q_W Z (m1)) (q_P Z fun r m2 => r = none ∧ Ko m m2 B [221] [14] R.1 R.2.1 ∧ (R.1 = true → ∀ i, i < sz → m2.2.2.2.1 221 i = R.2.2 i)) := by
    intro g
    induction g with
    | zero =>
      intro k lo m1 e f od ba wd u x hk hod hlo hx r1 r2 f1 k1 e6
      refine q_iload (pc' := 100) dX11_readDecimals_98 rfl rfl ?_
      refine q_iload_n (pc' := 101) dX11_readDecimals_100 rfl rfl ?_
      refine q_icmp_geN (tgt := 144) (pc' := 104) dX11_readDecimals_101 (by decide) rfl (by omega) (fun c_101 => ?_) (fun c_101 => ?_)
      · refine q_vret dX11_readDecimals_144 rfl ⟨_, rfl, rfl, ⟨f1, k1, by rw [r1, r2]; exact e6⟩, fun z => by rw [r1] at z; cases z⟩
      · omega
    | succ g ih =>
      intro k lo m1 e f od ba wd u x hk hod hlo hx r1 r2 f1 k1 e6
      refine q_iload (pc' := 100) dX11_readDecimals_98 rfl rfl ?_
      refine q_iload_n (pc' := 101) dX11_readDecimals_100 rfl rfl ?_
      refine q_icmp_geN (tgt := 144) (pc' := 104) dX11_readDecimals_101 (by decide) rfl (by omega) (fun c_101 => ?_) (fun c_101 => ?_)
      · omega
      refine q_aload_n (pc' := 105) dX11_readDecimals_104 rfl rfl ?_
      refine q_iload (pc' := 107) dX11_readDecimals_105 rfl rfl ?_
      refine q_aload_n (pc' := 108) dX11_readDecimals_107 rfl rfl ?_
      refine h_getiE (pc' := 111) dX11_readDecimals_108 fX11_197 rfl rfl ((k1 12 (by decide)).trans hsz) rfl ?_
      refine q_iload_n (pc' := 112) dX11_readDecimals_111 rfl rfl ?_
      refine q_isubN (pc' := 113) dX11_readDecimals_112 (by omega) rfl ?_
      refine q_iload (pc' := 115) dX11_readDecimals_113 rfl rfl ?_
      refine q_iaddN (pc' := 116) dX11_readDecimals_115 rfl ?_
      refine h_callV (pc' := 119) (M' := mX11_byteIn) (As := [_, _]) dX11_readDecimals_116 iX11_byteIn lX11_191 rfl rfl rfl rfl (Nat.le_of_ble_eq_true rfl) (Nat.le_of_ble_eq_true rfl) rfl rfl ((k_byteW e6 (z_m1n (by omega))).up (Nat.zero_le _)) (fun r m' hq => ?_)
      obtain ⟨rfl, hmm⟩ := hq
      subst m'
      refine q_istore (pc' := 121) (lv' := [_, _, _, _, _, _, _, _, _, _]) dX11_readDecimals_119 (by decide) rfl rfl ?_
      refine q_aload_n (pc' := 122) dX11_readDecimals_121 rfl rfl ?_
      refine h_getr (pc' := 125) dX11_readDecimals_122 fX11_27 rfl rfl rfl ?_
      refine q_iload (pc' := 127) dX11_readDecimals_125 rfl rfl ?_
      refine q_aload_n (pc' := 128) dX11_readDecimals_127 rfl rfl ?_
      refine h_callV (pc' := 131) (M' := mX11_eight) (As := []) dX11_readDecimals_128 iX11_eight lX11_200 rfl rfl rfl rfl (Nat.le_of_ble_eq_true rfl) (Nat.le_of_ble_eq_true rfl) rfl rfl ((k_eightW (d := d) e6 (z_m1n (by omega))).up (by omega)) (fun r m' hq => ?_)
      obtain ⟨⟨y, rfl⟩, hmm⟩ := hq
      subst m'
      refine h_last (pc' := 132) dX11_readDecimals_131 rfl (rfl) (by omega) (by decide) rfl ?_
      refine q_iload (pc' := 134) dX11_readDecimals_132 rfl rfl ?_
      refine q_iconst (pc' := 135) (v := nI 1) dX11_readDecimals_134 rfl rfl ?_
      refine q_iaddN (pc' := 136) dX11_readDecimals_135 rfl ?_
      refine q_istore (pc' := 138) (lv' := [_, _, _, _, _, _, _, _, _, _]) dX11_readDecimals_136 (by decide) rfl rfl ?_
      refine q_iincN (pc' := 141) (j := 1) (lv' := [_, _, _, _, _, _, _, _, _, _]) dX11_readDecimals_138 rfl (by decide) rfl rfl ?_
      refine q_goto (pc' := 98) dX11_readDecimals_141 (by decide) ?_
      exact ih (k + 1) (lo + 1) _ e f od ba wd _ x (by omega) hod (by omega) hx r1 r2 (f1.L (by decide)) k1 e6
  have w88 : ∀ m1 e f od ba wd u u2 u3 x, od ≤ sz → x ≤ 320 → R.1 = false → R.2.1 = x → Fr [215, 221] m m1 → Kp 215 [5, 6, 13, 14] m m1 → m1.1 215 6 = nI x → (∃ b, b < 100000 ∧ m1.1 215 14 = nI b) → q_V (q_g Z) mX11_readDecimals (d+3) 0 0 88 [some (.ref (q_ad Z 215)), some (.int e), some (.int f), some (.int (nI od)), some (.long ba), none, some (.int wd), some (.int u), u2, u3] [] (q_W Z (m1)) (q_P Z fun r m2 => r = none ∧ Ko m m2 B [221] [14] R.1 R.2.1 ∧ (R.1 = true → ∀ i, i < sz → m2.2.2.2.1 221 i = R.2.2 i)) := by
    intro m1 e f od ba wd u u2 u3 x hod hx r1 r2 f1 k1 e6 eb
    refine q_aload_n (pc' := 89) dX11_readDecimals_88 rfl rfl ?_
    refine h_callV (pc' := 92) (M' := mX11_endBits) (As := []) dX11_readDecimals_89 iX11_endBits lX11_211 rfl rfl rfl rfl (Nat.le_of_ble_eq_true rfl) (Nat.le_of_ble_eq_true rfl) rfl rfl ((k_endW e6 (z_m1n (by omega)) eb).up (Nat.zero_le _)) (fun r m' hq => ?_)
    obtain ⟨rfl, hmm⟩ := hq
    subst m'
    refine q_iconst (pc' := 93) (v := nI 0) dX11_readDecimals_92 rfl rfl ?_
    refine q_istore (pc' := 95) (lv' := [_, _, _, _, _, _, _, _, _, _]) dX11_readDecimals_93 (by decide) rfl rfl ?_
    refine q_iconst (pc' := 96) (v := nI 0) dX11_readDecimals_95 rfl rfl ?_
    refine q_istore (pc' := 98) (lv' := [_, _, _, _, _, _, _, _, _, _]) dX11_readDecimals_96 (by decide) rfl rfl ?_
    exact w98 od 0 0 m1 e f od ba wd _ x (by omega) hod (by omega) hx r1 r2 f1 k1 e6
  have w48 : ∀ g j m1 e f od ba wd u2 u3 x, j + g = sz → e < 15 → f < 15 → od ≤ sz → x ≤ 320 → R.1 = false → R.2.1 = x → Fr [215, 221] m m1 → Kp 215 [5, 6, 13, 14] m m1 → m1.1 215 6 = nI x → (∃ b, b < 100000 ∧ m1.1 215 14 = nI b) → q_V (q_g Z) mX11_readDecimals (d+3) 0 0 48 [some (.ref (q_ad Z 215)), some (.int (nI e)), some (.int (nI f)), some (.int (nI od)), some (.long ba), none, some (.int wd), some (.int (nI j)), u2, u3] [] (q_W Z (m1)) (q_P Z fun r m2 => r = none ∧ Ko m m2 B [221] [14] R.1 R.2.1 ∧ (R.1 = true → ∀ i, i < sz → m2.2.2.2.1 221 i = R.2.2 i)) := by
    intro g
    induction g with
    | zero =>
      intro j m1 e f od ba wd u2 u3 x hj he hf hod hx r1 r2 f1 k1 e6 eb
      refine q_iload (pc' := 50) dX11_readDecimals_48 rfl rfl ?_
      refine q_aload_n (pc' := 51) dX11_readDecimals_50 rfl rfl ?_
      refine h_getiE (pc' := 54) dX11_readDecimals_51 fX11_197 rfl rfl ((k1 12 (by decide)).trans hsz) rfl ?_
      refine q_icmp_geN (tgt := 88) (pc' := 57) dX11_readDecimals_54 (by decide) rfl (by omega) (fun c_54 => ?_) (fun c_54 => ?_)
      · exact w88 m1 _ _ od ba wd _ u2 u3 x hod hx r1 r2 f1 k1 e6 eb
      · omega
    | succ g ih =>
      intro j m1 e f od ba wd u2 u3 x hj he hf hod hx r1 r2 f1 k1 e6 eb
      have hM1 := hM.fr f1 (by decide) (by decide)
      refine q_iload (pc' := 50) dX11_readDecimals_48 rfl rfl ?_
      refine q_aload_n (pc' := 51) dX11_readDecimals_50 rfl rfl ?_
      refine h_getiE (pc' := 54) dX11_readDecimals_51 fX11_197 rfl rfl ((k1 12 (by decide)).trans hsz) rfl ?_
      refine q_icmp_geN (tgt := 88) (pc' := 57) dX11_readDecimals_54 (by decide) rfl (by omega) (fun c_54 => ?_) (fun c_54 => ?_)
      · omega
      refine q_aload_n (pc' := 58) dX11_readDecimals_57 rfl rfl ?_
      refine h_getr (pc' := 61) dX11_readDecimals_58 fX11_27 rfl rfl rfl ?_
      refine q_iload (pc' := 63) dX11_readDecimals_61 rfl rfl ?_
      refine q_aload_n (pc' := 64) dX11_readDecimals_63 rfl rfl ?_
      refine q_lload (pc' := 66) dX11_readDecimals_64 rfl rfl ?_
      refine q_aload_n (pc' := 67) dX11_readDecimals_66 rfl rfl ?_
      refine q_iload (pc' := 69) dX11_readDecimals_67 rfl rfl ?_
      refine h_callV (pc' := 72) (M' := mX11_takeBits) (As := [_]) dX11_readDecimals_69 iX11_takeBits lX11_203 rfl rfl rfl rfl (Nat.le_of_ble_eq_true rfl) (Nat.le_of_ble_eq_true rfl) rfl rfl ((k_takeW e6 (z_m1n (by omega))).up (Nat.zero_le _)) (fun r m' hq => ?_)
      obtain ⟨⟨y, rfl⟩, hmm⟩ := hq
      subst m'
      refine q_ladd (pc' := 73) dX11_readDecimals_72 rfl ?_
      refine q_iload_n (pc' := 74) dX11_readDecimals_73 rfl rfl ?_
      refine q_iload_n (pc' := 75) dX11_readDecimals_74 rfl rfl ?_
      refine h_callV (pc' := 78) (M' := mX11_unguised) (As := [_, _, _]) dX11_readDecimals_75 iX11_unguised lX11_207 rfl rfl rfl rfl (Nat.le_of_ble_eq_true rfl) (Nat.le_of_ble_eq_true rfl) rfl rfl ((k_unguised hM1 he hf).up (Nat.zero_le _)) (fun r m' hq => ?_)
      obtain ⟨rfl, hmm⟩ := hq
      subst m'
      refine h_callS (pc' := 81) (M' := mJxe99ae_doubleToLongBits_ccdee) (As := [_]) dX11_readDecimals_78 iJxe99ae_doubleToLongBits_ccdee lX11_153 rfl rfl (Nat.le_of_ble_eq_true rfl) (Nat.le_of_ble_eq_true rfl) rfl rfl ((k_d2l (d := d) (nn_dec _ he hf)).up (by omega)) (fun r m' hq => ?_)
      obtain ⟨rfl, hmm⟩ := hq
      subst m'
      refine h_last (pc' := 82) dX11_readDecimals_81 rfl (rfl) (by omega) (by decide) rfl ?_
      refine q_iincN (pc' := 85) (j := 1) (lv' := [_, _, _, _, _, _, _, _, _, _]) dX11_readDecimals_82 rfl (by decide) rfl rfl ?_
      refine q_goto (pc' := 48) dX11_readDecimals_85 (by decide) ?_
      exact ih (j + 1) _ e f od ba wd u2 u3 x (by omega) he hf hod hx r1 r2 (f1.L (by decide)) k1 e6 eb
  have w40 : ∀ m1 e f od ba wd u1 u2 u3 x, e < 15 → f < 15 → od ≤ sz → x ≤ 320 → R.1 = false → R.2.1 = x → Fr [215, 221] m m1 → Kp 215 [5, 6, 13, 14] m m1 → m1.1 215 6 = nI x → q_V (q_g Z) mX11_readDecimals (d+3) 0 0 40 [some (.ref (q_ad Z 215)), some (.int (nI e)), some (.int (nI f)), some (.int (nI od)), some (.long ba), none, some (.int wd), u1, u2, u3] [] (q_W Z (m1)) (q_P Z fun r m2 => r = none ∧ Ko m m2 B [221] [14] R.1 R.2.1 ∧ (R.1 = true → ∀ i, i < sz → m2.2.2.2.1 221 i = R.2.2 i)) := by
    intro m1 e f od ba wd u1 u2 u3 x he hf hod hx r1 r2 f1 k1 e6
    refine q_aload_n (pc' := 41) dX11_readDecimals_40 rfl rfl ?_
    refine q_iconst (pc' := 42) (v := nI 0) dX11_readDecimals_41 rfl rfl ?_
    refine h_puti (pc' := 45) dX11_readDecimals_42 fX11_194 rfl rfl rfl rfl rfl ?_
    refine q_iconst (pc' := 46) (v := nI 0) dX11_readDecimals_45 rfl rfl ?_
    refine q_istore (pc' := 48) (lv' := [_, _, _, _, _, _, _, _, _, _]) dX11_readDecimals_46 (by decide) rfl rfl ?_
    exact w48 sz 0 _ e f od ba wd u2 u3 x (by omega) he hf hod hx r1 r2 (f1.I (by decide)) (kp_I k1 (by decide)) e6 ⟨0, by decide, rfl⟩
  have w31 : ∀ m1 e f od ba u u1 u2 u3 x, e < 15 → f < 15 → od ≤ sz → x ≤ 320 → R.1 = false → R.2.1 = x → Fr [215, 221] m m1 → Kp 215 [5, 6, 13, 14] m m1 → m1.1 215 6 = nI x → q_V (q_g Z) mX11_readDecimals (d+3) 0 0 31 [some (.ref (q_ad Z 215)), some (.int (nI e)), some (.int (nI f)), some (.int (nI od)), some (.long ba), none, u, u1, u2, u3] [] (q_W Z (m1)) (q_P Z fun r m2 => r = none ∧ Ko m m2 B [221] [14] R.1 R.2.1 ∧ (R.1 = true → ∀ i, i < sz → m2.2.2.2.1 221 i = R.2.2 i)) := by
    intro m1 e f od ba u u1 u2 u3 x he hf hod hx r1 r2 f1 k1 e6
    refine q_aload_n (pc' := 32) dX11_readDecimals_31 rfl rfl ?_
    refine q_iconst (pc' := 33) (v := nI 0) dX11_readDecimals_32 rfl rfl ?_
    refine q_bipush (pc' := 35) (v := nI 53) dX11_readDecimals_33 rfl rfl ?_
    refine h_callV (pc' := 38) (M' := mX11_byteIn) (As := [_, _]) dX11_readDecimals_35 iX11_byteIn lX11_191 rfl rfl rfl rfl (Nat.le_of_ble_eq_true rfl) (Nat.le_of_ble_eq_true rfl) rfl rfl ((k_byteW e6 (z_m1n (by omega))).up (Nat.zero_le _)) (fun r m' hq => ?_)
    obtain ⟨rfl, hmm⟩ := hq
    subst m'
    refine q_istore (pc' := 40) (lv' := [_, _, _, _, _, _, _, _, _, _]) dX11_readDecimals_38 (by decide) rfl rfl ?_
    exact w40 m1 e f od ba _ u1 u2 u3 x he hf hod hx r1 r2 f1 k1 e6
  have w25 : ∀ m1 e f od u4 u5 u u1 u2 u3 x, e < 15 → f < 15 → od ≤ sz → x ≤ 320 → R.1 = false → R.2.1 = x → Fr [215, 221] m m1 → Kp 215 [5, 6, 13, 14] m m1 → m1.1 215 6 = nI x → q_V (q_g Z) mX11_readDecimals (d+3) 0 0 25 [some (.ref (q_ad Z 215)), some (.int (nI e)), some (.int (nI f)), some (.int (nI od)), u4, u5, u, u1, u2, u3] [] (q_W Z (m1)) (q_P Z fun r m2 => r = none ∧ Ko m m2 B [221] [14] R.1 R.2.1 ∧ (R.1 = true → ∀ i, i < sz → m2.2.2.2.1 221 i = R.2.2 i)) := by
    intro m1 e f od u4 u5 u u1 u2 u3 x he hf hod hx r1 r2 f1 k1 e6
    refine q_aload_n (pc' := 26) dX11_readDecimals_25 rfl rfl ?_
    refine h_callV (pc' := 29) (M' := mX11_eight) (As := []) dX11_readDecimals_26 iX11_eight lX11_200 rfl rfl rfl rfl (Nat.le_of_ble_eq_true rfl) (Nat.le_of_ble_eq_true rfl) rfl rfl ((k_eightW (d := d) e6 (z_m1n (by omega))).up (by omega)) (fun r m' hq => ?_)
    obtain ⟨⟨y, rfl⟩, hmm⟩ := hq
    subst m'
    refine q_lstore (pc' := 31) (lv' := [_, _, _, _, _, _, _, _, _, _]) dX11_readDecimals_29 (by decide) rfl rfl ?_
    exact w31 m1 e f od y u u1 u2 u3 x he hf hod hx r1 r2 f1 k1 e6
  have w15 : ∀ m1 e f x, e < 15 → f < 15 → x ≤ 320 → R.1 = false → R.2.1 = x → Fr [215, 221] m m1 → Kp 215 [5, 6, 13, 14] m m1 → m1.1 215 6 = nI x → q_V (q_g Z) mX11_readDecimals (d+3) 0 0 15 [some (.ref (q_ad Z 215)), some (.int (nI e)), some (.int (nI f)), none, none, none, none, none, none, none] [] (q_W Z (m1)) (q_P Z fun r m2 => r = none ∧ Ko m m2 B [221] [14] R.1 R.2.1 ∧ (R.1 = true → ∀ i, i < sz → m2.2.2.2.1 221 i = R.2.2 i)) := by
    intro m1 e f x he hf hx r1 r2 f1 k1 e6
    refine q_aload_n (pc' := 16) dX11_readDecimals_15 rfl rfl ?_
    refine q_iconst (pc' := 17) (v := nI 0) dX11_readDecimals_16 rfl rfl ?_
    refine q_aload_n (pc' := 18) dX11_readDecimals_17 rfl rfl ?_
    refine h_getiE (pc' := 21) dX11_readDecimals_18 fX11_197 rfl rfl ((k1 12 (by decide)).trans hsz) rfl ?_
    refine h_callV (pc' := 24) (M' := mX11_byteIn) (As := [_, _]) dX11_readDecimals_21 iX11_byteIn lX11_191 rfl rfl rfl rfl (Nat.le_of_ble_eq_true rfl) (Nat.le_of_ble_eq_true rfl) rfl rfl ((k_byteW e6 (z_m1n (by omega))).up (Nat.zero_le _)) (fun r m' hq => ?_)
    obtain ⟨rfl, hmm⟩ := hq
    subst m'
    refine q_istore_n (pc' := 25) (lv' := [_, _, _, _, _, _, _, _, _, _]) dX11_readDecimals_24 (by decide) rfl rfl ?_
    exact w25 m1 e f 0 none none none none none none x he hf (by omega) hx r1 r2 f1 k1 e6
  have n98 : ∀ g k lo b G m1 e f od ba wd u, k + g = od → od ≤ sz → lo ≤ sz - od + k → Fr [215, 221] m m1 → Kp 215 [5, 6, 13, 14] m m1 → Kb m1 B b → (∀ i, i < sz → m1.2.2.2.1 221 i = G i) → s_dxr B sz g lo b G = R → q_V (q_g Z) mX11_readDecimals (d+3) 0 0 98 [some (.ref (q_ad Z 215)), some (.int e), some (.int f), some (.int (nI od)), some (.long ba), none, some (.int wd), some (.int (nI lo)), some (.int (nI k)), u] [] (q_W Z (m1)) (q_P Z fun r m2 => r = none ∧ Ko m m2 B [221] [14] R.1 R.2.1 ∧ (R.1 = true → ∀ i, i < sz → m2.2.2.2.1 221 i = R.2.2 i)) := by
    intro g
    induction g with
    | zero =>
      intro k lo b G m1 e f od ba wd u hk hod hlo f1 k1 K1 hG hs
      have hs : (true, b, G) = R := hs
      subst hs
      refine q_iload (pc' := 100) dX11_readDecimals_98 rfl rfl ?_
      refine q_iload_n (pc' := 101) dX11_readDecimals_100 rfl rfl ?_
      refine q_icmp_geN (tgt := 144) (pc' := 104) dX11_readDecimals_101 (by decide) rfl (by omega) (fun c_101 => ?_) (fun c_101 => ?_)
      · refine q_vret dX11_readDecimals_144 rfl ⟨_, rfl, rfl, ⟨f1, k1, K1⟩, fun _ => hG⟩
      · omega
    | succ g ih =>
      intro k lo b G m1 e f od ba wd u hk hod hlo f1 k1 K1 hG hs
      unfold s_dxr at hs
      have hT1 := hT.fr f1 (k1 4 (by decide)) (by decide)
      have hbl := K1.2.2.2
      have hcb := s_sgb hb2 b
      refine q_iload (pc' := 100) dX11_readDecimals_98 rfl rfl ?_
      refine q_iload_n (pc' := 101) dX11_readDecimals_100 rfl rfl ?_
      refine q_icmp_geN (tgt := 144) (pc' := 104) dX11_readDecimals_101 (by decide) rfl (by omega) (fun c_101 => ?_) (fun c_101 => ?_)
      · omega
      refine q_aload_n (pc' := 105) dX11_readDecimals_104 rfl rfl ?_
      refine q_iload (pc' := 107) dX11_readDecimals_105 rfl rfl ?_
      refine q_aload_n (pc' := 108) dX11_readDecimals_107 rfl rfl ?_
      refine h_getiE (pc' := 111) dX11_readDecimals_108 fX11_197 rfl rfl ((k1 12 (by decide)).trans hsz) rfl ?_
      refine q_iload_n (pc' := 112) dX11_readDecimals_111 rfl rfl ?_
      refine q_isubN (pc' := 113) dX11_readDecimals_112 (by omega) rfl ?_
      refine q_iload (pc' := 115) dX11_readDecimals_113 rfl rfl ?_
      refine q_iaddN (pc' := 116) dX11_readDecimals_115 rfl ?_
      rw [show sz - od + k = sz - (g + 1) by omega]
      refine h_callV (pc' := 119) (M' := mX11_byteIn) (As := [_, _]) dX11_readDecimals_116 iX11_byteIn lX11_191 rfl rfl rfl rfl (Nat.le_of_ble_eq_true rfl) (Nat.le_of_ble_eq_true rfl) rfl rfl ((k_byteIn (d := d) hT1 K1 (by omega) (by omega)).up (by omega)) (fun r m' hq => ?_)
      obtain ⟨f2, h2⟩ := hq
      have f3 : Fr [215, 221] m m' := f1.trans (f2.mono (by decide))
      by_cases ho : s_oc B b lo (sz - (g + 1)) = true
      · rw [if_pos ho] at h2 hs
        obtain ⟨rfl, k2, K2⟩ := h2
        have hlt := s_oc_lt ho
        have k3 : Kp 215 [5, 6, 13, 14] m m' := k1.trans (k2.mono (by decide))
        have hT2 := hT.fr f3 (k3 4 (by decide)) (by decide)
        obtain ⟨m2, hm2⟩ : ∃ z, z = m' := ⟨_, rfl⟩
        subst hm2
        refine q_istore (pc' := 121) (lv' := [_, _, _, _, _, _, _, _, _, _]) dX11_readDecimals_119 (by decide) rfl rfl ?_
        refine q_aload_n (pc' := 122) dX11_readDecimals_121 rfl rfl ?_
        refine h_getr (pc' := 125) dX11_readDecimals_122 fX11_27 rfl rfl rfl ?_
        refine q_iload (pc' := 127) dX11_readDecimals_125 rfl rfl ?_
        refine q_aload_n (pc' := 128) dX11_readDecimals_127 rfl rfl ?_
        refine h_callV (pc' := 131) (M' := mX11_eight) (As := []) dX11_readDecimals_128 iX11_eight lX11_200 rfl rfl rfl rfl (Nat.le_of_ble_eq_true rfl) (Nat.le_of_ble_eq_true rfl) rfl rfl (k_eight hT2 K2) (fun r m' hq => ?_)
        obtain ⟨⟨y, rfl, hy⟩, f4, k4, h4⟩ := hq
        have f5 : Fr [215, 221] m m' := f3.trans (f4.mono (by decide))
        have k5 : Kp 215 [5, 6, 13, 14] m m' := k3.trans (k4.mono (by decide))
        refine h_last (pc' := 132) dX11_readDecimals_131 rfl (rfl) (by omega) (by decide) rfl ?_
        refine q_iload (pc' := 134) dX11_readDecimals_132 rfl rfl ?_
        refine q_iconst (pc' := 135) (v := nI 1) dX11_readDecimals_134 rfl rfl ?_
        refine q_iaddN (pc' := 136) dX11_readDecimals_135 rfl ?_
        refine q_istore (pc' := 138) (lv' := [_, _, _, _, _, _, _, _, _, _]) dX11_readDecimals_136 (by decide) rfl rfl ?_
        refine q_iincN (pc' := 141) (j := 1) (lv' := [_, _, _, _, _, _, _, _, _, _]) dX11_readDecimals_138 rfl (by decide) rfl rfl ?_
        refine q_goto (pc' := 98) dX11_readDecimals_141 (by decide) ?_
        by_cases h8 : b + 1 + 8 ≤ B.length
        · rw [if_pos h8] at hs
          rw [decide_eq_true h8, if_pos rfl, if_pos h8] at h4
          refine ih (k + 1) _ _ _ _ e f od ba wd _ (by omega) hod (by omega) (f5.L (by decide)) k5 h4 (fun i hi => ?_) hs
          show q_u (m'.2.2.2.1 221) (s_sg B b) y i = q_u G (s_sg B b) _ i
          by_cases z : i = s_sg B b
          · rw [z, q_u_s, q_u_s]; exact hy h8
          · rw [q_u_n _ _ z, q_u_n _ _ z]
            exact (congrFun (f4.l (by decide)) i).trans ((congrFun (f2.l (by decide)) i).trans (hG i hi))
        · rw [if_neg h8] at hs
          rw [decide_eq_false h8, if_neg (by decide), if_neg h8] at h4
          exact w98 g (k + 1) _ _ _ _ od ba wd _ B.length (by omega) hod (by omega) (by omega) (by rw [← hs]) (by rw [← hs]) (f5.L (by decide)) k5 h4
      · rw [if_neg ho] at h2 hs
        obtain ⟨rfl, k2, e2⟩ := h2
        have k3 : Kp 215 [5, 6, 13, 14] m m' := k1.trans (k2.mono (by decide))
        refine q_istore (pc' := 121) (lv' := [_, _, _, _, _, _, _, _, _, _]) dX11_readDecimals_119 (by decide) rfl rfl ?_
        refine q_aload_n (pc' := 122) dX11_readDecimals_121 rfl rfl ?_
        refine h_getr (pc' := 125) dX11_readDecimals_122 fX11_27 rfl rfl rfl ?_
        refine q_iload (pc' := 127) dX11_readDecimals_125 rfl rfl ?_
        refine q_aload_n (pc' := 128) dX11_readDecimals_127 rfl rfl ?_
        refine h_callV (pc' := 131) (M' := mX11_eight) (As := []) dX11_readDecimals_128 iX11_eight lX11_200 rfl rfl rfl rfl (Nat.le_of_ble_eq_true rfl) (Nat.le_of_ble_eq_true rfl) rfl rfl ((k_eightW (d := d) e2 (z_m1n (by omega))).up (by omega)) (fun r m' hq => ?_)
        obtain ⟨⟨y, rfl⟩, hmm⟩ := hq
        subst hmm
        refine h_last (pc' := 132) dX11_readDecimals_131 rfl (rfl) (by omega) (by decide) rfl ?_
        refine q_iload (pc' := 134) dX11_readDecimals_132 rfl rfl ?_
        refine q_iconst (pc' := 135) (v := nI 1) dX11_readDecimals_134 rfl rfl ?_
        refine q_iaddN (pc' := 136) dX11_readDecimals_135 rfl ?_
        refine q_istore (pc' := 138) (lv' := [_, _, _, _, _, _, _, _, _, _]) dX11_readDecimals_136 (by decide) rfl rfl ?_
        refine q_iincN (pc' := 141) (j := 1) (lv' := [_, _, _, _, _, _, _, _, _, _]) dX11_readDecimals_138 rfl (by decide) rfl rfl ?_
        refine q_goto (pc' := 98) dX11_readDecimals_141 (by decide) ?_
        exact w98 g (k + 1) (lo + 1) _ _ _ od ba wd _ b (by omega) hod (by omega) (by omega) (by rw [← hs]) (by rw [← hs]) (f3.L (by decide)) k3 e2
  refine q_aload_n (pc' := 1) dX11_readDecimals_0 rfl rfl ?_
  refine q_iconst (pc' := 2) (v := nI 0) dX11_readDecimals_1 rfl rfl ?_
  refine q_bipush (pc' := 4) (v := nI 14) dX11_readDecimals_2 rfl rfl ?_
  refine h_callV (pc' := 7) (M' := mX11_byteIn) (As := [_, _]) dX11_readDecimals_4 iX11_byteIn lX11_191 rfl rfl rfl rfl (Nat.le_of_ble_eq_true rfl) (Nat.le_of_ble_eq_true rfl) rfl rfl ((k_byteIn (d := d) hT hK (by decide) (by decide)).up (by omega)) (fun r m' hq => ?_)
  obtain ⟨f1, h1⟩ := hq
  have g1 : Fr [215, 221] m m' := f1.mono (by decide)
  by_cases o1 : s_oc B a 0 14 = true
  rotate_left
  · rw [if_neg o1] at h1 hR
    obtain ⟨rfl, k1, e1⟩ := h1
    refine q_istore_n (pc' := 8) (lv' := [_, _, _, _, _, _, _, _, _, _]) dX11_readDecimals_7 (by decide) rfl rfl ?_
    refine q_aload_n (pc' := 9) dX11_readDecimals_8 rfl rfl ?_
    refine q_iconst (pc' := 10) (v := nI 0) dX11_readDecimals_9 rfl rfl ?_
    refine q_iload_n (pc' := 11) dX11_readDecimals_10 rfl rfl ?_
    refine h_callV (pc' := 14) (M' := mX11_byteIn) (As := [_, _]) dX11_readDecimals_11 iX11_byteIn lX11_191 rfl rfl rfl rfl (Nat.le_of_ble_eq_true rfl) (Nat.le_of_ble_eq_true rfl) rfl rfl ((k_byteW e1 (z_m1n (by omega))).up (Nat.zero_le _)) (fun r m' hq => ?_)
    obtain ⟨rfl, hmm⟩ := hq
    subst hmm
    refine q_istore_n (pc' := 15) (lv' := [_, _, _, _, _, _, _, _, _, _]) dX11_readDecimals_14 (by decide) rfl rfl ?_
    exact w15 _ 0 0 a (by decide) (by decide) (by omega) (by rw [← hR]) (by rw [← hR]) g1 (k1.mono (by decide)) e1
  rw [if_pos o1] at h1 hR
  obtain ⟨rfl, k1, K1⟩ := h1
  have l1 := s_oc_lt o1
  have hT1 := hT.fr f1 (k1 4 (by decide)) (by decide)
  have hle1 := K1.2.2.2
  obtain ⟨m1, hm1⟩ : ∃ z, z = m' := ⟨_, rfl⟩
  subst hm1
  refine q_istore_n (pc' := 8) (lv' := [_, _, _, _, _, _, _, _, _, _]) dX11_readDecimals_7 (by decide) rfl rfl ?_
  refine q_aload_n (pc' := 9) dX11_readDecimals_8 rfl rfl ?_
  refine q_iconst (pc' := 10) (v := nI 0) dX11_readDecimals_9 rfl rfl ?_
  refine q_iload_n (pc' := 11) dX11_readDecimals_10 rfl rfl ?_
  refine h_callV (pc' := 14) (M' := mX11_byteIn) (As := [_, _]) dX11_readDecimals_11 iX11_byteIn lX11_191 rfl rfl rfl rfl (Nat.le_of_ble_eq_true rfl) (Nat.le_of_ble_eq_true rfl) rfl rfl ((k_byteIn (d := d) hT1 K1 (by decide) (by omega)).up (by omega)) (fun r m' hq => ?_)
  obtain ⟨f2, h2⟩ := hq
  have g2 : Fr [215, 221] m m' := g1.trans (f2.mono (by decide))
  by_cases o2 : s_oc B (a + 1) 0 (s_sg B a) = true
  rotate_left
  · rw [if_neg o2] at h2 hR
    obtain ⟨rfl, k2, e2⟩ := h2
    refine q_istore_n (pc' := 15) (lv' := [_, _, _, _, _, _, _, _, _, _]) dX11_readDecimals_14 (by decide) rfl rfl ?_
    exact w15 _ _ 0 (a + 1) (by omega) (by decide) (by omega) (by rw [← hR]) (by rw [← hR]) g2 ((k1.mono (by decide)).trans (k2.mono (by decide))) e2
  rw [if_pos o2] at h2 hR
  obtain ⟨rfl, k2, K2⟩ := h2
  have l2 := s_oc_lt o2
  have k2 : Kp 215 [5, 6, 13, 14] m m' := (k1.mono (by decide)).trans (k2.mono (by decide))
  have hT2 := hT.fr g2 (k2 4 (by decide)) (by decide)
  have hle2 := K2.2.2.2
  obtain ⟨m2, hm2⟩ : ∃ z, z = m' := ⟨_, rfl⟩
  subst hm2
  refine q_istore_n (pc' := 15) (lv' := [_, _, _, _, _, _, _, _, _, _]) dX11_readDecimals_14 (by decide) rfl rfl ?_
  refine q_aload_n (pc' := 16) dX11_readDecimals_15 rfl rfl ?_
  refine q_iconst (pc' := 17) (v := nI 0) dX11_readDecimals_16 rfl rfl ?_
  refine q_aload_n (pc' := 18) dX11_readDecimals_17 rfl rfl ?_
  refine h_getiE (pc' := 21) dX11_readDecimals_18 fX11_197 rfl rfl ((k2 12 (by decide)).trans hsz) rfl ?_
  refine h_callV (pc' := 24) (M' := mX11_byteIn) (As := [_, _]) dX11_readDecimals_21 iX11_byteIn lX11_191 rfl rfl rfl rfl (Nat.le_of_ble_eq_true rfl) (Nat.le_of_ble_eq_true rfl) rfl rfl ((k_byteIn (d := d) hT2 K2 (by decide) (by omega)).up (by omega)) (fun r m' hq => ?_)
  obtain ⟨f3, h3⟩ := hq
  have g3 : Fr [215, 221] m m' := g2.trans (f3.mono (by decide))
  by_cases o3 : s_oc B (a + 1 + 1) 0 sz = true
  rotate_left
  · rw [if_neg o3] at h3 hR
    obtain ⟨rfl, k3, e3⟩ := h3
    refine q_istore_n (pc' := 25) (lv' := [_, _, _, _, _, _, _, _, _, _]) dX11_readDecimals_24 (by decide) rfl rfl ?_
    exact w25 _ _ _ 0 _ _ _ _ _ _ (a + 1 + 1) (by omega) (by omega) (by omega) (by omega) (by rw [← hR]) (by rw [← hR]) g3 (k2.trans (k3.mono (by decide))) e3
  rw [if_pos o3] at h3 hR
  obtain ⟨rfl, k3, K3⟩ := h3
  have l3 := s_oc_lt o3
  have k3 : Kp 215 [5, 6, 13, 14] m m' := k2.trans (k3.mono (by decide))
  have hT3 := hT.fr g3 (k3 4 (by decide)) (by decide)
  obtain ⟨e, he⟩ : ∃ e, s_sg B a = e := ⟨_, rfl⟩
  obtain ⟨f, hf⟩ : ∃ f, s_sg B (a + 1) = f := ⟨_, rfl⟩
  obtain ⟨od, hod⟩ : ∃ od, s_sg B (a + 1 + 1) = od := ⟨_, rfl⟩
  rw [he, hf, hod] at hR
  rw [he, hf]
  rw [he] at l1 l2
  rw [hf] at l2
  rw [hod] at l3
  obtain ⟨b, hbb⟩ : ∃ b, a + 1 + 1 + 1 = b := ⟨_, rfl⟩
  rw [hbb] at hR K3
  rw [hod]
  have hbl := K3.2.2.2
  obtain ⟨m3, hm3⟩ : ∃ z, z = m' := ⟨_, rfl⟩
  subst hm3
  refine q_istore_n (pc' := 25) (lv' := [_, _, _, _, _, _, _, _, _, _]) dX11_readDecimals_24 (by decide) rfl rfl ?_
  refine q_aload_n (pc' := 26) dX11_readDecimals_25 rfl rfl ?_
  refine h_callV (pc' := 29) (M' := mX11_eight) (As := []) dX11_readDecimals_26 iX11_eight lX11_200 rfl rfl rfl rfl (Nat.le_of_ble_eq_true rfl) (Nat.le_of_ble_eq_true rfl) rfl rfl (k_eight hT3 K3) (fun r m' hq => ?_)
  obtain ⟨⟨ba, rfl, hba⟩, f4, k4, h4⟩ := hq
  have g4 : Fr [215, 221] m m' := g3.trans (f4.mono (by decide))
  have k4 : Kp 215 [5, 6, 13, 14] m m' := k3.trans (k4.mono (by decide))
  refine q_lstore (pc' := 31) (lv' := [_, _, _, _, _, _, _, _, _, _]) dX11_readDecimals_29 (by decide) rfl rfl ?_
  by_cases h8 : b + 8 ≤ B.length
  rotate_left
  · have hW : s_who B sz e f b = (false, B.length, fun _ => 0) := if_neg h8
    rw [hW, if_neg (by simp)] at hR
    rw [decide_eq_false h8, if_neg (by decide), if_neg h8] at h4
    exact w31 _ e f od ba _ _ _ _ B.length (by omega) (by omega) (by omega) (by omega) (by rw [← hR]) (by rw [← hR]) g4 k4 h4
  rw [decide_eq_true h8, if_pos rfl, if_pos h8] at h4
  have hba := hba h8
  have hT4 := hT.fr g4 (k4 4 (by decide)) (by decide)
  have hcw := s_sgb hb2 (b + 8)
  obtain ⟨m4, hm4⟩ : ∃ z, z = m' := ⟨_, rfl⟩
  subst hm4
  refine q_aload_n (pc' := 32) dX11_readDecimals_31 rfl rfl ?_
  refine q_iconst (pc' := 33) (v := nI 0) dX11_readDecimals_32 rfl rfl ?_
  refine q_bipush (pc' := 35) (v := nI 53) dX11_readDecimals_33 rfl rfl ?_
  refine h_callV (pc' := 38) (M' := mX11_byteIn) (As := [_, _]) dX11_readDecimals_35 iX11_byteIn lX11_191 rfl rfl rfl rfl (Nat.le_of_ble_eq_true rfl) (Nat.le_of_ble_eq_true rfl) rfl rfl ((k_byteIn (d := d) hT4 h4 (by decide) (by decide)).up (by omega)) (fun r m' hq => ?_)
  obtain ⟨f5, h5⟩ := hq
  have g5 : Fr [215, 221] m m' := g4.trans (f5.mono (by decide))
  by_cases o5 : s_oc B (b + 8) 0 53 = true
  rotate_left
  · have hW : s_who B sz e f b = (false, b + 8, fun _ => 0) := (if_pos h8).trans (if_neg o5)
    rw [hW, if_neg (by simp)] at hR
    rw [if_neg o5] at h5
    obtain ⟨rfl, k5, e5⟩ := h5
    refine q_istore (pc' := 40) (lv' := [_, _, _, _, _, _, _, _, _, _]) dX11_readDecimals_38 (by decide) rfl rfl ?_
    exact w40 _ e f od ba _ _ _ _ (b + 8) (by omega) (by omega) (by omega) (by omega) (by rw [← hR]) (by rw [← hR]) g5 (k4.trans (k5.mono (by decide))) e5
  rw [if_pos o5] at h5
  obtain ⟨rfl, k5, K5⟩ := h5
  have l5 := s_oc_lt o5
  have k5 : Kp 215 [5, 6, 13, 14] m m' := k4.trans (k5.mono (by decide))
  obtain ⟨w, hw⟩ : ∃ w, s_sg B (b + 8) = w := ⟨_, rfl⟩
  have hW : s_who B sz e f b = _ := (if_pos h8).trans (if_pos o5)
  rw [hw] at hW l5 ⊢
  refine q_istore (pc' := 40) (lv' := [_, _, _, _, _, _, _, _, _, _]) dX11_readDecimals_38 (by decide) rfl rfl ?_
  refine q_aload_n (pc' := 41) dX11_readDecimals_40 rfl rfl ?_
  refine q_iconst (pc' := 42) (v := nI 0) dX11_readDecimals_41 rfl rfl ?_
  refine h_puti (pc' := 45) dX11_readDecimals_42 fX11_194 rfl rfl rfl rfl rfl ?_
  refine q_iconst (pc' := 46) (v := nI 0) dX11_readDecimals_45 rfl rfl ?_
  refine q_istore (pc' := 48) (lv' := [_, _, _, _, _, _, _, _, _, _]) dX11_readDecimals_46 (by decide) rfl rfl ?_
  have hmul : ∀ j, j ≤ 16 → j * w ≤ 16 * 53 := fun j hj => Nat.mul_le_mul hj l5.2.2
  have main : ∀ g j m6, j + g = sz → 8 * (b + 8 + 1) + j * w ≤ 8 * B.length → Fr [215, 221] m m6 → Kp 215 [5, 6, 13, 14] m m6 → Kb m6 B (b + 8 + 1) → m6.1 215 14 = nI (j * w) → (∀ i, i < j → m6.2.2.2.1 221 i = s_wg B b e f w i) → q_V (q_g Z) mX11_readDecimals (d+3) 0 0 48 [some (.ref (q_ad Z 215)), some (.int (nI e)), some (.int (nI f)), some (.int (nI od)), some (.long ba), none, some (.int (nI w)), some (.int (nI j)), none, none] [] (q_W Z (m6)) (q_P Z fun r m2 => r = none ∧ Ko m m2 B [221] [14] R.1 R.2.1 ∧ (R.1 = true → ∀ i, i < sz → m2.2.2.2.1 221 i = R.2.2 i)) := by
    intro g
    induction g with
    | zero =>
      intro j m6 hj hle f6 k6 K6 e14 hv
      obtain rfl : j = sz := by omega
      rw [if_pos hle] at hW
      rw [hW] at hR
      have hT6 := hT.fr f6 (k6 4 (by decide)) (by decide)
      refine q_iload (pc' := 50) dX11_readDecimals_48 rfl rfl ?_
      refine q_aload_n (pc' := 51) dX11_readDecimals_50 rfl rfl ?_
      refine h_getiE (pc' := 54) dX11_readDecimals_51 fX11_197 rfl rfl ((k6 12 (by decide)).trans hsz) rfl ?_
      refine q_icmp_geN (tgt := 88) (pc' := 57) dX11_readDecimals_54 (by decide) rfl (by omega) (fun c_54 => ?_) (fun c_54 => ?_)
      rotate_left
      · omega
      refine q_aload_n (pc' := 89) dX11_readDecimals_88 rfl rfl ?_
      refine h_callV (pc' := 92) (M' := mX11_endBits) (As := []) dX11_readDecimals_89 iX11_endBits lX11_211 rfl rfl rfl rfl (Nat.le_of_ble_eq_true rfl) (Nat.le_of_ble_eq_true rfl) rfl rfl (k_endBits hT6 K6 e14 hle) (fun r m' hq => ?_)
      obtain ⟨rfl, f7, k7, h7⟩ := hq
      have g7 : Fr [215, 221] m m' := f6.trans (f7.mono (by decide))
      have k7 : Kp 215 [5, 6, 13, 14] m m' := k6.trans k7
      have hfle := s_fat_le (B := B) hle
      refine q_iconst (pc' := 93) (v := nI 0) dX11_readDecimals_92 rfl rfl ?_
      refine q_istore (pc' := 95) (lv' := [_, _, _, _, _, _, _, _, _, _]) dX11_readDecimals_93 (by decide) rfl rfl ?_
      refine q_iconst (pc' := 96) (v := nI 0) dX11_readDecimals_95 rfl rfl ?_
      refine q_istore (pc' := 98) (lv' := [_, _, _, _, _, _, _, _, _, _]) dX11_readDecimals_96 (by decide) rfl rfl ?_
      cases hfl : s_fl B (8 * (b + 8 + 1) + j * w) with
      | true =>
        rw [hfl, if_pos rfl] at h7 hR
        exact n98 od 0 0 _ _ m' _ _ od ba _ _ (by omega) (by omega) (by omega) g7 k7 h7 (fun i hi => (congrFun (f7.l (by decide)) i).trans (hv i hi)) hR
      | false =>
        rw [hfl] at h7 hR
        rw [if_neg (by simp)] at h7 hR
        exact w98 od 0 0 m' _ _ od ba _ _ _ (by omega) (by omega) (by omega) (by omega) (by rw [← hR]) (by rw [← hR]) g7 k7 h7
    | succ g ih =>
      intro j m6 hj hle f6 k6 K6 e14 hv
      have hT6 := hT.fr f6 (k6 4 (by decide)) (by decide)
      have hM6 := hM.fr f6 (by decide) (by decide)
      have hj16 := hmul j (by omega)
      have hsm : (j + 1) * w = j * w + w := Nat.succ_mul j w
      refine q_iload (pc' := 50) dX11_readDecimals_48 rfl rfl ?_
      refine q_aload_n (pc' := 51) dX11_readDecimals_50 rfl rfl ?_
      refine h_getiE (pc' := 54) dX11_readDecimals_51 fX11_197 rfl rfl ((k6 12 (by decide)).trans hsz) rfl ?_
      refine q_icmp_geN (tgt := 88) (pc' := 57) dX11_readDecimals_54 (by decide) rfl (by omega) (fun c_54 => ?_) (fun c_54 => ?_)
      · omega
      refine q_aload_n (pc' := 58) dX11_readDecimals_57 rfl rfl ?_
      refine h_getr (pc' := 61) dX11_readDecimals_58 fX11_27 rfl rfl rfl ?_
      refine q_iload (pc' := 63) dX11_readDecimals_61 rfl rfl ?_
      refine q_aload_n (pc' := 64) dX11_readDecimals_63 rfl rfl ?_
      refine q_lload (pc' := 66) dX11_readDecimals_64 rfl rfl ?_
      refine q_aload_n (pc' := 67) dX11_readDecimals_66 rfl rfl ?_
      refine q_iload (pc' := 69) dX11_readDecimals_67 rfl rfl ?_
      refine h_callV (pc' := 72) (M' := mX11_takeBits) (As := [_]) dX11_readDecimals_69 iX11_takeBits lX11_203 rfl rfl rfl rfl (Nat.le_of_ble_eq_true rfl) (Nat.le_of_ble_eq_true rfl) rfl rfl ((k_takeBits hT6 K6.1 e14 K6.2.2.1 hle (by omega)).up (Nat.zero_le _)) (fun r m' hq => ?_)
      obtain ⟨⟨y, rfl, hy⟩, f7, k7, h6, h14, b9, hb9, h149⟩ := hq
      have g7 : Fr [215, 221] m m' := f6.trans (f7.mono (by decide))
      have k8 : Kp 215 [5, 6, 13, 14] m m' := k6.trans (k7.mono (by decide))
      have hM7 := hM.fr g7 (by decide) (by decide)
      obtain ⟨m7, hm7⟩ : ∃ z, z = m' := ⟨_, rfl⟩
      subst hm7
      refine q_ladd (pc' := 73) dX11_readDecimals_72 rfl ?_
      refine q_iload_n (pc' := 74) dX11_readDecimals_73 rfl rfl ?_
      refine q_iload_n (pc' := 75) dX11_readDecimals_74 rfl rfl ?_
      refine h_callV (pc' := 78) (M' := mX11_unguised) (As := [_, _, _]) dX11_readDecimals_75 iX11_unguised lX11_207 rfl rfl rfl rfl (Nat.le_of_ble_eq_true rfl) (Nat.le_of_ble_eq_true rfl) rfl rfl ((k_unguised hM7 (by omega) (by omega)).up (Nat.zero_le _)) (fun r m' hq => ?_)
      obtain ⟨rfl, hmm⟩ := hq
      subst m'
      refine h_callS (pc' := 81) (M' := mJxe99ae_doubleToLongBits_ccdee) (As := [_]) dX11_readDecimals_78 iJxe99ae_doubleToLongBits_ccdee lX11_153 rfl rfl (Nat.le_of_ble_eq_true rfl) (Nat.le_of_ble_eq_true rfl) rfl rfl ((k_d2l (d := d) (nn_dec _ (by omega) (by omega))).up (by omega)) (fun r m' hq => ?_)
      obtain ⟨rfl, hmm⟩ := hq
      subst m'
      refine h_last (pc' := 82) dX11_readDecimals_81 rfl (rfl) (by omega) (by decide) rfl ?_
      refine q_iincN (pc' := 85) (j := 1) (lv' := [_, _, _, _, _, _, _, _, _, _]) dX11_readDecimals_82 rfl (by decide) rfl rfl ?_
      refine q_goto (pc' := 48) dX11_readDecimals_85 (by decide) ?_
      by_cases hin : 8 * (b + 8 + 1) + j * w + w ≤ 8 * B.length
      · rw [if_pos hin] at h6
        have h14 := h14 hin
        refine ih (j + 1) _ (by omega) (by rw [hsm]; omega) (g7.L (by decide)) k8 ⟨(k7 5 (by decide)).trans K6.1, (k7 13 (by decide)).trans K6.2.1, h6, K6.2.2.2⟩ (by rw [hsm]; exact h14) (fun i hi => ?_)
        show q_u (m7.2.2.2.1 221) j _ i = _
        by_cases z : i = j
        · rw [z, q_u_s, hy hin, hba]
          exact (dec_pos _ (by omega) (by omega)).symm
        · rw [q_u_n _ _ z]
          exact (congrFun (f7.l (by decide)) i).trans (hv i (by omega))
      · rw [if_neg hin] at h6
        have hge : (j + 1) * w ≤ sz * w := Nat.mul_le_mul_right w (by omega)
        rw [hsm] at hge
        rw [if_neg (by omega)] at hW
        rw [hW, if_neg (by simp)] at hR
        exact w48 g (j + 1) _ e f od ba _ _ _ B.length (by omega) (by omega) (by omega) (by omega) (by omega) (by rw [← hR]) (by rw [← hR]) (g7.L (by decide)) k8 h6 ⟨b9, by omega, h149⟩
  exact main sz 0 _ (by omega) (by omega) (g5.I (by decide)) (kp_I k5 (by decide)) ⟨K5.1, K5.2.1, K5.2.2.1, K5.2.2.2⟩ (by rw [Nat.zero_mul]; rfl) (fun i hi => absurd hi (by omega))
