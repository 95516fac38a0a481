/-! ===== the reference: what is wrong ahead of a BLOCK's VALUES; the BLOCK, fault, peek, text ===== -/
set_option maxHeartbeats 4000000 in
set_option maxRecDepth 20000 in
theorem k_rawW {Z : q_Z} {m : q_Mm} {d : Nat} {sz : Nat} {w : Int32} (hw : m.1 215 6 = w) (hn : ¬ w = -1) (hsz : m.1 215 12 = nI sz) (hz : sz ≤ 16) : q_V (q_g Z) mX11_readRaw (d+2) 0 0 0 [some (.ref (q_ad Z 215)), none] [] (q_W Z m) (q_P Z fun r m2 => r = none ∧ Fr [221] m m2) := by
  refine q_iconst (pc' := 1) (v := nI 0) dX11_readRaw_0 rfl rfl ?_
  refine q_istore_n (pc' := 2) (lv' := [_, _]) dX11_readRaw_1 (by decide) rfl rfl ?_
  suffices h : ∀ g j m1, j + g = sz → Fr [221] m m1 → q_V (q_g Z) mX11_readRaw (d+2) 0 0 2 [some (.ref (q_ad Z 215)), some (.int (nI j))] [] (q_W Z (m1)) (q_P Z fun r m2 => r = none ∧ Fr [221] m m2) from h sz 0 m (by omega) Fr.rf
  intro g
  induction g with
  | zero =>
    intro j m1 hj f1
    refine q_iload_n (pc' := 3) dX11_readRaw_2 rfl rfl ?_
    refine q_aload_n (pc' := 4) dX11_readRaw_3 rfl rfl ?_
    refine h_getiE (pc' := 7) dX11_readRaw_4 fX11_197 rfl rfl ((congrFun (f1.i (by decide)) 12).trans hsz) rfl ?_
    refine q_icmp_geN (tgt := 26) (pc' := 10) dX11_readRaw_7 (by decide) rfl (by omega) (fun c_7 => ?_) (fun c_7 => ?_)
    · refine q_vret dX11_readRaw_26 rfl ⟨_, rfl, rfl, f1⟩
    · omega
  | succ g ih =>
    intro j m1 hj f1
    refine q_iload_n (pc' := 3) dX11_readRaw_2 rfl rfl ?_
    refine q_aload_n (pc' := 4) dX11_readRaw_3 rfl rfl ?_
    refine h_getiE (pc' := 7) dX11_readRaw_4 fX11_197 rfl rfl ((congrFun (f1.i (by decide)) 12).trans hsz) rfl ?_
    refine q_icmp_geN (tgt := 26) (pc' := 10) dX11_readRaw_7 (by decide) rfl (by omega) (fun c_7 => ?_) (fun c_7 => ?_)
    · omega
    refine q_aload_n (pc' := 11) dX11_readRaw_10 rfl rfl ?_
    refine h_getr (pc' := 14) dX11_readRaw_11 fX11_27 rfl rfl rfl ?_
    refine q_iload_n (pc' := 15) dX11_readRaw_14 rfl rfl ?_
    refine q_aload_n (pc' := 16) dX11_readRaw_15 rfl rfl ?_
    refine h_callV (pc' := 19) (M' := mX11_eight) (As := []) dX11_readRaw_16 iX11_eight lX11_200 rfl rfl rfl rfl (Nat.le_of_ble_eq_true rfl) (Nat.le_of_ble_eq_true rfl) rfl rfl (k_eightW ((congrFun (f1.i (by decide)) 6).trans hw) hn) (fun r m' hq => ?_)
    obtain ⟨⟨x, rfl⟩, hmm⟩ := hq
    subst m'
    refine h_last (pc' := 20) dX11_readRaw_19 rfl (rfl) (by omega) (by decide) rfl ?_
    refine q_iincN (pc' := 23) (j := 1) (lv' := [_, _]) dX11_readRaw_20 rfl (by decide) rfl rfl ?_
    refine q_goto (pc' := 2) dX11_readRaw_23 (by decide) ?_
    exact ih (j + 1) _ (by omega) (f1.L (by decide))
set_option maxHeartbeats 4000000 in
set_option maxRecDepth 20000 in
theorem k_decW {Z : q_Z} {m : q_Mm} {d : Nat} {B : List Nat} {x0 sz : Nat} {R : Bool × Nat × (Nat → Int64)} (hM : MD m) (hsz : m.1 215 12 = nI sz) (hz : sz ≤ 16) (hx0 : x0 ≤ 320) (q1 : R.1 = false) (q2 : R.2.1 = x0) (hw0 : m.1 215 6 = nI x0) : q_V (q_g Z) mX11_readDecimals (d+3) 0 0 0 [some (.ref (q_ad Z 215)), none, none, none, none, none, none, none, none, none] [] (q_W Z m) (q_P Z fun r m2 => r = none ∧ Ko m m2 B [221] [14] R.1 R.2.1 ∧ (R.1 = true → ∀ i, i < sz → m2.2.2.2.1 221 i = R.2.2 i)) := by
  have w98 : ∀ g k lo m1 e f od ba wd u x, k + g = od → od ≤ sz → lo ≤ sz - od + k → x ≤ 320 → R.1 = false → R.2.1 = x → Fr [215, 221] m m1 → Kp 215 [5, 6, 13, 14] m m1 → m1.1 215 6 = nI x → q_V (q_g Z) mX11_readDecimals (d+3) 0 0 98 [some (.ref (q_ad Z 215)), some (.int e), some (.int f), some (.int (nI od)), some (.long ba), none, some (.int wd), some (.int (nI lo)), some (.int (nI k)), u] [] (q_W Z (m1)) (q_P Z fun r m2 => r = none ∧ Ko m m2 B [221] [14] R.1 R.2.1 ∧ (R.1 = true → ∀ i, i < sz → m2.2.2.2.1 221 i = R.2.2 i)) := by
    intro g
    induction g with
    | zero =>
      intro k lo m1 e f od ba wd u x hk hod hlo hx r1 r2 f1 k1 e6
      refine q_iload (pc' := 100) dX11_readDecimals_98 rfl rfl ?_
      refine q_iload_n (pc' := 101) dX11_readDecimals_100 rfl rfl ?_
      refine q_icmp_geN (tgt := 144) (pc' := 104) dX11_readDecimals_101 (by decide) rfl (by omega) (fun c_101 => ?_) (fun c_101 => ?_)
      · refine q_vret dX11_readDecimals_144 rfl ⟨_, rfl, rfl, ⟨f1, k1, by rw [r1, r2]; exact e6⟩, fun z => by rw [r1] at z; cases z⟩
      · omega
    | succ g ih =>
      intro k lo m1 e f od ba wd u x hk hod hlo hx r1 r2 f1 k1 e6
      refine q_iload (pc' := 100) dX11_readDecimals_98 rfl rfl ?_
      refine q_iload_n (pc' := 101) dX11_readDecimals_100 rfl rfl ?_
      refine q_icmp_geN (tgt := 144) (pc' := 104) dX11_readDecimals_101 (by decide) rfl (by omega) (fun c_101 => ?_) (fun c_101 => ?_)
      · omega
      refine q_aload_n (pc' := 105) dX11_readDecimals_104 rfl rfl ?_
      refine q_iload (pc' := 107) dX11_readDecimals_105 rfl rfl ?_
      refine q_aload_n (pc' := 108) dX11_readDecimals_107 rfl rfl ?_
      refine h_getiE (pc' := 111) dX11_readDecimals_108 fX11_197 rfl rfl ((k1 12 (by decide)).trans hsz) rfl ?_
      refine q_iload_n (pc' := 112) dX11_readDecimals_111 rfl rfl ?_
      refine q_isubN (pc' := 113) dX11_readDecimals_112 (by omega) rfl ?_
      refine q_iload (pc' := 115) dX11_readDecimals_113 rfl rfl ?_
      refine q_iaddN (pc' := 116) dX11_readDecimals_115 rfl ?_
      refine h_callV (pc' := 119) (M' := mX11_byteIn) (As := [_, _]) dX11_readDecimals_116 iX11_byteIn lX11_191 rfl rfl rfl rfl (Nat.le_of_ble_eq_true rfl) (Nat.le_of_ble_eq_true rfl) rfl rfl ((k_byteW e6 (z_m1n (by omega))).up (Nat.zero_le _)) (fun r m' hq => ?_)
      obtain ⟨rfl, hmm⟩ := hq
      subst m'
      refine q_istore (pc' := 121) (lv' := [_, _, _, _, _, _, _, _, _, _]) dX11_readDecimals_119 (by decide) rfl rfl ?_
      refine q_aload_n (pc' := 122) dX11_readDecimals_121 rfl rfl ?_
      refine h_getr (pc' := 125) dX11_readDecimals_122 fX11_27 rfl rfl rfl ?_
      refine q_iload (pc' := 127) dX11_readDecimals_125 rfl rfl ?_
      refine q_aload_n (pc' := 128) dX11_readDecimals_127 rfl rfl ?_
      refine h_callV (pc' := 131) (M' := mX11_eight) (As := []) dX11_readDecimals_128 iX11_eight lX11_200 rfl rfl rfl rfl (Nat.le_of_ble_eq_true rfl) (Nat.le_of_ble_eq_true rfl) rfl rfl ((k_eightW (d := d) e6 (z_m1n (by omega))).up (by omega)) (fun r m' hq => ?_)
      obtain ⟨⟨y, rfl⟩, hmm⟩ := hq
      subst m'
      refine h_last (pc' := 132) dX11_readDecimals_131 rfl (rfl) (by omega) (by decide) rfl ?_
      refine q_iload (pc' := 134) dX11_readDecimals_132 rfl rfl ?_
      refine q_iconst (pc' := 135) (v := nI 1) dX11_readDecimals_134 rfl rfl ?_
      refine q_iaddN (pc' := 136) dX11_readDecimals_135 rfl ?_
      refine q_istore (pc' := 138) (lv' := [_, _, _, _, _, _, _, _, _, _]) dX11_readDecimals_136 (by decide) rfl rfl ?_
      refine q_iincN (pc' := 141) (j := 1) (lv' := [_, _, _, _, _, _, _, _, _, _]) dX11_readDecimals_138 rfl (by decide) rfl rfl ?_
      refine q_goto (pc' := 98) dX11_readDecimals_141 (by decide) ?_
      exact ih (k + 1) (lo + 1) _ e f od ba wd _ x (by omega) hod (by omega) hx r1 r2 (f1.L (by decide)) k1 e6
  have w88 : ∀ m1 e f od ba wd u u2 u3 x, od ≤ sz → x ≤ 320 → R.1 = false → R.2.1 = x → Fr [215, 221] m m1 → Kp 215 [5, 6, 13, 14] m m1 → m1.1 215 6 = nI x → (∃ b, b < 100000 ∧ m1.1 215 14 = nI b) → q_V (q_g Z) mX11_readDecimals (d+3) 0 0 88 [some (.ref (q_ad Z 215)), some (.int e), some (.int f), some (.int (nI od)), some (.long ba), none, some (.int wd), some (.int u), u2, u3] [] (q_W Z (m1)) (q_P Z fun r m2 => r = none ∧ Ko m m2 B [221] [14] R.1 R.2.1 ∧ (R.1 = true → ∀ i, i < sz → m2.2.2.2.1 221 i = R.2.2 i)) := by
    intro m1 e f od ba wd u u2 u3 x hod hx r1 r2 f1 k1 e6 eb
    refine q_aload_n (pc' := 89) dX11_readDecimals_88 rfl rfl ?_
    refine h_callV (pc' := 92) (M' := mX11_endBits) (As := []) dX11_readDecimals_89 iX11_endBits lX11_211 rfl rfl rfl rfl (Nat.le_of_ble_eq_true rfl) (Nat.le_of_ble_eq_true rfl) rfl rfl ((k_endW e6 (z_m1n (by omega)) eb).up (Nat.zero_le _)) (fun r m' hq => ?_)
    obtain ⟨rfl, hmm⟩ := hq
    subst m'
    refine q_iconst (pc' := 93) (v := nI 0) dX11_readDecimals_92 rfl rfl ?_
    refine q_istore (pc' := 95) (lv' := [_, _, _, _, _, _, _, _, _, _]) dX11_readDecimals_93 (by decide) rfl rfl ?_
    refine q_iconst (pc' := 96) (v := nI 0) dX11_readDecimals_95 rfl rfl ?_
    refine q_istore (pc' := 98) (lv' := [_, _, _, _, _, _, _, _, _, _]) dX11_readDecimals_96 (by decide) rfl rfl ?_
    exact w98 od 0 0 m1 e f od ba wd _ x (by omega) hod (by omega) hx r1 r2 f1 k1 e6
  have w48 : ∀ g j m1 e f od ba wd u2 u3 x, j + g = sz → e < 15 → f < 15 → od ≤ sz → x ≤ 320 → R.1 = false → R.2.1 = x → Fr [215, 221] m m1 → Kp 215 [5, 6, 13, 14] m m1 → m1.1 215 6 = nI x → (∃ b, b < 100000 ∧ m1.1 215 14 = nI b) → q_V (q_g Z) mX11_readDecimals (d+3) 0 0 48 [some (.ref (q_ad Z 215)), some (.int (nI e)), some (.int (nI f)), some (.int (nI od)), some (.long ba), none, some (.int wd), some (.int (nI j)), u2, u3] [] (q_W Z (m1)) (q_P Z fun r m2 => r = none ∧ Ko m m2 B [221] [14] R.1 R.2.1 ∧ (R.1 = true → ∀ i, i < sz → m2.2.2.2.1 221 i = R.2.2 i)) := by
    intro g
    induction g with
    | zero =>
      intro j m1 e f od ba wd u2 u3 x hj he hf hod hx r1 r2 f1 k1 e6 eb
      refine q_iload (pc' := 50) dX11_readDecimals_48 rfl rfl ?_
      refine q_aload_n (pc' := 51) dX11_readDecimals_50 rfl rfl ?_
      refine h_getiE (pc' := 54) dX11_readDecimals_51 fX11_197 rfl rfl ((k1 12 (by decide)).trans hsz) rfl ?_
      refine q_icmp_geN (tgt := 88) (pc' := 57) dX11_readDecimals_54 (by decide) rfl (by omega) (fun c_54 => ?_) (fun c_54 => ?_)
      · exact w88 m1 _ _ od ba wd _ u2 u3 x hod hx r1 r2 f1 k1 e6 eb
      · omega
    | succ g ih =>
      intro j m1 e f od ba wd u2 u3 x hj he hf hod hx r1 r2 f1 k1 e6 eb
      have hM1 := hM.fr f1 (by decide) (by decide)
      refine q_iload (pc' := 50) dX11_readDecimals_48 rfl rfl ?_
      refine q_aload_n (pc' := 51) dX11_readDecimals_50 rfl rfl ?_
      refine h_getiE (pc' := 54) dX11_readDecimals_51 fX11_197 rfl rfl ((k1 12 (by decide)).trans hsz) rfl ?_
      refine q_icmp_geN (tgt := 88) (pc' := 57) dX11_readDecimals_54 (by decide) rfl (by omega) (fun c_54 => ?_) (fun c_54 => ?_)
      · omega
      refine q_aload_n (pc' := 58) dX11_readDecimals_57 rfl rfl ?_
      refine h_getr (pc' := 61) dX11_readDecimals_58 fX11_27 rfl rfl rfl ?_
      refine q_iload (pc' := 63) dX11_readDecimals_61 rfl rfl ?_
      refine q_aload_n (pc' := 64) dX11_readDecimals_63 rfl rfl ?_
      refine q_lload (pc' := 66) dX11_readDecimals_64 rfl rfl ?_
      refine q_aload_n (pc' := 67) dX11_readDecimals_66 rfl rfl ?_
      refine q_iload (pc' := 69) dX11_readDecimals_67 rfl rfl ?_
      refine h_callV (pc' := 72) (M' := mX11_takeBits) (As := [_]) dX11_readDecimals_69 iX11_takeBits lX11_203 rfl rfl rfl rfl (Nat.le_of_ble_eq_true rfl) (Nat.le_of_ble_eq_true rfl) rfl rfl ((k_takeW e6 (z_m1n (by omega))).up (Nat.zero_le _)) (fun r m' hq => ?_)
      obtain ⟨⟨y, rfl⟩, hmm⟩ := hq
      subst m'
      refine q_ladd (pc' := 73) dX11_readDecimals_72 rfl ?_
      refine q_iload_n (pc' := 74) dX11_readDecimals_73 rfl rfl ?_
      refine q_iload_n (pc' := 75) dX11_readDecimals_74 rfl rfl ?_
      refine h_callV (pc' := 78) (M' := mX11_unguised) (As := [_, _, _]) dX11_readDecimals_75 iX11_unguised lX11_207 rfl rfl rfl rfl (Nat.le_of_ble_eq_true rfl) (Nat.le_of_ble_eq_true rfl) rfl rfl ((k_unguised hM1 he hf).up (Nat.zero_le _)) (fun r m' hq => ?_)
      obtain ⟨rfl, hmm⟩ := hq
      subst m'
      refine h_callS (pc' := 81) (M' := mJxe99ae_doubleToLongBits_ccdee) (As := [_]) dX11_readDecimals_78 iJxe99ae_doubleToLongBits_ccdee lX11_153 rfl rfl (Nat.le_of_ble_eq_true rfl) (Nat.le_of_ble_eq_true rfl) rfl rfl ((k_d2l (d := d) (nn_dec _ he hf)).up (by omega)) (fun r m' hq => ?_)
      obtain ⟨rfl, hmm⟩ := hq
      subst m'
      refine h_last (pc' := 82) dX11_readDecimals_81 rfl (rfl) (by omega) (by decide) rfl ?_
      refine q_iincN (pc' := 85) (j := 1) (lv' := [_, _, _, _, _, _, _, _, _, _]) dX11_readDecimals_82 rfl (by decide) rfl rfl ?_
      refine q_goto (pc' := 48) dX11_readDecimals_85 (by decide) ?_
      exact ih (j + 1) _ e f od ba wd u2 u3 x (by omega) he hf hod hx r1 r2 (f1.L (by decide)) k1 e6 eb
  have w40 : ∀ m1 e f od ba wd u1 u2 u3 x, e < 15 → f < 15 → od ≤ sz → x ≤ 320 → R.1 = false → R.2.1 = x → Fr [215, 221] m m1 → Kp 215 [5, 6, 13, 14] m m1 → m1.1 215 6 = nI x → q_V (q_g Z) mX11_readDecimals (d+3) 0 0 40 [some (.ref (q_ad Z 215)), some (.int (nI e)), some (.int (nI f)), some (.int (nI od)), some (.long ba), none, some (.int wd), u1, u2, u3] [] (q_W Z (m1)) (q_P Z fun r m2 => r = none ∧ Ko m m2 B [221] [14] R.1 R.2.1 ∧ (R.1 = true → ∀ i, i < sz → m2.2.2.2.1 221 i = R.2.2 i)) := by
    intro m1 e f od ba wd u1 u2 u3 x he hf hod hx r1 r2 f1 k1 e6
    refine q_aload_n (pc' := 41) dX11_readDecimals_40 rfl rfl ?_
    refine q_iconst (pc' := 42) (v := nI 0) dX11_readDecimals_41 rfl rfl ?_
    refine h_puti (pc' := 45) dX11_readDecimals_42 fX11_194 rfl rfl rfl rfl rfl ?_
    refine q_iconst (pc' := 46) (v := nI 0) dX11_readDecimals_45 rfl rfl ?_
    refine q_istore (pc' := 48) (lv' := [_, _, _, _, _, _, _, _, _, _]) dX11_readDecimals_46 (by decide) rfl rfl ?_
    exact w48 sz 0 _ e f od ba wd u2 u3 x (by omega) he hf hod hx r1 r2 (f1.I (by decide)) (kp_I k1 (by decide)) e6 ⟨0, by decide, rfl⟩
  have w31 : ∀ m1 e f od ba u u1 u2 u3 x, e < 15 → f < 15 → od ≤ sz → x ≤ 320 → R.1 = false → R.2.1 = x → Fr [215, 221] m m1 → Kp 215 [5, 6, 13, 14] m m1 → m1.1 215 6 = nI x → q_V (q_g Z) mX11_readDecimals (d+3) 0 0 31 [some (.ref (q_ad Z 215)), some (.int (nI e)), some (.int (nI f)), some (.int (nI od)), some (.long ba), none, u, u1, u2, u3] [] (q_W Z (m1)) (q_P Z fun r m2 => r = none ∧ Ko m m2 B [221] [14] R.1 R.2.1 ∧ (R.1 = true → ∀ i, i < sz → m2.2.2.2.1 221 i = R.2.2 i)) := by
    intro m1 e f od ba u u1 u2 u3 x he hf hod hx r1 r2 f1 k1 e6
    refine q_aload_n (pc' := 32) dX11_readDecimals_31 rfl rfl ?_
    refine q_iconst (pc' := 33) (v := nI 0) dX11_readDecimals_32 rfl rfl ?_
    refine q_bipush (pc' := 35) (v := nI 53) dX11_readDecimals_33 rfl rfl ?_
    refine h_callV (pc' := 38) (M' := mX11_byteIn) (As := [_, _]) dX11_readDecimals_35 iX11_byteIn lX11_191 rfl rfl rfl rfl (Nat.le_of_ble_eq_true rfl) (Nat.le_of_ble_eq_true rfl) rfl rfl ((k_byteW e6 (z_m1n (by omega))).up (Nat.zero_le _)) (fun r m' hq => ?_)
    obtain ⟨rfl, hmm⟩ := hq
    subst m'
    refine q_istore (pc' := 40) (lv' := [_, _, _, _, _, _, _, _, _, _]) dX11_readDecimals_38 (by decide) rfl rfl ?_
    exact w40 m1 e f od ba _ u1 u2 u3 x he hf hod hx r1 r2 f1 k1 e6
  have w25 : ∀ m1 e f od u4 u5 u u1 u2 u3 x, e < 15 → f < 15 → od ≤ sz → x ≤ 320 → R.1 = false → R.2.1 = x → Fr [215, 221] m m1 → Kp 215 [5, 6, 13, 14] m m1 → m1.1 215 6 = nI x → q_V (q_g Z) mX11_readDecimals (d+3) 0 0 25 [some (.ref (q_ad Z 215)), some (.int (nI e)), some (.int (nI f)), some (.int (nI od)), u4, u5, u, u1, u2, u3] [] (q_W Z (m1)) (q_P Z fun r m2 => r = none ∧ Ko m m2 B [221] [14] R.1 R.2.1 ∧ (R.1 = true → ∀ i, i < sz → m2.2.2.2.1 221 i = R.2.2 i)) := by
    intro m1 e f od u4 u5 u u1 u2 u3 x he hf hod hx r1 r2 f1 k1 e6
    refine q_aload_n (pc' := 26) dX11_readDecimals_25 rfl rfl ?_
    refine h_callV (pc' := 29) (M' := mX11_eight) (As := []) dX11_readDecimals_26 iX11_eight lX11_200 rfl rfl rfl rfl (Nat.le_of_ble_eq_true rfl) (Nat.le_of_ble_eq_true rfl) rfl rfl ((k_eightW (d := d) e6 (z_m1n (by omega))).up (by omega)) (fun r m' hq => ?_)
    obtain ⟨⟨y, rfl⟩, hmm⟩ := hq
    subst m'
    refine q_lstore (pc' := 31) (lv' := [_, _, _, _, _, _, _, _, _, _]) dX11_readDecimals_29 (by decide) rfl rfl ?_
    exact w31 m1 e f od y u u1 u2 u3 x he hf hod hx r1 r2 f1 k1 e6
  have w15 : ∀ m1 e f x, e < 15 → f < 15 → x ≤ 320 → R.1 = false → R.2.1 = x → Fr [215, 221] m m1 → Kp 215 [5, 6, 13, 14] m m1 → m1.1 215 6 = nI x → q_V (q_g Z) mX11_readDecimals (d+3) 0 0 15 [some (.ref (q_ad Z 215)), some (.int (nI e)), some (.int (nI f)), none, none, none, none, none, none, none] [] (q_W Z (m1)) (q_P Z fun r m2 => r = none ∧ Ko m m2 B [221] [14] R.1 R.2.1 ∧ (R.1 = true → ∀ i, i < sz → m2.2.2.2.1 221 i = R.2.2 i)) := by
    intro m1 e f x he hf hx r1 r2 f1 k1 e6
    refine q_aload_n (pc' := 16) dX11_readDecimals_15 rfl rfl ?_
    refine q_iconst (pc' := 17) (v := nI 0) dX11_readDecimals_16 rfl rfl ?_
    refine q_aload_n (pc' := 18) dX11_readDecimals_17 rfl rfl ?_
    refine h_getiE (pc' := 21) dX11_readDecimals_18 fX11_197 rfl rfl ((k1 12 (by decide)).trans hsz) rfl ?_
    refine h_callV (pc' := 24) (M' := mX11_byteIn) (As := [_, _]) dX11_readDecimals_21 iX11_byteIn lX11_191 rfl rfl rfl rfl (Nat.le_of_ble_eq_true rfl) (Nat.le_of_ble_eq_true rfl) rfl rfl ((k_byteW e6 (z_m1n (by omega))).up (Nat.zero_le _)) (fun r m' hq => ?_)
    obtain ⟨rfl, hmm⟩ := hq
    subst m'
    refine q_istore_n (pc' := 25) (lv' := [_, _, _, _, _, _, _, _, _, _]) dX11_readDecimals_24 (by decide) rfl rfl ?_
    exact w25 m1 e f 0 none none none none none none x he hf (by omega) hx r1 r2 f1 k1 e6
  refine q_aload_n (pc' := 1) dX11_readDecimals_0 rfl rfl ?_
  refine q_iconst (pc' := 2) (v := nI 0) dX11_readDecimals_1 rfl rfl ?_
  refine q_bipush (pc' := 4) (v := nI 14) dX11_readDecimals_2 rfl rfl ?_
  refine h_callV (pc' := 7) (M' := mX11_byteIn) (As := [_, _]) dX11_readDecimals_4 iX11_byteIn lX11_191 rfl rfl rfl rfl (Nat.le_of_ble_eq_true rfl) (Nat.le_of_ble_eq_true rfl) rfl rfl ((k_byteW hw0 (z_m1n (by omega))).up (Nat.zero_le _)) (fun r m' hq => ?_)
  obtain ⟨rfl, hmm⟩ := hq
  subst m'
  refine q_istore_n (pc' := 8) (lv' := [_, _, _, _, _, _, _, _, _, _]) dX11_readDecimals_7 (by decide) rfl rfl ?_
  refine q_aload_n (pc' := 9) dX11_readDecimals_8 rfl rfl ?_
  refine q_iconst (pc' := 10) (v := nI 0) dX11_readDecimals_9 rfl rfl ?_
  refine q_iload_n (pc' := 11) dX11_readDecimals_10 rfl rfl ?_
  refine h_callV (pc' := 14) (M' := mX11_byteIn) (As := [_, _]) dX11_readDecimals_11 iX11_byteIn lX11_191 rfl rfl rfl rfl (Nat.le_of_ble_eq_true rfl) (Nat.le_of_ble_eq_true rfl) rfl rfl ((k_byteW hw0 (z_m1n (by omega))).up (Nat.zero_le _)) (fun r m' hq => ?_)
  obtain ⟨rfl, hmm⟩ := hq
  subst m'
  refine q_istore_n (pc' := 15) (lv' := [_, _, _, _, _, _, _, _, _, _]) dX11_readDecimals_14 (by decide) rfl rfl ?_
  exact w15 m 0 0 x0 (by decide) (by decide) hx0 q1 q2 Fr.rf Kp.rf hw0
set_option maxHeartbeats 4000000 in
set_option maxRecDepth 20000 in
theorem k_splitW {Z : q_Z} {m : q_Mm} {d : Nat} {B : List Nat} {x0 sz : Nat} {R : Bool × Nat × (Nat → Int64)} (hsz : m.1 215 12 = nI sz) (hz : sz ≤ 16) (hx0 : x0 ≤ 320) (q1 : R.1 = false) (q2 : R.2.1 = x0) (hw0 : m.1 215 6 = nI x0) : q_V (q_g Z) mX11_readSplit (d+3) 0 0 0 [some (.ref (q_ad Z 215)), none, none, none, none, none, none, none, none, none] [] (q_W Z m) (q_P Z fun r m2 => r = none ∧ Ko m m2 B [221, 222] [14] R.1 R.2.1 ∧ (R.1 = true → ∀ i, i < sz → m2.2.2.2.1 221 i = R.2.2 i)) := by
  have w186 : ∀ g k lo m1 h pt od cb u7 u8 u9 x, k + g = od → od ≤ sz → lo ≤ sz - od + k → x ≤ 320 → R.1 = false → R.2.1 = x → Fr [215, 221, 222] m m1 → Kp 215 [5, 6, 13, 14] m m1 → m1.1 215 6 = nI x → q_V (q_g Z) mX11_readSplit (d+3) 0 0 186 [some (.ref (q_ad Z 215)), some (.int h), some (.int pt), some (.int (nI od)), some (.int cb), some (.int (nI lo)), some (.int (nI k)), u7, u8, u9] [] (q_W Z (m1)) (q_P Z fun r m2 => r = none ∧ Ko m m2 B [221, 222] [14] R.1 R.2.1 ∧ (R.1 = true → ∀ i, i < sz → m2.2.2.2.1 221 i = R.2.2 i)) := by
    intro g
    induction g with
    | zero =>
      intro k lo m1 h pt od cb u7 u8 u9 x hk hod hlo hx r1 r2 f1 k1 e6
      refine q_iload (pc' := 188) dX11_readSplit_186 rfl rfl ?_
      refine q_iload_n (pc' := 189) dX11_readSplit_188 rfl rfl ?_
      refine q_icmp_geN (tgt := 255) (pc' := 192) dX11_readSplit_189 (by decide) rfl (by omega) (fun c_189 => ?_) (fun c_189 => ?_)
      · refine q_vret dX11_readSplit_255 rfl ⟨_, rfl, rfl, ⟨f1, k1, by rw [r1, r2]; exact e6⟩, fun z => by rw [r1] at z; cases z⟩
      · omega
    | succ g ih =>
      intro k lo m1 h pt od cb u7 u8 u9 x hk hod hlo hx r1 r2 f1 k1 e6
      refine q_iload (pc' := 188) dX11_readSplit_186 rfl rfl ?_
      refine q_iload_n (pc' := 189) dX11_readSplit_188 rfl rfl ?_
      refine q_icmp_geN (tgt := 255) (pc' := 192) dX11_readSplit_189 (by decide) rfl (by omega) (fun c_189 => ?_) (fun c_189 => ?_)
      · omega
      refine q_aload_n (pc' := 193) dX11_readSplit_192 rfl rfl ?_
      refine q_iload (pc' := 195) dX11_readSplit_193 rfl rfl ?_
      refine q_aload_n (pc' := 196) dX11_readSplit_195 rfl rfl ?_
      refine h_getiE (pc' := 199) dX11_readSplit_196 fX11_197 rfl rfl ((k1 12 (by decide)).trans hsz) rfl ?_
      refine q_iload_n (pc' := 200) dX11_readSplit_199 rfl rfl ?_
      refine q_isubN (pc' := 201) dX11_readSplit_200 (by omega) rfl ?_
      refine q_iload (pc' := 203) dX11_readSplit_201 rfl rfl ?_
      refine q_iaddN (pc' := 204) dX11_readSplit_203 rfl ?_
      refine h_callV (pc' := 207) (M' := mX11_byteIn) (As := [_, _]) dX11_readSplit_204 iX11_byteIn lX11_191 rfl rfl rfl rfl (Nat.le_of_ble_eq_true rfl) (Nat.le_of_ble_eq_true rfl) rfl rfl ((k_byteW e6 (z_m1n (by omega))).up (Nat.zero_le _)) (fun r m' hq => ?_)
      obtain ⟨rfl, hmm⟩ := hq
      subst m'
      refine q_istore (pc' := 209) (lv' := [_, _, _, _, _, _, _, _, _, _]) dX11_readSplit_207 (by decide) rfl rfl ?_
      refine q_aload_n (pc' := 210) dX11_readSplit_209 rfl rfl ?_
      refine q_iload_n (pc' := 211) dX11_readSplit_210 rfl rfl ?_
      refine h_callV (pc' := 214) (M' := mX11_two) (As := [_]) dX11_readSplit_211 iX11_two lX11_214 rfl rfl rfl rfl (Nat.le_of_ble_eq_true rfl) (Nat.le_of_ble_eq_true rfl) rfl rfl ((k_twoW (d := d) e6 (z_m1n (by omega))).up (by omega)) (fun r m' hq => ?_)
      obtain ⟨⟨y, rfl⟩, hmm⟩ := hq
      subst m'
      refine q_i2l (pc' := 215) dX11_readSplit_214 rfl ?_
      refine q_lstore (pc' := 217) (lv' := [_, _, _, _, _, _, _, _, _, _]) dX11_readSplit_215 (by decide) rfl rfl ?_
      refine q_aload_n (pc' := 218) dX11_readSplit_217 rfl rfl ?_
      refine h_getr (pc' := 221) dX11_readSplit_218 fX11_27 rfl rfl rfl ?_
      refine q_iload (pc' := 223) dX11_readSplit_221 rfl rfl ?_
      refine q_lload (pc' := 225) dX11_readSplit_223 rfl rfl ?_
      refine q_bipush (pc' := 227) (v := nI 64) dX11_readSplit_225 rfl rfl ?_
      refine q_iload_n (pc' := 228) dX11_readSplit_227 rfl rfl ?_
      refine q_isub (pc' := 229) dX11_readSplit_228 rfl ?_
      refine q_lshl (pc' := 230) dX11_readSplit_229 rfl rfl ?_
      refine q_aload_n (pc' := 231) dX11_readSplit_230 rfl rfl ?_
      refine h_getr (pc' := 234) dX11_readSplit_231 fX11_27 rfl rfl rfl ?_
      refine q_iload (pc' := 236) dX11_readSplit_234 rfl rfl ?_
      refine h_lald (pc' := 237) dX11_readSplit_236 rfl (rfl) (by omega) (by decide) rfl ?_
      refine q_iload_n (pc' := 238) dX11_readSplit_237 rfl rfl ?_
      refine q_lshl (pc' := 239) dX11_readSplit_238 rfl rfl ?_
      refine q_iload_n (pc' := 240) dX11_readSplit_239 rfl rfl ?_
      refine q_lushr (pc' := 241) dX11_readSplit_240 rfl rfl ?_
      refine q_lor (pc' := 242) dX11_readSplit_241 rfl ?_
      refine h_last (pc' := 243) dX11_readSplit_242 rfl (rfl) (by omega) (by decide) rfl ?_
      refine q_iload (pc' := 245) dX11_readSplit_243 rfl rfl ?_
      refine q_iconst (pc' := 246) (v := nI 1) dX11_readSplit_245 rfl rfl ?_
      refine q_iaddN (pc' := 247) dX11_readSplit_246 rfl ?_
      refine q_istore (pc' := 249) (lv' := [_, _, _, _, _, _, _, _, _, _]) dX11_readSplit_247 (by decide) rfl rfl ?_
      refine q_iincN (pc' := 252) (j := 1) (lv' := [_, _, _, _, _, _, _, _, _, _]) dX11_readSplit_249 rfl (by decide) rfl rfl ?_
      refine q_goto (pc' := 186) dX11_readSplit_252 (by decide) ?_
      exact ih (k + 1) (lo + 1) _ h pt od cb _ _ _ x (by omega) hod (by omega) hx r1 r2 (f1.L (by decide)) k1 e6
  have w176 : ∀ m1 h pt od cb u5 u6 u7 u8 u9 x, od ≤ sz → x ≤ 320 → R.1 = false → R.2.1 = x → Fr [215, 221, 222] m m1 → Kp 215 [5, 6, 13, 14] m m1 → m1.1 215 6 = nI x → (∃ b, b < 100000 ∧ m1.1 215 14 = nI b) → q_V (q_g Z) mX11_readSplit (d+3) 0 0 176 [some (.ref (q_ad Z 215)), some (.int h), some (.int pt), some (.int (nI od)), some (.int cb), some (.int u5), u6, u7, u8, u9] [] (q_W Z (m1)) (q_P Z fun r m2 => r = none ∧ Ko m m2 B [221, 222] [14] R.1 R.2.1 ∧ (R.1 = true → ∀ i, i < sz → m2.2.2.2.1 221 i = R.2.2 i)) := by
    intro m1 h pt od cb u5 u6 u7 u8 u9 x hod hx r1 r2 f1 k1 e6 eb
    refine q_aload_n (pc' := 177) dX11_readSplit_176 rfl rfl ?_
    refine h_callV (pc' := 180) (M' := mX11_endBits) (As := []) dX11_readSplit_177 iX11_endBits lX11_211 rfl rfl rfl rfl (Nat.le_of_ble_eq_true rfl) (Nat.le_of_ble_eq_true rfl) rfl rfl ((k_endW e6 (z_m1n (by omega)) eb).up (Nat.zero_le _)) (fun r m' hq => ?_)
    obtain ⟨rfl, hmm⟩ := hq
    subst m'
    refine q_iconst (pc' := 181) (v := nI 0) dX11_readSplit_180 rfl rfl ?_
    refine q_istore (pc' := 183) (lv' := [_, _, _, _, _, _, _, _, _, _]) dX11_readSplit_181 (by decide) rfl rfl ?_
    refine q_iconst (pc' := 184) (v := nI 0) dX11_readSplit_183 rfl rfl ?_
    refine q_istore (pc' := 186) (lv' := [_, _, _, _, _, _, _, _, _, _]) dX11_readSplit_184 (by decide) rfl rfl ?_
    exact w186 od 0 0 m1 h pt od cb _ _ _ x (by omega) hod (by omega) hx r1 r2 f1 k1 e6
  have w67 : ∀ m1 h pt od cb j u6 u7 u8 u9 x, od ≤ sz → x ≤ 320 → R.1 = false → R.2.1 = x → Fr [215, 221, 222] m m1 → Kp 215 [5, 6, 13, 14] m m1 → m1.1 215 6 = nI x → (∃ b, b < 100000 ∧ m1.1 215 14 = nI b) → j ≤ sz → q_V (q_g Z) mX11_readSplit (d+3) 0 0 67 [some (.ref (q_ad Z 215)), some (.int h), some (.int pt), some (.int (nI od)), some (.int cb), some (.int (nI j)), u6, u7, u8, u9] [] (q_W Z (m1)) (q_P Z fun r m2 => r = none ∧ Ko m m2 B [221, 222] [14] R.1 R.2.1 ∧ (R.1 = true → ∀ i, i < sz → m2.2.2.2.1 221 i = R.2.2 i)) := by
    intro m1 h pt od cb j u6 u7 u8 u9 x hod hx r1 r2 f1 k1 e6 eb hj
    refine q_iload (pc' := 69) dX11_readSplit_67 rfl rfl ?_
    refine q_aload_n (pc' := 70) dX11_readSplit_69 rfl rfl ?_
    refine h_getiE (pc' := 73) dX11_readSplit_70 fX11_197 rfl rfl ((k1 12 (by decide)).trans hsz) rfl ?_
    refine q_icmp_geN (tgt := 176) (pc' := 76) dX11_readSplit_73 (by decide) rfl (by omega) (fun c_73 => ?_) (fun c_73 => ?_)
    · exact w176 m1 h pt od cb _ _ _ _ _ x hod hx r1 r2 f1 k1 e6 eb
    refine q_aload_n (pc' := 77) dX11_readSplit_76 rfl rfl ?_
    refine h_getiE (pc' := 80) dX11_readSplit_77 fX11_110 rfl rfl (e6) rfl ?_
    refine q_iconst (pc' := 81) (v := (-1)) dX11_readSplit_80 rfl rfl ?_
    refine q_icmp_ne (tgt := 176) (pc' := 84) dX11_readSplit_81 (by decide) rfl (fun c_81 => ?_) (fun c_81 => ?_)
    · exact w176 m1 h pt od cb _ _ _ _ _ x hod hx r1 r2 f1 k1 e6 eb
    · exact absurd c_81 (z_m1n (by omega))
  have w50 : ∀ m1 h pt od u4 u5 u6 u7 u8 u9 x, od ≤ sz → x ≤ 320 → R.1 = false → R.2.1 = x → Fr [215, 221, 222] m m1 → Kp 215 [5, 6, 13, 14] m m1 → m1.1 215 6 = nI x → q_V (q_g Z) mX11_readSplit (d+3) 0 0 50 [some (.ref (q_ad Z 215)), some (.int h), some (.int pt), some (.int (nI od)), u4, u5, u6, u7, u8, u9] [] (q_W Z (m1)) (q_P Z fun r m2 => r = none ∧ Ko m m2 B [221, 222] [14] R.1 R.2.1 ∧ (R.1 = true → ∀ i, i < sz → m2.2.2.2.1 221 i = R.2.2 i)) := by
    intro m1 h pt od u4 u5 u6 u7 u8 u9 x hod hx r1 r2 f1 k1 e6
    refine q_iload_n (pc' := 51) dX11_readSplit_50 rfl rfl ?_
    refine q_iconst (pc' := 52) (v := nI 1) dX11_readSplit_51 rfl rfl ?_
    refine q_isub (pc' := 53) dX11_readSplit_52 rfl ?_
    refine q_i2l (pc' := 54) dX11_readSplit_53 rfl ?_
    refine h_callS (pc' := 57) (M' := mX11_widthOf) (As := [_]) dX11_readSplit_54 iX11_widthOf lX11_217 rfl rfl (Nat.le_of_ble_eq_true rfl) (Nat.le_of_ble_eq_true rfl) rfl rfl (k_widthOf.up (Nat.zero_le _)) (fun r m' hq => ?_)
    obtain ⟨rfl, hmm⟩ := hq
    subst m'
    refine q_istore (pc' := 59) (lv' := [_, _, _, _, _, _, _, _, _, _]) dX11_readSplit_57 (by decide) rfl rfl ?_
    refine q_aload_n (pc' := 60) dX11_readSplit_59 rfl rfl ?_
    refine q_iconst (pc' := 61) (v := nI 0) dX11_readSplit_60 rfl rfl ?_
    refine h_puti (pc' := 64) dX11_readSplit_61 fX11_194 rfl rfl rfl rfl rfl ?_
    refine q_iconst (pc' := 65) (v := nI 0) dX11_readSplit_64 rfl rfl ?_
    refine q_istore (pc' := 67) (lv' := [_, _, _, _, _, _, _, _, _, _]) dX11_readSplit_65 (by decide) rfl rfl ?_
    exact w67 _ h pt od _ 0 _ _ _ _ x hod hx r1 r2 (f1.I (by decide)) (kp_I k1 (by decide)) e6 ⟨0, by decide, rfl⟩ (by omega)
  have w40 : ∀ m1 h pt u3 u4 u5 u6 u7 u8 u9 x, x ≤ 320 → R.1 = false → R.2.1 = x → Fr [215, 221, 222] m m1 → Kp 215 [5, 6, 13, 14] m m1 → m1.1 215 6 = nI x → q_V (q_g Z) mX11_readSplit (d+3) 0 0 40 [some (.ref (q_ad Z 215)), some (.int h), some (.int pt), u3, u4, u5, u6, u7, u8, u9] [] (q_W Z (m1)) (q_P Z fun r m2 => r = none ∧ Ko m m2 B [221, 222] [14] R.1 R.2.1 ∧ (R.1 = true → ∀ i, i < sz → m2.2.2.2.1 221 i = R.2.2 i)) := by
    intro m1 h pt u3 u4 u5 u6 u7 u8 u9 x hx r1 r2 f1 k1 e6
    refine q_aload_n (pc' := 41) dX11_readSplit_40 rfl rfl ?_
    refine q_iconst (pc' := 42) (v := nI 0) dX11_readSplit_41 rfl rfl ?_
    refine q_aload_n (pc' := 43) dX11_readSplit_42 rfl rfl ?_
    refine h_getiE (pc' := 46) dX11_readSplit_43 fX11_197 rfl rfl ((k1 12 (by decide)).trans hsz) rfl ?_
    refine h_callV (pc' := 49) (M' := mX11_byteIn) (As := [_, _]) dX11_readSplit_46 iX11_byteIn lX11_191 rfl rfl rfl rfl (Nat.le_of_ble_eq_true rfl) (Nat.le_of_ble_eq_true rfl) rfl rfl ((k_byteW e6 (z_m1n (by omega))).up (Nat.zero_le _)) (fun r m' hq => ?_)
    obtain ⟨rfl, hmm⟩ := hq
    subst m'
    refine q_istore_n (pc' := 50) (lv' := [_, _, _, _, _, _, _, _, _, _]) dX11_readSplit_49 (by decide) rfl rfl ?_
    exact w50 m1 h pt 0 u4 u5 u6 u7 u8 u9 x (by omega) hx r1 r2 f1 k1 e6
  have w18 : ∀ g k m1 h pt x, k + g = pt → pt ≤ 8 → x ≤ 320 → R.1 = false → R.2.1 = x → Fr [215, 221, 222] m m1 → Kp 215 [5, 6, 13, 14] m m1 → m1.1 215 6 = nI x → q_V (q_g Z) mX11_readSplit (d+3) 0 0 18 [some (.ref (q_ad Z 215)), some (.int h), some (.int (nI pt)), some (.int (nI k)), none, none, none, none, none, none] [] (q_W Z (m1)) (q_P Z fun r m2 => r = none ∧ Ko m m2 B [221, 222] [14] R.1 R.2.1 ∧ (R.1 = true → ∀ i, i < sz → m2.2.2.2.1 221 i = R.2.2 i)) := by
    intro g
    induction g with
    | zero =>
      intro k m1 h pt x hk hp hx r1 r2 f1 k1 e6
      refine q_iload_n (pc' := 19) dX11_readSplit_18 rfl rfl ?_
      refine q_iload_n (pc' := 20) dX11_readSplit_19 rfl rfl ?_
      refine q_icmp_geN (tgt := 40) (pc' := 23) dX11_readSplit_20 (by decide) rfl (by omega) (fun c_20 => ?_) (fun c_20 => ?_)
      · exact w40 m1 h _ _ _ _ _ _ _ _ x hx r1 r2 f1 k1 e6
      · omega
    | succ g ih =>
      intro k m1 h pt x hk hp hx r1 r2 f1 k1 e6
      refine q_iload_n (pc' := 19) dX11_readSplit_18 rfl rfl ?_
      refine q_iload_n (pc' := 20) dX11_readSplit_19 rfl rfl ?_
      refine q_icmp_geN (tgt := 40) (pc' := 23) dX11_readSplit_20 (by decide) rfl (by omega) (fun c_20 => ?_) (fun c_20 => ?_)
      · omega
      refine q_aload_n (pc' := 24) dX11_readSplit_23 rfl rfl ?_
      refine h_getr (pc' := 27) dX11_readSplit_24 fX11_30 rfl rfl rfl ?_
      refine q_iload_n (pc' := 28) dX11_readSplit_27 rfl rfl ?_
      refine q_aload_n (pc' := 29) dX11_readSplit_28 rfl rfl ?_
      refine q_iload_n (pc' := 30) dX11_readSplit_29 rfl rfl ?_
      refine h_callV (pc' := 33) (M' := mX11_two) (As := [_]) dX11_readSplit_30 iX11_two lX11_214 rfl rfl rfl rfl (Nat.le_of_ble_eq_true rfl) (Nat.le_of_ble_eq_true rfl) rfl rfl ((k_twoW (d := d) e6 (z_m1n (by omega))).up (by omega)) (fun r m' hq => ?_)
      obtain ⟨⟨y, rfl⟩, hmm⟩ := hq
      subst m'
      refine h_iast (pc' := 34) dX11_readSplit_33 rfl (rfl) (by omega) (by decide) rfl ?_
      refine q_iincN (pc' := 37) (j := 1) (lv' := [_, _, _, _, _, _, _, _, _, _]) dX11_readSplit_34 rfl (by decide) rfl rfl ?_
      refine q_goto (pc' := 18) dX11_readSplit_37 (by decide) ?_
      exact ih (k + 1) _ h pt x (by omega) hp hx r1 r2 (f1.A (by decide)) k1 e6
  refine q_aload_n (pc' := 1) dX11_readSplit_0 rfl rfl ?_
  refine q_iconst (pc' := 2) (v := nI 4) dX11_readSplit_1 rfl rfl ?_
  refine q_bipush (pc' := 4) (v := nI 16) dX11_readSplit_2 rfl rfl ?_
  refine h_callV (pc' := 7) (M' := mX11_byteIn) (As := [_, _]) dX11_readSplit_4 iX11_byteIn lX11_191 rfl rfl rfl rfl (Nat.le_of_ble_eq_true rfl) (Nat.le_of_ble_eq_true rfl) rfl rfl ((k_byteW hw0 (z_m1n (by omega))).up (Nat.zero_le _)) (fun r m' hq => ?_)
  obtain ⟨rfl, hmm⟩ := hq
  subst m'
  refine q_istore_n (pc' := 8) (lv' := [_, _, _, _, _, _, _, _, _, _]) dX11_readSplit_7 (by decide) rfl rfl ?_
  refine q_aload_n (pc' := 9) dX11_readSplit_8 rfl rfl ?_
  refine q_iconst (pc' := 10) (v := nI 1) dX11_readSplit_9 rfl rfl ?_
  refine q_bipush (pc' := 12) (v := nI 8) dX11_readSplit_10 rfl rfl ?_
  refine h_callV (pc' := 15) (M' := mX11_byteIn) (As := [_, _]) dX11_readSplit_12 iX11_byteIn lX11_191 rfl rfl rfl rfl (Nat.le_of_ble_eq_true rfl) (Nat.le_of_ble_eq_true rfl) rfl rfl ((k_byteW hw0 (z_m1n (by omega))).up (Nat.zero_le _)) (fun r m' hq => ?_)
  obtain ⟨rfl, hmm⟩ := hq
  subst m'
  refine q_istore_n (pc' := 16) (lv' := [_, _, _, _, _, _, _, _, _, _]) dX11_readSplit_15 (by decide) rfl rfl ?_
  refine q_iconst (pc' := 17) (v := nI 0) dX11_readSplit_16 rfl rfl ?_
  refine q_istore_n (pc' := 18) (lv' := [_, _, _, _, _, _, _, _, _, _]) dX11_readSplit_17 (by decide) rfl rfl ?_
  exact w18 1 0 m _ 1 x0 rfl (by decide) hx0 q1 q2 Fr.rf Kp.rf hw0
theorem s_dxr_le {B : List Nat} {sz : Nat} : ∀ k lo a g, a ≤ B.length → (s_dxr B sz k lo a g).2.1 ≤ B.length
  | 0, _, _, _, h => h
  | k + 1, lo, a, g, h => by
    unfold s_dxr
    split
    · split
      · exact s_dxr_le k _ _ _ ‹_›
      · exact Nat.le_refl _
    · exact h
theorem s_sxr_le {B : List Nat} {sz h0 : Nat} : ∀ k lo a g, a ≤ B.length → (s_sxr B sz h0 k lo a g).2.1 ≤ B.length
  | 0, _, _, _, h => h
  | k + 1, lo, a, g, h => by
    unfold s_sxr
    split
    · rename_i q
      have := (s_oc_lt q).1
      split
      · rename_i q2
        exact s_sxr_le k _ _ _ (s_hok2_at q2).2
      · exact s_hat_le (by omega)
    · exact h
theorem s_prs_le {B : List Nat} {h0 : Nat} : ∀ k a, a ≤ B.length → (s_prs B h0 k a).2 ≤ B.length
  | 0, _, h => h
  | k + 1, a, h => by
    unfold s_prs
    split
    · rename_i q
      exact s_prs_le k _ (s_hok2_at q).2
    · exact s_hat_le h
theorem s_cds_le {B : List Nat} {pt h0 cb : Nat} {hi : Nat → Nat} : ∀ k p i g, (s_cds B pt h0 cb hi k p i g).2.1 ≤ B.length
  | 0, _, _, _ => Nat.zero_le _
  | k + 1, p, i, g => by
    unfold s_cds
    split
    · rename_i q
      split
      · split
        · exact s_cds_le k _ _ _
        · exact Nat.le_refl _
      · show (p + cb - 1) / 8 ≤ _
        omega
    · exact Nat.le_refl _
theorem s_who_le {B : List Nat} {sz e f a : Nat} : (s_who B sz e f a).2.1 ≤ B.length := by
  unfold s_who
  split
  · split
    · split
      · exact s_fat_le ‹_›
      · exact Nat.le_refl _
    · assumption
  · exact Nat.le_refl _
theorem s_dIn_le {B : List Nat} {sz a : Nat} (h : a ≤ B.length) : (s_dIn B sz a).2.1 ≤ B.length := by
  unfold s_dIn
  split
  · rename_i q1
    have := (s_oc_lt q1).1
    split
    · rename_i q2
      have := (s_oc_lt q2).1
      split
      · rename_i q3
        have := (s_oc_lt q3).1
        split
        · exact s_dxr_le _ _ _ _ s_who_le
        · exact s_who_le
      · show a + 1 + 1 ≤ _; omega
    · show a + 1 ≤ _; omega
  · exact h
theorem s_cdw_le {B : List Nat} {sz h0 pt a : Nat} {hi : Nat → Nat} (h : a ≤ B.length) : (s_cdw B sz h0 pt a hi).2.1 ≤ B.length := by
  unfold s_cdw
  split
  · rename_i q
    exact s_fat_le (s_cds_p _ _ _ _ (by omega) q)
  · exact s_cds_le _ _ _ _
theorem s_sIn_le {B : List Nat} {sz a : Nat} (h : a ≤ B.length) : (s_sIn B sz a).2.1 ≤ B.length := by
  unfold s_sIn
  split
  · rename_i q1
    have := (s_oc_lt q1).1
    split
    · rename_i q2
      have := (s_oc_lt q2).1
      have hp := s_prs_le (B := B) (h0 := s_sg B a) (s_sg B (a + 1)) (a + 1 + 1) (by omega)
      split
      · split
        · rename_i q4
          have := (s_oc_lt q4).1
          split
          · exact s_sxr_le _ _ _ _ (s_cdw_le (by omega))
          · exact s_cdw_le (by omega)
        · exact hp
      · exact hp
    · show a + 1 ≤ _; omega
  · exact h
set_option maxHeartbeats 4000000 in
set_option maxRecDepth 20000 in
theorem k_readBlock {Z : q_Z} {m : q_Mm} {d : Nat} {B : List Nat} (hM : MD m) (hT : MT m B) : q_V (q_g Z) mX11_readBlock (d+4) 0 0 0 [some (.ref (q_ad Z 215)), none] [] (q_W Z m) (q_P Z fun r m2 => r = some (.int (s_on (s_bkk B).1)) ∧ Fr [215, 221, 222] m m2 ∧ Kp 215 [5, 6, 12, 13, 14] m m2 ∧ ((s_bkk B).1 = none → m2.1 215 12 = nI (s_bkk B).2.1 ∧ (s_bkk B).2.1 ≤ 16 ∧ 1 ≤ (s_bkk B).2.1 ∧ ∀ i, i < (s_bkk B).2.1 → m2.2.2.2.1 221 i = (s_bkk B).2.2 i)) := by
  have hb := hT.2.1
  have hb2 := hT.2.2.2
  obtain ⟨R, hR⟩ : ∃ R, s_bkk B = R := ⟨_, rfl⟩
  rw [hR]
  unfold s_bkk at hR
  have fin : ∀ m1 u x, Fr [215, 221, 222] m m1 → Kp 215 [5, 6, 12, 13, 14] m m1 → x ≤ 320 → m1.1 215 6 = nI x → R.1 = some x → q_V (q_g Z) mX11_readBlock (d+4) 0 0 61 [some (.ref (q_ad Z 215)), some (.int u)] [] (q_W Z (m1)) (q_P Z fun r m2 => r = some (.int (s_on R.1)) ∧ Fr [215, 221, 222] m m2 ∧ Kp 215 [5, 6, 12, 13, 14] m m2 ∧ (R.1 = none → m2.1 215 12 = nI R.2.1 ∧ R.2.1 ≤ 16 ∧ 1 ≤ R.2.1 ∧ ∀ i, i < R.2.1 → m2.2.2.2.1 221 i = R.2.2 i)) := by
    intro m1 u x f1 k1 hx e6 r1
    refine q_aload_n (pc' := 62) dX11_readBlock_61 rfl rfl ?_
    refine q_aload_n (pc' := 63) dX11_readBlock_62 rfl rfl ?_
    refine h_geti (pc' := 66) dX11_readBlock_63 fX11_188 rfl rfl rfl ?_
    refine q_aload_n (pc' := 67) dX11_readBlock_66 rfl rfl ?_
    refine h_geti (pc' := 70) dX11_readBlock_67 fX11_188 rfl rfl rfl ?_
    refine h_callV (pc' := 73) (M' := mX11_byteIn) (As := [_, _]) dX11_readBlock_70 iX11_byteIn lX11_191 rfl rfl rfl rfl (Nat.le_of_ble_eq_true rfl) (Nat.le_of_ble_eq_true rfl) rfl rfl ((k_byteW e6 (z_m1n (by omega))).up (Nat.zero_le _)) (fun r m' hq => ?_)
    obtain ⟨rfl, hmm⟩ := hq
    subst m'
    refine q_pop (pc' := 74) dX11_readBlock_73 rfl rfl ?_
    refine q_aload_n (pc' := 75) dX11_readBlock_74 rfl rfl ?_
    refine h_getiE (pc' := 78) dX11_readBlock_75 fX11_110 rfl rfl (e6) rfl ?_
    refine q_iconst (pc' := 79) (v := (-1)) dX11_readBlock_78 rfl rfl ?_
    refine q_icmp_ne (tgt := 97) (pc' := 82) dX11_readBlock_79 (by decide) rfl (fun c_79 => ?_) (fun c_79 => ?_)
    rotate_left
    · exact absurd c_79 (z_m1n (by omega))
    refine q_aload_n (pc' := 98) dX11_readBlock_97 rfl rfl ?_
    refine h_getiE (pc' := 101) dX11_readBlock_98 fX11_110 rfl rfl (e6) rfl ?_
    refine q_iret dX11_readBlock_101 rfl rfl ⟨_, rfl, by rw [r1]; rfl, f1, k1, fun z => by rw [r1] at z; cases z⟩
  have wv : ∀ m1 fm sz x, fm < 3 → sz ≤ 16 → Fr [215, 221, 222] m m1 → Kp 215 [5, 6, 12, 13, 14] m m1 → x ≤ 320 → m1.1 215 12 = nI sz → m1.1 215 6 = nI x → R.1 = some x → q_V (q_g Z) mX11_readBlock (d+4) 0 0 34 [some (.ref (q_ad Z 215)), some (.int (nI fm))] [] (q_W Z (m1)) (q_P Z fun r m2 => r = some (.int (s_on R.1)) ∧ Fr [215, 221, 222] m m2 ∧ Kp 215 [5, 6, 12, 13, 14] m m2 ∧ (R.1 = none → m2.1 215 12 = nI R.2.1 ∧ R.2.1 ≤ 16 ∧ 1 ≤ R.2.1 ∧ ∀ i, i < R.2.1 → m2.2.2.2.1 221 i = R.2.2 i)) := by
    intro m1 fm sz x hfm hz f1 k1 hx e12 e6 r1
    have hM1 := hM.fr f1 (by decide) (by decide)
    refine q_iload_n (pc' := 35) dX11_readBlock_34 rfl rfl ?_
    refine q_if_neN (tgt := 45) (pc' := 38) dX11_readBlock_35 (by decide) rfl (by omega) (fun c_35 => ?_) (fun c_35 => ?_)
    rotate_left
    · refine q_aload_n (pc' := 39) dX11_readBlock_38 rfl rfl ?_
      refine h_callV (pc' := 42) (M' := mX11_readRaw) (As := []) dX11_readBlock_39 iX11_readRaw lX11_221 rfl rfl rfl rfl (Nat.le_of_ble_eq_true rfl) (Nat.le_of_ble_eq_true rfl) rfl rfl ((k_rawW (d := d) e6 (z_m1n (by omega)) e12 hz).up (by omega)) (fun r m' hq => ?_)
      obtain ⟨rfl, f2⟩ := hq
      refine q_goto (pc' := 61) dX11_readBlock_42 (by decide) ?_
      exact fin m' _ x (f1.trans (f2.mono (by decide))) (k1.trans (Kp.fr f2 (by decide))) hx ((congrFun (f2.i (by decide)) 6).trans e6) r1
    refine q_iload_n (pc' := 46) dX11_readBlock_45 rfl rfl ?_
    refine q_iconst (pc' := 47) (v := nI 1) dX11_readBlock_46 rfl rfl ?_
    refine q_icmp_neN (tgt := 57) (pc' := 50) dX11_readBlock_47 (by decide) rfl (by omega) (fun c_47 => ?_) (fun c_47 => ?_)
    · refine q_aload_n (pc' := 58) dX11_readBlock_57 rfl rfl ?_
      refine h_callV (pc' := 61) (M' := mX11_readSplit) (As := []) dX11_readBlock_58 iX11_readSplit lX11_227 rfl rfl rfl rfl (Nat.le_of_ble_eq_true rfl) (Nat.le_of_ble_eq_true rfl) rfl rfl (k_splitW (B := B) (R := (false, x, fun _ => 0)) e12 hz hx rfl rfl e6) (fun r m' hq => ?_)
      obtain ⟨rfl, ⟨f2, k2, e2⟩, -⟩ := hq
      exact fin m' _ x (f1.trans (f2.mono (by decide))) (k1.trans (k2.mono (by decide))) hx e2 r1
    · refine q_aload_n (pc' := 51) dX11_readBlock_50 rfl rfl ?_
      refine h_callV (pc' := 54) (M' := mX11_readDecimals) (As := []) dX11_readBlock_51 iX11_readDecimals lX11_224 rfl rfl rfl rfl (Nat.le_of_ble_eq_true rfl) (Nat.le_of_ble_eq_true rfl) rfl rfl (k_decW (B := B) (R := (false, x, fun _ => 0)) hM1 e12 hz hx rfl rfl e6) (fun r m' hq => ?_)
      obtain ⟨rfl, ⟨f2, k2, e2⟩, -⟩ := hq
      refine q_goto (pc' := 61) dX11_readBlock_54 (by decide) ?_
      exact fin m' _ x (f1.trans (f2.mono (by decide))) (k1.trans (k2.mono (by decide))) hx e2 r1
  have chk : ∀ m1 u (S : Bool × Nat × (Nat → Int64)) sz, Fr [215, 221, 222] m m1 → Kp 215 [5, 6, 12, 13, 14] m m1 → m1.1 215 12 = nI sz → 1 ≤ sz ∧ sz ≤ 16 → S.2.1 ≤ B.length → (if S.1 = true then Kb m1 B S.2.1 else m1.1 215 6 = nI S.2.1) → (S.1 = true → ∀ i, i < sz → m1.2.2.2.1 221 i = S.2.2 i) → (if S.1 = true then (if s_oc B S.2.1 (s_cN B S.2.1) (s_cN B S.2.1) = true then (if S.2.1 + 1 < B.length then (some (S.2.1 + 1), 0, fun _ => 0) else (none, sz, S.2.2)) else (some S.2.1, 0, fun _ => 0)) else (some S.2.1, 0, fun _ => 0)) = R → q_V (q_g Z) mX11_readBlock (d+4) 0 0 61 [some (.ref (q_ad Z 215)), some (.int u)] [] (q_W Z (m1)) (q_P Z fun r m2 => r = some (.int (s_on R.1)) ∧ Fr [215, 221, 222] m m2 ∧ Kp 215 [5, 6, 12, 13, 14] m m2 ∧ (R.1 = none → m2.1 215 12 = nI R.2.1 ∧ R.2.1 ≤ 16 ∧ 1 ≤ R.2.1 ∧ ∀ i, i < R.2.1 → m2.2.2.2.1 221 i = R.2.2 i)) := by
    intro m1 u S sz f1 k1 e12 hz hle hK hv hs
    cases hS : S.1 with
    | false =>
      rw [hS] at hK hs
      rw [if_neg (by simp)] at hK hs
      exact fin m1 u _ f1 k1 (by omega) hK (by rw [← hs])
    | true =>
      rw [hS, if_pos rfl] at hK hs
      have hv := hv hS
      have hcn := s_cN_lt B S.2.1
      have hT1 := hT.fr f1 (k1 4 (by decide)) (by decide)
      obtain ⟨at9, h9⟩ : ∃ z, S.2.1 = z := ⟨_, rfl⟩
      rw [h9] at hK hs hle hcn
      refine q_aload_n (pc' := 62) dX11_readBlock_61 rfl rfl ?_
      refine q_aload_n (pc' := 63) dX11_readBlock_62 rfl rfl ?_
      refine h_getiE (pc' := 66) dX11_readBlock_63 fX11_188 rfl rfl (hK.2.1) rfl ?_
      refine q_aload_n (pc' := 67) dX11_readBlock_66 rfl rfl ?_
      refine h_getiE (pc' := 70) dX11_readBlock_67 fX11_188 rfl rfl (hK.2.1) rfl ?_
      refine h_callV (pc' := 73) (M' := mX11_byteIn) (As := [_, _]) dX11_readBlock_70 iX11_byteIn lX11_191 rfl rfl rfl rfl (Nat.le_of_ble_eq_true rfl) (Nat.le_of_ble_eq_true rfl) rfl rfl ((k_byteIn (d := d) hT1 hK (by omega) (by omega)).up (by omega)) (fun r m' hq => ?_)
      obtain ⟨f2, h2⟩ := hq
      have f3 : Fr [215, 221, 222] m m' := f1.trans (f2.mono (by decide))
      by_cases ho : s_oc B at9 (s_cN B at9) (s_cN B at9) = true
      · rw [if_pos ho] at h2 hs
        obtain ⟨rfl, k2, K2⟩ := h2
        have k3 : Kp 215 [5, 6, 12, 13, 14] m m' := k1.trans (k2.mono (by decide))
        have hT2 := hT.fr f3 (k3 4 (by decide)) (by decide)
        have hle2 := K2.2.2.2
        refine q_pop (pc' := 74) dX11_readBlock_73 rfl rfl ?_
        refine q_aload_n (pc' := 75) dX11_readBlock_74 rfl rfl ?_
        refine h_getiE (pc' := 78) dX11_readBlock_75 fX11_110 rfl rfl (K2.2.2.1) rfl ?_
        refine q_iconst (pc' := 79) (v := (-1)) dX11_readBlock_78 rfl rfl ?_
        refine q_icmp_ne (tgt := 97) (pc' := 82) dX11_readBlock_79 (by decide) rfl (fun c_79 => ?_) (fun c_79 => ?_)
        · exact absurd rfl c_79
        refine q_aload_n (pc' := 83) dX11_readBlock_82 rfl rfl ?_
        refine h_getiE (pc' := 86) dX11_readBlock_83 fX11_103 rfl rfl (K2.1) rfl ?_
        refine q_aload_n (pc' := 87) dX11_readBlock_86 rfl rfl ?_
        refine h_getiE (pc' := 90) dX11_readBlock_87 fX11_96 rfl rfl (hT2.1) rfl ?_
        refine q_icmp_geN (tgt := 97) (pc' := 93) dX11_readBlock_90 (by decide) rfl (by omega) (fun c_90 => ?_) (fun c_90 => ?_)
        · rw [if_neg (by omega)] at hs
          subst hs
          refine q_aload_n (pc' := 98) dX11_readBlock_97 rfl rfl ?_
          refine h_getiE (pc' := 101) dX11_readBlock_98 fX11_110 rfl rfl (K2.2.2.1) rfl ?_
          refine q_iret dX11_readBlock_101 rfl rfl ⟨_, rfl, rfl, f3, k3, fun _ => ⟨(k2 12 (by decide)).trans e12, hz.2, hz.1, fun i hi => (congrFun (f2.l (by decide)) i).trans (hv i hi)⟩⟩
        · rw [if_pos c_90] at hs
          subst hs
          refine q_aload_n (pc' := 94) dX11_readBlock_93 rfl rfl ?_
          refine h_callV (pc' := 97) (M' := mX11_bad) (As := []) dX11_readBlock_94 iX11_bad lX11_120 rfl rfl rfl rfl (Nat.le_of_ble_eq_true rfl) (Nat.le_of_ble_eq_true rfl) rfl rfl ((k_bad K2.1 K2.2.2.1).up (Nat.zero_le _)) (fun r m' hq => ?_)
          obtain ⟨rfl, hmm⟩ := hq
          subst hmm
          rw [if_pos rfl]
          refine q_aload_n (pc' := 98) dX11_readBlock_97 rfl rfl ?_
          refine h_getiE (pc' := 101) dX11_readBlock_98 fX11_110 rfl rfl ((rfl : _ = nI (at9 + 1))) rfl ?_
          refine q_iret dX11_readBlock_101 rfl rfl ⟨_, rfl, rfl, f3.I (by decide), kp_I k3 (by decide), fun z => by cases z⟩
      · rw [if_neg ho] at h2 hs
        obtain ⟨rfl, k2, e2⟩ := h2
        have k3 : Kp 215 [5, 6, 12, 13, 14] m m' := k1.trans (k2.mono (by decide))
        refine q_pop (pc' := 74) dX11_readBlock_73 rfl rfl ?_
        refine q_aload_n (pc' := 75) dX11_readBlock_74 rfl rfl ?_
        refine h_getiE (pc' := 78) dX11_readBlock_75 fX11_110 rfl rfl (e2) rfl ?_
        refine q_iconst (pc' := 79) (v := (-1)) dX11_readBlock_78 rfl rfl ?_
        refine q_icmp_ne (tgt := 97) (pc' := 82) dX11_readBlock_79 (by decide) rfl (fun c_79 => ?_) (fun c_79 => ?_)
        rotate_left
        · exact absurd c_79 (z_m1n (by omega))
        subst hs
        refine q_aload_n (pc' := 98) dX11_readBlock_97 rfl rfl ?_
        refine h_getiE (pc' := 101) dX11_readBlock_98 fX11_110 rfl rfl (e2) rfl ?_
        refine q_iret dX11_readBlock_101 rfl rfl ⟨_, rfl, rfl, f3, k3, fun z => by cases z⟩
  have fI : Fr [215] m (sI (sI (sI m 215 5 (nI 0)) 215 6 (-1)) 215 13 (nI 7)) := ((Fr.rf.I (by decide)).I (by decide)).I (by decide)
  have kI : Kp 215 [5, 6, 13] m (sI (sI (sI m 215 5 (nI 0)) 215 6 (-1)) 215 13 (nI 7)) := kp_I (kp_I (kp_I Kp.rf (by decide)) (by decide)) (by decide)
  have KI : Kb (sI (sI (sI m 215 5 (nI 0)) 215 6 (-1)) 215 13 (nI 7)) B 0 := ⟨rfl, rfl, rfl, Nat.zero_le _⟩
  have hTI := hT.fr fI (kI 4 (by decide)) (by decide)
  have hc0 := s_sgb hb2 0
  have hc1 := s_sgb hb2 1
  refine q_aload_n (pc' := 1) dX11_readBlock_0 rfl rfl ?_
  refine q_iconst (pc' := 2) (v := nI 0) dX11_readBlock_1 rfl rfl ?_
  refine h_puti (pc' := 5) dX11_readBlock_2 fX11_103 rfl rfl rfl rfl rfl ?_
  refine q_aload_n (pc' := 6) dX11_readBlock_5 rfl rfl ?_
  refine q_iconst (pc' := 7) (v := (-1)) dX11_readBlock_6 rfl rfl ?_
  refine h_puti (pc' := 10) dX11_readBlock_7 fX11_110 rfl rfl rfl rfl rfl ?_
  refine q_aload_n (pc' := 11) dX11_readBlock_10 rfl rfl ?_
  refine q_bipush (pc' := 13) (v := nI 7) dX11_readBlock_11 rfl rfl ?_
  refine h_puti (pc' := 16) dX11_readBlock_13 fX11_188 rfl rfl rfl rfl rfl ?_
  generalize sI (sI (sI m 215 5 (nI 0)) 215 6 (-1)) 215 13 (nI 7) = m0 at fI kI KI hTI ⊢
  refine q_aload_n (pc' := 17) dX11_readBlock_16 rfl rfl ?_
  refine q_iconst (pc' := 18) (v := nI 0) dX11_readBlock_17 rfl rfl ?_
  refine q_iconst (pc' := 19) (v := nI 2) dX11_readBlock_18 rfl rfl ?_
  refine h_callV (pc' := 22) (M' := mX11_byteIn) (As := [_, _]) dX11_readBlock_19 iX11_byteIn lX11_191 rfl rfl rfl rfl (Nat.le_of_ble_eq_true rfl) (Nat.le_of_ble_eq_true rfl) rfl rfl ((k_byteIn (d := d) hTI KI (by decide) (by decide)).up (by omega)) (fun r m' hq => ?_)
  obtain ⟨f1, h1⟩ := hq
  have f1 : Fr [215] m m' := fI.trans f1
  by_cases o1 : s_oc B 0 0 2 = true
  rotate_left
  · rw [if_neg o1] at h1 hR
    obtain ⟨rfl, k1, e1⟩ := h1
    obtain ⟨m1, hm1⟩ : ∃ z, z = m' := ⟨_, rfl⟩
    subst hm1
    refine q_istore_n (pc' := 23) (lv' := [_, _]) dX11_readBlock_22 (by decide) rfl rfl ?_
    refine q_aload_n (pc' := 24) dX11_readBlock_23 rfl rfl ?_
    refine q_aload_n (pc' := 25) dX11_readBlock_24 rfl rfl ?_
    refine q_iconst (pc' := 26) (v := nI 1) dX11_readBlock_25 rfl rfl ?_
    refine q_bipush (pc' := 28) (v := nI 16) dX11_readBlock_26 rfl rfl ?_
    refine h_callV (pc' := 31) (M' := mX11_byteIn) (As := [_, _]) dX11_readBlock_28 iX11_byteIn lX11_191 rfl rfl rfl rfl (Nat.le_of_ble_eq_true rfl) (Nat.le_of_ble_eq_true rfl) rfl rfl ((k_byteW e1 (z_m1n (by omega))).up (Nat.zero_le _)) (fun r m' hq => ?_)
    obtain ⟨rfl, hmm⟩ := hq
    subst m'
    refine h_puti (pc' := 34) dX11_readBlock_31 fX11_197 rfl rfl rfl rfl rfl ?_
    exact wv _ 0 1 0 (by decide) (by decide) ((f1.I (by decide)).mono (by decide)) (kp_I ((kI.mono (by decide)).trans (k1.mono (by decide))) (by decide)) (by decide) rfl e1 (by rw [← hR])
  rw [if_pos o1] at h1 hR
  obtain ⟨rfl, k1, K1⟩ := h1
  have l1 := s_oc_lt o1
  have k1 : Kp 215 [5, 6, 13] m m' := kI.trans (k1.mono (by decide))
  have hT1 := hT.fr f1 (k1 4 (by decide)) (by decide)
  obtain ⟨fm, hfm⟩ : ∃ fm, s_sg B 0 = fm := ⟨_, rfl⟩
  rw [hfm] at l1 hR
  rw [hfm]
  obtain ⟨m1, hm1⟩ : ∃ z, z = m' := ⟨_, rfl⟩
  subst hm1
  refine q_istore_n (pc' := 23) (lv' := [_, _]) dX11_readBlock_22 (by decide) rfl rfl ?_
  refine q_aload_n (pc' := 24) dX11_readBlock_23 rfl rfl ?_
  refine q_aload_n (pc' := 25) dX11_readBlock_24 rfl rfl ?_
  refine q_iconst (pc' := 26) (v := nI 1) dX11_readBlock_25 rfl rfl ?_
  refine q_bipush (pc' := 28) (v := nI 16) dX11_readBlock_26 rfl rfl ?_
  refine h_callV (pc' := 31) (M' := mX11_byteIn) (As := [_, _]) dX11_readBlock_28 iX11_byteIn lX11_191 rfl rfl rfl rfl (Nat.le_of_ble_eq_true rfl) (Nat.le_of_ble_eq_true rfl) rfl rfl ((k_byteIn (d := d) (a := 1) hT1 K1 (by decide) (by decide)).up (by omega)) (fun r m' hq => ?_)
  obtain ⟨f2, h2⟩ := hq
  have f2 : Fr [215] m m' := f1.trans f2
  by_cases o2 : s_oc B 1 1 16 = true
  rotate_left
  · rw [if_neg o2] at h2 hR
    obtain ⟨rfl, k2, e2⟩ := h2
    refine h_puti (pc' := 34) dX11_readBlock_31 fX11_197 rfl rfl rfl rfl rfl ?_
    exact wv _ fm 1 1 (by omega) (by decide) ((f2.I (by decide)).mono (by decide)) (kp_I ((k1.mono (by decide)).trans (k2.mono (by decide))) (by decide)) (by decide) rfl e2 (by rw [← hR])
  rw [if_pos o2] at h2 hR
  obtain ⟨rfl, k2, K2⟩ := h2
  have l2 := s_oc_lt o2
  obtain ⟨sz, hsz⟩ : ∃ sz, s_sg B 1 = sz := ⟨_, rfl⟩
  rw [hsz] at l2 hR
  rw [hsz]
  refine h_puti (pc' := 34) dX11_readBlock_31 fX11_197 rfl rfl rfl rfl rfl ?_
  have f3 : Fr [215] m (sI m' 215 12 (nI sz)) := f2.I (by decide)
  have k3 : Kp 215 [5, 6, 12, 13, 14] m (sI m' 215 12 (nI sz)) := kp_I ((k1.mono (by decide)).trans (k2.mono (by decide))) (by decide)
  have K3 : Kb (sI m' 215 12 (nI sz)) B 2 := K2
  have e12 : (sI m' 215 12 (nI sz)).1 215 12 = nI sz := rfl
  generalize sI m' 215 12 (nI sz) = m3 at f3 k3 K3 e12 ⊢
  have hT3 := hT.fr f3 (k3 4 (by decide)) (by decide)
  have hM3 := hM.fr f3 (by decide) (by decide)
  refine q_iload_n (pc' := 35) dX11_readBlock_34 rfl rfl ?_
  refine q_if_neN (tgt := 45) (pc' := 38) dX11_readBlock_35 (by decide) rfl (by omega) (fun c_35 => ?_) (fun c_35 => ?_)
  rotate_left
  · refine q_aload_n (pc' := 39) dX11_readBlock_38 rfl rfl ?_
    refine h_callV (pc' := 42) (M' := mX11_readRaw) (As := []) dX11_readBlock_39 iX11_readRaw lX11_221 rfl rfl rfl rfl (Nat.le_of_ble_eq_true rfl) (Nat.le_of_ble_eq_true rfl) rfl rfl ((k_readRaw (d := d) hT3 K3 e12 l2.2.2).up (by omega)) (fun r m' hq => ?_)
    obtain ⟨rfl, ⟨f4, k4, h4⟩, v4⟩ := hq
    refine q_goto (pc' := 61) dX11_readBlock_42 (by decide) ?_
    rw [show s_vIn B fm sz 2 = (decide (2 + 8 * sz ≤ B.length), (if 2 + 8 * sz ≤ B.length then 2 + 8 * sz else B.length), fun i => lN (s_ln B (2 + 8 * i) 8)) by unfold s_vIn; exact if_pos c_35] at hR
    refine chk m' _ _ sz ((f3.mono (by decide)).trans (f4.mono (by decide))) (k3.trans (k4.mono (by decide))) ((k4 12 (by decide)).trans e12) l2.2 ?_ h4 (fun z => v4 (of_decide_eq_true z)) hR
    show (if _ then _ else _) ≤ _
    split <;> omega
  refine q_iload_n (pc' := 46) dX11_readBlock_45 rfl rfl ?_
  refine q_iconst (pc' := 47) (v := nI 1) dX11_readBlock_46 rfl rfl ?_
  refine q_icmp_neN (tgt := 57) (pc' := 50) dX11_readBlock_47 (by decide) rfl (by omega) (fun c_47 => ?_) (fun c_47 => ?_)
  · rw [show s_vIn B fm sz 2 = s_sIn B sz 2 by unfold s_vIn; rw [if_neg (by omega), if_neg c_47]] at hR
    refine q_aload_n (pc' := 58) dX11_readBlock_57 rfl rfl ?_
    refine h_callV (pc' := 61) (M' := mX11_readSplit) (As := []) dX11_readBlock_58 iX11_readSplit lX11_227 rfl rfl rfl rfl (Nat.le_of_ble_eq_true rfl) (Nat.le_of_ble_eq_true rfl) rfl rfl (k_readSplit hT3 K3 e12 l2.2.2) (fun r m' hq => ?_)
    obtain ⟨rfl, ⟨f4, k4, h4⟩, v4⟩ := hq
    have hle : (s_sIn B sz 2).2.1 ≤ B.length := s_sIn_le (by omega)
    exact chk m' _ (s_sIn B sz 2) sz ((f3.mono (by decide)).trans (f4.mono (by decide))) (k3.trans (k4.mono (by decide))) ((k4 12 (by decide)).trans e12) l2.2 hle h4 v4 hR
  · rw [show s_vIn B fm sz 2 = s_dIn B sz 2 by unfold s_vIn; rw [if_neg (by omega), if_pos c_47]] at hR
    refine q_aload_n (pc' := 51) dX11_readBlock_50 rfl rfl ?_
    refine h_callV (pc' := 54) (M' := mX11_readDecimals) (As := []) dX11_readBlock_51 iX11_readDecimals lX11_224 rfl rfl rfl rfl (Nat.le_of_ble_eq_true rfl) (Nat.le_of_ble_eq_true rfl) rfl rfl (k_readDecimals hM3 hT3 K3 e12 l2.2.2) (fun r m' hq => ?_)
    obtain ⟨rfl, ⟨f4, k4, h4⟩, v4⟩ := hq
    have hle : (s_dIn B sz 2).2.1 ≤ B.length := s_dIn_le (by omega)
    refine q_goto (pc' := 61) dX11_readBlock_54 (by decide) ?_
    exact chk m' _ (s_dIn B sz 2) sz ((f3.mono (by decide)).trans (f4.mono (by decide))) (k3.trans (k4.mono (by decide))) ((k4 12 (by decide)).trans e12) l2.2 hle h4 v4 hR
