/-! ===== constructors: GuisePack, the reference ===== -/
abbrev B_gp (Z : q_Z) (a d0 o0 w0 r0 b0 c0 k0 s0 f0 x0 y0 v0 z0 z1 : Nat) (Bd Bo Bw Br Bb Bc Bk Bs Bf Bx By Bv : va_W) : va_W := (a, .inr (10, [.ref d0, .ref o0, .ref w0, .ref r0, .ref b0, .ref c0, .ref k0, .ref s0, .ref f0, .ref x0, .ref y0, .ref v0, .ref z0, .ref z1, .int 0, .int 0, .int 0])) :: (Bd ++ (Bo ++ (Bw ++ (Br ++ (Bb ++ (Bc ++ (Bk ++ (Bs ++ (Bf ++ (Bx ++ (By ++ (Bv ++ [(z0, .inl (Z.2.2.1 0, 5, .inl (fun _ => 0))), (z1, .inl (Z.2.2.1 1, 64, .inr (.inl (fun _ => 0))))]))))))))))))
def P_gp (Z : q_Z) (a : Nat) (B : va_W) : Prop := ∃ d0 o0 w0 r0 b0 c0 k0 s0 f0 x0 y0 v0 z0 z1 Bd Bo Bw Br Bb Bc Bk Bs Bf Bx By Bv,
  (∃ q1 q2 q3 q4 t h u w, ((∀ k, k < 10 → q_dv (u k) false (2 ^ (1074 + 2 ^ k)) ∧ q_dv (w k) false (2 ^ (1074 - 2 ^ k))) ∧ ∀ k, k < 15 → t k = s_tn k ∧ h k = s_th k) ∧ Bd = B_dbl Z d0 q1 q2 q3 q4 t h u w) ∧ (∃ q, Bo = B_oct Z o0 q) ∧ (∃ q, Bw = B_oct Z w0 q) ∧ (∃ q1 c1 c2 c3 q2, Br = B_trd Z r0 o0 d0 q1 c1 c2 c3 q2) ∧ (∃ q1 q2, Bb = B_brd Z b0 o0 d0 q1 q2) ∧ (∃ q1 q2 q3, Bc = B_col Z c0 q1 q2 q3) ∧ (∃ q1 q2 q3, Bk = B_col Z k0 q1 q2 q3) ∧ (∃ q1 ad, Bs = (s0, .inr (7, [.ref q1, .int 0, .int 0])) :: (q1, .inl (Z.2.2.1 4, 40, .inr (.inr (.inr (.inr (fun i => some (ad (4 * i)))))))) :: B_cols Z ad 40) ∧ (∃ q1 q2 q3 q4 f, (∀ p, p < 120 → f p = nI (s_cd p)) ∧ Bf = B_fits Z f0 d0 q1 q2 q3 q4 f) ∧ (∃ q1 q2 q3 q4 q5 p1 p2 p3, Bx = B_pln Z x0 f0 c0 q1 q2 q3 q4 q5 p1 p2 p3 s_rx) ∧ (∃ q1 q2 q3 q4 q5 p1 p2 p3, By = B_pln Z y0 f0 c0 q1 q2 q3 q4 q5 p1 p2 p3 s_rx) ∧ Bv = [(v0, .inr (1, [.ref w0, .int 0, .int 0]))] ∧ B = B_gp Z a d0 o0 w0 r0 b0 c0 k0 s0 f0 x0 y0 v0 z0 z1 Bd Bo Bw Br Bb Bc Bk Bs Bf Bx By Bv
set_option maxHeartbeats 4000000 in
set_option maxRecDepth 20000 in
theorem n_gp {Z : q_Z} {d : Nat} {ws0 : va_W} {a : Nat} : q_V (q_g Z) mX10_init (d+4) 214 19994 0 [some (.ref a)] [] (ws0 ++ ([(a, .inr (10, [.null, .null, .null, .null, .null, .null, .null, .null, .null, .null, .null, .null, .null, .null, .int 0, .int 0, .int 0]))])) (fun r ws => r = none ∧ ∃ B, (P_gp Z a B) ∧ ws = ws0 ++ B) := by
  refine q_aload_n (pc' := 1) dX10_init_0 rfl rfl ?_
  refine q_oinit (pc' := 4) dX10_init_1 loX10_5 (Nat.le_of_ble_eq_true rfl) rfl ?_
  refine q_aload_n (pc' := 5) dX10_init_4 rfl rfl ?_
  refine n_new (pc' := 8) (ci := 3) (C := RX3) (T := TX3) (N := 4) (ty := tyX3) dX10_init_5 clX10_11 iwX3 tyX3_ok izX3 itX3 rfl rfl (fun _ => rfl) rfl (fun q5 => ?_)
  refine q_dup (pc' := 9) dX10_init_8 rfl rfl ?_
  refine n_callI (mc1 := 4) (ms1 := 50) (pc' := 12) (M' := mX3_init) (As := []) dX10_init_9 iX3_init lX10_13 rfl rfl (Nat.le_of_ble_eq_true rfl) (Nat.le_of_ble_eq_true rfl) rfl rfl (n_dbl) (fun B hB => ?_)
  obtain ⟨d1, d2, d3, d4, ft, fh, fu, fw, hdd, hBd⟩ := hB
  subst hBd
  refine n_putF (n := 0) (pc' := 15) dX10_init_12 fX10_14 rfl ⟨_, _, rfl⟩ rfl rfl rfl (Nat.le_of_ble_eq_true rfl) rfl rfl ?_
  refine q_aload_n (pc' := 16) dX10_init_15 rfl rfl ?_
  refine n_new (pc' := 19) (ci := 5) (C := RX5) (T := TX5) (N := 2) (ty := tyX5) dX10_init_16 clX10_18 iwX5 tyX5_ok izX5 itX5 rfl rfl (fun _ => rfl) rfl (fun q16 => ?_)
  refine q_dup (pc' := 20) dX10_init_19 rfl rfl ?_
  refine n_callI (mc1 := 1) (ms1 := 320) (pc' := 23) (M' := mX5_init) (As := []) dX10_init_20 iX5_init lX10_20 rfl rfl (Nat.le_of_ble_eq_true rfl) (Nat.le_of_ble_eq_true rfl) rfl rfl (n_oct) (fun B hB => ?_)
  obtain ⟨o1, rfl⟩ := hB
  refine n_putF (n := 0) (pc' := 26) dX10_init_23 fX10_21 rfl ⟨_, _, rfl⟩ rfl rfl rfl (Nat.le_of_ble_eq_true rfl) rfl rfl ?_
  refine q_aload_n (pc' := 27) dX10_init_26 rfl rfl ?_
  refine n_new (pc' := 30) (ci := 5) (C := RX5) (T := TX5) (N := 2) (ty := tyX5) dX10_init_27 clX10_18 iwX5 tyX5_ok izX5 itX5 rfl rfl (fun _ => rfl) rfl (fun q27 => ?_)
  refine q_dup (pc' := 31) dX10_init_30 rfl rfl ?_
  refine n_callI (mc1 := 1) (ms1 := 320) (pc' := 34) (M' := mX5_init) (As := []) dX10_init_31 iX5_init lX10_20 rfl rfl (Nat.le_of_ble_eq_true rfl) (Nat.le_of_ble_eq_true rfl) rfl rfl (n_oct) (fun B hB => ?_)
  obtain ⟨w1, rfl⟩ := hB
  refine n_putF (n := 0) (pc' := 37) dX10_init_34 fX10_25 rfl ⟨_, _, rfl⟩ rfl rfl rfl (Nat.le_of_ble_eq_true rfl) rfl rfl ?_
  refine q_aload_n (pc' := 38) dX10_init_37 rfl rfl ?_
  refine n_new (pc' := 41) (ci := 9) (C := RX9) (T := TX9) (N := 7) (ty := tyX9) dX10_init_38 clX10_28 iwX9 tyX9_ok izX9 itX9 rfl rfl (fun _ => rfl) rfl (fun q38 => ?_)
  refine q_dup (pc' := 42) dX10_init_41 rfl rfl ?_
  refine q_aload_n (pc' := 43) dX10_init_42 rfl rfl ?_
  refine n_get (n := 0) (pc' := 46) dX10_init_43 fX10_21 rfl rfl rfl ?_
  refine q_aload_n (pc' := 47) dX10_init_46 rfl rfl ?_
  refine n_get (n := 0) (pc' := 50) dX10_init_47 fX10_14 rfl rfl rfl ?_
  refine n_callI (mc1 := 5) (ms1 := 259) (pc' := 53) (M' := mX9_init) (As := [_, _]) dX10_init_50 iX9_init lX10_30 rfl rfl (Nat.le_of_ble_eq_true rfl) (Nat.le_of_ble_eq_true rfl) rfl rfl (n_trd) (fun B hB => ?_)
  obtain ⟨r1, r2, r3, r4, r5, rfl⟩ := hB
  refine n_putF (n := 0) (pc' := 56) dX10_init_53 fX10_33 rfl ⟨_, _, rfl⟩ rfl rfl rfl (Nat.le_of_ble_eq_true rfl) rfl rfl ?_
  refine q_aload_n (pc' := 57) dX10_init_56 rfl rfl ?_
  refine n_new (pc' := 60) (ci := 0) (C := RX0) (T := TX0) (N := 8) (ty := tyX0) dX10_init_57 clX10_37 iwX0 tyX0_ok izX0 itX0 rfl rfl (fun _ => rfl) rfl (fun q57 => ?_)
  refine q_dup (pc' := 61) dX10_init_60 rfl rfl ?_
  refine q_aload_n (pc' := 62) dX10_init_61 rfl rfl ?_
  refine n_get (n := 0) (pc' := 65) dX10_init_62 fX10_21 rfl rfl rfl ?_
  refine q_aload_n (pc' := 66) dX10_init_65 rfl rfl ?_
  refine n_get (n := 0) (pc' := 69) dX10_init_66 fX10_14 rfl rfl rfl ?_
  refine n_callI (mc1 := 2) (ms1 := 24) (pc' := 72) (M' := mX0_init) (As := [_, _]) dX10_init_69 iX0_init lX10_39 rfl rfl (Nat.le_of_ble_eq_true rfl) (Nat.le_of_ble_eq_true rfl) rfl rfl (n_brd) (fun B hB => ?_)
  obtain ⟨b1, b2, rfl⟩ := hB
  refine n_putF (n := 0) (pc' := 75) dX10_init_72 fX10_40 rfl ⟨_, _, rfl⟩ rfl rfl rfl (Nat.le_of_ble_eq_true rfl) rfl rfl ?_
  refine q_aload_n (pc' := 76) dX10_init_75 rfl rfl ?_
  refine n_new (pc' := 79) (ci := 2) (C := RX2) (T := TX2) (N := 5) (ty := tyX2) dX10_init_76 clX10_44 iwX2 tyX2_ok izX2 itX2 rfl rfl (fun _ => rfl) rfl (fun q76 => ?_)
  refine q_dup (pc' := 80) dX10_init_79 rfl rfl ?_
  refine n_callI (mc1 := 3) (ms1 := 249) (pc' := 83) (M' := mX2_init) (As := []) dX10_init_80 iX2_init lX10_46 rfl rfl (Nat.le_of_ble_eq_true rfl) (Nat.le_of_ble_eq_true rfl) rfl rfl (n_col) (fun B hB => ?_)
  obtain ⟨c1, c2, c3, rfl⟩ := hB
  refine n_putF (n := 0) (pc' := 86) dX10_init_83 fX10_47 rfl ⟨_, _, rfl⟩ rfl rfl rfl (Nat.le_of_ble_eq_true rfl) rfl rfl ?_
  refine q_aload_n (pc' := 87) dX10_init_86 rfl rfl ?_
  refine n_new (pc' := 90) (ci := 2) (C := RX2) (T := TX2) (N := 5) (ty := tyX2) dX10_init_87 clX10_44 iwX2 tyX2_ok izX2 itX2 rfl rfl (fun _ => rfl) rfl (fun q87 => ?_)
  refine q_dup (pc' := 91) dX10_init_90 rfl rfl ?_
  refine n_callI (mc1 := 3) (ms1 := 249) (pc' := 94) (M' := mX2_init) (As := []) dX10_init_91 iX2_init lX10_46 rfl rfl (Nat.le_of_ble_eq_true rfl) (Nat.le_of_ble_eq_true rfl) rfl rfl (n_col) (fun B hB => ?_)
  obtain ⟨k1, k2, k3, rfl⟩ := hB
  refine n_putF (n := 0) (pc' := 97) dX10_init_94 fX10_51 rfl ⟨_, _, rfl⟩ rfl rfl rfl (Nat.le_of_ble_eq_true rfl) rfl rfl ?_
  refine q_aload_n (pc' := 98) dX10_init_97 rfl rfl ?_
  refine n_new (pc' := 101) (ci := 7) (C := RX7) (T := TX7) (N := 3) (ty := tyX7) dX10_init_98 clX10_54 iwX7 tyX7_ok izX7 itX7 rfl rfl (fun _ => rfl) rfl (fun q98 => ?_)
  refine q_dup (pc' := 102) dX10_init_101 rfl rfl ?_
  refine n_callI (mc1 := 161) (ms1 := 10200) (pc' := 105) (M' := mX7_init) (As := []) dX10_init_102 iX7_init lX10_56 rfl rfl (Nat.le_of_ble_eq_true rfl) (Nat.le_of_ble_eq_true rfl) rfl rfl (n_past) (fun B hB => ?_)
  obtain ⟨s1, sa, rfl⟩ := hB
  refine n_putF (n := 0) (pc' := 108) dX10_init_105 fX10_57 rfl ⟨_, _, rfl⟩ rfl rfl rfl (Nat.le_of_ble_eq_true rfl) rfl rfl ?_
  refine q_aload_n (pc' := 109) dX10_init_108 rfl rfl ?_
  refine n_new (pc' := 112) (ci := 4) (C := RX4) (T := TX4) (N := 5) (ty := tyX4) dX10_init_109 clX10_61 iwX4 tyX4_ok izX4 itX4 rfl rfl (fun _ => rfl) rfl (fun q109 => ?_)
  refine q_dup (pc' := 113) dX10_init_112 rfl rfl ?_
  refine q_aload_n (pc' := 114) dX10_init_113 rfl rfl ?_
  refine n_get (n := 0) (pc' := 117) dX10_init_114 fX10_14 rfl rfl rfl ?_
  refine n_callI (mc1 := 4) (ms1 := 7928) (pc' := 120) (M' := mX4_init) (As := [_]) dX10_init_117 iX4_init lX10_63 rfl rfl (Nat.le_of_ble_eq_true rfl) (Nat.le_of_ble_eq_true rfl) rfl rfl (n_fits) (fun B hB => ?_)
  obtain ⟨f1, f2, f3, f4, ff, hff, rfl⟩ := hB
  refine n_putF (n := 0) (pc' := 123) dX10_init_120 fX10_66 rfl ⟨_, _, rfl⟩ rfl rfl rfl (Nat.le_of_ble_eq_true rfl) rfl rfl ?_
  refine q_aload_n (pc' := 124) dX10_init_123 rfl rfl ?_
  refine n_new (pc' := 127) (ci := 8) (C := RX8) (T := TX8) (N := 16) (ty := tyX8) dX10_init_124 clX10_70 iwX8 tyX8_ok izX8 itX8 rfl rfl (fun _ => rfl) rfl (fun q124 => ?_)
  refine q_dup (pc' := 128) dX10_init_127 rfl rfl ?_
  refine q_aload_n (pc' := 129) dX10_init_128 rfl rfl ?_
  refine n_get (n := 0) (pc' := 132) dX10_init_129 fX10_66 rfl rfl rfl ?_
  refine q_aload_n (pc' := 133) dX10_init_132 rfl rfl ?_
  refine n_get (n := 0) (pc' := 136) dX10_init_133 fX10_47 rfl rfl rfl ?_
  refine n_callI (mc1 := 8) (ms1 := 125) (pc' := 139) (M' := mX8_init) (As := [_, _]) dX10_init_136 iX8_init lX10_72 rfl rfl (Nat.le_of_ble_eq_true rfl) (Nat.le_of_ble_eq_true rfl) rfl rfl (n_pln (ic := ws0.length + 19) (ir := ws0.length + 21) (w_at rfl) (w_at rfl)) (fun B hB => ?_)
  obtain ⟨x1, x2, x3, x4, x5, x6, x7, x8, rfl⟩ := hB
  refine n_putF (n := 0) (pc' := 142) dX10_init_139 fX10_75 rfl ⟨_, _, rfl⟩ rfl rfl rfl (Nat.le_of_ble_eq_true rfl) rfl rfl ?_
  refine q_aload_n (pc' := 143) dX10_init_142 rfl rfl ?_
  refine n_new (pc' := 146) (ci := 8) (C := RX8) (T := TX8) (N := 16) (ty := tyX8) dX10_init_143 clX10_70 iwX8 tyX8_ok izX8 itX8 rfl rfl (fun _ => rfl) rfl (fun q143 => ?_)
  refine q_dup (pc' := 147) dX10_init_146 rfl rfl ?_
  refine q_aload_n (pc' := 148) dX10_init_147 rfl rfl ?_
  refine n_get (n := 0) (pc' := 151) dX10_init_148 fX10_66 rfl rfl rfl ?_
  refine q_aload_n (pc' := 152) dX10_init_151 rfl rfl ?_
  refine n_get (n := 0) (pc' := 155) dX10_init_152 fX10_47 rfl rfl rfl ?_
  refine n_callI (mc1 := 8) (ms1 := 125) (pc' := 158) (M' := mX8_init) (As := [_, _]) dX10_init_155 iX8_init lX10_72 rfl rfl (Nat.le_of_ble_eq_true rfl) (Nat.le_of_ble_eq_true rfl) rfl rfl (n_pln (ic := ws0.length + 19) (ir := ws0.length + 21) (w_at rfl) (w_at rfl)) (fun B hB => ?_)
  obtain ⟨y1, y2, y3, y4, y5, y6, y7, y8, rfl⟩ := hB
  refine n_putF (n := 0) (pc' := 161) dX10_init_158 fX10_79 rfl ⟨_, _, rfl⟩ rfl rfl rfl (Nat.le_of_ble_eq_true rfl) rfl rfl ?_
  refine q_aload_n (pc' := 162) dX10_init_161 rfl rfl ?_
  refine n_new (pc' := 165) (ci := 1) (C := RX1) (T := TX1) (N := 3) (ty := tyX1) dX10_init_162 clX10_82 iwX1 tyX1_ok izX1 itX1 rfl rfl (fun _ => rfl) rfl (fun q162 => ?_)
  refine q_dup (pc' := 166) dX10_init_165 rfl rfl ?_
  refine q_aload_n (pc' := 167) dX10_init_166 rfl rfl ?_
  refine n_get (n := 0) (pc' := 170) dX10_init_167 fX10_25 rfl rfl rfl ?_
  refine n_callI (mc1 := 0) (ms1 := 0) (pc' := 173) (M' := mX1_init) (As := [_]) dX10_init_170 iX1_init lX10_84 rfl rfl (Nat.le_of_ble_eq_true rfl) (Nat.le_of_ble_eq_true rfl) rfl rfl (n_bwr) (fun B hB => ?_)
  subst hB
  refine n_putF (n := 0) (pc' := 176) dX10_init_173 fX10_87 rfl ⟨_, _, rfl⟩ rfl rfl rfl (Nat.le_of_ble_eq_true rfl) rfl rfl ?_
  refine q_aload_n (pc' := 177) dX10_init_176 rfl rfl ?_
  refine q_iconst (pc' := 178) (v := nI 5) dX10_init_177 rfl rfl ?_
  refine n_newi (N := 5) (t := 0) (pc' := 180) dX10_init_178 rfl rfl (by decide) (fun _ => rfl) rfl (fun q178 => ?_)
  refine n_putF (n := 0) (pc' := 183) dX10_init_180 fX10_91 rfl ⟨_, _, rfl⟩ rfl rfl rfl (Nat.le_of_ble_eq_true rfl) rfl rfl ?_
  refine q_aload_n (pc' := 184) dX10_init_183 rfl rfl ?_
  refine q_bipush (pc' := 186) (v := nI 64) dX10_init_184 rfl rfl ?_
  refine n_newl (N := 64) (t := 1) (pc' := 188) dX10_init_186 rfl rfl (by decide) (fun _ => rfl) rfl (fun q186 => ?_)
  refine n_putF (n := 0) (pc' := 191) dX10_init_188 fX10_95 rfl ⟨_, _, rfl⟩ rfl rfl rfl (Nat.le_of_ble_eq_true rfl) rfl rfl ?_
  refine q_vret dX10_init_191 rfl ⟨rfl, _, ⟨q5, q16, q27, q38, q57, q76, q87, q98, q109, q124, q143, q162, q178, q186, _, _, _, _, _, _, _, _, _, _, _, _, ⟨d1, d2, d3, d4, ft, fh, fu, fw, hdd, rfl⟩, ⟨o1, rfl⟩, ⟨w1, rfl⟩, ⟨r1, r2, r3, r4, r5, rfl⟩, ⟨b1, b2, rfl⟩, ⟨c1, c2, c3, rfl⟩, ⟨k1, k2, k3, rfl⟩, ⟨s1, sa, rfl⟩, ⟨f1, f2, f3, f4, ff, hff, rfl⟩, ⟨x1, x2, x3, x4, x5, x6, x7, x8, rfl⟩, ⟨y1, y2, y3, y4, y5, y6, y7, y8, rfl⟩, rfl, rfl⟩, rfl⟩
abbrev B_mod (Z : q_Z) (a : Nat) (q : Nat → Nat) (t h : Nat → UInt64) : va_W := [(a, .inr (11, [.int 0, .ref (q 0), .ref (q 1), .ref (q 2), .int 0, .int 0, .int 0, .ref (q 3), .ref (q 4), .int 0, .long 0, .ref (q 5), .int 0, .int 0, .int 0, .ref (q 6), .ref (q 7), .ref (q 8), .ref (q 9), .ref (q 10), .int 0, .int 0, .int 0, .int 0, .ref (q 11), .int 0, .long 0, .long 0, .int 0, .int 0, .ref (q 12), .ref (q 13), .int 0, .ref (q 14), .ref (q 15), .int 0, .int 0, .int 0, .int 0, .int 0, .ref (q 16), .int 0, .int 0, .ref (q 17), .ref (q 18), .ref (q 19), .ref (q 20), .ref (q 21), .int 0, .ref (q 22), .ref (q 23), .ref (q 24), .ref (q 25), .int 0, .int 0, .int 0])),
  (q 0, .inl (Z.2.2.1 2, 15, .inr (.inr (.inr (.inl t))))), (q 1, .inl (Z.2.2.1 2, 15, .inr (.inr (.inr (.inl h))))), (q 2, .inl (Z.2.2.1 0, 320, .inl (fun _ => 0))), (q 3, .inl (Z.2.2.1 0, 5, .inl (fun _ => 0))), (q 4, .inl (Z.2.2.1 1, 40, .inr (.inl (fun _ => 0)))), (q 5, .inl (Z.2.2.1 1, 16, .inr (.inl (fun _ => 0)))), (q 6, .inl (Z.2.2.1 0, 8, .inl (fun _ => 0))), (q 7, .inl (Z.2.2.1 1, 64, .inr (.inl (fun _ => 0)))), (q 8, .inl (Z.2.2.1 0, 5, .inl (fun _ => 0))), (q 9, .inl (Z.2.2.1 0, 180, .inl (fun _ => 0))), (q 10, .inl (Z.2.2.1 0, 5, .inl (fun _ => 0))), (q 11, .inl (Z.2.2.1 1, 64, .inr (.inl (fun _ => 0)))), (q 12, .inl (Z.2.2.1 0, 16, .inl (fun _ => 0))), (q 13, .inl (Z.2.2.1 0, 16, .inl (fun _ => 0))), (q 14, .inl (Z.2.2.1 0, 5, .inl (fun _ => 0))), (q 15, .inl (Z.2.2.1 0, 5, .inl (fun _ => 0))), (q 16, .inl (Z.2.2.1 0, 400, .inl (fun _ => 0))), (q 17, .inl (Z.2.2.1 1, 2560, .inr (.inl (fun _ => 0)))), (q 18, .inl (Z.2.2.1 0, 200, .inl (fun _ => 0))), (q 19, .inl (Z.2.2.1 0, 7200, .inl (fun _ => 0))), (q 20, .inl (Z.2.2.1 0, 40, .inl (fun _ => 0))), (q 21, .inl (Z.2.2.1 0, 40, .inl (fun _ => 0))), (q 22, .inl (Z.2.2.1 2, 64, .inr (.inr (.inr (.inl (fun _ => 0)))))), (q 23, .inl (Z.2.2.1 1, 64, .inr (.inl (fun _ => 0)))), (q 24, .inl (Z.2.2.1 0, 5, .inl (fun _ => 0))), (q 25, .inl (Z.2.2.1 0, 180, .inl (fun _ => 0)))]
def s_lk26 (L : List Nat) : Nat → Nat := fun i => L.getD i 0
set_option maxHeartbeats 4000000 in
set_option maxRecDepth 20000 in
theorem n_mod {Z : q_Z} {d : Nat} {ws0 : va_W} {a : Nat} : q_V (q_g Z) mX11_init (d+1) 26 11532 0 [some (.ref a), none, none, none] [] (ws0 ++ ([(a, .inr (11, [.int 0, .null, .null, .null, .int 0, .int 0, .int 0, .null, .null, .int 0, .long 0, .null, .int 0, .int 0, .int 0, .null, .null, .null, .null, .null, .int 0, .int 0, .int 0, .int 0, .null, .int 0, .long 0, .long 0, .int 0, .int 0, .null, .null, .int 0, .null, .null, .int 0, .int 0, .int 0, .int 0, .int 0, .null, .int 0, .int 0, .null, .null, .null, .null, .null, .int 0, .null, .null, .null, .null, .int 0, .int 0, .int 0]))])) (fun r ws => r = none ∧ ∃ B, (∃ q t h, (∀ k, k < 15 → t k = s_tn k ∧ h k = s_th k) ∧ B = B_mod Z a q t h) ∧ ws = ws0 ++ B) := by
  refine q_aload_n (pc' := 1) dX11_init_0 rfl rfl ?_
  refine q_oinit (pc' := 4) dX11_init_1 loX11_1 (Nat.le_of_ble_eq_true rfl) rfl ?_
  refine q_aload_n (pc' := 5) dX11_init_4 rfl rfl ?_
  refine q_bipush (pc' := 7) (v := nI 15) dX11_init_5 rfl rfl ?_
  refine n_newd (N := 15) (t := 2) (pc' := 9) dX11_init_7 rfl rfl (by decide) (fun _ => rfl) rfl (fun q7 => ?_)
  refine n_putF (n := 0) (pc' := 12) dX11_init_9 fX11_9 rfl ⟨_, _, rfl⟩ rfl rfl rfl (Nat.le_of_ble_eq_true rfl) rfl rfl ?_
  refine q_aload_n (pc' := 13) dX11_init_12 rfl rfl ?_
  refine q_bipush (pc' := 15) (v := nI 15) dX11_init_13 rfl rfl ?_
  refine n_newd (N := 15) (t := 2) (pc' := 17) dX11_init_15 rfl rfl (by decide) (fun _ => rfl) rfl (fun q15 => ?_)
  refine n_putF (n := 0) (pc' := 20) dX11_init_17 fX11_13 rfl ⟨_, _, rfl⟩ rfl rfl rfl (Nat.le_of_ble_eq_true rfl) rfl rfl ?_
  refine q_aload_n (pc' := 21) dX11_init_20 rfl rfl ?_
  refine q_sipush (pc' := 24) (v := nI 320) dX11_init_21 rfl rfl ?_
  refine n_newi (N := 320) (t := 0) (pc' := 26) dX11_init_24 rfl rfl (by decide) (fun _ => rfl) rfl (fun q24 => ?_)
  refine n_putF (n := 0) (pc' := 29) dX11_init_26 fX11_16 rfl ⟨_, _, rfl⟩ rfl rfl rfl (Nat.le_of_ble_eq_true rfl) rfl rfl ?_
  refine q_aload_n (pc' := 30) dX11_init_29 rfl rfl ?_
  refine q_iconst (pc' := 31) (v := nI 5) dX11_init_30 rfl rfl ?_
  refine n_newi (N := 5) (t := 0) (pc' := 33) dX11_init_31 rfl rfl (by decide) (fun _ => rfl) rfl (fun q31 => ?_)
  refine n_putF (n := 0) (pc' := 36) dX11_init_33 fX11_20 rfl ⟨_, _, rfl⟩ rfl rfl rfl (Nat.le_of_ble_eq_true rfl) rfl rfl ?_
  refine q_aload_n (pc' := 37) dX11_init_36 rfl rfl ?_
  refine q_bipush (pc' := 39) (v := nI 40) dX11_init_37 rfl rfl ?_
  refine n_newl (N := 40) (t := 1) (pc' := 41) dX11_init_39 rfl rfl (by decide) (fun _ => rfl) rfl (fun q39 => ?_)
  refine n_putF (n := 0) (pc' := 44) dX11_init_41 fX11_23 rfl ⟨_, _, rfl⟩ rfl rfl rfl (Nat.le_of_ble_eq_true rfl) rfl rfl ?_
  refine q_aload_n (pc' := 45) dX11_init_44 rfl rfl ?_
  refine q_bipush (pc' := 47) (v := nI 16) dX11_init_45 rfl rfl ?_
  refine n_newl (N := 16) (t := 1) (pc' := 49) dX11_init_47 rfl rfl (by decide) (fun _ => rfl) rfl (fun q47 => ?_)
  refine n_putF (n := 0) (pc' := 52) dX11_init_49 fX11_27 rfl ⟨_, _, rfl⟩ rfl rfl rfl (Nat.le_of_ble_eq_true rfl) rfl rfl ?_
  refine q_aload_n (pc' := 53) dX11_init_52 rfl rfl ?_
  refine q_bipush (pc' := 55) (v := nI 8) dX11_init_53 rfl rfl ?_
  refine n_newi (N := 8) (t := 0) (pc' := 57) dX11_init_55 rfl rfl (by decide) (fun _ => rfl) rfl (fun q55 => ?_)
  refine n_putF (n := 0) (pc' := 60) dX11_init_57 fX11_30 rfl ⟨_, _, rfl⟩ rfl rfl rfl (Nat.le_of_ble_eq_true rfl) rfl rfl ?_
  refine q_aload_n (pc' := 61) dX11_init_60 rfl rfl ?_
  refine q_bipush (pc' := 63) (v := nI 64) dX11_init_61 rfl rfl ?_
  refine n_newl (N := 64) (t := 1) (pc' := 65) dX11_init_63 rfl rfl (by decide) (fun _ => rfl) rfl (fun q63 => ?_)
  refine n_putF (n := 0) (pc' := 68) dX11_init_65 fX11_33 rfl ⟨_, _, rfl⟩ rfl rfl rfl (Nat.le_of_ble_eq_true rfl) rfl rfl ?_
  refine q_aload_n (pc' := 69) dX11_init_68 rfl rfl ?_
  refine q_iconst (pc' := 70) (v := nI 5) dX11_init_69 rfl rfl ?_
  refine n_newi (N := 5) (t := 0) (pc' := 72) dX11_init_70 rfl rfl (by decide) (fun _ => rfl) rfl (fun q70 => ?_)
  refine n_putF (n := 0) (pc' := 75) dX11_init_72 fX11_36 rfl ⟨_, _, rfl⟩ rfl rfl rfl (Nat.le_of_ble_eq_true rfl) rfl rfl ?_
  refine q_aload_n (pc' := 76) dX11_init_75 rfl rfl ?_
  refine q_sipush (pc' := 79) (v := nI 180) dX11_init_76 rfl rfl ?_
  refine n_newi (N := 180) (t := 0) (pc' := 81) dX11_init_79 rfl rfl (by decide) (fun _ => rfl) rfl (fun q79 => ?_)
  refine n_putF (n := 0) (pc' := 84) dX11_init_81 fX11_39 rfl ⟨_, _, rfl⟩ rfl rfl rfl (Nat.le_of_ble_eq_true rfl) rfl rfl ?_
  refine q_aload_n (pc' := 85) dX11_init_84 rfl rfl ?_
  refine q_iconst (pc' := 86) (v := nI 5) dX11_init_85 rfl rfl ?_
  refine n_newi (N := 5) (t := 0) (pc' := 88) dX11_init_86 rfl rfl (by decide) (fun _ => rfl) rfl (fun q86 => ?_)
  refine n_putF (n := 0) (pc' := 91) dX11_init_88 fX11_42 rfl ⟨_, _, rfl⟩ rfl rfl rfl (Nat.le_of_ble_eq_true rfl) rfl rfl ?_
  refine q_aload_n (pc' := 92) dX11_init_91 rfl rfl ?_
  refine q_bipush (pc' := 94) (v := nI 64) dX11_init_92 rfl rfl ?_
  refine n_newl (N := 64) (t := 1) (pc' := 96) dX11_init_94 rfl rfl (by decide) (fun _ => rfl) rfl (fun q94 => ?_)
  refine n_putF (n := 0) (pc' := 99) dX11_init_96 fX11_45 rfl ⟨_, _, rfl⟩ rfl rfl rfl (Nat.le_of_ble_eq_true rfl) rfl rfl ?_
  refine q_aload_n (pc' := 100) dX11_init_99 rfl rfl ?_
  refine q_bipush (pc' := 102) (v := nI 16) dX11_init_100 rfl rfl ?_
  refine n_newi (N := 16) (t := 0) (pc' := 104) dX11_init_102 rfl rfl (by decide) (fun _ => rfl) rfl (fun q102 => ?_)
  refine n_putF (n := 0) (pc' := 107) dX11_init_104 fX11_48 rfl ⟨_, _, rfl⟩ rfl rfl rfl (Nat.le_of_ble_eq_true rfl) rfl rfl ?_
  refine q_aload_n (pc' := 108) dX11_init_107 rfl rfl ?_
  refine q_bipush (pc' := 110) (v := nI 16) dX11_init_108 rfl rfl ?_
  refine n_newi (N := 16) (t := 0) (pc' := 112) dX11_init_110 rfl rfl (by decide) (fun _ => rfl) rfl (fun q110 => ?_)
  refine n_putF (n := 0) (pc' := 115) dX11_init_112 fX11_51 rfl ⟨_, _, rfl⟩ rfl rfl rfl (Nat.le_of_ble_eq_true rfl) rfl rfl ?_
  refine q_aload_n (pc' := 116) dX11_init_115 rfl rfl ?_
  refine q_iconst (pc' := 117) (v := nI 5) dX11_init_116 rfl rfl ?_
  refine n_newi (N := 5) (t := 0) (pc' := 119) dX11_init_117 rfl rfl (by decide) (fun _ => rfl) rfl (fun q117 => ?_)
  refine n_putF (n := 0) (pc' := 122) dX11_init_119 fX11_54 rfl ⟨_, _, rfl⟩ rfl rfl rfl (Nat.le_of_ble_eq_true rfl) rfl rfl ?_
  refine q_aload_n (pc' := 123) dX11_init_122 rfl rfl ?_
  refine q_iconst (pc' := 124) (v := nI 5) dX11_init_123 rfl rfl ?_
  refine n_newi (N := 5) (t := 0) (pc' := 126) dX11_init_124 rfl rfl (by decide) (fun _ => rfl) rfl (fun q124 => ?_)
  refine n_putF (n := 0) (pc' := 129) dX11_init_126 fX11_57 rfl ⟨_, _, rfl⟩ rfl rfl rfl (Nat.le_of_ble_eq_true rfl) rfl rfl ?_
  refine q_aload_n (pc' := 130) dX11_init_129 rfl rfl ?_
  refine q_sipush (pc' := 133) (v := nI 400) dX11_init_130 rfl rfl ?_
  refine n_newi (N := 400) (t := 0) (pc' := 135) dX11_init_133 rfl rfl (by decide) (fun _ => rfl) rfl (fun q133 => ?_)
  refine n_putF (n := 0) (pc' := 138) dX11_init_135 fX11_60 rfl ⟨_, _, rfl⟩ rfl rfl rfl (Nat.le_of_ble_eq_true rfl) rfl rfl ?_
  refine q_aload_n (pc' := 139) dX11_init_138 rfl rfl ?_
  refine q_sipush (pc' := 142) (v := nI 2560) dX11_init_139 rfl rfl ?_
  refine n_newl (N := 2560) (t := 1) (pc' := 144) dX11_init_142 rfl rfl (by decide) (fun _ => rfl) rfl (fun q142 => ?_)
  refine n_putF (n := 0) (pc' := 147) dX11_init_144 fX11_63 rfl ⟨_, _, rfl⟩ rfl rfl rfl (Nat.le_of_ble_eq_true rfl) rfl rfl ?_
  refine q_aload_n (pc' := 148) dX11_init_147 rfl rfl ?_
  refine q_sipush (pc' := 151) (v := nI 200) dX11_init_148 rfl rfl ?_
  refine n_newi (N := 200) (t := 0) (pc' := 153) dX11_init_151 rfl rfl (by decide) (fun _ => rfl) rfl (fun q151 => ?_)
  refine n_putF (n := 0) (pc' := 156) dX11_init_153 fX11_66 rfl ⟨_, _, rfl⟩ rfl rfl rfl (Nat.le_of_ble_eq_true rfl) rfl rfl ?_
  refine q_aload_n (pc' := 157) dX11_init_156 rfl rfl ?_
  refine q_sipush (pc' := 160) (v := nI 7200) dX11_init_157 rfl rfl ?_
  refine n_newi (N := 7200) (t := 0) (pc' := 162) dX11_init_160 rfl rfl (by decide) (fun _ => rfl) rfl (fun q160 => ?_)
  refine n_putF (n := 0) (pc' := 165) dX11_init_162 fX11_69 rfl ⟨_, _, rfl⟩ rfl rfl rfl (Nat.le_of_ble_eq_true rfl) rfl rfl ?_
  refine q_aload_n (pc' := 166) dX11_init_165 rfl rfl ?_
  refine q_bipush (pc' := 168) (v := nI 40) dX11_init_166 rfl rfl ?_
  refine n_newi (N := 40) (t := 0) (pc' := 170) dX11_init_168 rfl rfl (by decide) (fun _ => rfl) rfl (fun q168 => ?_)
  refine n_putF (n := 0) (pc' := 173) dX11_init_170 fX11_72 rfl ⟨_, _, rfl⟩ rfl rfl rfl (Nat.le_of_ble_eq_true rfl) rfl rfl ?_
  refine q_aload_n (pc' := 174) dX11_init_173 rfl rfl ?_
  refine q_bipush (pc' := 176) (v := nI 40) dX11_init_174 rfl rfl ?_
  refine n_newi (N := 40) (t := 0) (pc' := 178) dX11_init_176 rfl rfl (by decide) (fun _ => rfl) rfl (fun q176 => ?_)
  refine n_putF (n := 0) (pc' := 181) dX11_init_178 fX11_75 rfl ⟨_, _, rfl⟩ rfl rfl rfl (Nat.le_of_ble_eq_true rfl) rfl rfl ?_
  refine q_aload_n (pc' := 182) dX11_init_181 rfl rfl ?_
  refine q_bipush (pc' := 184) (v := nI 64) dX11_init_182 rfl rfl ?_
  refine n_newd (N := 64) (t := 2) (pc' := 186) dX11_init_184 rfl rfl (by decide) (fun _ => rfl) rfl (fun q184 => ?_)
  refine n_putF (n := 0) (pc' := 189) dX11_init_186 fX11_78 rfl ⟨_, _, rfl⟩ rfl rfl rfl (Nat.le_of_ble_eq_true rfl) rfl rfl ?_
  refine q_aload_n (pc' := 190) dX11_init_189 rfl rfl ?_
  refine q_bipush (pc' := 192) (v := nI 64) dX11_init_190 rfl rfl ?_
  refine n_newl (N := 64) (t := 1) (pc' := 194) dX11_init_192 rfl rfl (by decide) (fun _ => rfl) rfl (fun q192 => ?_)
  refine n_putF (n := 0) (pc' := 197) dX11_init_194 fX11_81 rfl ⟨_, _, rfl⟩ rfl rfl rfl (Nat.le_of_ble_eq_true rfl) rfl rfl ?_
  refine q_aload_n (pc' := 198) dX11_init_197 rfl rfl ?_
  refine q_iconst (pc' := 199) (v := nI 5) dX11_init_198 rfl rfl ?_
  refine n_newi (N := 5) (t := 0) (pc' := 201) dX11_init_199 rfl rfl (by decide) (fun _ => rfl) rfl (fun q199 => ?_)
  refine n_putF (n := 0) (pc' := 204) dX11_init_201 fX11_84 rfl ⟨_, _, rfl⟩ rfl rfl rfl (Nat.le_of_ble_eq_true rfl) rfl rfl ?_
  refine q_aload_n (pc' := 205) dX11_init_204 rfl rfl ?_
  refine q_sipush (pc' := 208) (v := nI 180) dX11_init_205 rfl rfl ?_
  refine n_newi (N := 180) (t := 0) (pc' := 210) dX11_init_208 rfl rfl (by decide) (fun _ => rfl) rfl (fun q208 => ?_)
  refine n_putF (n := 0) (pc' := 213) dX11_init_210 fX11_87 rfl ⟨_, _, rfl⟩ rfl rfl rfl (Nat.le_of_ble_eq_true rfl) rfl rfl ?_
  refine q_lconst (pc' := 214) (v := 1) dX11_init_213 rfl rfl ?_
  refine q_lstore_n (pc' := 215) (lv' := [_, _, _, _]) dX11_init_214 (by decide) rfl rfl ?_
  refine q_iconst (pc' := 216) (v := nI 0) dX11_init_215 rfl rfl ?_
  refine q_istore_n (pc' := 217) (lv' := [_, _, _, _]) dX11_init_216 (by decide) rfl rfl ?_
  obtain ⟨q, hq⟩ : ∃ q, q = s_lk26 [q7, q15, q24, q31, q39, q47, q55, q63, q70, q79, q86, q94, q102, q110, q117, q124, q133, q142, q151, q160, q168, q176, q184, q192, q199, q208] := ⟨_, rfl⟩
  suffices hh : ∀ g i (t h : Nat → UInt64), i + g = 15 → (∀ k, k < i → t k = s_tn k ∧ h k = s_th k) → q_V (q_g Z) mX11_init (d+1) 0 0 217 [some (.ref a), some (.long (Int64.ofNat (10 ^ i))), none, some (.int (nI i))] [] (ws0 ++ (B_mod Z a q t h)) (fun r ws => r = none ∧ ∃ B, (∃ q t h, (∀ k, k < 15 → t k = s_tn k ∧ h k = s_th k) ∧ B = B_mod Z a q t h) ∧ ws = ws0 ++ B) from by
    have h0 := hh 15 0 (fun _ => 0) (fun _ => 0) rfl (fun k hk => absurd hk (Nat.not_lt_zero k))
    rw [hq] at h0
    exact h0
  intro g
  induction g with
  | zero =>
    intro i t h hi hth
    have hi : i = 15 := hi
    subst hi
    refine q_iload_n (pc' := 218) dX11_init_217 rfl rfl ?_
    refine q_bipush (pc' := 220) (v := nI 15) dX11_init_218 rfl rfl ?_
    refine q_icmp_geN (tgt := 257) (pc' := 223) dX11_init_220 (by decide) rfl (by omega) (fun c_220 => ?_) (fun c_220 => ?_)
    rotate_left
    · omega
    exact q_vret dX11_init_257 rfl ⟨rfl, _, ⟨q, t, h, hth, rfl⟩, rfl⟩
  | succ g ih =>
    intro i t h hi hth
    refine q_iload_n (pc' := 218) dX11_init_217 rfl rfl ?_
    refine q_bipush (pc' := 220) (v := nI 15) dX11_init_218 rfl rfl ?_
    refine q_icmp_geN (tgt := 257) (pc' := 223) dX11_init_220 (by decide) rfl (by omega) (fun c_220 => ?_) (fun c_220 => ?_)
    · omega
    refine q_aload_n (pc' := 224) dX11_init_223 rfl rfl ?_
    refine n_get (n := 0) (pc' := 227) dX11_init_224 fX11_9 rfl rfl rfl ?_
    refine q_iload_n (pc' := 228) dX11_init_227 rfl rfl ?_
    refine q_lload_n (pc' := 229) dX11_init_228 rfl rfl ?_
    refine q_l2d (pc' := 230) dX11_init_229 rfl ?_
    refine n_dast (n := 1) (t := 2) (pc' := 231) dX11_init_230 rfl rfl (rfl) (by omega) (by decide) rfl rfl ?_
    refine q_aload_n (pc' := 232) dX11_init_231 rfl rfl ?_
    refine n_get (n := 0) (pc' := 235) dX11_init_232 fX11_13 rfl rfl rfl ?_
    refine q_iload_n (pc' := 236) dX11_init_235 rfl rfl ?_
    refine q_dconst1 (pc' := 237) dX11_init_236 rfl ?_
    refine q_aload_n (pc' := 238) dX11_init_237 rfl rfl ?_
    refine n_get (n := 0) (pc' := 241) dX11_init_238 fX11_9 rfl rfl rfl ?_
    refine q_iload_n (pc' := 242) dX11_init_241 rfl rfl ?_
    refine n_dald (n := 1) (t := 2) (pc' := 243) dX11_init_242 rfl rfl (rfl) (by omega) (by decide) (q_u_s _ _ _) rfl ?_
    refine q_ddiv (pc' := 244) dX11_init_243 (nz_n64 (nz_th ⟨i, by omega⟩)) rfl ?_
    refine n_dast (n := 2) (t := 2) (pc' := 245) dX11_init_244 rfl rfl (rfl) (by omega) (by decide) rfl rfl ?_
    refine q_lload_n (pc' := 246) dX11_init_245 rfl rfl ?_
    refine q_ldc2 (pc' := 249) dX11_init_246 kX11_90 rfl ?_
    refine q_lmul (pc' := 250) dX11_init_249 rfl ?_
    refine q_lstore_n (pc' := 251) (lv' := [_, _, _, _]) dX11_init_250 (by decide) rfl rfl ?_
    refine q_iincN (pc' := 254) (j := 1) (lv' := [_, _, _, _]) dX11_init_251 rfl (by decide) rfl rfl ?_
    refine q_goto (pc' := 217) dX11_init_254 (by decide) ?_
    rw [show Int64.ofNat (10 ^ i) * 10 = Int64.ofNat (10 ^ (i + 1)) by rw [Nat.pow_succ, Int64.ofNat_mul]; rfl]
    refine ih (i + 1) _ _ (by omega) (fun j hj => ?_)
    show q_u t i (s_tn i) j = s_tn j ∧ q_u h i (s_th i) j = s_th j
    by_cases z : j = i
    · rw [z, q_u_s, q_u_s]; exact ⟨rfl, rfl⟩
    · rw [q_u_n _ _ z, q_u_n _ _ z]; exact hth j (by omega)
