/-! ===== constructors: GuisePack, the reference ===== -/
abbrev B_gp (Z : q_Z) (a d0 o0 w0 r0 b0 c0 k0 s0 f0 x0 y0 v0 z0 z1 : Nat) (Bd Bo Bw Br Bb Bc Bk Bs Bf Bx By Bv : va_W) : va_W := (a, .inr (10, [.ref d0, .ref o0, .ref w0, .ref r0, .ref b0, .ref c0, .ref k0, .ref s0, .ref f0, .ref x0, .ref y0, .ref v0, .ref z0, .ref z1, .int 0, .int 0, .int 0])) :: (Bd ++ (Bo ++ (Bw ++ (Br ++ (Bb ++ (Bc ++ (Bk ++ (Bs ++ (Bf ++ (Bx ++ (By ++ (Bv ++ [(z0, .inl (Z.2.2.1 0, 5, .inl (fun _ => 0))), (z1, .inl (Z.2.2.1 1, 64, .inr (.inl (fun _ => 0))))]))))))))))))
def P_gp (Z : q_Z) (a : Nat) (B : va_W) : Prop := ∃ d0 o0 w0 r0 b0 c0 k0 s0 f0 x0 y0 v0 z0 z1 Bd Bo Bw Br Bb Bc Bk Bs Bf Bx By Bv,
  (∃ q1 q2 q3 q4 t h u w, ((∀ k, k < 10 → q_dv (u k) false (2 ^ (1074 + 2 ^ k)) ∧ q_dv (w k) false (2 ^ (1074 - 2 ^ k))) ∧ ∀ k, k < 15 → t k = s_tn k ∧ h k = s_th k) ∧ Bd = B_dbl Z d0 q1 q2 q3 q4 t h u w) ∧ (∃ q, Bo = B_oct Z o0 q) ∧ (∃ q, Bw = B_oct Z w0 q) ∧ (∃ q1 c1 c2 c3 q2, Br = B_trd Z r0 o0 d0 q1 c1 c2 c3 q2) ∧ (∃ q1 q2, Bb = B_brd Z b0 o0 d0 q1 q2) ∧ (∃ q1 q2 q3, Bc = B_col Z c0 q1 q2 q3) ∧ (∃ q1 q2 q3, Bk = B_col Z k0 q1 q2 q3) ∧ (∃ q1 ad, Bs = (s0, .inr (7, [.ref q1, .int 0, .int 0])) :: (q1, .inl (Z.2.2.1 4, 40, .inr (.inr (.inr (.inr (fun i => some (ad (4 * i)))))))) :: B_cols Z ad 40) ∧ (∃ q1 q2 q3 q4 f, (∀ p, p < 120 → f p = nI (s_cd p)) ∧ Bf = B_fits Z f0 d0 q1 q2 q3 q4 f) ∧ (∃ q1 q2 q3 q4 q5 p1 p2 p3, Bx = B_pln Z x0 f0 c0 q1 q2 q3 q4 q5 p1 p2 p3 s_rx) ∧ (∃ q1 q2 q3 q4 q5 p1 p2 p3, By = B_pln Z y0 f0 c0 q1 q2 q3 q4 q5 p1 p2 p3 s_rx) ∧ Bv = [(v0, .inr (1, [.ref w0, .int 0, .int 0]))] ∧ B = B_gp Z a d0 o0 w0 r0 b0 c0 k0 s0 f0 x0 y0 v0 z0 z1 Bd Bo Bw Br Bb Bc Bk Bs Bf Bx By Bv
set_option maxHeartbeats 4000000 in
set_option maxRecDepth 20000 in
theorem n_gp {Z : q_Z} {d : Nat} {ws0 : va_W} {a : Nat} : q_V (q_g Z) mX10_init (d+4) 214 19994 0 [some (.ref a)] [] (ws0 ++ ([(a, .inr (10, [.null, .null, .null, .null, .null, .null, .null, .null, .null, .null, .null, .null, .null, .null, .int 0, .int 0, .int 0]))])) (fun r ws => r = none ∧ ∃ B, (P_gp Z a B) ∧ ws = ws0 ++ B) := by
  refine q_aload_n (pc' := 1) dX10_init_0 rfl rfl ?_
  refine q_oinit (pc' := 4) dX10_init_1 loX10_3 (Nat.le_of_ble_eq_true rfl) rfl ?_
  refine q_aload_n (pc' := 5) dX10_init_4 rfl rfl ?_
  refine n_new (pc' := 8) (ci := 3) (C := RX3) (T := TX3) (N := 4) (ty := tyX3) dX10_init_5 clX10_9 iwX3 tyX3_ok izX3 itX3 rfl rfl (fun _ => rfl) rfl (fun q5 => ?_)
  refine q_dup (pc' := 9) dX10_init_8 rfl rfl ?_
  refine n_callI (mc1 := 4) (ms1 := 50) (pc' := 12) (M' := mX3_init) (As := []) dX10_init_9 iX3_init lX10_11 rfl rfl (Nat.le_of_ble_eq_true rfl) (Nat.le_of_ble_eq_true rfl) rfl rfl (n_dbl) (fun B hB => ?_)
  obtain ⟨d1, d2, d3, d4, ft, fh, fu, fw, hdd, hB⟩ := hB
  subst hB
  obtain ⟨R1, hR1⟩ : ∃ z : va_W, z = B_dbl Z q5 d1 d2 d3 d4 ft fh fu fw := ⟨_, rfl⟩
  rw [List.cons_append, List.nil_append, ← hR1]
  refine n_putF (n := 0) (L' := (a, .inr (10, [.ref q5, .null, .null, .null, .null, .null, .null, .null, .null, .null, .null, .null, .null, .null, .int 0, .int 0, .int 0])) :: R1) (pc' := 15) dX10_init_12 fX10_12 rfl ⟨_, _, rfl⟩ rfl rfl rfl (Nat.le_of_ble_eq_true rfl) rfl rfl ?_
  refine q_aload_n (pc' := 16) dX10_init_15 rfl rfl ?_
  refine n_new (pc' := 19) (ci := 5) (C := RX5) (T := TX5) (N := 2) (ty := tyX5) dX10_init_16 clX10_16 iwX5 tyX5_ok izX5 itX5 rfl rfl (fun _ => rfl) rfl (fun q16 => ?_)
  refine q_dup (pc' := 20) dX10_init_19 rfl rfl ?_
  refine n_callI (mc1 := 1) (ms1 := 320) (pc' := 23) (M' := mX5_init) (As := []) dX10_init_20 iX5_init lX10_18 rfl rfl (Nat.le_of_ble_eq_true rfl) (Nat.le_of_ble_eq_true rfl) rfl rfl (n_oct) (fun B hB => ?_)
  obtain ⟨o1, hB⟩ := hB
  subst hB
  obtain ⟨R2, hR2⟩ : ∃ z : va_W, z = R1 ++ B_oct Z q16 o1 := ⟨_, rfl⟩
  rw [List.cons_append, ← hR2]
  refine n_putF (n := 0) (L' := (a, .inr (10, [.ref q5, .ref q16, .null, .null, .null, .null, .null, .null, .null, .null, .null, .null, .null, .null, .int 0, .int 0, .int 0])) :: R2) (pc' := 26) dX10_init_23 fX10_19 rfl ⟨_, _, rfl⟩ rfl rfl rfl (Nat.le_of_ble_eq_true rfl) rfl rfl ?_
  refine q_aload_n (pc' := 27) dX10_init_26 rfl rfl ?_
  refine n_new (pc' := 30) (ci := 5) (C := RX5) (T := TX5) (N := 2) (ty := tyX5) dX10_init_27 clX10_16 iwX5 tyX5_ok izX5 itX5 rfl rfl (fun _ => rfl) rfl (fun q27 => ?_)
  refine q_dup (pc' := 31) dX10_init_30 rfl rfl ?_
  refine n_callI (mc1 := 1) (ms1 := 320) (pc' := 34) (M' := mX5_init) (As := []) dX10_init_31 iX5_init lX10_18 rfl rfl (Nat.le_of_ble_eq_true rfl) (Nat.le_of_ble_eq_true rfl) rfl rfl (n_oct) (fun B hB => ?_)
  obtain ⟨w1, hB⟩ := hB
  subst hB
  obtain ⟨R3, hR3⟩ : ∃ z : va_W, z = R2 ++ B_oct Z q27 w1 := ⟨_, rfl⟩
  rw [List.cons_append, ← hR3]
  refine n_putF (n := 0) (L' := (a, .inr (10, [.ref q5, .ref q16, .ref q27, .null, .null, .null, .null, .null, .null, .null, .null, .null, .null, .null, .int 0, .int 0, .int 0])) :: R3) (pc' := 37) dX10_init_34 fX10_23 rfl ⟨_, _, rfl⟩ rfl rfl rfl (Nat.le_of_ble_eq_true rfl) rfl rfl ?_
  refine q_aload_n (pc' := 38) dX10_init_37 rfl rfl ?_
  refine n_new (pc' := 41) (ci := 9) (C := RX9) (T := TX9) (N := 7) (ty := tyX9) dX10_init_38 clX10_26 iwX9 tyX9_ok izX9 itX9 rfl rfl (fun _ => rfl) rfl (fun q38 => ?_)
  refine q_dup (pc' := 42) dX10_init_41 rfl rfl ?_
  refine q_aload_n (pc' := 43) dX10_init_42 rfl rfl ?_
  refine n_get (n := 0) (pc' := 46) dX10_init_43 fX10_19 rfl rfl rfl ?_
  refine q_aload_n (pc' := 47) dX10_init_46 rfl rfl ?_
  refine n_get (n := 0) (pc' := 50) dX10_init_47 fX10_12 rfl rfl rfl ?_
  refine n_callI (mc1 := 5) (ms1 := 259) (pc' := 53) (M' := mX9_init) (As := [_, _]) dX10_init_50 iX9_init lX10_28 rfl rfl (Nat.le_of_ble_eq_true rfl) (Nat.le_of_ble_eq_true rfl) rfl rfl (n_trd) (fun B hB => ?_)
  obtain ⟨r1, r2, r3, r4, r5, hB⟩ := hB
  subst hB
  obtain ⟨R4, hR4⟩ : ∃ z : va_W, z = R3 ++ B_trd Z q38 q16 q5 r1 r2 r3 r4 r5 := ⟨_, rfl⟩
  rw [List.cons_append, ← hR4]
  refine n_putF (n := 0) (L' := (a, .inr (10, [.ref q5, .ref q16, .ref q27, .ref q38, .null, .null, .null, .null, .null, .null, .null, .null, .null, .null, .int 0, .int 0, .int 0])) :: R4) (pc' := 56) dX10_init_53 fX10_31 rfl ⟨_, _, rfl⟩ rfl rfl rfl (Nat.le_of_ble_eq_true rfl) rfl rfl ?_
  refine q_aload_n (pc' := 57) dX10_init_56 rfl rfl ?_
  refine n_new (pc' := 60) (ci := 0) (C := RX0) (T := TX0) (N := 8) (ty := tyX0) dX10_init_57 clX10_35 iwX0 tyX0_ok izX0 itX0 rfl rfl (fun _ => rfl) rfl (fun q57 => ?_)
  refine q_dup (pc' := 61) dX10_init_60 rfl rfl ?_
  refine q_aload_n (pc' := 62) dX10_init_61 rfl rfl ?_
  refine n_get (n := 0) (pc' := 65) dX10_init_62 fX10_19 rfl rfl rfl ?_
  refine q_aload_n (pc' := 66) dX10_init_65 rfl rfl ?_
  refine n_get (n := 0) (pc' := 69) dX10_init_66 fX10_12 rfl rfl rfl ?_
  refine n_callI (mc1 := 2) (ms1 := 24) (pc' := 72) (M' := mX0_init) (As := [_, _]) dX10_init_69 iX0_init lX10_37 rfl rfl (Nat.le_of_ble_eq_true rfl) (Nat.le_of_ble_eq_true rfl) rfl rfl (n_brd) (fun B hB => ?_)
  obtain ⟨b1, b2, hB⟩ := hB
  subst hB
  obtain ⟨R5, hR5⟩ : ∃ z : va_W, z = R4 ++ B_brd Z q57 q16 q5 b1 b2 := ⟨_, rfl⟩
  rw [List.cons_append, ← hR5]
  refine n_putF (n := 0) (L' := (a, .inr (10, [.ref q5, .ref q16, .ref q27, .ref q38, .ref q57, .null, .null, .null, .null, .null, .null, .null, .null, .null, .int 0, .int 0, .int 0])) :: R5) (pc' := 75) dX10_init_72 fX10_38 rfl ⟨_, _, rfl⟩ rfl rfl rfl (Nat.le_of_ble_eq_true rfl) rfl rfl ?_
  refine q_aload_n (pc' := 76) dX10_init_75 rfl rfl ?_
  refine n_new (pc' := 79) (ci := 2) (C := RX2) (T := TX2) (N := 5) (ty := tyX2) dX10_init_76 clX10_42 iwX2 tyX2_ok izX2 itX2 rfl rfl (fun _ => rfl) rfl (fun q76 => ?_)
  refine q_dup (pc' := 80) dX10_init_79 rfl rfl ?_
  refine n_callI (mc1 := 3) (ms1 := 249) (pc' := 83) (M' := mX2_init) (As := []) dX10_init_80 iX2_init lX10_44 rfl rfl (Nat.le_of_ble_eq_true rfl) (Nat.le_of_ble_eq_true rfl) rfl rfl (n_col) (fun B hB => ?_)
  obtain ⟨c1, c2, c3, hB⟩ := hB
  subst hB
  obtain ⟨R6, hR6⟩ : ∃ z : va_W, z = R5 ++ B_col Z q76 c1 c2 c3 := ⟨_, rfl⟩
  rw [List.cons_append, ← hR6]
  refine n_putF (n := 0) (L' := (a, .inr (10, [.ref q5, .ref q16, .ref q27, .ref q38, .ref q57, .ref q76, .null, .null, .null, .null, .null, .null, .null, .null, .int 0, .int 0, .int 0])) :: R6) (pc' := 86) dX10_init_83 fX10_45 rfl ⟨_, _, rfl⟩ rfl rfl rfl (Nat.le_of_ble_eq_true rfl) rfl rfl ?_
  have l5 : R5.length = 18 := by
    rw [hR5, hR4, hR3, hR2, hR1]
    rfl
  have gc19 : ∀ {x : Nat × va_E} {T : va_W}, (x :: (R5 ++ (B_col Z q76 c1 c2 c3 ++ T)))[19]? = some (q76, .inr (2, [.ref c1, .ref c2, .ref c3, .int 0, .int 0])) := by
    intro x T
    rw [List.getElem?_cons_succ (i := 18), List.getElem?_append_right (by rw [l5]; decide), l5]
    rfl
  have gc21 : ∀ {x : Nat × va_E} {T : va_W}, (x :: (R5 ++ (B_col Z q76 c1 c2 c3 ++ T)))[21]? = some (c2, .inl (Z.2.2.1 0, 5, .inl s_ru)) := by
    intro x T
    rw [List.getElem?_cons_succ (i := 20), List.getElem?_append_right (by rw [l5]; decide), l5]
    rfl
  refine q_aload_n (pc' := 87) dX10_init_86 rfl rfl ?_
  refine n_new (pc' := 90) (ci := 2) (C := RX2) (T := TX2) (N := 5) (ty := tyX2) dX10_init_87 clX10_42 iwX2 tyX2_ok izX2 itX2 rfl rfl (fun _ => rfl) rfl (fun q87 => ?_)
  refine q_dup (pc' := 91) dX10_init_90 rfl rfl ?_
  refine n_callI (mc1 := 3) (ms1 := 249) (pc' := 94) (M' := mX2_init) (As := []) dX10_init_91 iX2_init lX10_44 rfl rfl (Nat.le_of_ble_eq_true rfl) (Nat.le_of_ble_eq_true rfl) rfl rfl (n_col) (fun B hB => ?_)
  obtain ⟨k1, k2, k3, hB⟩ := hB
  subst hB
  obtain ⟨R7, hR7⟩ : ∃ z : va_W, z = R6 ++ B_col Z q87 k1 k2 k3 := ⟨_, rfl⟩
  rw [List.cons_append, ← hR7]
  refine n_putF (n := 0) (L' := (a, .inr (10, [.ref q5, .ref q16, .ref q27, .ref q38, .ref q57, .ref q76, .ref q87, .null, .null, .null, .null, .null, .null, .null, .int 0, .int 0, .int 0])) :: R7) (pc' := 97) dX10_init_94 fX10_49 rfl ⟨_, _, rfl⟩ rfl rfl rfl (Nat.le_of_ble_eq_true rfl) rfl rfl ?_
  refine q_aload_n (pc' := 98) dX10_init_97 rfl rfl ?_
  refine n_new (pc' := 101) (ci := 7) (C := RX7) (T := TX7) (N := 3) (ty := tyX7) dX10_init_98 clX10_52 iwX7 tyX7_ok izX7 itX7 rfl rfl (fun _ => rfl) rfl (fun q98 => ?_)
  refine q_dup (pc' := 102) dX10_init_101 rfl rfl ?_
  refine n_callI (mc1 := 161) (ms1 := 10200) (pc' := 105) (M' := mX7_init) (As := []) dX10_init_102 iX7_init lX10_54 rfl rfl (Nat.le_of_ble_eq_true rfl) (Nat.le_of_ble_eq_true rfl) rfl rfl (n_past) (fun B hB => ?_)
  obtain ⟨s1, sa, hB⟩ := hB
  subst hB
  obtain ⟨R8, hR8⟩ : ∃ z : va_W, z = R7 ++ ((q98, .inr (7, [.ref s1, .int 0, .int 0])) :: (s1, .inl (Z.2.2.1 4, 40, .inr (.inr (.inr (.inr (fun i => some (sa (4 * i)))))))) :: B_cols Z sa 40) := ⟨_, rfl⟩
  rw [List.cons_append, ← hR8]
  refine n_putF (n := 0) (L' := (a, .inr (10, [.ref q5, .ref q16, .ref q27, .ref q38, .ref q57, .ref q76, .ref q87, .ref q98, .null, .null, .null, .null, .null, .null, .int 0, .int 0, .int 0])) :: R8) (pc' := 108) dX10_init_105 fX10_55 rfl ⟨_, _, rfl⟩ rfl rfl rfl (Nat.le_of_ble_eq_true rfl) rfl rfl ?_
  refine q_aload_n (pc' := 109) dX10_init_108 rfl rfl ?_
  refine n_new (pc' := 112) (ci := 4) (C := RX4) (T := TX4) (N := 5) (ty := tyX4) dX10_init_109 clX10_59 iwX4 tyX4_ok izX4 itX4 rfl rfl (fun _ => rfl) rfl (fun q109 => ?_)
  refine q_dup (pc' := 113) dX10_init_112 rfl rfl ?_
  refine q_aload_n (pc' := 114) dX10_init_113 rfl rfl ?_
  refine n_get (n := 0) (pc' := 117) dX10_init_114 fX10_12 rfl rfl rfl ?_
  refine n_callI (mc1 := 4) (ms1 := 7928) (pc' := 120) (M' := mX4_init) (As := [_]) dX10_init_117 iX4_init lX10_61 rfl rfl (Nat.le_of_ble_eq_true rfl) (Nat.le_of_ble_eq_true rfl) rfl rfl (n_fits) (fun B hB => ?_)
  obtain ⟨f1, f2, f3, f4, ff, hff, hB⟩ := hB
  subst hB
  obtain ⟨R9, hR9⟩ : ∃ z : va_W, z = R8 ++ B_fits Z q109 q5 f1 f2 f3 f4 ff := ⟨_, rfl⟩
  rw [List.cons_append, ← hR9]
  refine n_putF (n := 0) (L' := (a, .inr (10, [.ref q5, .ref q16, .ref q27, .ref q38, .ref q57, .ref q76, .ref q87, .ref q98, .ref q109, .null, .null, .null, .null, .null, .int 0, .int 0, .int 0])) :: R9) (pc' := 123) dX10_init_120 fX10_64 rfl ⟨_, _, rfl⟩ rfl rfl rfl (Nat.le_of_ble_eq_true rfl) rfl rfl ?_
  have eR9 : R9 = R5 ++ (B_col Z q76 c1 c2 c3 ++ (B_col Z q87 k1 k2 k3 ++ (((q98, .inr (7, [.ref s1, .int 0, .int 0])) :: (s1, .inl (Z.2.2.1 4, 40, .inr (.inr (.inr (.inr (fun i => some (sa (4 * i)))))))) :: B_cols Z sa 40) ++ B_fits Z q109 q5 f1 f2 f3 f4 ff))) := by
    rw [hR9, hR8, hR7, hR6, List.append_assoc, List.append_assoc, List.append_assoc]
  have g19 : (((a, .inr (10, [.ref q5, .ref q16, .ref q27, .ref q38, .ref q57, .ref q76, .ref q87, .ref q98, .ref q109, .null, .null, .null, .null, .null, .int 0, .int 0, .int 0])) :: R9 : va_W))[19]? = some (q76, .inr (2, [.ref c1, .ref c2, .ref c3, .int 0, .int 0])) := by
    rw [eR9]
    exact gc19
  have g21 : (((a, .inr (10, [.ref q5, .ref q16, .ref q27, .ref q38, .ref q57, .ref q76, .ref q87, .ref q98, .ref q109, .null, .null, .null, .null, .null, .int 0, .int 0, .int 0])) :: R9 : va_W))[21]? = some (c2, .inl (Z.2.2.1 0, 5, .inl s_ru)) := by
    rw [eR9]
    exact gc21
  refine q_aload_n (pc' := 124) dX10_init_123 rfl rfl ?_
  refine n_new (pc' := 127) (ci := 8) (C := RX8) (T := TX8) (N := 16) (ty := tyX8) dX10_init_124 clX10_68 iwX8 tyX8_ok izX8 itX8 rfl rfl (fun _ => rfl) rfl (fun q124 => ?_)
  refine q_dup (pc' := 128) dX10_init_127 rfl rfl ?_
  refine q_aload_n (pc' := 129) dX10_init_128 rfl rfl ?_
  refine n_get (n := 0) (pc' := 132) dX10_init_129 fX10_64 rfl rfl rfl ?_
  refine q_aload_n (pc' := 133) dX10_init_132 rfl rfl ?_
  refine n_get (n := 0) (pc' := 136) dX10_init_133 fX10_45 rfl rfl rfl ?_
  refine n_callI (mc1 := 8) (ms1 := 125) (pc' := 139) (M' := mX8_init) (As := [_, _]) dX10_init_136 iX8_init lX10_70 rfl rfl (Nat.le_of_ble_eq_true rfl) (Nat.le_of_ble_eq_true rfl) rfl rfl (n_pln (ic := ws0.length + 19) (ir := ws0.length + 21) (w_at g19) (w_at g21)) (fun B hB => ?_)
  obtain ⟨x1, x2, x3, x4, x5, x6, x7, x8, hB⟩ := hB
  subst hB
  obtain ⟨R10, hR10⟩ : ∃ z : va_W, z = R9 ++ B_pln Z q124 q109 q76 x1 x2 x3 x4 x5 x6 x7 x8 s_rx := ⟨_, rfl⟩
  rw [List.cons_append, ← hR10]
  refine n_putF (n := 0) (L' := (a, .inr (10, [.ref q5, .ref q16, .ref q27, .ref q38, .ref q57, .ref q76, .ref q87, .ref q98, .ref q109, .ref q124, .null, .null, .null, .null, .int 0, .int 0, .int 0])) :: R10) (pc' := 142) dX10_init_139 fX10_73 rfl ⟨_, _, rfl⟩ rfl rfl rfl (Nat.le_of_ble_eq_true rfl) rfl rfl ?_
  have eR10 : R10 = R5 ++ (B_col Z q76 c1 c2 c3 ++ (B_col Z q87 k1 k2 k3 ++ (((q98, .inr (7, [.ref s1, .int 0, .int 0])) :: (s1, .inl (Z.2.2.1 4, 40, .inr (.inr (.inr (.inr (fun i => some (sa (4 * i)))))))) :: B_cols Z sa 40) ++ (B_fits Z q109 q5 f1 f2 f3 f4 ff ++ B_pln Z q124 q109 q76 x1 x2 x3 x4 x5 x6 x7 x8 s_rx)))) := by
    rw [hR10, eR9, List.append_assoc, List.append_assoc, List.append_assoc, List.append_assoc]
  have g19 : (((a, .inr (10, [.ref q5, .ref q16, .ref q27, .ref q38, .ref q57, .ref q76, .ref q87, .ref q98, .ref q109, .ref q124, .null, .null, .null, .null, .int 0, .int 0, .int 0])) :: R10 : va_W))[19]? = some (q76, .inr (2, [.ref c1, .ref c2, .ref c3, .int 0, .int 0])) := by
    rw [eR10]
    exact gc19
  have g21 : (((a, .inr (10, [.ref q5, .ref q16, .ref q27, .ref q38, .ref q57, .ref q76, .ref q87, .ref q98, .ref q109, .ref q124, .null, .null, .null, .null, .int 0, .int 0, .int 0])) :: R10 : va_W))[21]? = some (c2, .inl (Z.2.2.1 0, 5, .inl s_ru)) := by
    rw [eR10]
    exact gc21
  refine q_aload_n (pc' := 143) dX10_init_142 rfl rfl ?_
  refine n_new (pc' := 146) (ci := 8) (C := RX8) (T := TX8) (N := 16) (ty := tyX8) dX10_init_143 clX10_68 iwX8 tyX8_ok izX8 itX8 rfl rfl (fun _ => rfl) rfl (fun q143 => ?_)
  refine q_dup (pc' := 147) dX10_init_146 rfl rfl ?_
  refine q_aload_n (pc' := 148) dX10_init_147 rfl rfl ?_
  refine n_get (n := 0) (pc' := 151) dX10_init_148 fX10_64 rfl rfl rfl ?_
  refine q_aload_n (pc' := 152) dX10_init_151 rfl rfl ?_
  refine n_get (n := 0) (pc' := 155) dX10_init_152 fX10_45 rfl rfl rfl ?_
  refine n_callI (mc1 := 8) (ms1 := 125) (pc' := 158) (M' := mX8_init) (As := [_, _]) dX10_init_155 iX8_init lX10_70 rfl rfl (Nat.le_of_ble_eq_true rfl) (Nat.le_of_ble_eq_true rfl) rfl rfl (n_pln (ic := ws0.length + 19) (ir := ws0.length + 21) (w_at g19) (w_at g21)) (fun B hB => ?_)
  obtain ⟨y1, y2, y3, y4, y5, y6, y7, y8, hB⟩ := hB
  subst hB
  obtain ⟨R11, hR11⟩ : ∃ z : va_W, z = R10 ++ B_pln Z q143 q109 q76 y1 y2 y3 y4 y5 y6 y7 y8 s_rx := ⟨_, rfl⟩
  rw [List.cons_append, ← hR11]
  refine n_putF (n := 0) (L' := (a, .inr (10, [.ref q5, .ref q16, .ref q27, .ref q38, .ref q57, .ref q76, .ref q87, .ref q98, .ref q109, .ref q124, .ref q143, .null, .null, .null, .int 0, .int 0, .int 0])) :: R11) (pc' := 161) dX10_init_158 fX10_77 rfl ⟨_, _, rfl⟩ rfl rfl rfl (Nat.le_of_ble_eq_true rfl) rfl rfl ?_
  refine q_aload_n (pc' := 162) dX10_init_161 rfl rfl ?_
  refine n_new (pc' := 165) (ci := 1) (C := RX1) (T := TX1) (N := 3) (ty := tyX1) dX10_init_162 clX10_80 iwX1 tyX1_ok izX1 itX1 rfl rfl (fun _ => rfl) rfl (fun q162 => ?_)
  refine q_dup (pc' := 166) dX10_init_165 rfl rfl ?_
  refine q_aload_n (pc' := 167) dX10_init_166 rfl rfl ?_
  refine n_get (n := 0) (pc' := 170) dX10_init_167 fX10_23 rfl rfl rfl ?_
  refine n_callI (mc1 := 0) (ms1 := 0) (pc' := 173) (M' := mX1_init) (As := [_]) dX10_init_170 iX1_init lX10_82 rfl rfl (Nat.le_of_ble_eq_true rfl) (Nat.le_of_ble_eq_true rfl) rfl rfl (n_bwr) (fun B hB => ?_)
  subst hB
  obtain ⟨R12, hR12⟩ : ∃ z : va_W, z = R11 ++ [(q162, .inr (1, [.ref q27, .int 0, .int 0]))] := ⟨_, rfl⟩
  rw [List.cons_append, ← hR12]
  refine n_putF (n := 0) (L' := (a, .inr (10, [.ref q5, .ref q16, .ref q27, .ref q38, .ref q57, .ref q76, .ref q87, .ref q98, .ref q109, .ref q124, .ref q143, .ref q162, .null, .null, .int 0, .int 0, .int 0])) :: R12) (pc' := 176) dX10_init_173 fX10_85 rfl ⟨_, _, rfl⟩ rfl rfl rfl (Nat.le_of_ble_eq_true rfl) rfl rfl ?_
  refine q_aload_n (pc' := 177) dX10_init_176 rfl rfl ?_
  refine q_iconst (pc' := 178) (v := nI 5) dX10_init_177 rfl rfl ?_
  refine n_newi (N := 5) (t := 0) (pc' := 180) dX10_init_178 rfl rfl (by decide) (fun _ => rfl) rfl (fun q178 => ?_)
  refine n_putF (n := 0) (L' := (a, .inr (10, [.ref q5, .ref q16, .ref q27, .ref q38, .ref q57, .ref q76, .ref q87, .ref q98, .ref q109, .ref q124, .ref q143, .ref q162, .ref q178, .null, .int 0, .int 0, .int 0])) :: (R12 ++ [(q178, .inl (Z.2.2.1 0, 5, .inl (fun _ => 0)))])) (pc' := 183) dX10_init_180 fX10_89 rfl ⟨_, _, rfl⟩ rfl rfl rfl (Nat.le_of_ble_eq_true rfl) rfl rfl ?_
  refine q_aload_n (pc' := 184) dX10_init_183 rfl rfl ?_
  refine q_bipush (pc' := 186) (v := nI 64) dX10_init_184 rfl rfl ?_
  refine n_newl (N := 64) (t := 1) (pc' := 188) dX10_init_186 rfl rfl (by decide) (fun _ => rfl) rfl (fun q186 => ?_)
  refine n_putF (n := 0) (L' := (a, .inr (10, [.ref q5, .ref q16, .ref q27, .ref q38, .ref q57, .ref q76, .ref q87, .ref q98, .ref q109, .ref q124, .ref q143, .ref q162, .ref q178, .ref q186, .int 0, .int 0, .int 0])) :: ((R12 ++ [(q178, .inl (Z.2.2.1 0, 5, .inl (fun _ => 0)))]) ++ [(q186, .inl (Z.2.2.1 1, 64, .inr (.inl (fun _ => 0))))])) (pc' := 191) dX10_init_188 fX10_93 rfl ⟨_, _, rfl⟩ rfl rfl rfl (Nat.le_of_ble_eq_true rfl) rfl rfl ?_
  have hfin : ((R12 ++ [(q178, .inl (Z.2.2.1 0, 5, .inl (fun _ => 0)))]) ++ [(q186, .inl (Z.2.2.1 1, 64, .inr (.inl (fun _ => 0))))]) = B_dbl Z q5 d1 d2 d3 d4 ft fh fu fw ++ (B_oct Z q16 o1 ++ (B_oct Z q27 w1 ++ (B_trd Z q38 q16 q5 r1 r2 r3 r4 r5 ++ (B_brd Z q57 q16 q5 b1 b2 ++ (B_col Z q76 c1 c2 c3 ++ (B_col Z q87 k1 k2 k3 ++ (((q98, .inr (7, [.ref s1, .int 0, .int 0])) :: (s1, .inl (Z.2.2.1 4, 40, .inr (.inr (.inr (.inr (fun i => some (sa (4 * i)))))))) :: B_cols Z sa 40) ++ (B_fits Z q109 q5 f1 f2 f3 f4 ff ++ (B_pln Z q124 q109 q76 x1 x2 x3 x4 x5 x6 x7 x8 s_rx ++ (B_pln Z q143 q109 q76 y1 y2 y3 y4 y5 y6 y7 y8 s_rx ++ ([(q162, .inr (1, [.ref q27, .int 0, .int 0]))] ++ [(q178, .inl (Z.2.2.1 0, 5, .inl (fun _ => 0))), (q186, .inl (Z.2.2.1 1, 64, .inr (.inl (fun _ => 0))))]))))))))))) := by
    rw [hR12, hR11, hR10, hR9, hR8, hR7, hR6, hR5, hR4, hR3, hR2, hR1]
    simp only [List.append_assoc]
    rfl
  rw [hfin]
  refine q_vret dX10_init_191 rfl ⟨rfl, _, ⟨q5, q16, q27, q38, q57, q76, q87, q98, q109, q124, q143, q162, q178, q186, _, _, _, _, _, _, _, _, _, _, _, _, ⟨d1, d2, d3, d4, ft, fh, fu, fw, hdd, rfl⟩, ⟨o1, rfl⟩, ⟨w1, rfl⟩, ⟨r1, r2, r3, r4, r5, rfl⟩, ⟨b1, b2, rfl⟩, ⟨c1, c2, c3, rfl⟩, ⟨k1, k2, k3, rfl⟩, ⟨s1, sa, rfl⟩, ⟨f1, f2, f3, f4, ff, hff, rfl⟩, ⟨x1, x2, x3, x4, x5, x6, x7, x8, rfl⟩, ⟨y1, y2, y3, y4, y5, y6, y7, y8, rfl⟩, rfl, rfl⟩, rfl⟩
