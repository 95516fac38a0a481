/-! ===== GuisePack's face: alone ===== -/
/-- the PAIR by which all BLOCKS together cost least, the first of several; what they cost -/
def s_al (f : Nat → Nat) : Nat → Nat × Nat
  | 0 => (0, f 0)
  | i + 1 => if f (i + 1) < (s_al f i).2 then (i + 1, f (i + 1)) else s_al f i
theorem s_al_le {f : Nat → Nat} {c : Nat} : ∀ k, (∀ i, i ≤ k → f i ≤ c) → (s_al f k).1 ≤ k ∧ (s_al f k).2 ≤ c
  | 0, h => ⟨Nat.le_refl _, h 0 (Nat.le_refl _)⟩
  | k + 1, h => by
    have ih := s_al_le (f := f) (c := c) k (fun i hi => h i (by omega))
    unfold s_al
    split
    · exact ⟨Nat.le_refl _, h (k + 1) (Nat.le_refl _)⟩
    · exact ⟨by omega, ih.2⟩
def s_dt (n : Nat) (rl : Nat → Nat) (xs : Nat → Int64) (p : Nat) : Nat := s_sum (fun b => s_dc n rl (s_ws xs) b p) (s_nb n rl)
theorem s_dt_le {n : Nat} {rl : Nat → Nat} (hr : s_rok rl) (hn : n ≤ 64) (xs : Nat → Int64) (p : Nat) : s_dt n rl xs p ≤ 64000 := by
  have h1 := s_nb_le hr hn
  have h2 := s_sum_le (f := fun b => s_dc n rl (s_ws xs) b p) (c := 1000) (s_nb n rl) (fun i _ => s_dc_le hr (s_ws xs) i p)
  unfold s_dt
  omega
set_option maxHeartbeats 4000000 in
set_option maxRecDepth 20000 in
theorem c_alone {Z : q_Z} {m : q_Mm} {d : Nat} {n k : Nat} {st t : Bool} {x : Int32} {rl : Nat → Nat} {xs : Nat → Int64} {nt : Nat → Int32} (h : Cls m st n k rl xs nt) (ht : m.1 0 14 = q_b t) : q_V (q_g Z) mX10_alone (d+6) 0 0 0 [some (.ref (q_ad Z 0)), some (.int x), none, none, none, none, none] [] (q_W Z m) (q_P Z fun r m2 => r = some (.int (if t = true ∧ n ≠ 0 ∧ 0 ≤ x.toInt ∧ x.toInt ≤ 1 then (if x.toInt = 0 then nI (s_cd (s_al (s_dt n rl xs) (s_pn (rl 2 + 1) 0 - 1)).1) else nI (s_al (s_dt n rl xs) (s_pn (rl 2 + 1) 0 - 1)).2) else -1)) ∧ (∃ st2, Cls m2 st2 n k rl xs nt) ∧ Fr s_S9 m m2 ∧ Kp 0 [16] m m2) := by
  have hn := h.2.2.2.1.2.2.1
  have hr := h.2.2.2.1.2.2.2.2.2.2.2
  have hpn := s_pn_le hr
  have hp1 : 1 ≤ s_pn (rl 2 + 1) 0 := by
    have : 1 * 2 ≤ (rl 2 + 1) * (rl 2 + 1 + 1) := Nat.mul_le_mul (by omega) (by omega)
    unfold s_pn
    omega
  refine q_aload_n (pc' := 1) dX10_alone_0 rfl rfl ?_
  refine h_getiE (pc' := 4) dX10_alone_1 fX10_122 rfl rfl (ht) rfl ?_
  refine q_if_eqB (tgt := 26) (pc' := 7) dX10_alone_4 (by decide) rfl (fun c_4 => ?_) (fun c_4 => ?_)
  · refine q_iconst (pc' := 27) (v := (-1)) dX10_alone_26 rfl rfl ?_
    refine q_iret dX10_alone_27 rfl rfl ⟨_, rfl, by rw [if_neg (fun z => by rw [c_4] at z; exact absurd z.1 (by decide))], ⟨st, h⟩, Fr.rf, Kp.rf⟩
  refine q_aload_n (pc' := 8) dX10_alone_7 rfl rfl ?_
  refine h_getr (pc' := 11) dX10_alone_8 fX10_45 rfl rfl rfl ?_
  refine h_getiE (pc' := 14) dX10_alone_11 fX10_128 rfl rfl (h.2.2.2.1.1) rfl ?_
  refine q_if_eqN (tgt := 26) (pc' := 17) dX10_alone_14 (by decide) rfl (by omega) (fun c_14 => ?_) (fun c_14 => ?_)
  · refine q_iconst (pc' := 27) (v := (-1)) dX10_alone_26 rfl rfl ?_
    refine q_iret dX10_alone_27 rfl rfl ⟨_, rfl, by rw [if_neg (fun z => z.2.1 c_14)], ⟨st, h⟩, Fr.rf, Kp.rf⟩
  refine q_iload_n (pc' := 18) dX10_alone_17 rfl rfl ?_
  refine q_if_lt (tgt := 26) (pc' := 21) dX10_alone_18 (by decide) rfl (fun c_18 => ?_) (fun c_18 => ?_)
  · rw [z_lt, z_0] at c_18
    refine q_iconst (pc' := 27) (v := (-1)) dX10_alone_26 rfl rfl ?_
    refine q_iret dX10_alone_27 rfl rfl ⟨_, rfl, by rw [if_neg (fun z => by omega)], ⟨st, h⟩, Fr.rf, Kp.rf⟩
  rw [z_lt, z_0] at c_18
  refine q_iload_n (pc' := 22) dX10_alone_21 rfl rfl ?_
  refine q_iconst (pc' := 23) (v := nI 1) dX10_alone_22 rfl rfl ?_
  refine q_icmp_le (tgt := 28) (pc' := 26) dX10_alone_23 (by decide) rfl (fun c_23 => ?_) (fun c_23 => ?_)
  rotate_left
  · rw [z_le, z_n (by decide)] at c_23
    refine q_iconst (pc' := 27) (v := (-1)) dX10_alone_26 rfl rfl ?_
    refine q_iret dX10_alone_27 rfl rfl ⟨_, rfl, by rw [if_neg (fun z => by omega)], ⟨st, h⟩, Fr.rf, Kp.rf⟩
  rw [z_le, z_n (by decide)] at c_23
  rw [if_pos ⟨c_4, by omega, by omega, by omega⟩]
  have hto := told ht (by first | exact c_4 | exact s_has_t c_5 | assumption)
  refine q_aload_n (pc' := 29) dX10_alone_28 rfl rfl ?_
  refine h_callV (pc' := 32) (M' := mX10_current) (As := []) dX10_alone_29 iX10_current lX10_162 rfl rfl rfl rfl (Nat.le_of_ble_eq_true rfl) (Nat.le_of_ble_eq_true rfl) rfl rfl (c_cur h hto) (fun r m' hq => ?_)
  obtain ⟨rfl, f1, k1, h1⟩ := hq
  have f1 : Fr s_S9 m m' := f1.mono (by decide)
  obtain ⟨m1, hm1⟩ : ∃ z, z = m' := ⟨_, rfl⟩
  subst hm1
  refine q_astore_n (pc' := 33) (lv' := [_, _, _, _, _, _, _]) dX10_alone_32 (by decide) rfl rfl ?_
  refine q_iconst (pc' := 34) (v := nI 0) dX10_alone_33 rfl rfl ?_
  refine q_istore_n (pc' := 35) (lv' := [_, _, _, _, _, _, _]) dX10_alone_34 (by decide) rfl rfl ?_
  refine q_aload_n (pc' := 36) dX10_alone_35 rfl rfl ?_
  refine q_iconst (pc' := 37) (v := nI 0) dX10_alone_36 rfl rfl ?_
  refine h_callV (pc' := 40) (M' := mX8_decimalTotal) (As := [_]) dX10_alone_37 iX8_decimalTotal lX10_352 rfl rfl rfl rfl (Nat.le_of_ble_eq_true rfl) (Nat.le_of_ble_eq_true rfl) rfl rfl (c_decimalTotal_194 (p := 0) h1.pl (by omega)) (fun r m' hq => ?_)
  obtain ⟨rfl, f2, k2⟩ := hq
  have h2 := h1.fr f2 (k2.mono (by decide)) (by decide)
  have k2 : Kp 0 [16] m m' := k1.trans (Kp.fr f2 (by decide))
  have f2 : Fr s_S9 m m' := f1.trans (f2.mono (by decide))
  obtain ⟨m2, hm2⟩ : ∃ z, z = m' := ⟨_, rfl⟩
  subst hm2
  refine q_istore (pc' := 42) (lv' := [_, _, _, _, _, _, _]) dX10_alone_40 (by decide) rfl rfl ?_
  refine q_iconst (pc' := 43) (v := nI 1) dX10_alone_42 rfl rfl ?_
  refine q_istore (pc' := 45) (lv' := [_, _, _, _, _, _, _]) dX10_alone_43 (by decide) rfl rfl ?_
  have hle := fun p => s_dt_le hr hn xs p
  suffices hl : ∀ c j (m3 : q_Mm) w, j + 1 + c = s_pn (rl 2 + 1) 0 → Fr s_S9 m m3 → Kp 0 [16] m m3 → Cls m3 false n k rl xs nt → q_V (q_g Z) mX10_alone (d + 6) 0 0 45 [some (.ref (q_ad Z 0)), some (.int x), some (.ref (q_ad Z 194)), some (.int (nI (s_al (s_dt n rl xs) j).1)), some (.int (nI (s_al (s_dt n rl xs) j).2)), some (.int (nI (j + 1))), w] [] (q_W Z m3) (q_P Z fun r m2 => r = some (.int (if x.toInt = 0 then nI (s_cd (s_al (s_dt n rl xs) (s_pn (rl 2 + 1) 0 - 1)).1) else nI (s_al (s_dt n rl xs) (s_pn (rl 2 + 1) 0 - 1)).2)) ∧ (∃ st2, Cls m2 st2 n k rl xs nt) ∧ Fr s_S9 m m2 ∧ Kp 0 [16] m m2) from hl (s_pn (rl 2 + 1) 0 - 1) 0 m2 _ (by omega) f2 k2 h2
  intro c
  induction c with
  | zero =>
    intro j m3 w hj f3 k3 h3
    have hj2 : s_pn (rl 2 + 1) 0 - 1 = j := by omega
    have hal := s_al_le (f := s_dt n rl xs) (c := 64000) j (fun i _ => hle i)
    rw [hj2]
    refine q_iload (pc' := 47) dX10_alone_45 rfl rfl ?_
    refine q_aload_n (pc' := 48) dX10_alone_47 rfl rfl ?_
    refine h_callV (pc' := 51) (M' := mX8_pairs) (As := []) dX10_alone_48 iX8_pairs lX10_166 rfl rfl rfl rfl (Nat.le_of_ble_eq_true rfl) (Nat.le_of_ble_eq_true rfl) rfl rfl (c_pairs_194 h3.pl) (fun r m' hq => ?_)
    obtain ⟨rfl, hmm⟩ := hq
    subst m'
    refine q_icmp_geN (tgt := 82) (pc' := 54) dX10_alone_51 (by decide) rfl (by omega) (fun c_51 => ?_) (fun c_51 => ?_)
    rotate_left
    · omega
    refine q_iload_n (pc' := 83) dX10_alone_82 rfl rfl ?_
    refine q_if_ne (tgt := 97) (pc' := 86) dX10_alone_83 (by decide) rfl (fun c_83 => ?_) (fun c_83 => ?_)
    · rw [z_eq, z_0] at c_83
      refine q_iload (pc' := 99) dX10_alone_97 rfl rfl ?_
      refine q_iret dX10_alone_99 rfl rfl ⟨_, rfl, by rw [if_neg c_83], ⟨false, h3⟩, f3, k3⟩
    · rw [z_eq, z_0] at c_83
      have hp : (s_al (s_dt n rl xs) j).1 < 120 := by omega
      refine q_aload_n (pc' := 87) dX10_alone_86 rfl rfl ?_
      refine h_getr (pc' := 90) dX10_alone_87 fX10_64 rfl rfl rfl ?_
      refine q_iload_n (pc' := 91) dX10_alone_90 rfl rfl ?_
      refine h_callV (pc' := 94) (M' := mX4_code) (As := [_]) dX10_alone_91 iX4_code lX10_233 rfl rfl rfl rfl (Nat.le_of_ble_eq_true rfl) (Nat.le_of_ble_eq_true rfl) rfl rfl (c_code hp) (fun r m' hq => ?_)
      obtain ⟨rfl, hmm⟩ := hq
      subst m'
      rw [h3.2.1 _ hp]
      refine q_goto (pc' := 99) dX10_alone_94 (by decide) ?_
      refine q_iret dX10_alone_99 rfl rfl ⟨_, rfl, by rw [if_pos c_83], ⟨false, h3⟩, f3, k3⟩
  | succ c ih =>
    intro j m3 w hj f3 k3 h3
    have hal := s_al_le (f := s_dt n rl xs) (c := 64000) j (fun i _ => hle i)
    have hl1 := hle (j + 1)
    refine q_iload (pc' := 47) dX10_alone_45 rfl rfl ?_
    refine q_aload_n (pc' := 48) dX10_alone_47 rfl rfl ?_
    refine h_callV (pc' := 51) (M' := mX8_pairs) (As := []) dX10_alone_48 iX8_pairs lX10_166 rfl rfl rfl rfl (Nat.le_of_ble_eq_true rfl) (Nat.le_of_ble_eq_true rfl) rfl rfl (c_pairs_194 h3.pl) (fun r m' hq => ?_)
    obtain ⟨rfl, hmm⟩ := hq
    subst m'
    refine q_icmp_geN (tgt := 82) (pc' := 54) dX10_alone_51 (by decide) rfl (by omega) (fun c_51 => ?_) (fun c_51 => ?_)
    · omega
    refine q_aload_n (pc' := 55) dX10_alone_54 rfl rfl ?_
    refine q_iload (pc' := 57) dX10_alone_55 rfl rfl ?_
    refine h_callV (pc' := 60) (M' := mX8_decimalTotal) (As := [_]) dX10_alone_57 iX8_decimalTotal lX10_352 rfl rfl rfl rfl (Nat.le_of_ble_eq_true rfl) (Nat.le_of_ble_eq_true rfl) rfl rfl (c_decimalTotal_194 (p := j + 1) h3.pl (by omega)) (fun r m' hq => ?_)
    obtain ⟨rfl, f4, k4⟩ := hq
    have h4 := h3.fr f4 (k4.mono (by decide)) (by decide)
    have k4 : Kp 0 [16] m m' := k3.trans (Kp.fr f4 (by decide))
    have f4 : Fr s_S9 m m' := f3.trans (f4.mono (by decide))
    rw [show s_sum (fun b => s_dc n rl (s_ws xs) b (j + 1)) (s_nb n rl) = s_dt n rl xs (j + 1) from rfl]
    have ih := ih (j + 1) m' (some (.int (nI (s_dt n rl xs (j + 1))))) (by omega) f4 k4 h4
    refine q_istore (pc' := 62) (lv' := [_, _, _, _, _, _, _]) dX10_alone_60 (by decide) rfl rfl ?_
    refine q_iload (pc' := 64) dX10_alone_62 rfl rfl ?_
    refine q_iload (pc' := 66) dX10_alone_64 rfl rfl ?_
    refine q_icmp_geN (tgt := 76) (pc' := 69) dX10_alone_66 (by decide) rfl (by omega) (fun c_66 => ?_) (fun c_66 => ?_)
    · rw [show s_al (s_dt n rl xs) (j + 1) = s_al (s_dt n rl xs) j from if_neg (by omega)] at ih
      refine q_iincN (pc' := 79) (j := 1) (lv' := [_, _, _, _, _, _, _]) dX10_alone_76 rfl (by decide) rfl rfl ?_
      refine q_goto (pc' := 45) dX10_alone_79 (by decide) ?_
      exact ih
    · rw [show s_al (s_dt n rl xs) (j + 1) = (j + 1, s_dt n rl xs (j + 1)) from if_pos (by omega)] at ih
      refine q_iload (pc' := 71) dX10_alone_69 rfl rfl ?_
      refine q_istore (pc' := 73) (lv' := [_, _, _, _, _, _, _]) dX10_alone_71 (by decide) rfl rfl ?_
      refine q_iload (pc' := 75) dX10_alone_73 rfl rfl ?_
      refine q_istore_n (pc' := 76) (lv' := [_, _, _, _, _, _, _]) dX10_alone_75 (by decide) rfl rfl ?_
      refine q_iincN (pc' := 79) (j := 1) (lv' := [_, _, _, _, _, _, _]) dX10_alone_76 rfl (by decide) rfl rfl ?_
      refine q_goto (pc' := 45) dX10_alone_79 (by decide) ?_
      exact ih
