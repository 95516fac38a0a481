/-! ===== TextReader: VALUES ===== -/
def s_sgn (mi : Bool) (v : Int64) : Int64 := if mi = true then v ^^^ s_minus else v
set_option maxHeartbeats 4000000 in
set_option maxRecDepth 20000 in
theorem c_come {Z : q_Z} {m : q_Mm} {d : Nat} {n : Nat} {v : Int64} {mi : Bool} {xs : Nat → Int64} {rl : Nat → Nat} {nt : Nat → Int32} (hC : Col m 11 n 0 xs rl nt) (hn : n < 64) : q_V (q_g Z) mX9_come (d+1) 0 0 0 [some (.ref (q_ad Z 10)), some (.long v), none, some (.int (q_b mi))] [] (q_W Z m) (q_P Z fun r m2 => r = some (.int (nI 1)) ∧ Fr [11, 12] m m2 ∧ Col m2 11 (n + 1) 0 (q_u xs n (s_sgn mi v)) rl nt) := by
  refine q_aload_n (pc' := 1) dX9_come_0 rfl rfl ?_
  refine h_getr (pc' := 4) dX9_come_1 fX9_12 rfl rfl rfl ?_
  refine q_iload_n (pc' := 5) dX9_come_4 rfl rfl ?_
  refine q_if_eqB (tgt := 16) (pc' := 8) dX9_come_5 (by decide) rfl (fun c_5 => ?_) (fun c_5 => ?_)
  · refine q_lload_n (pc' := 17) dX9_come_16 rfl rfl ?_
    refine h_callV (pc' := 20) (M' := mX2_append) (As := [_]) dX9_come_17 iX2_append lX9_118 rfl rfl rfl rfl (Nat.le_of_ble_eq_true rfl) (Nat.le_of_ble_eq_true rfl) rfl rfl (c_colAppend_11 hC hn) (fun r m' hq => ?_)
    obtain ⟨rfl, f1, C1⟩ := hq
    refine q_iconst (pc' := 21) (v := nI 1) dX9_come_20 rfl rfl ?_
    refine q_iret dX9_come_21 rfl (by first | exact q_nb0 | exact q_nb1 | exact q_nb _) ⟨_, rfl, rfl, f1, by rw [show s_sgn mi v = v from if_neg (by rw [c_5]; decide)]; exact C1⟩
  · refine q_lload_n (pc' := 9) dX9_come_8 rfl rfl ?_
    refine q_ldc2 (pc' := 12) dX9_come_9 kX9_116 rfl ?_
    refine q_lxor (pc' := 13) dX9_come_12 rfl ?_
    refine q_goto (pc' := 17) dX9_come_13 (by decide) ?_
    refine h_callV (pc' := 20) (M' := mX2_append) (As := [_]) dX9_come_17 iX2_append lX9_118 rfl rfl rfl rfl (Nat.le_of_ble_eq_true rfl) (Nat.le_of_ble_eq_true rfl) rfl rfl (c_colAppend_11 hC hn) (fun r m' hq => ?_)
    obtain ⟨rfl, f1, C1⟩ := hq
    refine q_iconst (pc' := 21) (v := nI 1) dX9_come_20 rfl rfl ?_
    refine q_iret dX9_come_21 rfl (by first | exact q_nb0 | exact q_nb1 | exact q_nb _) ⟨_, rfl, rfl, f1, by rw [show s_sgn mi v = v ^^^ -9223372036854775808 from if_pos c_5]; exact C1⟩
def s_he (B : List Nat) (a : Nat) : Nat := s_find (fun j => decide (s_hex (s_sg B j) = 16)) 16 a
def s_hok (B : List Nat) (a : Nat) : Bool := decide (a < s_he B a) && decide (s_hex (s_sg B (s_he B a)) = 16)
def s_hv (B : List Nat) (a : Nat) : Nat → Int64
  | 0 => 0
  | k + 1 => s_hv B a k <<< ((nI 4).toInt64 &&& 63) ||| (nI (s_hex (s_sg B (a + k)))).toInt64
theorem s_hex_le (c : Nat) : s_hex c ≤ 16 := by
  unfold s_hex s_dig
  split
  · rename_i h
    have h := of_decide_eq_true h
    omega
  · split <;> omega
theorem s_hex_in {B : List Nat} {a : Nat} (h : s_hex (s_sg B a) < 16) : a < B.length := s_sg_in (fun e => by rw [e] at h; exact absurd h (by decide))
theorem s_he_le {B : List Nat} {a : Nat} (h : a ≤ 320) (hB : B.length ≤ 320) : s_he B a ≤ 320 := by
  rcases Nat.lt_or_ge a (s_he B a) with q | q
  · have h1 := s_find_lt (p := fun j => decide (s_hex (s_sg B j) = 16)) 16 a (s_he B a - 1) (by omega) (by unfold s_he at q ⊢; omega)
    have h1 := of_decide_eq_false h1
    have h2 := s_hex_le (s_sg B (s_he B a - 1))
    have := s_hex_in (B := B) (a := s_he B a - 1) (by omega)
    omega
  · omega
set_option maxHeartbeats 4000000 in
set_option maxRecDepth 20000 in
theorem c_bitsIn {Z : q_Z} {m : q_Mm} {d : Nat} {B : List Nat} {a n : Nat} {xs : Nat → Int64} {rl : Nat → Nat} {nt : Nat → Int32} (hO : Oct m 6 B) (ha : m.1 10 5 = nI a) (hl : a ≤ 320) (hC : Col m 11 n 0 xs rl nt) (hn : n < 64) : q_V (q_g Z) mX9_bitsIn (d+2) 0 0 0 [some (.ref (q_ad Z 10)), none, none, none] [] (q_W Z m) (q_P Z fun r m2 => r = some (.int (q_b (s_hok B a))) ∧ Fr [10, 11, 12] m m2 ∧ Kp 10 [5] m m2 ∧ m2.1 10 5 = nI (s_he B a) ∧ (s_hok B a = true → Col m2 11 (n + 1) 0 (q_u xs n (s_hv B a (s_he B a - a))) rl nt)) := by
  have hb := hO.2.1
  refine q_lconst (pc' := 1) (v := 0) dX9_bitsIn_0 rfl rfl ?_
  refine q_lstore_n (pc' := 2) (lv' := [_, _, _, _]) dX9_bitsIn_1 (by decide) rfl rfl ?_
  refine q_iconst (pc' := 3) (v := nI 0) dX9_bitsIn_2 rfl rfl ?_
  refine q_istore_n (pc' := 4) (lv' := [_, _, _, _]) dX9_bitsIn_3 (by decide) rfl rfl ?_
  have stop : ∀ c m1, c ≤ 16 → a + c ≤ 320 → Ta m m1 (a + c) → s_he B a = a + c → s_hex (s_sg B (a + c)) = 16 → q_V (q_g Z) mX9_bitsIn (d+2) 0 0 52 [some (.ref (q_ad Z 10)), some (.long (s_hv B a c)), none, some (.int (nI c))] [] (q_W Z (m1)) (q_P Z fun r m2 => r = some (.int (q_b (s_hok B a))) ∧ Fr [10, 11, 12] m m2 ∧ Kp 10 [5] m m2 ∧ m2.1 10 5 = nI (s_he B a) ∧ (s_hok B a = true → Col m2 11 (n + 1) 0 (q_u xs n (s_hv B a (s_he B a - a))) rl nt)) := by
    intro c m1 hc hc2 t1 hs hx
    refine q_iload_n (pc' := 53) dX9_bitsIn_52 rfl rfl ?_
    refine q_if_leN (tgt := 69) (pc' := 56) dX9_bitsIn_53 (by decide) rfl (by omega) (fun c_53 => ?_) (fun c_53 => ?_)
    · refine q_iconst (pc' := 70) (v := nI 0) dX9_bitsIn_69 rfl rfl ?_
      refine q_iret dX9_bitsIn_70 rfl (by first | exact q_nb0 | exact q_nb1 | exact q_nb _) ⟨_, rfl, by rw [show s_hok B a = false by unfold s_hok; rw [hs, decide_eq_false (by omega)]; rfl]; rfl, t1.1.mono (by decide), t1.2.1, by rw [hs]; exact t1.2.2.2, fun z => by unfold s_hok at z; rw [hs, decide_eq_false (by omega)] at z; cases z⟩
    · refine q_aload_n (pc' := 57) dX9_bitsIn_56 rfl rfl ?_
      refine q_lload_n (pc' := 58) dX9_bitsIn_57 rfl rfl ?_
      refine q_iconst (pc' := 59) (v := nI 0) dX9_bitsIn_58 rfl rfl ?_
      refine h_callV (pc' := 62) (M' := mX9_come) (As := [_, _]) dX9_bitsIn_59 iX9_come lX9_105 rfl rfl rfl rfl (Nat.le_of_ble_eq_true rfl) (Nat.le_of_ble_eq_true rfl) rfl rfl ((c_come (d := d) (mi := false) (hC.fr t1.1 (by decide) (by decide) (by decide) (by decide)) hn).up (by omega)) (fun r m' hq => ?_)
      obtain ⟨rfl, f2, C2⟩ := hq
      have hok : s_hok B a = true := by unfold s_hok; rw [hs, decide_eq_true (show a < a + c by omega), decide_eq_true hx]; rfl
      refine q_if_eqN (tgt := 69) (pc' := 65) dX9_bitsIn_62 (by decide) rfl (by omega) (fun c_62 => ?_) (fun c_62 => ?_)
      · omega
      refine q_iconst (pc' := 66) (v := nI 1) dX9_bitsIn_65 rfl rfl ?_
      refine q_goto (pc' := 70) dX9_bitsIn_66 (by decide) ?_
      refine q_iret dX9_bitsIn_70 rfl (by first | exact q_nb0 | exact q_nb1 | exact q_nb _) ⟨_, rfl, by rw [hok]; rfl, (t1.1.mono (by decide)).trans (f2.mono (by decide)), t1.2.1.trans (Kp.fr f2 (by decide)), by rw [hs]; exact (congrFun (f2.i (by decide)) 5).trans t1.2.2.2, fun _ => by rw [hs, Nat.add_sub_cancel_left]; exact C2⟩
  suffices h : ∀ g c m1, c + g = 16 → a + c ≤ 320 → Ta m m1 (a + c) → s_find (fun j => decide (s_hex (s_sg B j) = 16)) g (a + c) = s_he B a → q_V (q_g Z) mX9_bitsIn (d+2) 0 0 4 [some (.ref (q_ad Z 10)), some (.long (s_hv B a c)), none, some (.int (nI c))] [] (q_W Z (m1)) (q_P Z fun r m2 => r = some (.int (q_b (s_hok B a))) ∧ Fr [10, 11, 12] m m2 ∧ Kp 10 [5] m m2 ∧ m2.1 10 5 = nI (s_he B a) ∧ (s_hok B a = true → Col m2 11 (n + 1) 0 (q_u xs n (s_hv B a (s_he B a - a))) rl nt)) from h 16 0 m rfl hl (Ta.rf ha) rfl
  intro g
  induction g with
  | zero =>
    intro c m1 hc hc2 t1 hs
    have hs : a + c = s_he B a := hs
    have hO1 := hO.fr t1.1 (by decide) (by decide)
    have hx := s_hex_le (s_sg B (a + c))
    refine q_aload_n (pc' := 5) dX9_bitsIn_4 rfl rfl ?_
    refine h_callV (pc' := 8) (M' := mX9_sign) (As := []) dX9_bitsIn_5 iX9_sign lX9_53 rfl rfl rfl rfl (Nat.le_of_ble_eq_true rfl) (Nat.le_of_ble_eq_true rfl) rfl rfl ((c_sign hO1 t1.2.2.2 hc2).up (Nat.zero_le _)) (fun r m' hq => ?_)
    obtain ⟨rfl, hmm⟩ := hq
    subst m'
    refine h_callS (pc' := 11) (M' := mX9_hexOf) (As := [_]) dX9_bitsIn_8 iX9_hexOf lX9_122 rfl rfl (Nat.le_of_ble_eq_true rfl) (Nat.le_of_ble_eq_true rfl) rfl rfl ((c_hexOf (d := d) (s_sg_lt hO (a + c))).up (Nat.le_refl _)) (fun r m' hq => ?_)
    obtain ⟨rfl, hmm⟩ := hq
    subst m'
    refine q_iconst (pc' := 12) (v := (-1)) dX9_bitsIn_11 rfl rfl ?_
    refine q_icmp_eq (tgt := 52) (pc' := 15) dX9_bitsIn_12 (by decide) rfl (fun c_12 => ?_) (fun c_12 => ?_)
    · have hx16 : s_hex (s_sg B (a + c)) = 16 := by
        rcases Nat.lt_or_ge (s_hex (s_sg B (a + c))) 16 with q | q
        · rw [if_pos q] at c_12; exact absurd c_12 (z_m1n (by omega))
        · omega
      exact stop c m1 (by omega) hc2 t1 hs.symm hx16
    · have hx16 : ¬ s_hex (s_sg B (a + c)) = 16 := fun q => c_12 (if_neg (by omega))
      refine q_iload_n (pc' := 16) dX9_bitsIn_15 rfl rfl ?_
      refine q_bipush (pc' := 18) (v := nI 16) dX9_bitsIn_16 rfl rfl ?_
      refine q_icmp_neN (tgt := 23) (pc' := 21) dX9_bitsIn_18 (by decide) rfl (by omega) (fun c_18 => ?_) (fun c_18 => ?_)
      · omega
      have hok : s_hok B a = false := by unfold s_hok; rw [← hs, decide_eq_false hx16]; simp
      refine q_iconst (pc' := 22) (v := nI 0) dX9_bitsIn_21 rfl rfl ?_
      refine q_iret dX9_bitsIn_22 rfl (by first | exact q_nb0 | exact q_nb1 | exact q_nb _) ⟨_, rfl, by rw [hok]; rfl, t1.1.mono (by decide), t1.2.1, by rw [← hs]; exact t1.2.2.2, fun z => by rw [hok] at z; cases z⟩
  | succ g ih =>
    intro c m1 hc hc2 t1 hs
    have hO1 := hO.fr t1.1 (by decide) (by decide)
    have hx := s_hex_le (s_sg B (a + c))
    refine q_aload_n (pc' := 5) dX9_bitsIn_4 rfl rfl ?_
    refine h_callV (pc' := 8) (M' := mX9_sign) (As := []) dX9_bitsIn_5 iX9_sign lX9_53 rfl rfl rfl rfl (Nat.le_of_ble_eq_true rfl) (Nat.le_of_ble_eq_true rfl) rfl rfl ((c_sign hO1 t1.2.2.2 hc2).up (Nat.zero_le _)) (fun r m' hq => ?_)
    obtain ⟨rfl, hmm⟩ := hq
    subst m'
    refine h_callS (pc' := 11) (M' := mX9_hexOf) (As := [_]) dX9_bitsIn_8 iX9_hexOf lX9_122 rfl rfl (Nat.le_of_ble_eq_true rfl) (Nat.le_of_ble_eq_true rfl) rfl rfl ((c_hexOf (d := d) (s_sg_lt hO (a + c))).up (Nat.le_refl _)) (fun r m' hq => ?_)
    obtain ⟨rfl, hmm⟩ := hq
    subst m'
    refine q_iconst (pc' := 12) (v := (-1)) dX9_bitsIn_11 rfl rfl ?_
    refine q_icmp_eq (tgt := 52) (pc' := 15) dX9_bitsIn_12 (by decide) rfl (fun c_12 => ?_) (fun c_12 => ?_)
    · have hx16 : s_hex (s_sg B (a + c)) = 16 := by
        rcases Nat.lt_or_ge (s_hex (s_sg B (a + c))) 16 with q | q
        · rw [if_pos q] at c_12; exact absurd c_12 (z_m1n (by omega))
        · omega
      rw [s_find_t (decide_eq_true hx16)] at hs
      exact stop c m1 (by omega) hc2 t1 hs.symm hx16
    · have hx16 : s_hex (s_sg B (a + c)) < 16 := by
        rcases Nat.lt_or_ge (s_hex (s_sg B (a + c))) 16 with q | q
        · exact q
        · exact absurd (if_neg (by omega)) c_12
      rw [s_find_f (decide_eq_false (by omega))] at hs
      have hin := s_hex_in hx16
      refine q_iload_n (pc' := 16) dX9_bitsIn_15 rfl rfl ?_
      refine q_bipush (pc' := 18) (v := nI 16) dX9_bitsIn_16 rfl rfl ?_
      refine q_icmp_neN (tgt := 23) (pc' := 21) dX9_bitsIn_18 (by decide) rfl (by omega) (fun c_18 => ?_) (fun c_18 => ?_)
      rotate_left
      · omega
      refine q_lload_n (pc' := 24) dX9_bitsIn_23 rfl rfl ?_
      refine q_iconst (pc' := 25) (v := nI 4) dX9_bitsIn_24 rfl rfl ?_
      refine q_lshl (pc' := 26) dX9_bitsIn_25 rfl rfl ?_
      refine q_aload_n (pc' := 27) dX9_bitsIn_26 rfl rfl ?_
      refine h_callV (pc' := 30) (M' := mX9_sign) (As := []) dX9_bitsIn_27 iX9_sign lX9_53 rfl rfl rfl rfl (Nat.le_of_ble_eq_true rfl) (Nat.le_of_ble_eq_true rfl) rfl rfl ((c_sign hO1 t1.2.2.2 hc2).up (Nat.zero_le _)) (fun r m' hq => ?_)
      obtain ⟨rfl, hmm⟩ := hq
      subst m'
      refine h_callS (pc' := 33) (M' := mX9_hexOf) (As := [_]) dX9_bitsIn_30 iX9_hexOf lX9_122 rfl rfl (Nat.le_of_ble_eq_true rfl) (Nat.le_of_ble_eq_true rfl) rfl rfl ((c_hexOf (d := d) (s_sg_lt hO (a + c))).up (Nat.le_refl _)) (fun r m' hq => ?_)
      obtain ⟨rfl, hmm⟩ := hq
      subst m'
      rw [if_pos hx16]
      refine q_i2l (pc' := 34) dX9_bitsIn_33 rfl ?_
      refine q_lor (pc' := 35) dX9_bitsIn_34 rfl ?_
      refine q_lstore_n (pc' := 36) (lv' := [_, _, _, _]) dX9_bitsIn_35 (by decide) rfl rfl ?_
      refine q_iincN (pc' := 39) (j := 1) (lv' := [_, _, _, _]) dX9_bitsIn_36 rfl (by decide) rfl rfl ?_
      refine q_aload_n (pc' := 40) dX9_bitsIn_39 rfl rfl ?_
      refine q_dup (pc' := 41) dX9_bitsIn_40 rfl rfl ?_
      refine h_getiE (pc' := 44) dX9_bitsIn_41 fX9_37 rfl rfl (t1.2.2.2) rfl ?_
      refine q_iconst (pc' := 45) (v := nI 1) dX9_bitsIn_44 rfl rfl ?_
      refine q_iaddN (pc' := 46) dX9_bitsIn_45 rfl ?_
      refine h_puti (pc' := 49) dX9_bitsIn_46 fX9_37 rfl rfl rfl rfl rfl ?_
      refine q_goto (pc' := 4) dX9_bitsIn_49 (by decide) ?_
      exact ih (c + 1) _ (by omega) (by omega) t1.to hs
/-- a number told by digits -/
def s_nOk (B : List Nat) (a : Nat) : Bool := s_dok B 9 a && (!decide (s_sg B (s_de B 9 a) = 46) || s_dok B 9 (s_de B 9 a + 1))
def s_nAt (B : List Nat) (a : Nat) : Nat := if s_dok B 9 a = true ∧ s_sg B (s_de B 9 a) = 46 then s_de B 9 (s_de B 9 a + 1) else s_de B 9 a
def s_nV (B : List Nat) (a : Nat) : Int64 := if s_sg B (s_de B 9 a) = 46 then s_b (FP.ddiv (FP.l2d (s_dv B (s_de B 9 a + 1) (s_dv B a 0 (s_de B 9 a - a)) (s_de B 9 (s_de B 9 a + 1) - (s_de B 9 a + 1)))) (s_tn (s_de B 9 (s_de B 9 a + 1) - (s_de B 9 a + 1)))) else s_b (FP.ddiv (FP.l2d (s_dv B a 0 (s_de B 9 a - a))) (s_tn 0))
theorem s_nAt_le {B : List Nat} {a : Nat} (h : a ≤ 320) (hB : B.length ≤ 320) : s_nAt B a ≤ 320 := by
  have h1 := s_de_le (B := B) (k := 9) h hB
  unfold s_nAt
  split
  · rename_i q
    have := s_sg_in (B := B) (a := s_de B 9 a) (by rw [q.2]; decide)
    exact s_de_le (by omega) hB
  · exact h1
theorem s_dok_lt {B : List Nat} {k a : Nat} (h : s_dok B k a = true) : a < s_de B k a := by
  unfold s_dok at h
  rw [Bool.and_eq_true] at h
  exact of_decide_eq_true h.1
theorem s_dok_r {B : List Nat} {k a : Nat} (hq : s_de B k a - a < 2 ^ 31) : (if s_dok B k a = true then nI (s_de B k a - a) else -1) = -1 ↔ s_dok B k a = false := by
  cases h : s_dok B k a with
  | false => simp
  | true => simp [z_m1n hq]
set_option maxHeartbeats 4000000 in
set_option maxRecDepth 20000 in
theorem c_numberIn {Z : q_Z} {m : q_Mm} {d : Nat} {B : List Nat} {a n : Nat} {mi : Bool} {xs : Nat → Int64} {rl : Nat → Nat} {nt : Nat → Int32} (hD : DblOk m) (hO : Oct m 6 B) (ha : m.1 10 5 = nI a) (hl : a ≤ 320) (hC : Col m 11 n 0 xs rl nt) (hn : n < 64) : q_V (q_g Z) mX9_numberIn (d+3) 0 0 0 [some (.ref (q_ad Z 10)), some (.int (q_b mi)), none] [] (q_W Z m) (q_P Z fun r m2 => r = some (.int (q_b (s_nOk B a))) ∧ Fr [10, 11, 12] m m2 ∧ Kp 10 [5] m m2 ∧ m2.1 10 5 = nI (s_nAt B a) ∧ (s_nOk B a = true → Col m2 11 (n + 1) 0 (q_u xs n (s_sgn mi (s_nV B a))) rl nt)) := by
  have hb := hO.2.1
  have hde := s_de_le (B := B) (k := 9) hl hb
  have hge := s_find_ge (fun j => !s_dig (s_sg B j)) 9 a
  have hle := s_find_le (fun j => !s_dig (s_sg B j)) 9 a
  refine q_aload_n (pc' := 1) dX9_numberIn_0 rfl rfl ?_
  refine q_lconst (pc' := 2) (v := 0) dX9_numberIn_1 rfl rfl ?_
  refine h_putj (pc' := 5) dX9_numberIn_2 fX9_82 rfl rfl rfl rfl rfl ?_
  refine q_aload_n (pc' := 6) dX9_numberIn_5 rfl rfl ?_
  refine q_bipush (pc' := 8) (v := nI 9) dX9_numberIn_6 rfl rfl ?_
  refine h_callV (pc' := 11) (M' := mX9_digitsIn) (As := [_]) dX9_numberIn_8 iX9_digitsIn lX9_86 rfl rfl rfl rfl (Nat.le_of_ble_eq_true rfl) (Nat.le_of_ble_eq_true rfl) rfl rfl ((c_digitsIn (d := d) (v := 0) (hO.fr ((Fr.rf (S := [10])).J (by decide)) (by decide) (by decide)) ha hl rfl (by decide)).up (Nat.le_succ _)) (fun r m' hq => ?_)
  obtain ⟨rfl, f1, k1, e1, e2⟩ := hq
  have f1 : Fr [10] m m' := (Fr.rf.J (by decide)).trans f1
  have k1 : Kp 10 [5] m m' := k1
  have hC1 := hC.fr f1 (by decide) (by decide) (by decide) (by decide)
  have hO1 := hO.fr f1 (by decide) (by decide)
  have hD1 := hD.fr f1 (by decide) (by decide) (by decide) (by decide)
  refine q_iconst (pc' := 12) (v := (-1)) dX9_numberIn_11 rfl rfl ?_
  refine q_icmp_ne (tgt := 17) (pc' := 15) dX9_numberIn_12 (by decide) rfl (fun c_12 => ?_) (fun c_12 => ?_)
  rotate_left
  · have hno := (s_dok_r (by omega)).mp c_12
    have hno2 : s_nOk B a = false := by unfold s_nOk; rw [hno]; rfl
    refine q_iconst (pc' := 16) (v := nI 0) dX9_numberIn_15 rfl rfl ?_
    refine q_iret dX9_numberIn_16 rfl (by first | exact q_nb0 | exact q_nb1 | exact q_nb _) ⟨_, rfl, by rw [hno2]; rfl, f1.mono (by decide), k1, by rw [e1]; unfold s_nAt; rw [if_neg (fun z => by rw [hno] at z; exact absurd z.1 (by decide))], fun z => by rw [hno2] at z; cases z⟩
  have hyes : s_dok B 9 a = true := by
    cases hq : s_dok B 9 a with
    | true => rfl
    | false => exact absurd ((s_dok_r (by omega)).mpr hq) c_12
  have fin : ∀ (m1 : q_Mm) (bh : Nat) (v : Int64), Fr [10] m m1 → Kp 10 [5] m m1 → m1.1 10 5 = nI (s_nAt B a) → m1.2.1 10 6 = v → bh ≤ 9 → s_nOk B a = true → s_nV B a = s_b (FP.ddiv (FP.l2d v) (s_tn bh)) → q_V (q_g Z) mX9_numberIn (d+3) 0 0 50 [some (.ref (q_ad Z 10)), some (.int (q_b mi)), some (.int (nI bh))] [] (q_W Z (m1)) (q_P Z fun r m2 => r = some (.int (q_b (s_nOk B a))) ∧ Fr [10, 11, 12] m m2 ∧ Kp 10 [5] m m2 ∧ m2.1 10 5 = nI (s_nAt B a) ∧ (s_nOk B a = true → Col m2 11 (n + 1) 0 (q_u xs n (s_sgn mi (s_nV B a))) rl nt)) := by
    intro m1 bh v f2 k2 a2 v2 hbh ok hv
    refine q_aload_n (pc' := 51) dX9_numberIn_50 rfl rfl ?_
    refine q_aload_n (pc' := 52) dX9_numberIn_51 rfl rfl ?_
    refine h_getr (pc' := 55) dX9_numberIn_52 fX9_26 rfl rfl rfl ?_
    refine q_aload_n (pc' := 56) dX9_numberIn_55 rfl rfl ?_
    refine h_getjE (pc' := 59) dX9_numberIn_56 fX9_82 rfl rfl (v2) rfl ?_
    refine q_iload_n (pc' := 60) dX9_numberIn_59 rfl rfl ?_
    refine h_callV (pc' := 63) (M' := mX3_bitsOfDigits) (As := [_, _]) dX9_numberIn_60 iX3_bitsOfDigits lX9_125 rfl rfl rfl rfl (Nat.le_of_ble_eq_true rfl) (Nat.le_of_ble_eq_true rfl) rfl rfl (c_bitsOfDigits (d := d) (hD.fr f2 (by decide) (by decide) (by decide) (by decide)) (by omega)) (fun r m' hq => ?_)
    obtain ⟨rfl, hmm⟩ := hq
    subst m'
    rw [← hv]
    refine q_iload_n (pc' := 64) dX9_numberIn_63 rfl rfl ?_
    refine h_callV (pc' := 67) (M' := mX9_come) (As := [_, _]) dX9_numberIn_64 iX9_come lX9_105 rfl rfl rfl rfl (Nat.le_of_ble_eq_true rfl) (Nat.le_of_ble_eq_true rfl) rfl rfl ((c_come (d := d) (hC.fr f2 (by decide) (by decide) (by decide) (by decide)) hn).up (by omega)) (fun r m' hq => ?_)
    obtain ⟨rfl, f3, C3⟩ := hq
    refine q_if_eqN (tgt := 74) (pc' := 70) dX9_numberIn_67 (by decide) rfl (by omega) (fun c_67 => ?_) (fun c_67 => ?_)
    · omega
    refine q_iconst (pc' := 71) (v := nI 1) dX9_numberIn_70 rfl rfl ?_
    refine q_goto (pc' := 75) dX9_numberIn_71 (by decide) ?_
    refine q_iret dX9_numberIn_75 rfl (by first | exact q_nb0 | exact q_nb1 | exact q_nb _) ⟨_, rfl, by rw [ok]; rfl, (f2.mono (by decide)).trans (f3.mono (by decide)), k2.trans (Kp.fr f3 (by decide)), (congrFun (f3.i (by decide)) 5).trans a2, fun _ => C3⟩
  obtain ⟨m1, hm1⟩ : ∃ z, z = m' := ⟨_, rfl⟩
  subst hm1
  refine q_iconst (pc' := 18) (v := nI 0) dX9_numberIn_17 rfl rfl ?_
  refine q_istore_n (pc' := 19) (lv' := [_, _, _]) dX9_numberIn_18 (by decide) rfl rfl ?_
  refine q_aload_n (pc' := 20) dX9_numberIn_19 rfl rfl ?_
  refine h_callV (pc' := 23) (M' := mX9_sign) (As := []) dX9_numberIn_20 iX9_sign lX9_53 rfl rfl rfl rfl (Nat.le_of_ble_eq_true rfl) (Nat.le_of_ble_eq_true rfl) rfl rfl ((c_sign hO1 e1 hde).up (Nat.zero_le _)) (fun r m' hq => ?_)
  obtain ⟨rfl, hmm⟩ := hq
  subst m'
  have hc := s_sg_lt hO (s_de B 9 a)
  refine q_bipush (pc' := 25) (v := nI 46) dX9_numberIn_23 rfl rfl ?_
  refine q_icmp_neN (tgt := 45) (pc' := 28) dX9_numberIn_25 (by decide) rfl (by omega) (fun c_25 => ?_) (fun c_25 => ?_)
  · have hat : s_nAt B a = s_de B 9 a := if_neg (fun z => c_25 z.2)
    have hok : s_nOk B a = true := by unfold s_nOk; rw [hyes, decide_eq_false c_25]; rfl
    refine q_iload_n (pc' := 46) dX9_numberIn_45 rfl rfl ?_
    refine q_iconst (pc' := 47) (v := (-1)) dX9_numberIn_46 rfl rfl ?_
    refine q_icmp_eq (tgt := 74) (pc' := 50) dX9_numberIn_47 (by decide) rfl (fun c_47 => ?_) (fun c_47 => ?_)
    · exact absurd c_47 (by decide)
    exact fin m1 0 _ f1 k1 (by rw [hat]; exact e1) e2 (by decide) hok (if_neg c_25)
  have hin := s_sg_in (B := B) (a := s_de B 9 a) (by rw [c_25]; decide)
  have hde2 := s_de_le (B := B) (k := 9) (a := s_de B 9 a + 1) (by omega) hb
  have hge2 := s_find_ge (fun j => !s_dig (s_sg B j)) 9 (s_de B 9 a + 1)
  have hle2 := s_find_le (fun j => !s_dig (s_sg B j)) 9 (s_de B 9 a + 1)
  have hat : s_nAt B a = s_de B 9 (s_de B 9 a + 1) := if_pos ⟨hyes, c_25⟩
  refine q_aload_n (pc' := 29) dX9_numberIn_28 rfl rfl ?_
  refine q_dup (pc' := 30) dX9_numberIn_29 rfl rfl ?_
  refine h_getiE (pc' := 33) dX9_numberIn_30 fX9_37 rfl rfl (e1) rfl ?_
  refine q_iconst (pc' := 34) (v := nI 1) dX9_numberIn_33 rfl rfl ?_
  refine q_iaddN (pc' := 35) dX9_numberIn_34 rfl ?_
  refine h_puti (pc' := 38) dX9_numberIn_35 fX9_37 rfl rfl rfl rfl rfl ?_
  refine q_aload_n (pc' := 39) dX9_numberIn_38 rfl rfl ?_
  refine q_bipush (pc' := 41) (v := nI 9) dX9_numberIn_39 rfl rfl ?_
  refine h_callV (pc' := 44) (M' := mX9_digitsIn) (As := [_]) dX9_numberIn_41 iX9_digitsIn lX9_86 rfl rfl rfl rfl (Nat.le_of_ble_eq_true rfl) (Nat.le_of_ble_eq_true rfl) rfl rfl ((c_digitsIn (d := d) (v := s_dv B a 0 (s_de B 9 a - a)) (hO1.fr ((Fr.rf (S := [10])).I (by decide)) (by decide) (by decide)) rfl (by omega) e2 (by decide)).up (Nat.le_succ _)) (fun r m' hq => ?_)
  obtain ⟨rfl, f3, k3, e3, e4⟩ := hq
  have f3 : Fr [10] m m' := f1.trans ((Fr.rf.I (by decide)).trans f3)
  have k3 : Kp 10 [5] m m' := k1.trans ((kp_I Kp.rf (by decide)).trans k3)
  refine q_istore_n (pc' := 45) (lv' := [_, _, _]) dX9_numberIn_44 (by decide) rfl rfl ?_
  refine q_iload_n (pc' := 46) dX9_numberIn_45 rfl rfl ?_
  refine q_iconst (pc' := 47) (v := (-1)) dX9_numberIn_46 rfl rfl ?_
  refine q_icmp_eq (tgt := 74) (pc' := 50) dX9_numberIn_47 (by decide) rfl (fun c_47 => ?_) (fun c_47 => ?_)
  · have hno := (s_dok_r (by omega)).mp c_47
    have hno2 : s_nOk B a = false := by unfold s_nOk; rw [hno, decide_eq_true c_25]; simp
    refine q_iconst (pc' := 75) (v := nI 0) dX9_numberIn_74 rfl rfl ?_
    refine q_iret dX9_numberIn_75 rfl (by first | exact q_nb0 | exact q_nb1 | exact q_nb _) ⟨_, rfl, by rw [hno2]; rfl, f3.mono (by decide), k3, by rw [hat]; exact e3, fun z => by rw [hno2] at z; cases z⟩
  have hyes2 : s_dok B 9 (s_de B 9 a + 1) = true := by
    cases hq : s_dok B 9 (s_de B 9 a + 1) with
    | true => rfl
    | false => exact absurd ((s_dok_r (by omega)).mpr hq) c_47
  rw [if_pos hyes2]
  exact fin m' _ _ f3 k3 (by rw [hat]; exact e3) e4 (by unfold s_de at *; omega) (by unfold s_nOk; rw [hyes, hyes2]; simp) (if_pos c_25)
/-- a VALUE told: whether it is well made, where the reader stands then, its bits -/
def s_v1 (B : List Nat) (a : Nat) : Nat := if s_sg B a = 45 then a + 1 else a
def s_val (B : List Nat) (a : Nat) : Bool × Nat × Int64 :=
  if s_sg B (s_v1 B a) = 105 ∨ s_sg B (s_v1 B a) = 110 then (true, s_v1 B a + 1, s_sgn (decide (s_sg B a = 45)) (if s_sg B (s_v1 B a) = 105 then 9218868437227405312 else 9221120237041090560))
  else if s_sg B (s_v1 B a) = 120 ∧ ¬ s_sg B a = 45 then (s_hok B (s_v1 B a + 1), s_he B (s_v1 B a + 1), s_hv B (s_v1 B a + 1) (s_he B (s_v1 B a + 1) - (s_v1 B a + 1)))
  else (s_nOk B (s_v1 B a), s_nAt B (s_v1 B a), s_sgn (decide (s_sg B a = 45)) (s_nV B (s_v1 B a)))
theorem s_v1_le {B : List Nat} {a : Nat} (h : a ≤ 320) (hB : B.length ≤ 320) : s_v1 B a ≤ 320 := by
  unfold s_v1
  split
  · rename_i q
    have := s_sg_in (B := B) (a := a) (by rw [q]; decide)
    omega
  · exact h
theorem s_val_le {B : List Nat} {a : Nat} (h : a ≤ 320) (hB : B.length ≤ 320) : (s_val B a).2.1 ≤ 320 := by
  have h1 := s_v1_le h hB
  unfold s_val
  split
  · rename_i q
    have := s_sg_in (B := B) (a := s_v1 B a) (fun e => by rw [e] at q; omega)
    show s_v1 B a + 1 ≤ 320
    omega
  · split
    · rename_i q
      have := s_sg_in (B := B) (a := s_v1 B a) (fun e => by rw [e] at q; omega)
      exact s_he_le (by omega) hB
    · exact s_nAt_le h1 hB
set_option maxHeartbeats 4000000 in
set_option maxRecDepth 20000 in
theorem c_valueIn {Z : q_Z} {m : q_Mm} {d : Nat} {B : List Nat} {a n : Nat} {xs : Nat → Int64} {rl : Nat → Nat} {nt : Nat → Int32} (hD : DblOk m) (hO : Oct m 6 B) (ha : m.1 10 5 = nI a) (hl : a ≤ 320) (hC : Col m 11 n 0 xs rl nt) (hn : n < 64) : q_V (q_g Z) mX9_valueIn (d+4) 0 0 0 [some (.ref (q_ad Z 10)), none, none] [] (q_W Z m) (q_P Z fun r m2 => r = some (.int (q_b (s_val B a).1)) ∧ Fr [10, 11, 12] m m2 ∧ Kp 10 [5] m m2 ∧ m2.1 10 5 = nI (s_val B a).2.1 ∧ ((s_val B a).1 = true → Col m2 11 (n + 1) 0 (q_u xs n (s_val B a).2.2) rl nt)) := by
  have hb := hO.2.1
  have hc := s_sg_lt hO a
  have hv1 := s_v1_le hl hb
  have main : ∀ m1 w, Ta m m1 (s_v1 B a) → q_V (q_g Z) mX9_valueIn (d+4) 0 0 29 [some (.ref (q_ad Z 10)), some (.int (q_b (decide (s_sg B a = 45)))), w] [] (q_W Z (m1)) (q_P Z fun r m2 => r = some (.int (q_b (s_val B a).1)) ∧ Fr [10, 11, 12] m m2 ∧ Kp 10 [5] m m2 ∧ m2.1 10 5 = nI (s_val B a).2.1 ∧ ((s_val B a).1 = true → Col m2 11 (n + 1) 0 (q_u xs n (s_val B a).2.2) rl nt)) := by
    intro m1 w t1
    have hO1 := hO.fr t1.1 (by decide) (by decide)
    have hC1 := hC.fr t1.1 (by decide) (by decide) (by decide) (by decide)
    have hD1 := hD.fr t1.1 (by decide) (by decide) (by decide) (by decide)
    have e1 := t1.2.2.2
    obtain ⟨R, hR⟩ : ∃ R, s_val B a = R := ⟨_, rfl⟩
    have hv := hR.symm
    unfold s_val at hv
    rw [hR]
    generalize hab : s_v1 B a = b at hv1 e1 hv t1
    generalize hmi : decide (s_sg B a = 45) = mi at hv ⊢
    have hcb := s_sg_lt hO b
    refine q_aload_n (pc' := 30) dX9_valueIn_29 rfl rfl ?_
    refine h_callV (pc' := 33) (M' := mX9_sign) (As := []) dX9_valueIn_30 iX9_sign lX9_53 rfl rfl rfl rfl (Nat.le_of_ble_eq_true rfl) (Nat.le_of_ble_eq_true rfl) rfl rfl ((c_sign hO1 e1 hv1).up (Nat.zero_le _)) (fun r m' hq => ?_)
    obtain ⟨rfl, hmm⟩ := hq
    subst m'
    have ifin : ∀ (x : Int64), (s_sg B b = 105 ∨ s_sg B b = 110) → x = (if s_sg B b = 105 then 9218868437227405312 else 9221120237041090560) → q_V (q_g Z) mX9_valueIn (d + 4) 0 0 72 [some (.ref (q_ad Z 10)), some (.int (q_b mi)), some (.int (nI (s_sg B b)))] [.long x, .ref (q_ad Z 10)] (q_W Z (sI m1 10 5 (nI (b + 1)))) (q_P Z fun r m2 => r = some (.int (q_b R.1)) ∧ Fr [10, 11, 12] m m2 ∧ Kp 10 [5] m m2 ∧ m2.1 10 5 = nI R.2.1 ∧ (R.1 = true → Col m2 11 (n + 1) 0 (q_u xs n R.2.2) rl nt)) := by
      intro x hx hx2
      rw [if_pos hx] at hv
      refine q_iload_n (pc' := 73) dX9_valueIn_72 rfl rfl ?_
      refine h_callV (pc' := 76) (M' := mX9_come) (As := [_, _]) dX9_valueIn_73 iX9_come lX9_105 rfl rfl rfl rfl (Nat.le_of_ble_eq_true rfl) (Nat.le_of_ble_eq_true rfl) rfl rfl ((c_come (d := d) (v := x) (mi := mi) (hC1.fr ((Fr.rf (S := [10])).I (by decide)) (by decide) (by decide) (by decide) (by decide)) hn).up (by omega)) (fun r m' hq => ?_)
      obtain ⟨rfl, f3, C3⟩ := hq
      have f4 : Fr [10, 11, 12] m m' := (t1.1.mono (by decide)).trans ((Fr.rf.I (by decide)).trans (f3.mono (by decide)))
      refine q_iret dX9_valueIn_76 rfl (by first | exact q_nb0 | exact q_nb1 | exact q_nb _) ⟨_, rfl, by rw [hv]; rfl, f4, t1.2.1.trans ((kp_I Kp.rf (by decide)).trans (Kp.fr f3 (by decide))), by rw [hv]; exact congrFun (f3.i (by decide)) 5, fun _ => by rw [hv, ← hx2]; exact C3⟩
    have imid : (s_sg B b = 105 ∨ s_sg B b = 110) → q_V (q_g Z) mX9_valueIn (d+4) 0 0 46 [some (.ref (q_ad Z 10)), some (.int (q_b mi)), some (.int (nI (s_sg B b)))] [] (q_W Z (m1)) (q_P Z fun r m2 => r = some (.int (q_b (s_val B a).1)) ∧ Fr [10, 11, 12] m m2 ∧ Kp 10 [5] m m2 ∧ m2.1 10 5 = nI (s_val B a).2.1 ∧ ((s_val B a).1 = true → Col m2 11 (n + 1) 0 (q_u xs n (s_val B a).2.2) rl nt)) := by
      intro hx
      rw [hR]
      refine q_aload_n (pc' := 47) dX9_valueIn_46 rfl rfl ?_
      refine q_dup (pc' := 48) dX9_valueIn_47 rfl rfl ?_
      refine h_getiE (pc' := 51) dX9_valueIn_48 fX9_37 rfl rfl (e1) rfl ?_
      refine q_iconst (pc' := 52) (v := nI 1) dX9_valueIn_51 rfl rfl ?_
      refine q_iaddN (pc' := 53) dX9_valueIn_52 rfl ?_
      refine h_puti (pc' := 56) dX9_valueIn_53 fX9_37 rfl rfl rfl rfl rfl ?_
      refine q_aload_n (pc' := 57) dX9_valueIn_56 rfl rfl ?_
      refine q_iload_n (pc' := 58) dX9_valueIn_57 rfl rfl ?_
      refine q_bipush (pc' := 60) (v := nI 105) dX9_valueIn_58 rfl rfl ?_
      refine q_icmp_neN (tgt := 69) (pc' := 63) dX9_valueIn_60 (by decide) rfl (by omega) (fun c_60 => ?_) (fun c_60 => ?_)
      · refine q_ldc2 (pc' := 72) dX9_valueIn_69 kX9_103 rfl ?_
        exact ifin _ hx (by rw [if_neg c_60])
      · refine q_ldc2 (pc' := 66) dX9_valueIn_63 kX9_101 rfl ?_
        refine q_goto (pc' := 72) dX9_valueIn_66 (by decide) ?_
        exact ifin _ hx (by rw [if_pos c_60])
    rw [hR] at imid
    refine q_istore_n (pc' := 34) (lv' := [_, _, _]) dX9_valueIn_33 (by decide) rfl rfl ?_
    refine q_iload_n (pc' := 35) dX9_valueIn_34 rfl rfl ?_
    refine q_bipush (pc' := 37) (v := nI 105) dX9_valueIn_35 rfl rfl ?_
    refine q_icmp_eqN (tgt := 46) (pc' := 40) dX9_valueIn_37 (by decide) rfl (by omega) (fun c_37 => ?_) (fun c_37 => ?_)
    · exact imid (Or.inl c_37)
    refine q_iload_n (pc' := 41) dX9_valueIn_40 rfl rfl ?_
    refine q_bipush (pc' := 43) (v := nI 110) dX9_valueIn_41 rfl rfl ?_
    refine q_icmp_neN (tgt := 77) (pc' := 46) dX9_valueIn_43 (by decide) rfl (by omega) (fun c_43 => ?_) (fun c_43 => ?_)
    rotate_left
    · exact imid (Or.inr c_43)
    rw [if_neg (fun z => by rcases z with z | z; exact c_37 z; exact c_43 z)] at hv
    have nfin : ¬ (s_sg B b = 120 ∧ ¬ s_sg B a = 45) → q_V (q_g Z) mX9_valueIn (d + 4) 0 0 102 [some (.ref (q_ad Z 10)), some (.int (q_b mi)), some (.int (nI (s_sg B b)))] [] (q_W Z m1) (q_P Z fun r m2 => r = some (.int (q_b R.1)) ∧ Fr [10, 11, 12] m m2 ∧ Kp 10 [5] m m2 ∧ m2.1 10 5 = nI R.2.1 ∧ (R.1 = true → Col m2 11 (n + 1) 0 (q_u xs n R.2.2) rl nt)) := by
      intro hx
      rw [if_neg hx] at hv
      refine q_aload_n (pc' := 103) dX9_valueIn_102 rfl rfl ?_
      refine q_iload_n (pc' := 104) dX9_valueIn_103 rfl rfl ?_
      refine h_callV (pc' := 107) (M' := mX9_numberIn) (As := [_]) dX9_valueIn_104 iX9_numberIn lX9_112 rfl rfl rfl rfl (Nat.le_of_ble_eq_true rfl) (Nat.le_of_ble_eq_true rfl) rfl rfl (c_numberIn (mi := mi) hD1 hO1 e1 hv1 hC1 hn) (fun r m' hq => ?_)
      obtain ⟨rfl, f3, k3, e3, C3⟩ := hq
      refine q_iret dX9_valueIn_107 rfl (by first | exact q_nb0 | exact q_nb1 | exact q_nb _) ⟨_, rfl, by rw [hv], (t1.1.mono (by decide)).trans f3, t1.2.1.trans k3, by rw [hv]; exact e3, by rw [hv]; exact C3⟩
    refine q_iload_n (pc' := 78) dX9_valueIn_77 rfl rfl ?_
    refine q_bipush (pc' := 80) (v := nI 120) dX9_valueIn_78 rfl rfl ?_
    refine q_icmp_neN (tgt := 102) (pc' := 83) dX9_valueIn_80 (by decide) rfl (by omega) (fun c_80 => ?_) (fun c_80 => ?_)
    · exact nfin (fun z => c_80 z.1)
    refine q_iload_n (pc' := 84) dX9_valueIn_83 rfl rfl ?_
    refine q_if_neB (tgt := 102) (pc' := 87) dX9_valueIn_84 (by decide) rfl (fun c_84 => ?_) (fun c_84 => ?_)
    rotate_left
    · rw [← hmi] at c_84
      have hx : s_sg B b = 120 ∧ ¬ s_sg B a = 45 := ⟨c_80, of_decide_eq_false c_84⟩
      rw [if_pos hx] at hv
      have hin := s_sg_in (B := B) (a := b) (by rw [c_80]; decide)
      refine q_aload_n (pc' := 88) dX9_valueIn_87 rfl rfl ?_
      refine q_dup (pc' := 89) dX9_valueIn_88 rfl rfl ?_
      refine h_getiE (pc' := 92) dX9_valueIn_89 fX9_37 rfl rfl (e1) rfl ?_
      refine q_iconst (pc' := 93) (v := nI 1) dX9_valueIn_92 rfl rfl ?_
      refine q_iaddN (pc' := 94) dX9_valueIn_93 rfl ?_
      refine h_puti (pc' := 97) dX9_valueIn_94 fX9_37 rfl rfl rfl rfl rfl ?_
      refine q_aload_n (pc' := 98) dX9_valueIn_97 rfl rfl ?_
      refine h_callV (pc' := 101) (M' := mX9_bitsIn) (As := []) dX9_valueIn_98 iX9_bitsIn lX9_109 rfl rfl rfl rfl (Nat.le_of_ble_eq_true rfl) (Nat.le_of_ble_eq_true rfl) rfl rfl ((c_bitsIn (d := d) (hO1.fr ((Fr.rf (S := [10])).I (by decide)) (by decide) (by decide)) rfl (by omega) (hC1.fr ((Fr.rf (S := [10])).I (by decide)) (by decide) (by decide) (by decide) (by decide)) hn).up (by omega)) (fun r m' hq => ?_)
      obtain ⟨rfl, f3, k3, e3, C3⟩ := hq
      refine q_iret dX9_valueIn_101 rfl (by first | exact q_nb0 | exact q_nb1 | exact q_nb _) ⟨_, rfl, by rw [hv], (t1.1.mono (by decide)).trans ((Fr.rf.I (by decide)).trans f3), t1.2.1.trans ((kp_I Kp.rf (by decide)).trans k3), by rw [hv]; exact e3, by rw [hv]; exact C3⟩
    · rw [← hmi] at c_84
      exact nfin (fun z => z.2 (of_decide_eq_true c_84))
  refine q_aload_n (pc' := 1) dX9_valueIn_0 rfl rfl ?_
  refine h_callV (pc' := 4) (M' := mX9_sign) (As := []) dX9_valueIn_1 iX9_sign lX9_53 rfl rfl rfl rfl (Nat.le_of_ble_eq_true rfl) (Nat.le_of_ble_eq_true rfl) rfl rfl ((c_sign hO ha hl).up (Nat.zero_le _)) (fun r m' hq => ?_)
  obtain ⟨rfl, hmm⟩ := hq
  subst m'
  refine q_bipush (pc' := 6) (v := nI 45) dX9_valueIn_4 rfl rfl ?_
  refine q_icmp_neN (tgt := 13) (pc' := 9) dX9_valueIn_6 (by decide) rfl (by omega) (fun c_6 => ?_) (fun c_6 => ?_)
  · refine q_iconst (pc' := 14) (v := nI 0) dX9_valueIn_13 rfl rfl ?_
    refine q_istore_n (pc' := 15) (lv' := [_, _, _]) dX9_valueIn_14 (by decide) rfl rfl ?_
    refine q_iload_n (pc' := 16) dX9_valueIn_15 rfl rfl ?_
    have e0 : nI 0 = q_b (decide (s_sg B a = 45)) := by rw [decide_eq_false c_6]; rfl
    rw [e0]
    refine q_if_eqB (tgt := 29) (pc' := 19) dX9_valueIn_16 (by decide) rfl (fun c_16 => ?_) (fun c_16 => ?_)
    · exact main m _ (by rw [show s_v1 B a = a from if_neg c_6]; exact Ta.rf ha)
    · rw [decide_eq_false c_6] at c_16; cases c_16
  · refine q_iconst (pc' := 10) (v := nI 1) dX9_valueIn_9 rfl rfl ?_
    refine q_goto (pc' := 14) dX9_valueIn_10 (by decide) ?_
    refine q_istore_n (pc' := 15) (lv' := [_, _, _]) dX9_valueIn_14 (by decide) rfl rfl ?_
    refine q_iload_n (pc' := 16) dX9_valueIn_15 rfl rfl ?_
    have e0 : nI 1 = q_b (decide (s_sg B a = 45)) := by rw [decide_eq_true c_6]; rfl
    rw [e0]
    refine q_if_eqB (tgt := 29) (pc' := 19) dX9_valueIn_16 (by decide) rfl (fun c_16 => ?_) (fun c_16 => ?_)
    · rw [decide_eq_true c_6] at c_16; cases c_16
    refine q_aload_n (pc' := 20) dX9_valueIn_19 rfl rfl ?_
    refine q_dup (pc' := 21) dX9_valueIn_20 rfl rfl ?_
    refine h_getiE (pc' := 24) dX9_valueIn_21 fX9_37 rfl rfl (ha) rfl ?_
    refine q_iconst (pc' := 25) (v := nI 1) dX9_valueIn_24 rfl rfl ?_
    refine q_iaddN (pc' := 26) dX9_valueIn_25 rfl ?_
    refine h_puti (pc' := 29) dX9_valueIn_26 fX9_37 rfl rfl rfl rfl rfl ?_
    exact main _ _ (by rw [show s_v1 B a = a + 1 from if_pos c_6]; exact (Ta.rf ha).to)
