/-! ===== TextReader: signs, blanks, digits ===== -/
theorem s_find_ge (p : Nat → Bool) : ∀ g i, i ≤ s_find p g i
  | 0, i => Nat.le_refl _
  | g + 1, i => by
    unfold s_find
    split
    · exact Nat.le_refl _
    · have := s_find_ge p g (i + 1); omega
theorem s_find_lt {p : Nat → Bool} : ∀ g i j, i ≤ j → j < s_find p g i → p j = false
  | 0, i, j, h1, h2 => by have h2 : j < i := h2; omega
  | g + 1, i, j, h1, h2 => by
    unfold s_find at h2
    split at h2
    · omega
    · rename_i h
      rcases Nat.eq_or_lt_of_le h1 with e | e
      · subst e; simpa using h
      · exact s_find_lt g (i + 1) j e h2
theorem s_find_hit {p : Nat → Bool} : ∀ g i, s_find p g i < i + g → p (s_find p g i) = true
  | 0, i, h => by have h : i < i + 0 := h; omega
  | g + 1, i, h => by
    unfold s_find at h ⊢
    split
    · assumption
    · rename_i hp
      rw [if_neg hp] at h
      exact s_find_hit g (i + 1) (by omega)
theorem s_find_f {p : Nat → Bool} {g i : Nat} (h : p i = false) : s_find p (g + 1) i = s_find p g (i + 1) := by rw [s_find_succ, if_neg (by rw [h]; decide)]
theorem s_find_t {p : Nat → Bool} {g i : Nat} (h : p i = true) : s_find p (g + 1) i = i := by rw [s_find_succ, if_pos h]
/-- the sign at a place, 0 behind the end -/
def s_sg (B : List Nat) (a : Nat) : Nat := B.getD a 0
theorem s_sg_end {B : List Nat} {a : Nat} (h : B.length ≤ a) : s_sg B a = 0 := by
  unfold s_sg
  rw [List.getD_eq_getElem?_getD, List.getElem?_eq_none h]; rfl
theorem s_sg_in {B : List Nat} {a : Nat} (h : s_sg B a ≠ 0) : a < B.length := by
  rcases Nat.lt_or_ge a B.length with q | q
  · exact q
  · exact absurd (s_sg_end q) h
theorem s_sg_lt {m : q_Mm} {o : Nat} {B : List Nat} (hO : Oct m o B) (a : Nat) : s_sg B a < 256 := by
  rcases Nat.lt_or_ge a B.length with q | q
  · refine hO.2.2.2 _ ?_
    unfold s_sg
    rw [List.getD_eq_getElem?_getD, List.getElem?_eq_getElem q]
    exact List.getElem_mem q
  · rw [s_sg_end q]; omega
def s_skb (B : List Nat) (a : Nat) : Nat := s_find (fun j => !decide (s_sg B j = 32)) (B.length - a) a
theorem s_skb_le {B : List Nat} {a : Nat} (h : a ≤ 320) (hB : B.length ≤ 320) : s_skb B a ≤ 320 := by
  have := s_find_le (fun j => !decide (s_sg B j = 32)) (B.length - a) a
  unfold s_skb
  omega
def s_dig (c : Nat) : Bool := decide (48 ≤ c ∧ c ≤ 57)
theorem s_dig_in {B : List Nat} {a : Nat} (h : s_dig (s_sg B a) = true) : a < B.length := s_sg_in (fun e => by rw [e] at h; exact absurd h (by decide))
/-- a digit of base sixteen; 16: none -/
def s_hex (c : Nat) : Nat := if s_dig c = true then c - 48 else if 97 ≤ c ∧ c ≤ 102 then c - 97 + 10 else 16
def s_de (B : List Nat) (k a : Nat) : Nat := s_find (fun j => !s_dig (s_sg B j)) k a
theorem s_de_le {B : List Nat} {k a : Nat} (h : a ≤ 320) (hB : B.length ≤ 320) : s_de B k a ≤ 320 := by
  rcases Nat.lt_or_ge a (s_de B k a) with q | q
  · have := s_find_lt (p := fun j => !s_dig (s_sg B j)) k a (s_de B k a - 1) (by omega) (by unfold s_de at q ⊢; omega)
    have := s_dig_in (B := B) (a := s_de B k a - 1) (by simpa using this)
    omega
  · omega
/-- the digits from a on, so many of them, behind v -/
def s_dv (B : List Nat) (a : Nat) (v : Int64) : Nat → Int64
  | 0 => v
  | k + 1 => 10 * s_dv B a v k + (nI (s_sg B (a + k)) - nI 48).toInt64
/-- only the reader's place has changed -/
def Ta (m m2 : q_Mm) (a : Nat) : Prop := Fr [10] m m2 ∧ Kp 10 [5] m m2 ∧ m2.2.1 10 = m.2.1 10 ∧ m2.1 10 5 = nI a
theorem Ta.rf {m : q_Mm} {a : Nat} (h : m.1 10 5 = nI a) : Ta m m a := ⟨Fr.rf, Kp.rf, rfl, h⟩
theorem kp_I {m m1 : q_Mm} {o : Nat} {J : List Nat} {j : Nat} {x : Int32} (h : Kp o J m m1) (hj : j ∈ J) : Kp o J m (sI m1 o j x) := fun i hi => by
  have e : i ≠ j := fun e => hi (e ▸ hj)
  show q_up m1.1 o (q_u (m1.1 o) j x) o i = m.1 o i
  rw [q_up_s, q_u_n _ _ e]
  exact h i hi
theorem kp_J {m m1 : q_Mm} {o o2 : Nat} {J : List Nat} {j : Nat} {x : Int64} (h : Kp o J m m1) : Kp o J m (sJ m1 o2 j x) := h
theorem Ta.to {m m1 : q_Mm} {a b : Nat} (h : Ta m m1 a) : Ta m (sI m1 10 5 (nI b)) b := ⟨h.1.I (by decide), kp_I h.2.1 (by decide), h.2.2.1, rfl⟩
theorem Ta.tr {m m1 m2 : q_Mm} {a b : Nat} (h : Ta m m1 a) (g : Ta m1 m2 b) : Ta m m2 b := ⟨h.1.trans g.1, h.2.1.trans g.2.1, g.2.2.1.trans h.2.2.1, g.2.2.2⟩
set_option maxHeartbeats 4000000 in
set_option maxRecDepth 20000 in
theorem c_sign {Z : q_Z} {m : q_Mm} {d : Nat} {B : List Nat} {a : Nat} (hO : Oct m 6 B) (ha : m.1 10 5 = nI a) (hl : a ≤ 320) : q_V (q_g Z) mX9_sign (d) 0 0 0 [some (.ref (q_ad Z 10))] [] (q_W Z m) (q_P Z fun r m2 => r = some (.int (nI (s_sg B a))) ∧ m2 = m) := by
  have hb := hO.2.1
  refine q_aload_n (pc' := 1) dX9_sign_0 rfl rfl ?_
  refine h_getiE (pc' := 4) dX9_sign_1 fX9_37 rfl rfl (ha) rfl ?_
  refine q_aload_n (pc' := 5) dX9_sign_4 rfl rfl ?_
  refine h_getr (pc' := 8) dX9_sign_5 fX9_22 rfl rfl rfl ?_
  refine h_getiE (pc' := 11) dX9_sign_8 fX9_48 rfl rfl (hO.1) rfl ?_
  refine q_icmp_geN (tgt := 29) (pc' := 14) dX9_sign_11 (by decide) rfl (by omega) (fun c_11 => ?_) (fun c_11 => ?_)
  · refine q_iconst (pc' := 30) (v := nI 0) dX9_sign_29 rfl rfl ?_
    refine q_iret dX9_sign_30 rfl rfl ⟨_, rfl, by rw [s_sg_end c_11], rfl⟩
  · refine q_aload_n (pc' := 15) dX9_sign_14 rfl rfl ?_
    refine h_getr (pc' := 18) dX9_sign_15 fX9_22 rfl rfl rfl ?_
    refine h_getr (pc' := 21) dX9_sign_18 fX9_57 rfl rfl rfl ?_
    refine q_aload_n (pc' := 22) dX9_sign_21 rfl rfl ?_
    refine h_getiE (pc' := 25) dX9_sign_22 fX9_37 rfl rfl (ha) rfl ?_
    refine h_ialdE (pc' := 26) dX9_sign_25 rfl (rfl) (by omega) (by decide) (hO.2.2.1 a (by omega)) rfl ?_
    refine q_goto (pc' := 30) dX9_sign_26 (by decide) ?_
    refine q_iret dX9_sign_30 rfl rfl ⟨_, rfl, rfl, rfl⟩
set_option maxHeartbeats 4000000 in
set_option maxRecDepth 20000 in
theorem c_skip {Z : q_Z} {m : q_Mm} {d : Nat} {B : List Nat} {a : Nat} (hO : Oct m 6 B) (ha : m.1 10 5 = nI a) (hl : a ≤ 320) : q_V (q_g Z) mX9_skipBlanks (d) 0 0 0 [some (.ref (q_ad Z 10))] [] (q_W Z m) (q_P Z fun r m2 => r = none ∧ Ta m m2 (s_skb B a)) := by
  have hb := hO.2.1
  suffices h : ∀ g j m1, g = B.length - j → j ≤ 320 → Ta m m1 j → s_find (fun j => !decide (s_sg B j = 32)) g j = s_skb B a → q_V (q_g Z) mX9_skipBlanks (d) 0 0 0 [some (.ref (q_ad Z 10))] [] (q_W Z (m1)) (q_P Z fun r m2 => r = none ∧ Ta m m2 (s_skb B a)) from h _ a m rfl hl (Ta.rf ha) rfl
  intro g
  induction g with
  | zero =>
    intro j m1 hj hj2 ht hs
    have hs : j = s_skb B a := hs
    have hO1 := hO.fr ht.1 (by decide) (by decide)
    refine q_aload_n (pc' := 1) dX9_skipBlanks_0 rfl rfl ?_
    refine h_getiE (pc' := 4) dX9_skipBlanks_1 fX9_37 rfl rfl (ht.2.2.2) rfl ?_
    refine q_aload_n (pc' := 5) dX9_skipBlanks_4 rfl rfl ?_
    refine h_getr (pc' := 8) dX9_skipBlanks_5 fX9_22 rfl rfl rfl ?_
    refine h_getiE (pc' := 11) dX9_skipBlanks_8 fX9_48 rfl rfl (hO1.1) rfl ?_
    refine q_icmp_geN (tgt := 44) (pc' := 14) dX9_skipBlanks_11 (by decide) rfl (by omega) (fun c_11 => ?_) (fun c_11 => ?_)
    · refine q_vret dX9_skipBlanks_44 rfl ⟨_, rfl, rfl, hs ▸ ht⟩
    · omega
  | succ g ih =>
    intro j m1 hj hj2 ht hs
    have hO1 := hO.fr ht.1 (by decide) (by decide)
    have hv := hO1.2.2.1 j (by omega)
    have hc := s_sg_lt hO1 j
    have hv : m1.2.2.1 7 j = nI (s_sg B j) := hv
    refine q_aload_n (pc' := 1) dX9_skipBlanks_0 rfl rfl ?_
    refine h_getiE (pc' := 4) dX9_skipBlanks_1 fX9_37 rfl rfl (ht.2.2.2) rfl ?_
    refine q_aload_n (pc' := 5) dX9_skipBlanks_4 rfl rfl ?_
    refine h_getr (pc' := 8) dX9_skipBlanks_5 fX9_22 rfl rfl rfl ?_
    refine h_getiE (pc' := 11) dX9_skipBlanks_8 fX9_48 rfl rfl (hO1.1) rfl ?_
    refine q_icmp_geN (tgt := 44) (pc' := 14) dX9_skipBlanks_11 (by decide) rfl (by omega) (fun c_11 => ?_) (fun c_11 => ?_)
    · omega
    refine q_aload_n (pc' := 15) dX9_skipBlanks_14 rfl rfl ?_
    refine h_getr (pc' := 18) dX9_skipBlanks_15 fX9_22 rfl rfl rfl ?_
    refine h_getr (pc' := 21) dX9_skipBlanks_18 fX9_57 rfl rfl rfl ?_
    refine q_aload_n (pc' := 22) dX9_skipBlanks_21 rfl rfl ?_
    refine h_getiE (pc' := 25) dX9_skipBlanks_22 fX9_37 rfl rfl (ht.2.2.2) rfl ?_
    refine h_ialdE (pc' := 26) dX9_skipBlanks_25 rfl (rfl) (by omega) (by decide) (hv) rfl ?_
    refine q_bipush (pc' := 28) (v := nI 32) dX9_skipBlanks_26 rfl rfl ?_
    refine q_icmp_neN (tgt := 44) (pc' := 31) dX9_skipBlanks_28 (by decide) rfl (by omega) (fun c_28 => ?_) (fun c_28 => ?_)
    · rw [s_find_t (by rw [decide_eq_false c_28]; rfl)] at hs
      refine q_vret dX9_skipBlanks_44 rfl ⟨_, rfl, rfl, hs ▸ ht⟩
    · rw [s_find_f (by rw [decide_eq_true c_28]; rfl)] at hs
      refine q_aload_n (pc' := 32) dX9_skipBlanks_31 rfl rfl ?_
      refine q_dup (pc' := 33) dX9_skipBlanks_32 rfl rfl ?_
      refine h_getiE (pc' := 36) dX9_skipBlanks_33 fX9_37 rfl rfl (ht.2.2.2) rfl ?_
      refine q_iconst (pc' := 37) (v := nI 1) dX9_skipBlanks_36 rfl rfl ?_
      refine q_iaddN (pc' := 38) dX9_skipBlanks_37 rfl ?_
      refine h_puti (pc' := 41) dX9_skipBlanks_38 fX9_37 rfl rfl rfl rfl rfl ?_
      refine q_goto (pc' := 0) dX9_skipBlanks_41 (by decide) ?_
      exact ih (j + 1) _ (by omega) (by omega) ht.to hs
set_option maxHeartbeats 4000000 in
set_option maxRecDepth 20000 in
theorem c_isDigit {Z : q_Z} {m : q_Mm} {d : Nat} {c : Nat} (hc : c < 256) : q_V (q_g Z) mX9_isDigit (d) 0 0 0 [some (.int (nI c))] [] (q_W Z m) (q_P Z fun r m2 => r = some (.int (q_b (s_dig c))) ∧ m2 = m) := by
  refine q_iload_n (pc' := 1) dX9_isDigit_0 rfl rfl ?_
  refine q_bipush (pc' := 3) (v := nI 48) dX9_isDigit_1 rfl rfl ?_
  refine q_icmp_ltN (tgt := 16) (pc' := 6) dX9_isDigit_3 (by decide) rfl (by omega) (fun c_3 => ?_) (fun c_3 => ?_)
  · refine q_iconst (pc' := 17) (v := nI 0) dX9_isDigit_16 rfl rfl ?_
    refine q_iret dX9_isDigit_17 rfl (by first | exact q_nb0 | exact q_nb1 | exact q_nb _) ⟨_, rfl, z_f (by omega), rfl⟩
  refine q_iload_n (pc' := 7) dX9_isDigit_6 rfl rfl ?_
  refine q_bipush (pc' := 9) (v := nI 57) dX9_isDigit_7 rfl rfl ?_
  refine q_icmp_gtN (tgt := 16) (pc' := 12) dX9_isDigit_9 (by decide) rfl (by omega) (fun c_9 => ?_) (fun c_9 => ?_)
  · refine q_iconst (pc' := 17) (v := nI 0) dX9_isDigit_16 rfl rfl ?_
    refine q_iret dX9_isDigit_17 rfl (by first | exact q_nb0 | exact q_nb1 | exact q_nb _) ⟨_, rfl, z_f (by omega), rfl⟩
  · refine q_iconst (pc' := 13) (v := nI 1) dX9_isDigit_12 rfl rfl ?_
    refine q_goto (pc' := 17) dX9_isDigit_13 (by decide) ?_
    refine q_iret dX9_isDigit_17 rfl (by first | exact q_nb0 | exact q_nb1 | exact q_nb _) ⟨_, rfl, z_t (by omega), rfl⟩
set_option maxHeartbeats 4000000 in
set_option maxRecDepth 20000 in
theorem c_hexOf {Z : q_Z} {m : q_Mm} {d : Nat} {c : Nat} (hc : c < 256) : q_V (q_g Z) mX9_hexOf (d+1) 0 0 0 [some (.int (nI c))] [] (q_W Z m) (q_P Z fun r m2 => r = some (.int (if s_hex c < 16 then nI (s_hex c) else -1)) ∧ m2 = m) := by
  refine q_iload_n (pc' := 1) dX9_hexOf_0 rfl rfl ?_
  refine h_callS (pc' := 4) (M' := mX9_isDigit) (As := [_]) dX9_hexOf_1 iX9_isDigit lX9_96 rfl rfl (Nat.le_of_ble_eq_true rfl) (Nat.le_of_ble_eq_true rfl) rfl rfl (c_isDigit hc) (fun r m' hq => ?_)
  obtain ⟨rfl, hmm⟩ := hq
  subst m'
  refine q_if_eqB (tgt := 12) (pc' := 7) dX9_hexOf_4 (by decide) rfl (fun c_4 => ?_) (fun c_4 => ?_)
  rotate_left
  · have h := c_4
    unfold s_dig at h
    have h := of_decide_eq_true h
    refine q_iload_n (pc' := 8) dX9_hexOf_7 rfl rfl ?_
    refine q_bipush (pc' := 10) (v := nI 48) dX9_hexOf_8 rfl rfl ?_
    refine q_isubN (pc' := 11) dX9_hexOf_10 (by omega) rfl ?_
    refine q_iret dX9_hexOf_11 rfl rfl ⟨_, rfl, by rw [show s_hex c = c - 48 by unfold s_hex; rw [if_pos c_4], if_pos (by omega)], rfl⟩
  have hn : ¬ s_dig c = true := by rw [c_4]; decide
  refine q_iload_n (pc' := 13) dX9_hexOf_12 rfl rfl ?_
  refine q_bipush (pc' := 15) (v := nI 97) dX9_hexOf_13 rfl rfl ?_
  refine q_icmp_ltN (tgt := 34) (pc' := 18) dX9_hexOf_15 (by decide) rfl (by omega) (fun c_15 => ?_) (fun c_15 => ?_)
  · refine q_iconst (pc' := 35) (v := (-1)) dX9_hexOf_34 rfl rfl ?_
    refine q_iret dX9_hexOf_35 rfl rfl ⟨_, rfl, by rw [show s_hex c = 16 by unfold s_hex; rw [if_neg hn, if_neg (by omega)], if_neg (by decide)], rfl⟩
  refine q_iload_n (pc' := 19) dX9_hexOf_18 rfl rfl ?_
  refine q_bipush (pc' := 21) (v := nI 102) dX9_hexOf_19 rfl rfl ?_
  refine q_icmp_gtN (tgt := 34) (pc' := 24) dX9_hexOf_21 (by decide) rfl (by omega) (fun c_21 => ?_) (fun c_21 => ?_)
  · refine q_iconst (pc' := 35) (v := (-1)) dX9_hexOf_34 rfl rfl ?_
    refine q_iret dX9_hexOf_35 rfl rfl ⟨_, rfl, by rw [show s_hex c = 16 by unfold s_hex; rw [if_neg hn, if_neg (by omega)], if_neg (by decide)], rfl⟩
  · refine q_iload_n (pc' := 25) dX9_hexOf_24 rfl rfl ?_
    refine q_bipush (pc' := 27) (v := nI 97) dX9_hexOf_25 rfl rfl ?_
    refine q_isubN (pc' := 28) dX9_hexOf_27 (by omega) rfl ?_
    refine q_bipush (pc' := 30) (v := nI 10) dX9_hexOf_28 rfl rfl ?_
    refine q_iaddN (pc' := 31) dX9_hexOf_30 rfl ?_
    refine q_goto (pc' := 35) dX9_hexOf_31 (by decide) ?_
    refine q_iret dX9_hexOf_35 rfl rfl ⟨_, rfl, by rw [show s_hex c = c - 97 + 10 by unfold s_hex; rw [if_neg hn, if_pos (by omega)], if_pos (by omega)], rfl⟩
def s_dok (B : List Nat) (k a : Nat) : Bool := decide (a < s_de B k a) && !s_dig (s_sg B (s_de B k a))
set_option maxHeartbeats 4000000 in
set_option maxRecDepth 20000 in
theorem c_digitsIn {Z : q_Z} {m : q_Mm} {d : Nat} {B : List Nat} {k a : Nat} {v : Int64} (hO : Oct m 6 B) (ha : m.1 10 5 = nI a) (hl : a ≤ 320) (hv : m.2.1 10 6 = v) (hk : k ≤ 9) : q_V (q_g Z) mX9_digitsIn (d+1) 0 0 0 [some (.ref (q_ad Z 10)), some (.int (nI k)), none] [] (q_W Z m) (q_P Z fun r m2 => r = some (.int (if s_dok B k a = true then nI (s_de B k a - a) else -1)) ∧ Fr [10] m m2 ∧ Kp 10 [5] m m2 ∧ m2.1 10 5 = nI (s_de B k a) ∧ m2.2.1 10 6 = s_dv B a v (s_de B k a - a)) := by
  have hb := hO.2.1
  refine q_iconst (pc' := 1) (v := nI 0) dX9_digitsIn_0 rfl rfl ?_
  refine q_istore_n (pc' := 2) (lv' := [_, _, _]) dX9_digitsIn_1 (by decide) rfl rfl ?_
  suffices h : ∀ g c m1, c + g = k → a + c ≤ 320 → Fr [10] m m1 → Kp 10 [5] m m1 → m1.1 10 5 = nI (a + c) → m1.2.1 10 6 = s_dv B a v c → s_find (fun j => !s_dig (s_sg B j)) g (a + c) = s_de B k a → q_V (q_g Z) mX9_digitsIn (d+1) 0 0 2 [some (.ref (q_ad Z 10)), some (.int (nI k)), some (.int (nI c))] [] (q_W Z (m1)) (q_P Z fun r m2 => r = some (.int (if s_dok B k a = true then nI (s_de B k a - a) else -1)) ∧ Fr [10] m m2 ∧ Kp 10 [5] m m2 ∧ m2.1 10 5 = nI (s_de B k a) ∧ m2.2.1 10 6 = s_dv B a v (s_de B k a - a)) from h k 0 m (by omega) hl Fr.rf Kp.rf ha hv rfl
  have fin : ∀ c m1, c ≤ k → a + c ≤ 320 → Fr [10] m m1 → Kp 10 [5] m m1 → m1.1 10 5 = nI (a + c) → m1.2.1 10 6 = s_dv B a v c → s_de B k a = a + c → s_dig (s_sg B (a + c)) = false → q_V (q_g Z) mX9_digitsIn (d+1) 0 0 56 [some (.ref (q_ad Z 10)), some (.int (nI k)), some (.int (nI c))] [] (q_W Z (m1)) (q_P Z fun r m2 => r = some (.int (if s_dok B k a = true then nI (s_de B k a - a) else -1)) ∧ Fr [10] m m2 ∧ Kp 10 [5] m m2 ∧ m2.1 10 5 = nI (s_de B k a) ∧ m2.2.1 10 6 = s_dv B a v (s_de B k a - a)) := by
    intro c m1 hc hc2 f1 k1 e1 e2 hs hd
    refine q_iload_n (pc' := 57) dX9_digitsIn_56 rfl rfl ?_
    refine q_if_neN (tgt := 64) (pc' := 60) dX9_digitsIn_57 (by decide) rfl (by omega) (fun c_57 => ?_) (fun c_57 => ?_)
    · refine q_iload_n (pc' := 65) dX9_digitsIn_64 rfl rfl ?_
      refine q_iret dX9_digitsIn_65 rfl rfl ⟨_, rfl, by rw [if_pos (by unfold s_dok; rw [hs, hd, decide_eq_true (by omega)]; rfl), hs, Nat.add_sub_cancel_left], f1, k1, by rw [hs]; exact e1, by rw [hs, Nat.add_sub_cancel_left]; exact e2⟩
    · refine q_iconst (pc' := 61) (v := (-1)) dX9_digitsIn_60 rfl rfl ?_
      refine q_goto (pc' := 65) dX9_digitsIn_61 (by decide) ?_
      refine q_iret dX9_digitsIn_65 rfl rfl ⟨_, rfl, by rw [if_neg (by unfold s_dok; rw [hs, decide_eq_false (by omega)]; simp)], f1, k1, by rw [hs]; exact e1, by rw [hs, Nat.add_sub_cancel_left]; exact e2⟩
  intro g
  induction g with
  | zero =>
    intro c m1 hc hc2 f1 k1 e1 e2 hs
    have hs : a + c = s_de B k a := hs
    have hO1 := hO.fr f1 (by decide) (by decide)
    refine q_aload_n (pc' := 3) dX9_digitsIn_2 rfl rfl ?_
    refine h_callV (pc' := 6) (M' := mX9_sign) (As := []) dX9_digitsIn_3 iX9_sign lX9_53 rfl rfl rfl rfl (Nat.le_of_ble_eq_true rfl) (Nat.le_of_ble_eq_true rfl) rfl rfl (c_sign hO1 e1 hc2) (fun r m' hq => ?_)
    obtain ⟨rfl, hmm⟩ := hq
    subst m'
    refine h_callS (pc' := 9) (M' := mX9_isDigit) (As := [_]) dX9_digitsIn_6 iX9_isDigit lX9_96 rfl rfl (Nat.le_of_ble_eq_true rfl) (Nat.le_of_ble_eq_true rfl) rfl rfl (c_isDigit (s_sg_lt hO (a + c))) (fun r m' hq => ?_)
    obtain ⟨rfl, hmm⟩ := hq
    subst m'
    refine q_if_eqB (tgt := 56) (pc' := 12) dX9_digitsIn_9 (by decide) rfl (fun c_9 => ?_) (fun c_9 => ?_)
    · exact fin c m1 (by omega) hc2 f1 k1 e1 e2 hs.symm c_9
    · refine q_iload_n (pc' := 13) dX9_digitsIn_12 rfl rfl ?_
      refine q_iload_n (pc' := 14) dX9_digitsIn_13 rfl rfl ?_
      refine q_icmp_neN (tgt := 19) (pc' := 17) dX9_digitsIn_14 (by decide) rfl (by omega) (fun c_14 => ?_) (fun c_14 => ?_)
      · omega
      · refine q_iconst (pc' := 18) (v := (-1)) dX9_digitsIn_17 rfl rfl ?_
        refine q_iret dX9_digitsIn_18 rfl rfl ⟨_, rfl, by rw [if_neg (by unfold s_dok; rw [← hs, c_9]; simp)], f1, k1, by rw [← hs]; exact e1, by rw [← hs, Nat.add_sub_cancel_left]; exact e2⟩
  | succ g ih =>
    intro c m1 hc hc2 f1 k1 e1 e2 hs
    have hO1 := hO.fr f1 (by decide) (by decide)
    refine q_aload_n (pc' := 3) dX9_digitsIn_2 rfl rfl ?_
    refine h_callV (pc' := 6) (M' := mX9_sign) (As := []) dX9_digitsIn_3 iX9_sign lX9_53 rfl rfl rfl rfl (Nat.le_of_ble_eq_true rfl) (Nat.le_of_ble_eq_true rfl) rfl rfl (c_sign hO1 e1 hc2) (fun r m' hq => ?_)
    obtain ⟨rfl, hmm⟩ := hq
    subst m'
    refine h_callS (pc' := 9) (M' := mX9_isDigit) (As := [_]) dX9_digitsIn_6 iX9_isDigit lX9_96 rfl rfl (Nat.le_of_ble_eq_true rfl) (Nat.le_of_ble_eq_true rfl) rfl rfl (c_isDigit (s_sg_lt hO (a + c))) (fun r m' hq => ?_)
    obtain ⟨rfl, hmm⟩ := hq
    subst m'
    refine q_if_eqB (tgt := 56) (pc' := 12) dX9_digitsIn_9 (by decide) rfl (fun c_9 => ?_) (fun c_9 => ?_)
    · rw [s_find_t (by rw [c_9]; rfl)] at hs
      exact fin c m1 (by omega) hc2 f1 k1 e1 e2 hs.symm c_9
    · rw [s_find_f (by rw [c_9]; rfl)] at hs
      have hin := s_dig_in c_9
      refine q_iload_n (pc' := 13) dX9_digitsIn_12 rfl rfl ?_
      refine q_iload_n (pc' := 14) dX9_digitsIn_13 rfl rfl ?_
      refine q_icmp_neN (tgt := 19) (pc' := 17) dX9_digitsIn_14 (by decide) rfl (by omega) (fun c_14 => ?_) (fun c_14 => ?_)
      rotate_left
      · omega
      refine q_aload_n (pc' := 20) dX9_digitsIn_19 rfl rfl ?_
      refine q_ldc2 (pc' := 23) dX9_digitsIn_20 kX9_99 rfl ?_
      refine q_aload_n (pc' := 24) dX9_digitsIn_23 rfl rfl ?_
      refine h_getjE (pc' := 27) dX9_digitsIn_24 fX9_82 rfl rfl (e2) rfl ?_
      refine q_lmul (pc' := 28) dX9_digitsIn_27 rfl ?_
      refine q_aload_n (pc' := 29) dX9_digitsIn_28 rfl rfl ?_
      refine h_callV (pc' := 32) (M' := mX9_sign) (As := []) dX9_digitsIn_29 iX9_sign lX9_53 rfl rfl rfl rfl (Nat.le_of_ble_eq_true rfl) (Nat.le_of_ble_eq_true rfl) rfl rfl (c_sign hO1 e1 hc2) (fun r m' hq => ?_)
      obtain ⟨rfl, hmm⟩ := hq
      subst m'
      refine q_bipush (pc' := 34) (v := nI 48) dX9_digitsIn_32 rfl rfl ?_
      refine q_isub (pc' := 35) dX9_digitsIn_34 rfl ?_
      refine q_i2l (pc' := 36) dX9_digitsIn_35 rfl ?_
      refine q_ladd (pc' := 37) dX9_digitsIn_36 rfl ?_
      refine h_putj (pc' := 40) dX9_digitsIn_37 fX9_82 rfl rfl rfl rfl rfl ?_
      refine q_iincN (pc' := 43) (j := 1) (lv' := [_, _, _]) dX9_digitsIn_40 rfl (by decide) rfl rfl ?_
      refine q_aload_n (pc' := 44) dX9_digitsIn_43 rfl rfl ?_
      refine q_dup (pc' := 45) dX9_digitsIn_44 rfl rfl ?_
      refine h_getiE (pc' := 48) dX9_digitsIn_45 fX9_37 rfl rfl (e1) rfl ?_
      refine q_iconst (pc' := 49) (v := nI 1) dX9_digitsIn_48 rfl rfl ?_
      refine q_iaddN (pc' := 50) dX9_digitsIn_49 rfl ?_
      refine h_puti (pc' := 53) dX9_digitsIn_50 fX9_37 rfl rfl rfl rfl rfl ?_
      refine q_goto (pc' := 2) dX9_digitsIn_53 (by decide) ?_
      exact ih (c + 1) _ (by omega) (by omega) ((f1.J (by decide)).I (by decide)) (kp_I (kp_J k1) (by decide)) rfl rfl hs
