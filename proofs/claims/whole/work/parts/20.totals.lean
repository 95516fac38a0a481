/-! ===== Plan, all BLOCKS ===== -/
theorem s_nb_of {n i : Nat} {rl : Nat → Nat} (hr : s_rok rl) (h : i < n) : i / rl 0 < s_nb n rl ∧ i / rl 0 * rl 0 ≤ i ∧ i - i / rl 0 * rl 0 < s_sz n rl (i / rl 0) := by
  have h0 := hr.1.1
  have h1 : i / rl 0 * rl 0 ≤ i := Nat.div_mul_le_self _ _
  have h2 : i < (i / rl 0 + 1) * rl 0 := by rw [Nat.mul_comm]; exact Nat.lt_mul_div_succ i (by omega)
  rw [Nat.add_mul, Nat.one_mul] at h2
  refine ⟨?_, h1, ?_⟩
  · unfold s_nb
    rw [Nat.div_lt_iff_lt_mul (by omega)]
    have h3 : n + rl 0 - 1 < ((n + rl 0 - 1) / rl 0 + 1) * rl 0 := by rw [Nat.mul_comm]; exact Nat.lt_mul_div_succ _ (by omega)
    rw [Nat.add_mul, Nat.one_mul] at h3
    omega
  · unfold s_sz
    split <;> omega
def s_us (g : Nat → Int64) (c : Nat) (l0 : Int64) : Nat → Int64 × Nat
  | 0 => (l0, 0)
  | i + 1 => if (s_us g c l0 i).2 < (if g i = s_no then 0 else s_cnt (fun j => decide (g j = g i)) c) ∨ ((if g i = s_no then 0 else s_cnt (fun j => decide (g j = g i)) c) = (s_us g c l0 i).2 ∧ 0 < (if g i = s_no then 0 else s_cnt (fun j => decide (g j = g i)) c) ∧ g i < (s_us g c l0 i).1) then (g i, if g i = s_no then 0 else s_cnt (fun j => decide (g j = g i)) c) else s_us g c l0 i
theorem s_us_le (g : Nat → Int64) (c : Nat) (l0 : Int64) : ∀ k, (s_us g c l0 k).2 ≤ c
  | 0 => Nat.zero_le _
  | k + 1 => by
    have ih := s_us_le g c l0 k
    have h := s_cnt_le (fun j => decide (g j = g k)) c
    have ho : (if g k = s_no then 0 else s_cnt (fun j => decide (g j = g k)) c) ≤ c := by split <;> omega
    unfold s_us
    generalize (if g k = s_no then 0 else s_cnt (fun j => decide (g j = g k)) c) = o at ho ⊢
    split
    · exact ho
    · exact ih
/-- of a column whose VALUES are all taken, in their order -/
def PlI (m : q_Mm) (b n : Nat) (r : Nat → Nat) (ys : Nat → Int64) (ws : Nat → Nat → Int64) : Prop :=
  m.1 b 4 = nI n ∧ n ≤ 64 ∧ (∀ i, i < 5 → m.2.2.1 (b + 1) i = nI (r i)) ∧ s_rok r ∧ ∀ i, i < n → m.2.2.1 (b + 2) i = nI i ∧ m.2.2.2.1 20 i = ys i ∧ ∀ p, p < 120 → m.2.2.2.1 193 (i * 120 + p) = ws i p
theorem PlI.pl {m : q_Mm} {b n : Nat} {r : Nat → Nat} {ys : Nat → Int64} {ws : Nat → Nat → Int64} (h : PlI m b n r ys ws) : Pl m b n r ys ws := by
  obtain ⟨h1, h2, h3, h4, h5⟩ := h
  exact ⟨h1, h2, h3, h4, fun i hi => ⟨i, by omega, h5 i hi⟩⟩
set_option maxHeartbeats 4000000 in
set_option maxRecDepth 20000 in
theorem c_isException_194 {Z : q_Z} {m : q_Mm} {d : Nat} {n i : Nat} {rl : Nat → Nat} {ys : Nat → Int64} {ws : Nat → Nat → Int64} {q : s_F} (hP : Pl m 194 n rl ys ws) (hF : Fiv m 194 q) (hi : i < n) : q_V (q_g Z) mX8_isException (d+5) 0 0 0 [some (.ref (q_ad Z 194)), some (.int (nI i)), none] [] (q_W Z m) (q_P Z fun r m2 => r = some (.int (q_b (s_ex n rl ys ws (s_wp n rl ws q (i / rl 0)) (i / rl 0) (s_wf n rl ys ws q (i / rl 0)).1 (i - i / rl 0 * rl 0)))) ∧ Fr [194, 199, 200, 201, 202] m m2 ∧ Kp 194 [11, 12, 13, 14, 15] m m2) := by
  have hr := hP.2.2.2.1
  have hn := hP.2.1
  obtain ⟨h1, h2, h3⟩ := s_nb_of hr hi
  have h16 := s_sz16 (n := n) hr (i / rl 0)
  refine q_aload_n (pc' := 1) dX8_isException_0 rfl rfl ?_
  refine q_iload_n (pc' := 2) dX8_isException_1 rfl rfl ?_
  refine h_callV (pc' := 5) (M' := mX8_blockAt) (As := [_]) dX8_isException_2 iX8_blockAt lX8_204 rfl rfl rfl rfl (Nat.le_of_ble_eq_true rfl) (Nat.le_of_ble_eq_true rfl) rfl rfl (c_blockAt_194 hP (by omega)) (fun r m' hq => ?_)
  obtain ⟨rfl, rfl⟩ := hq
  refine q_istore_n (pc' := 6) (lv' := [_, _, _]) dX8_isException_5 (by decide) rfl rfl ?_
  refine q_aload_n (pc' := 7) dX8_isException_6 rfl rfl ?_
  refine q_iload_n (pc' := 8) dX8_isException_7 rfl rfl ?_
  refine h_callV (pc' := 11) (M' := mX8_weigh) (As := [_]) dX8_isException_8 iX8_weigh lX8_207 rfl rfl rfl rfl (Nat.le_of_ble_eq_true rfl) (Nat.le_of_ble_eq_true rfl) rfl rfl (c_weigh_194 hP hF h1) (fun r m' hq => ?_)
  obtain ⟨rfl, f1, k1, W1, -, -⟩ := hq
  have hP1 := hP.kp f1 k1 (by decide) (by decide) (by decide) (by decide) (by decide)
  refine q_aload_n (pc' := 12) dX8_isException_11 rfl rfl ?_
  refine h_getiE (pc' := 15) dX8_isException_12 fX8_189 rfl rfl (W1.2.2.2) rfl ?_
  refine q_iload_n (pc' := 16) dX8_isException_15 rfl rfl ?_
  refine q_aload_n (pc' := 17) dX8_isException_16 rfl rfl ?_
  refine q_iload_n (pc' := 18) dX8_isException_17 rfl rfl ?_
  refine h_callV (pc' := 21) (M' := mX8_startOf) (As := [_]) dX8_isException_18 iX8_startOf lX8_60 rfl rfl rfl rfl (Nat.le_of_ble_eq_true rfl) (Nat.le_of_ble_eq_true rfl) rfl rfl (c_startOf_194 hP1) (fun r m' hq => ?_)
  obtain ⟨rfl, rfl⟩ := hq
  refine q_isubN (pc' := 22) dX8_isException_21 (by omega) rfl ?_
  refine q_ishr (pc' := 23) dX8_isException_22 rfl ?_
  refine q_iconst (pc' := 24) (v := nI 1) dX8_isException_23 rfl rfl ?_
  refine q_iand (pc' := 25) dX8_isException_24 rfl ?_
  rw [s_mk_b (by omega) (by omega)]
  by_cases hx : s_ex n rl ys ws (s_wp n rl ws q (i / rl 0)) (i / rl 0) (s_wf n rl ys ws q (i / rl 0)).1 (i - i / rl 0 * rl 0) = true
  · rw [if_pos ⟨h3, hx⟩, hx]
    refine q_iconst (pc' := 26) (v := nI 1) dX8_isException_25 rfl rfl ?_
    refine q_icmp_neN (tgt := 33) (pc' := 29) dX8_isException_26 (by decide) rfl (by omega) (fun c_26 => ?_) (fun c_26 => ?_)
    · exact absurd rfl c_26
    refine q_iconst (pc' := 30) (v := nI 1) dX8_isException_29 rfl rfl ?_
    refine q_goto (pc' := 34) dX8_isException_30 (by decide) ?_
    refine q_iret dX8_isException_34 rfl (by first | exact q_nb0 | exact q_nb1 | exact q_nb _) ⟨_, rfl, rfl, f1, k1⟩
  · rw [if_neg (fun z => hx z.2), Bool.eq_false_iff.mpr hx]
    refine q_iconst (pc' := 26) (v := nI 1) dX8_isException_25 rfl rfl ?_
    refine q_icmp_neN (tgt := 33) (pc' := 29) dX8_isException_26 (by decide) rfl (by omega) (fun c_26 => ?_) (fun c_26 => ?_)
    · refine q_iconst (pc' := 34) (v := nI 0) dX8_isException_33 rfl rfl ?_
      refine q_iret dX8_isException_34 rfl (by first | exact q_nb0 | exact q_nb1 | exact q_nb _) ⟨_, rfl, rfl, f1, k1⟩
    · exact absurd c_26 (by decide)
set_option maxHeartbeats 4000000 in
set_option maxRecDepth 20000 in
theorem c_countWhole_194 {Z : q_Z} {m : q_Mm} {d : Nat} {n bk p : Nat} {w : Int64} {rl : Nat → Nat} {ys : Nat → Int64} {ws : Nat → Nat → Int64} (hP : Pl m 194 n rl ys ws) (hb : bk < s_nb n rl) (hp : p < 120) (h12 : m.1 194 12 = nI p) : q_V (q_g Z) mX8_countWhole (d+2) 0 0 0 [some (.ref (q_ad Z 194)), some (.int (nI bk)), some (.long w), none, none, none] [] (q_W Z m) (q_P Z fun r m2 => r = some (.int (nI (s_cnt (fun i => decide (ws (bk * rl 0 + i) p = w)) (s_sz n rl bk)))) ∧ m2 = m) := by
  have hr := hP.2.2.2.1
  have hz := s_nb_in hr hb
  have h16 := s_sz16 (n := n) hr bk
  refine q_iconst (pc' := 1) (v := nI 0) dX8_countWhole_0 rfl rfl ?_
  refine q_istore (pc' := 3) (lv' := [_, _, _, _, _, _]) dX8_countWhole_1 (by decide) rfl rfl ?_
  refine q_iconst (pc' := 4) (v := nI 0) dX8_countWhole_3 rfl rfl ?_
  refine q_istore (pc' := 6) (lv' := [_, _, _, _, _, _]) dX8_countWhole_4 (by decide) rfl rfl ?_
  suffices h : ∀ c j, j + c = s_sz n rl bk → q_V (q_g Z) mX8_countWhole (d+2) 0 0 6 [some (.ref (q_ad Z 194)), some (.int (nI bk)), some (.long w), none, some (.int (nI (s_cnt (fun i => decide (ws (bk * rl 0 + i) p = w)) j))), some (.int (nI j))] [] (q_W Z (m)) (q_P Z fun r m2 => r = some (.int (nI (s_cnt (fun i => decide (ws (bk * rl 0 + i) p = w)) (s_sz n rl bk)))) ∧ m2 = m) from h (s_sz n rl bk) 0 (by omega)
  intro c
  induction c with
  | zero =>
    intro j hj
    refine q_iload (pc' := 8) dX8_countWhole_6 rfl rfl ?_
    refine q_aload_n (pc' := 9) dX8_countWhole_8 rfl rfl ?_
    refine q_iload_n (pc' := 10) dX8_countWhole_9 rfl rfl ?_
    refine h_callV (pc' := 13) (M' := mX8_sizeOf) (As := [_]) dX8_countWhole_10 iX8_sizeOf lX8_106 rfl rfl rfl rfl (Nat.le_of_ble_eq_true rfl) (Nat.le_of_ble_eq_true rfl) rfl rfl (c_sizeOf_194 hP hb) (fun r m' hq => ?_)
    obtain ⟨rfl, rfl⟩ := hq
    obtain rfl : s_sz n rl bk = j := by omega
    refine q_icmp_geN (tgt := 46) (pc' := 16) dX8_countWhole_13 (by decide) rfl (by omega) (fun c_13 => ?_) (fun c_13 => ?_)
    · refine q_iload (pc' := 48) dX8_countWhole_46 rfl rfl ?_
      refine q_iret dX8_countWhole_48 rfl rfl ⟨_, rfl, rfl, rfl⟩
    · omega
  | succ c ih =>
    intro j hj
    have ih := ih (j + 1) (by omega)
    refine q_iload (pc' := 8) dX8_countWhole_6 rfl rfl ?_
    refine q_aload_n (pc' := 9) dX8_countWhole_8 rfl rfl ?_
    refine q_iload_n (pc' := 10) dX8_countWhole_9 rfl rfl ?_
    refine h_callV (pc' := 13) (M' := mX8_sizeOf) (As := [_]) dX8_countWhole_10 iX8_sizeOf lX8_106 rfl rfl rfl rfl (Nat.le_of_ble_eq_true rfl) (Nat.le_of_ble_eq_true rfl) rfl rfl (c_sizeOf_194 hP hb) (fun r m' hq => ?_)
    obtain ⟨rfl, rfl⟩ := hq
    refine q_icmp_geN (tgt := 46) (pc' := 16) dX8_countWhole_13 (by decide) rfl (by omega) (fun c_13 => ?_) (fun c_13 => ?_)
    · omega
    refine q_aload_n (pc' := 17) dX8_countWhole_16 rfl rfl ?_
    refine q_aload_n (pc' := 18) dX8_countWhole_17 rfl rfl ?_
    refine q_iload_n (pc' := 19) dX8_countWhole_18 rfl rfl ?_
    refine h_callV (pc' := 22) (M' := mX8_startOf) (As := [_]) dX8_countWhole_19 iX8_startOf lX8_60 rfl rfl rfl rfl (Nat.le_of_ble_eq_true rfl) (Nat.le_of_ble_eq_true rfl) rfl rfl (c_startOf_194 hP) (fun r m' hq => ?_)
    obtain ⟨rfl, rfl⟩ := hq
    refine q_iload (pc' := 24) dX8_countWhole_22 rfl rfl ?_
    refine q_iaddN (pc' := 25) dX8_countWhole_24 rfl ?_
    refine q_aload_n (pc' := 26) dX8_countWhole_25 rfl rfl ?_
    refine h_getiE (pc' := 29) dX8_countWhole_26 fX8_144 rfl rfl (h12) rfl ?_
    refine h_callV (pc' := 32) (M' := mX8_wholeAt) (As := [_, _]) dX8_countWhole_29 iX8_wholeAt lX8_201 rfl rfl rfl rfl (Nat.le_of_ble_eq_true rfl) (Nat.le_of_ble_eq_true rfl) rfl rfl (c_wholeAt_194 hP (by omega) hp) (fun r m' hq => ?_)
    obtain ⟨rfl, rfl⟩ := hq
    refine q_lload_n (pc' := 33) dX8_countWhole_32 rfl rfl ?_
    refine q_lcmp (pc' := 34) dX8_countWhole_33 rfl ?_
    refine q_if_neL (tgt := 40) (pc' := 37) dX8_countWhole_34 (by decide) rfl (fun c_34 => ?_) (fun c_34 => ?_)
    · rw [s_cnt_f (decide_eq_false c_34)] at ih
      refine q_iincN (pc' := 43) (j := 1) (lv' := [_, _, _, _, _, _]) dX8_countWhole_40 rfl (by decide) rfl rfl ?_
      refine q_goto (pc' := 6) dX8_countWhole_43 (by decide) ?_
      exact ih
    · rw [s_cnt_t (decide_eq_true c_34)] at ih
      refine q_iincN (pc' := 40) (j := 1) (lv' := [_, _, _, _, _, _]) dX8_countWhole_37 rfl (by decide) rfl rfl ?_
      refine q_iincN (pc' := 43) (j := 1) (lv' := [_, _, _, _, _, _]) dX8_countWhole_40 rfl (by decide) rfl rfl ?_
      refine q_goto (pc' := 6) dX8_countWhole_43 (by decide) ?_
      exact ih
set_option maxHeartbeats 4000000 in
set_option maxRecDepth 20000 in
theorem c_usualWhole_194 {Z : q_Z} {m : q_Mm} {d : Nat} {n bk p : Nat} {l0 : Int64} {g : Nat → Int64} {rl : Nat → Nat} {ys : Nat → Int64} {ws : Nat → Nat → Int64} (hP : Pl m 194 n rl ys ws) (hb : bk < s_nb n rl) (hp : p < 120) (h12 : m.1 194 12 = nI p) (h9 : m.2.1 194 9 = l0) (hgi : ∀ i, ws (bk * rl 0 + i) p = g i) : q_V (q_g Z) mX8_usualWhole (d+3) 0 0 0 [some (.ref (q_ad Z 194)), some (.int (nI bk)), none, none, none, none, none, none, none] [] (q_W Z m) (q_P Z fun r m2 => r = some (.long (s_us g (s_sz n rl bk) l0 (s_sz n rl bk)).1) ∧ m2 = m) := by
  have hr := hP.2.2.2.1
  have hz := s_nb_in hr hb
  have h16 := s_sz16 (n := n) hr bk
  refine q_aload_n (pc' := 1) dX8_usualWhole_0 rfl rfl ?_
  refine h_getjE (pc' := 4) dX8_usualWhole_1 fX8_119 rfl rfl (h9) rfl ?_
  refine q_lstore_n (pc' := 5) (lv' := [_, _, _, _, _, _, _, _, _]) dX8_usualWhole_4 (by decide) rfl rfl ?_
  refine q_iconst (pc' := 6) (v := nI 0) dX8_usualWhole_5 rfl rfl ?_
  refine q_istore (pc' := 8) (lv' := [_, _, _, _, _, _, _, _, _]) dX8_usualWhole_6 (by decide) rfl rfl ?_
  refine q_iconst (pc' := 9) (v := nI 0) dX8_usualWhole_8 rfl rfl ?_
  refine q_istore (pc' := 11) (lv' := [_, _, _, _, _, _, _, _, _]) dX8_usualWhole_9 (by decide) rfl rfl ?_
  suffices h : ∀ c j w1 w2, j + c = s_sz n rl bk → q_V (q_g Z) mX8_usualWhole (d+3) 0 0 11 [some (.ref (q_ad Z 194)), some (.int (nI bk)), some (.long (s_us g (s_sz n rl bk) l0 j).1), none, some (.int (nI (s_us g (s_sz n rl bk) l0 j).2)), some (.int (nI j)), w1, none, w2] [] (q_W Z (m)) (q_P Z fun r m2 => r = some (.long (s_us g (s_sz n rl bk) l0 (s_sz n rl bk)).1) ∧ m2 = m) from h (s_sz n rl bk) 0 none none (by omega)
  intro c
  induction c with
  | zero =>
    intro j w1 w2 hj
    refine q_iload (pc' := 13) dX8_usualWhole_11 rfl rfl ?_
    refine q_aload_n (pc' := 14) dX8_usualWhole_13 rfl rfl ?_
    refine q_iload_n (pc' := 15) dX8_usualWhole_14 rfl rfl ?_
    refine h_callV (pc' := 18) (M' := mX8_sizeOf) (As := [_]) dX8_usualWhole_15 iX8_sizeOf lX8_106 rfl rfl rfl rfl (Nat.le_of_ble_eq_true rfl) (Nat.le_of_ble_eq_true rfl) rfl rfl (c_sizeOf_194 hP hb) (fun r m' hq => ?_)
    obtain ⟨rfl, rfl⟩ := hq
    obtain rfl : s_sz n rl bk = j := by omega
    refine q_icmp_geN (tgt := 100) (pc' := 21) dX8_usualWhole_18 (by decide) rfl (by omega) (fun c_18 => ?_) (fun c_18 => ?_)
    · refine q_lload_n (pc' := 101) dX8_usualWhole_100 rfl rfl ?_
      refine q_lret dX8_usualWhole_101 rfl ⟨_, rfl, rfl, rfl⟩
    · omega
  | succ c ih =>
    intro j w1 w2 hj
    have hul := s_us_le g (s_sz n rl bk) l0 j
    have hcl := s_cnt_le (fun i => decide (g i = g j)) (s_sz n rl bk)
    generalize ho : (if g j = s_no then 0 else s_cnt (fun i => decide (g i = g j)) (s_sz n rl bk)) = o
    have hol : o ≤ 16 := by rw [← ho]; split <;> omega
    have hst : s_us g (s_sz n rl bk) l0 (j + 1) = if (s_us g (s_sz n rl bk) l0 j).2 < o ∨ (o = (s_us g (s_sz n rl bk) l0 j).2 ∧ 0 < o ∧ g j < (s_us g (s_sz n rl bk) l0 j).1) then (g j, o) else s_us g (s_sz n rl bk) l0 j := by rw [← ho]; rfl
    have tk : ((s_us g (s_sz n rl bk) l0 j).2 < o ∨ (o = (s_us g (s_sz n rl bk) l0 j).2 ∧ 0 < o ∧ g j < (s_us g (s_sz n rl bk) l0 j).1)) → q_V (q_g Z) mX8_usualWhole (d+3) 0 0 87 [some (.ref (q_ad Z 194)), some (.int (nI bk)), some (.long (s_us g (s_sz n rl bk) l0 j).1), none, some (.int (nI (s_us g (s_sz n rl bk) l0 j).2)), some (.int (nI j)), some (.long (g j)), none, some (.int (nI o))] [] (q_W Z (m)) (q_P Z fun r m2 => r = some (.long (s_us g (s_sz n rl bk) l0 (s_sz n rl bk)).1) ∧ m2 = m) := by
      intro z
      rw [if_pos z] at hst
      have ih := ih (j + 1) (some (.long (g j))) (some (.int (nI o))) (by omega)
      rw [hst] at ih
      refine q_lload (pc' := 89) dX8_usualWhole_87 rfl rfl ?_
      refine q_lstore_n (pc' := 90) (lv' := [_, _, _, _, _, _, _, _, _]) dX8_usualWhole_89 (by decide) rfl rfl ?_
      refine q_iload (pc' := 92) dX8_usualWhole_90 rfl rfl ?_
      refine q_istore (pc' := 94) (lv' := [_, _, _, _, _, _, _, _, _]) dX8_usualWhole_92 (by decide) rfl rfl ?_
      refine q_iincN (pc' := 97) (j := 1) (lv' := [_, _, _, _, _, _, _, _, _]) dX8_usualWhole_94 rfl (by decide) rfl rfl ?_
      refine q_goto (pc' := 11) dX8_usualWhole_97 (by decide) ?_
      exact ih
    have sk : ¬ ((s_us g (s_sz n rl bk) l0 j).2 < o ∨ (o = (s_us g (s_sz n rl bk) l0 j).2 ∧ 0 < o ∧ g j < (s_us g (s_sz n rl bk) l0 j).1)) → q_V (q_g Z) mX8_usualWhole (d+3) 0 0 94 [some (.ref (q_ad Z 194)), some (.int (nI bk)), some (.long (s_us g (s_sz n rl bk) l0 j).1), none, some (.int (nI (s_us g (s_sz n rl bk) l0 j).2)), some (.int (nI j)), some (.long (g j)), none, some (.int (nI o))] [] (q_W Z (m)) (q_P Z fun r m2 => r = some (.long (s_us g (s_sz n rl bk) l0 (s_sz n rl bk)).1) ∧ m2 = m) := by
      intro z
      rw [if_neg z] at hst
      have ih := ih (j + 1) (some (.long (g j))) (some (.int (nI o))) (by omega)
      rw [hst] at ih
      refine q_iincN (pc' := 97) (j := 1) (lv' := [_, _, _, _, _, _, _, _, _]) dX8_usualWhole_94 rfl (by decide) rfl rfl ?_
      refine q_goto (pc' := 11) dX8_usualWhole_97 (by decide) ?_
      exact ih
    have go : q_V (q_g Z) mX8_usualWhole (d+3) 0 0 61 [some (.ref (q_ad Z 194)), some (.int (nI bk)), some (.long (s_us g (s_sz n rl bk) l0 j).1), none, some (.int (nI (s_us g (s_sz n rl bk) l0 j).2)), some (.int (nI j)), some (.long (g j)), none, some (.int (nI o))] [] (q_W Z (m)) (q_P Z fun r m2 => r = some (.long (s_us g (s_sz n rl bk) l0 (s_sz n rl bk)).1) ∧ m2 = m) := by
      refine q_iload (pc' := 63) dX8_usualWhole_61 rfl rfl ?_
      refine q_iload (pc' := 65) dX8_usualWhole_63 rfl rfl ?_
      refine q_icmp_gtN (tgt := 87) (pc' := 68) dX8_usualWhole_65 (by decide) rfl (by omega) (fun c_65 => ?_) (fun c_65 => ?_)
      · exact tk (Or.inl c_65)
      refine q_iload (pc' := 70) dX8_usualWhole_68 rfl rfl ?_
      refine q_iload (pc' := 72) dX8_usualWhole_70 rfl rfl ?_
      refine q_icmp_neN (tgt := 94) (pc' := 75) dX8_usualWhole_72 (by decide) rfl (by omega) (fun c_72 => ?_) (fun c_72 => ?_)
      · exact sk (fun z => by rcases z with z | z <;> omega)
      refine q_iload (pc' := 77) dX8_usualWhole_75 rfl rfl ?_
      refine q_if_leN (tgt := 94) (pc' := 80) dX8_usualWhole_77 (by decide) rfl (by omega) (fun c_77 => ?_) (fun c_77 => ?_)
      · exact sk (fun z => by rcases z with z | z <;> omega)
      refine q_lload (pc' := 82) dX8_usualWhole_80 rfl rfl ?_
      refine q_lload_n (pc' := 83) dX8_usualWhole_82 rfl rfl ?_
      refine q_lcmp (pc' := 84) dX8_usualWhole_83 rfl ?_
      refine q_if_geL (tgt := 94) (pc' := 87) dX8_usualWhole_84 (by decide) rfl (fun c_84 => ?_) (fun c_84 => ?_)
      · exact sk (fun z => by rcases z with z | z; omega; exact c_84 z.2.2)
      · exact tk (Or.inr ⟨c_72, c_77, c_84⟩)
    refine q_iload (pc' := 13) dX8_usualWhole_11 rfl rfl ?_
    refine q_aload_n (pc' := 14) dX8_usualWhole_13 rfl rfl ?_
    refine q_iload_n (pc' := 15) dX8_usualWhole_14 rfl rfl ?_
    refine h_callV (pc' := 18) (M' := mX8_sizeOf) (As := [_]) dX8_usualWhole_15 iX8_sizeOf lX8_106 rfl rfl rfl rfl (Nat.le_of_ble_eq_true rfl) (Nat.le_of_ble_eq_true rfl) rfl rfl (c_sizeOf_194 hP hb) (fun r m' hq => ?_)
    obtain ⟨rfl, rfl⟩ := hq
    refine q_icmp_geN (tgt := 100) (pc' := 21) dX8_usualWhole_18 (by decide) rfl (by omega) (fun c_18 => ?_) (fun c_18 => ?_)
    · omega
    refine q_aload_n (pc' := 22) dX8_usualWhole_21 rfl rfl ?_
    refine q_aload_n (pc' := 23) dX8_usualWhole_22 rfl rfl ?_
    refine q_iload_n (pc' := 24) dX8_usualWhole_23 rfl rfl ?_
    refine h_callV (pc' := 27) (M' := mX8_startOf) (As := [_]) dX8_usualWhole_24 iX8_startOf lX8_60 rfl rfl rfl rfl (Nat.le_of_ble_eq_true rfl) (Nat.le_of_ble_eq_true rfl) rfl rfl (c_startOf_194 hP) (fun r m' hq => ?_)
    obtain ⟨rfl, rfl⟩ := hq
    refine q_iload (pc' := 29) dX8_usualWhole_27 rfl rfl ?_
    refine q_iaddN (pc' := 30) dX8_usualWhole_29 rfl ?_
    refine q_aload_n (pc' := 31) dX8_usualWhole_30 rfl rfl ?_
    refine h_getiE (pc' := 34) dX8_usualWhole_31 fX8_144 rfl rfl (h12) rfl ?_
    refine h_callV (pc' := 37) (M' := mX8_wholeAt) (As := [_, _]) dX8_usualWhole_34 iX8_wholeAt lX8_201 rfl rfl rfl rfl (Nat.le_of_ble_eq_true rfl) (Nat.le_of_ble_eq_true rfl) rfl rfl (c_wholeAt_194 hP (by omega) hp) (fun r m' hq => ?_)
    obtain ⟨rfl, rfl⟩ := hq
    rw [hgi j]
    refine q_lstore (pc' := 39) (lv' := [_, _, _, _, _, _, _, _, _]) dX8_usualWhole_37 (by decide) rfl rfl ?_
    refine q_lload (pc' := 41) dX8_usualWhole_39 rfl rfl ?_
    refine q_ldc2 (pc' := 44) dX8_usualWhole_41 kX8_132 rfl ?_
    refine q_lcmp (pc' := 45) dX8_usualWhole_44 rfl ?_
    refine q_if_neL (tgt := 52) (pc' := 48) dX8_usualWhole_45 (by decide) rfl (fun c_45 => ?_) (fun c_45 => ?_)
    · rw [if_neg (show ¬ g j = s_no from c_45)] at ho
      refine q_aload_n (pc' := 53) dX8_usualWhole_52 rfl rfl ?_
      refine q_iload_n (pc' := 54) dX8_usualWhole_53 rfl rfl ?_
      refine q_lload (pc' := 56) dX8_usualWhole_54 rfl rfl ?_
      refine h_callV (pc' := 59) (M' := mX8_countWhole) (As := [_, _]) dX8_usualWhole_56 iX8_countWhole lX8_210 rfl rfl rfl rfl (Nat.le_of_ble_eq_true rfl) (Nat.le_of_ble_eq_true rfl) rfl rfl (c_countWhole_194 hP hb hp h12) (fun r m' hq => ?_)
      obtain ⟨rfl, rfl⟩ := hq
      rw [show (fun i => decide (ws (bk * rl 0 + i) p = g j)) = (fun i => decide (g i = g j)) from funext fun i => by rw [hgi i], ho]
      refine q_istore (pc' := 61) (lv' := [_, _, _, _, _, _, _, _, _]) dX8_usualWhole_59 (by decide) rfl rfl ?_
      exact go
    · rw [if_pos (show g j = s_no from c_45)] at ho
      rw [← ho] at go
      refine q_iconst (pc' := 49) (v := nI 0) dX8_usualWhole_48 rfl rfl ?_
      refine q_goto (pc' := 59) dX8_usualWhole_49 (by decide) ?_
      refine q_istore (pc' := 61) (lv' := [_, _, _, _, _, _, _, _, _]) dX8_usualWhole_59 (by decide) rfl rfl ?_
      exact go
set_option maxHeartbeats 4000000 in
set_option maxRecDepth 20000 in
theorem c_total_194 {Z : q_Z} {m : q_Mm} {d : Nat} {n : Nat} {rl : Nat → Nat} {ys : Nat → Int64} {ws : Nat → Nat → Int64} {q : s_F} (hP : Pl m 194 n rl ys ws) (hF : Fiv m 194 q) : q_V (q_g Z) mX8_total (d+5) 0 0 0 [some (.ref (q_ad Z 194)), none, none] [] (q_W Z m) (q_P Z fun r m2 => r = some (.int (nI (s_sum (fun bk => (s_wf n rl ys ws q bk).2) (s_nb n rl)))) ∧ Fr [194, 199, 200, 201, 202] m m2 ∧ Kp 194 [11, 12, 13, 14, 15] m m2) := by
  have hr := hP.2.2.2.1
  have hnb := s_nb_le hr hP.2.1
  refine q_iconst (pc' := 1) (v := nI 0) dX8_total_0 rfl rfl ?_
  refine q_istore_n (pc' := 2) (lv' := [_, _, _]) dX8_total_1 (by decide) rfl rfl ?_
  refine q_iconst (pc' := 3) (v := nI 0) dX8_total_2 rfl rfl ?_
  refine q_istore_n (pc' := 4) (lv' := [_, _, _]) dX8_total_3 (by decide) rfl rfl ?_
  suffices h : ∀ c j (m1 : q_Mm), j + c = s_nb n rl → Fr [194, 199, 200, 201, 202] m m1 → Kp 194 [11, 12, 13, 14, 15] m m1 → q_V (q_g Z) mX8_total (d+5) 0 0 4 [some (.ref (q_ad Z 194)), some (.int (nI (s_sum (fun bk => (s_wf n rl ys ws q bk).2) j))), some (.int (nI j))] [] (q_W Z (m1)) (q_P Z fun r m2 => r = some (.int (nI (s_sum (fun bk => (s_wf n rl ys ws q bk).2) (s_nb n rl)))) ∧ Fr [194, 199, 200, 201, 202] m m2 ∧ Kp 194 [11, 12, 13, 14, 15] m m2) from h (s_nb n rl) 0 m (by omega) Fr.rf Kp.rf
  intro c
  induction c with
  | zero =>
    intro j m1 hj f1 k1
    have hP1 := hP.kp f1 k1 (by decide) (by decide) (by decide) (by decide) (by decide)
    refine q_iload_n (pc' := 5) dX8_total_4 rfl rfl ?_
    refine q_aload_n (pc' := 6) dX8_total_5 rfl rfl ?_
    refine h_callV (pc' := 9) (M' := mX8_blocks) (As := []) dX8_total_6 iX8_blocks lX8_100 rfl rfl rfl rfl (Nat.le_of_ble_eq_true rfl) (Nat.le_of_ble_eq_true rfl) rfl rfl (c_plBlocks_194 hP1) (fun r m' hq => ?_)
    obtain ⟨rfl, rfl⟩ := hq
    obtain rfl : s_nb n rl = j := by omega
    refine q_icmp_geN (tgt := 30) (pc' := 12) dX8_total_9 (by decide) rfl (by omega) (fun c_9 => ?_) (fun c_9 => ?_)
    · refine q_iload_n (pc' := 31) dX8_total_30 rfl rfl ?_
      refine q_iret dX8_total_31 rfl rfl ⟨_, rfl, rfl, f1, k1⟩
    · omega
  | succ c ih =>
    intro j m1 hj f1 k1
    have hP1 := hP.kp f1 k1 (by decide) (by decide) (by decide) (by decide) (by decide)
    have F1 := hF.fr f1 (k1 7 (by decide)) (by decide) (by decide)
    refine q_iload_n (pc' := 5) dX8_total_4 rfl rfl ?_
    refine q_aload_n (pc' := 6) dX8_total_5 rfl rfl ?_
    refine h_callV (pc' := 9) (M' := mX8_blocks) (As := []) dX8_total_6 iX8_blocks lX8_100 rfl rfl rfl rfl (Nat.le_of_ble_eq_true rfl) (Nat.le_of_ble_eq_true rfl) rfl rfl (c_plBlocks_194 hP1) (fun r m' hq => ?_)
    obtain ⟨rfl, rfl⟩ := hq
    refine q_icmp_geN (tgt := 30) (pc' := 12) dX8_total_9 (by decide) rfl (by omega) (fun c_9 => ?_) (fun c_9 => ?_)
    · omega
    refine q_aload_n (pc' := 13) dX8_total_12 rfl rfl ?_
    refine q_iload_n (pc' := 14) dX8_total_13 rfl rfl ?_
    refine h_callV (pc' := 17) (M' := mX8_weigh) (As := [_]) dX8_total_14 iX8_weigh lX8_207 rfl rfl rfl rfl (Nat.le_of_ble_eq_true rfl) (Nat.le_of_ble_eq_true rfl) rfl rfl (c_weigh_194 hP1 F1 (by omega)) (fun r m' hq => ?_)
    obtain ⟨rfl, f2, k2, W2, -, -⟩ := hq
    have ih := ih (j + 1) m' (by omega) (f1.trans f2) (k1.trans k2)
    refine q_iload_n (pc' := 18) dX8_total_17 rfl rfl ?_
    refine q_aload_n (pc' := 19) dX8_total_18 rfl rfl ?_
    refine h_getiE (pc' := 22) dX8_total_19 fX8_186 rfl rfl (W2.2.2.1) rfl ?_
    refine q_iaddN (pc' := 23) dX8_total_22 rfl ?_
    refine q_istore_n (pc' := 24) (lv' := [_, _, _]) dX8_total_23 (by decide) rfl rfl ?_
    refine q_iincN (pc' := 27) (j := 1) (lv' := [_, _, _]) dX8_total_24 rfl (by decide) rfl rfl ?_
    refine q_goto (pc' := 4) dX8_total_27 (by decide) ?_
    exact ih
set_option maxHeartbeats 4000000 in
set_option maxRecDepth 20000 in
theorem c_allExceptions_194 {Z : q_Z} {m : q_Mm} {d : Nat} {n : Nat} {rl : Nat → Nat} {ys : Nat → Int64} {ws : Nat → Nat → Int64} {q : s_F} (hP : Pl m 194 n rl ys ws) (hF : Fiv m 194 q) : q_V (q_g Z) mX8_allExceptions (d+5) 0 0 0 [some (.ref (q_ad Z 194)), none, none] [] (q_W Z m) (q_P Z fun r m2 => r = some (.int (nI (s_sum (fun bk => s_cnt (s_ex n rl ys ws (s_wp n rl ws q bk) bk (s_wf n rl ys ws q bk).1) (s_sz n rl bk)) (s_nb n rl)))) ∧ Fr [194, 199, 200, 201, 202] m m2 ∧ Kp 194 [11, 12, 13, 14, 15] m m2) := by
  have hr := hP.2.2.2.1
  have hnb := s_nb_le hr hP.2.1
  refine q_iconst (pc' := 1) (v := nI 0) dX8_allExceptions_0 rfl rfl ?_
  refine q_istore_n (pc' := 2) (lv' := [_, _, _]) dX8_allExceptions_1 (by decide) rfl rfl ?_
  refine q_iconst (pc' := 3) (v := nI 0) dX8_allExceptions_2 rfl rfl ?_
  refine q_istore_n (pc' := 4) (lv' := [_, _, _]) dX8_allExceptions_3 (by decide) rfl rfl ?_
  suffices h : ∀ c j (m1 : q_Mm), j + c = s_nb n rl → Fr [194, 199, 200, 201, 202] m m1 → Kp 194 [11, 12, 13, 14, 15] m m1 → q_V (q_g Z) mX8_allExceptions (d+5) 0 0 4 [some (.ref (q_ad Z 194)), some (.int (nI (s_sum (fun bk => s_cnt (s_ex n rl ys ws (s_wp n rl ws q bk) bk (s_wf n rl ys ws q bk).1) (s_sz n rl bk)) j))), some (.int (nI j))] [] (q_W Z (m1)) (q_P Z fun r m2 => r = some (.int (nI (s_sum (fun bk => s_cnt (s_ex n rl ys ws (s_wp n rl ws q bk) bk (s_wf n rl ys ws q bk).1) (s_sz n rl bk)) (s_nb n rl)))) ∧ Fr [194, 199, 200, 201, 202] m m2 ∧ Kp 194 [11, 12, 13, 14, 15] m m2) from h (s_nb n rl) 0 m (by omega) Fr.rf Kp.rf
  intro c
  induction c with
  | zero =>
    intro j m1 hj f1 k1
    have hP1 := hP.kp f1 k1 (by decide) (by decide) (by decide) (by decide) (by decide)
    refine q_iload_n (pc' := 5) dX8_allExceptions_4 rfl rfl ?_
    refine q_aload_n (pc' := 6) dX8_allExceptions_5 rfl rfl ?_
    refine h_callV (pc' := 9) (M' := mX8_blocks) (As := []) dX8_allExceptions_6 iX8_blocks lX8_100 rfl rfl rfl rfl (Nat.le_of_ble_eq_true rfl) (Nat.le_of_ble_eq_true rfl) rfl rfl (c_plBlocks_194 hP1) (fun r m' hq => ?_)
    obtain ⟨rfl, rfl⟩ := hq
    obtain rfl : s_nb n rl = j := by omega
    refine q_icmp_geN (tgt := 33) (pc' := 12) dX8_allExceptions_9 (by decide) rfl (by omega) (fun c_9 => ?_) (fun c_9 => ?_)
    · refine q_iload_n (pc' := 34) dX8_allExceptions_33 rfl rfl ?_
      refine q_iret dX8_allExceptions_34 rfl rfl ⟨_, rfl, rfl, f1, k1⟩
    · omega
  | succ c ih =>
    intro j m1 hj f1 k1
    have hP1 := hP.kp f1 k1 (by decide) (by decide) (by decide) (by decide) (by decide)
    have F1 := hF.fr f1 (k1 7 (by decide)) (by decide) (by decide)
    refine q_iload_n (pc' := 5) dX8_allExceptions_4 rfl rfl ?_
    refine q_aload_n (pc' := 6) dX8_allExceptions_5 rfl rfl ?_
    refine h_callV (pc' := 9) (M' := mX8_blocks) (As := []) dX8_allExceptions_6 iX8_blocks lX8_100 rfl rfl rfl rfl (Nat.le_of_ble_eq_true rfl) (Nat.le_of_ble_eq_true rfl) rfl rfl (c_plBlocks_194 hP1) (fun r m' hq => ?_)
    obtain ⟨rfl, rfl⟩ := hq
    refine q_icmp_geN (tgt := 33) (pc' := 12) dX8_allExceptions_9 (by decide) rfl (by omega) (fun c_9 => ?_) (fun c_9 => ?_)
    · omega
    refine q_aload_n (pc' := 13) dX8_allExceptions_12 rfl rfl ?_
    refine q_iload_n (pc' := 14) dX8_allExceptions_13 rfl rfl ?_
    refine h_callV (pc' := 17) (M' := mX8_weigh) (As := [_]) dX8_allExceptions_14 iX8_weigh lX8_207 rfl rfl rfl rfl (Nat.le_of_ble_eq_true rfl) (Nat.le_of_ble_eq_true rfl) rfl rfl (c_weigh_194 hP1 F1 (by omega)) (fun r m' hq => ?_)
    obtain ⟨rfl, f2, k2, W2, -, -⟩ := hq
    have ih := ih (j + 1) m' (by omega) (f1.trans f2) (k1.trans k2)
    refine q_iload_n (pc' := 18) dX8_allExceptions_17 rfl rfl ?_
    refine q_aload_n (pc' := 19) dX8_allExceptions_18 rfl rfl ?_
    refine h_getiE (pc' := 22) dX8_allExceptions_19 fX8_189 rfl rfl (W2.2.2.2) rfl ?_
    refine h_callS (pc' := 25) (M' := mJ6_bitCount_0f7a4) (As := [_]) dX8_allExceptions_22 iJ6_bitCount_0f7a4 lX8_172 rfl rfl (Nat.le_of_ble_eq_true rfl) (Nat.le_of_ble_eq_true rfl) rfl rfl (c_bitCount) (fun r m' hq => ?_)
    obtain ⟨rfl, rfl⟩ := hq
    rw [s_bc_mk (s_sz16 hr j)]
    refine q_iaddN (pc' := 26) dX8_allExceptions_25 rfl ?_
    refine q_istore_n (pc' := 27) (lv' := [_, _, _]) dX8_allExceptions_26 (by decide) rfl rfl ?_
    refine q_iincN (pc' := 30) (j := 1) (lv' := [_, _, _]) dX8_allExceptions_27 rfl (by decide) rfl rfl ?_
    refine q_goto (pc' := 4) dX8_allExceptions_30 (by decide) ?_
    exact ih
set_option maxHeartbeats 4000000 in
set_option maxRecDepth 20000 in
theorem c_blocksOf_194 {Z : q_Z} {m : q_Mm} {d : Nat} {n f : Nat} {rl : Nat → Nat} {ys : Nat → Int64} {ws : Nat → Nat → Int64} {q : s_F} (hP : Pl m 194 n rl ys ws) (hF : Fiv m 194 q) (hf : f ≤ 2) : q_V (q_g Z) mX8_blocksOf (d+5) 0 0 0 [some (.ref (q_ad Z 194)), some (.int (nI f)), none, none] [] (q_W Z m) (q_P Z fun r m2 => r = some (.int (nI (s_sum (fun bk => if (s_wf n rl ys ws q bk).1 = f then 1 else 0) (s_nb n rl)))) ∧ Fr [194, 199, 200, 201, 202] m m2 ∧ Kp 194 [11, 12, 13, 14, 15] m m2) := by
  have hr := hP.2.2.2.1
  have hnb := s_nb_le hr hP.2.1
  refine q_iconst (pc' := 1) (v := nI 0) dX8_blocksOf_0 rfl rfl ?_
  refine q_istore_n (pc' := 2) (lv' := [_, _, _, _]) dX8_blocksOf_1 (by decide) rfl rfl ?_
  refine q_iconst (pc' := 3) (v := nI 0) dX8_blocksOf_2 rfl rfl ?_
  refine q_istore_n (pc' := 4) (lv' := [_, _, _, _]) dX8_blocksOf_3 (by decide) rfl rfl ?_
  suffices h : ∀ c j (m1 : q_Mm), j + c = s_nb n rl → Fr [194, 199, 200, 201, 202] m m1 → Kp 194 [11, 12, 13, 14, 15] m m1 → q_V (q_g Z) mX8_blocksOf (d+5) 0 0 4 [some (.ref (q_ad Z 194)), some (.int (nI f)), some (.int (nI (s_sum (fun bk => if (s_wf n rl ys ws q bk).1 = f then 1 else 0) j))), some (.int (nI j))] [] (q_W Z (m1)) (q_P Z fun r m2 => r = some (.int (nI (s_sum (fun bk => if (s_wf n rl ys ws q bk).1 = f then 1 else 0) (s_nb n rl)))) ∧ Fr [194, 199, 200, 201, 202] m m2 ∧ Kp 194 [11, 12, 13, 14, 15] m m2) from h (s_nb n rl) 0 m (by omega) Fr.rf Kp.rf
  intro c
  induction c with
  | zero =>
    intro j m1 hj f1 k1
    have hP1 := hP.kp f1 k1 (by decide) (by decide) (by decide) (by decide) (by decide)
    refine q_iload_n (pc' := 5) dX8_blocksOf_4 rfl rfl ?_
    refine q_aload_n (pc' := 6) dX8_blocksOf_5 rfl rfl ?_
    refine h_callV (pc' := 9) (M' := mX8_blocks) (As := []) dX8_blocksOf_6 iX8_blocks lX8_100 rfl rfl rfl rfl (Nat.le_of_ble_eq_true rfl) (Nat.le_of_ble_eq_true rfl) rfl rfl (c_plBlocks_194 hP1) (fun r m' hq => ?_)
    obtain ⟨rfl, rfl⟩ := hq
    obtain rfl : s_nb n rl = j := by omega
    refine q_icmp_geN (tgt := 39) (pc' := 12) dX8_blocksOf_9 (by decide) rfl (by omega) (fun c_9 => ?_) (fun c_9 => ?_)
    · refine q_iload_n (pc' := 40) dX8_blocksOf_39 rfl rfl ?_
      refine q_iret dX8_blocksOf_40 rfl rfl ⟨_, rfl, rfl, f1, k1⟩
    · omega
  | succ c ih =>
    intro j m1 hj f1 k1
    have hP1 := hP.kp f1 k1 (by decide) (by decide) (by decide) (by decide) (by decide)
    have F1 := hF.fr f1 (k1 7 (by decide)) (by decide) (by decide)
    refine q_iload_n (pc' := 5) dX8_blocksOf_4 rfl rfl ?_
    refine q_aload_n (pc' := 6) dX8_blocksOf_5 rfl rfl ?_
    refine h_callV (pc' := 9) (M' := mX8_blocks) (As := []) dX8_blocksOf_6 iX8_blocks lX8_100 rfl rfl rfl rfl (Nat.le_of_ble_eq_true rfl) (Nat.le_of_ble_eq_true rfl) rfl rfl (c_plBlocks_194 hP1) (fun r m' hq => ?_)
    obtain ⟨rfl, rfl⟩ := hq
    refine q_icmp_geN (tgt := 39) (pc' := 12) dX8_blocksOf_9 (by decide) rfl (by omega) (fun c_9 => ?_) (fun c_9 => ?_)
    · omega
    refine q_aload_n (pc' := 13) dX8_blocksOf_12 rfl rfl ?_
    refine q_iload_n (pc' := 14) dX8_blocksOf_13 rfl rfl ?_
    refine h_callV (pc' := 17) (M' := mX8_weigh) (As := [_]) dX8_blocksOf_14 iX8_weigh lX8_207 rfl rfl rfl rfl (Nat.le_of_ble_eq_true rfl) (Nat.le_of_ble_eq_true rfl) rfl rfl (c_weigh_194 hP1 F1 (by omega)) (fun r m' hq => ?_)
    obtain ⟨rfl, f2, k2, W2, -, -⟩ := hq
    have ih := ih (j + 1) m' (by omega) (f1.trans f2) (k1.trans k2)
    have hw := (s_wf_le (n := n) hr ys ws q (bk := j)).1
    refine q_iload_n (pc' := 18) dX8_blocksOf_17 rfl rfl ?_
    refine q_aload_n (pc' := 19) dX8_blocksOf_18 rfl rfl ?_
    refine h_getiE (pc' := 22) dX8_blocksOf_19 fX8_180 rfl rfl (W2.2.1) rfl ?_
    refine q_iload_n (pc' := 23) dX8_blocksOf_22 rfl rfl ?_
    refine q_icmp_neN (tgt := 30) (pc' := 26) dX8_blocksOf_23 (by decide) rfl (by omega) (fun c_23 => ?_) (fun c_23 => ?_)
    · have e : s_sum (fun bk => if (s_wf n rl ys ws q bk).1 = f then 1 else 0) (j + 1) = s_sum (fun bk => if (s_wf n rl ys ws q bk).1 = f then 1 else 0) j + 0 := by rw [s_sum]; simp only [if_neg c_23]
      rw [e] at ih
      refine q_iconst (pc' := 31) (v := nI 0) dX8_blocksOf_30 rfl rfl ?_
      refine q_iaddN (pc' := 32) dX8_blocksOf_31 rfl ?_
      refine q_istore_n (pc' := 33) (lv' := [_, _, _, _]) dX8_blocksOf_32 (by decide) rfl rfl ?_
      refine q_iincN (pc' := 36) (j := 1) (lv' := [_, _, _, _]) dX8_blocksOf_33 rfl (by decide) rfl rfl ?_
      refine q_goto (pc' := 4) dX8_blocksOf_36 (by decide) ?_
      exact ih
    · have e : s_sum (fun bk => if (s_wf n rl ys ws q bk).1 = f then 1 else 0) (j + 1) = s_sum (fun bk => if (s_wf n rl ys ws q bk).1 = f then 1 else 0) j + 1 := by rw [s_sum]; simp only [if_pos c_23]
      rw [e] at ih
      refine q_iconst (pc' := 27) (v := nI 1) dX8_blocksOf_26 rfl rfl ?_
      refine q_goto (pc' := 31) dX8_blocksOf_27 (by decide) ?_
      refine q_iaddN (pc' := 32) dX8_blocksOf_31 rfl ?_
      refine q_istore_n (pc' := 33) (lv' := [_, _, _, _]) dX8_blocksOf_32 (by decide) rfl rfl ?_
      refine q_iincN (pc' := 36) (j := 1) (lv' := [_, _, _, _]) dX8_blocksOf_33 rfl (by decide) rfl rfl ?_
      refine q_goto (pc' := 4) dX8_blocksOf_36 (by decide) ?_
      exact ih
set_option maxHeartbeats 4000000 in
set_option maxRecDepth 20000 in
theorem c_unlikeParts_194 {Z : q_Z} {m : q_Mm} {d : Nat} {n : Nat} {rl : Nat → Nat} {ys : Nat → Int64} {ws : Nat → Nat → Int64} (hP : Pl m 194 n rl ys ws) : q_V (q_g Z) mX8_unlikeParts (d+2) 0 0 0 [some (.ref (q_ad Z 194)), none, none, none] [] (q_W Z m) (q_P Z fun r m2 => r = some (.int (nI (s_cnt (fun i => decide (s_find (fun j => decide (s_part (ys j) (rl 3) = s_part (ys i) (rl 3))) i 0 = i)) n))) ∧ m2 = m) := by
  have hn := hP.2.1
  refine q_iconst (pc' := 1) (v := nI 0) dX8_unlikeParts_0 rfl rfl ?_
  refine q_istore_n (pc' := 2) (lv' := [_, _, _, _]) dX8_unlikeParts_1 (by decide) rfl rfl ?_
  refine q_iconst (pc' := 3) (v := nI 0) dX8_unlikeParts_2 rfl rfl ?_
  refine q_istore_n (pc' := 4) (lv' := [_, _, _, _]) dX8_unlikeParts_3 (by decide) rfl rfl ?_
  suffices h : ∀ c j w, j + c = n → q_V (q_g Z) mX8_unlikeParts (d+2) 0 0 4 [some (.ref (q_ad Z 194)), some (.int (nI (s_cnt (fun i => decide (s_find (fun j => decide (s_part (ys j) (rl 3) = s_part (ys i) (rl 3))) i 0 = i)) j))), some (.int (nI j)), w] [] (q_W Z (m)) (q_P Z fun r m2 => r = some (.int (nI (s_cnt (fun i => decide (s_find (fun j => decide (s_part (ys j) (rl 3) = s_part (ys i) (rl 3))) i 0 = i)) n))) ∧ m2 = m) from h n 0 _ (by omega)
  intro c
  induction c with
  | zero =>
    intro j w hj
    obtain rfl : n = j := by omega
    refine q_iload_n (pc' := 5) dX8_unlikeParts_4 rfl rfl ?_
    refine q_aload_n (pc' := 6) dX8_unlikeParts_5 rfl rfl ?_
    refine h_getiE (pc' := 9) dX8_unlikeParts_6 fX8_55 rfl rfl (hP.1) rfl ?_
    refine q_icmp_geN (tgt := 57) (pc' := 12) dX8_unlikeParts_9 (by decide) rfl (by omega) (fun c_9 => ?_) (fun c_9 => ?_)
    · refine q_iload_n (pc' := 58) dX8_unlikeParts_57 rfl rfl ?_
      refine q_iret dX8_unlikeParts_58 rfl rfl ⟨_, rfl, rfl, rfl⟩
    · omega
  | succ c ih =>
    intro j w hj
    refine q_iload_n (pc' := 5) dX8_unlikeParts_4 rfl rfl ?_
    refine q_aload_n (pc' := 6) dX8_unlikeParts_5 rfl rfl ?_
    refine h_getiE (pc' := 9) dX8_unlikeParts_6 fX8_55 rfl rfl (hP.1) rfl ?_
    refine q_icmp_geN (tgt := 57) (pc' := 12) dX8_unlikeParts_9 (by decide) rfl (by omega) (fun c_9 => ?_) (fun c_9 => ?_)
    · omega
    refine q_iconst (pc' := 13) (v := nI 0) dX8_unlikeParts_12 rfl rfl ?_
    refine q_istore_n (pc' := 14) (lv' := [_, _, _, _]) dX8_unlikeParts_13 (by decide) rfl rfl ?_
    have fin : ∀ k, k = s_find (fun i => decide (s_part (ys i) (rl 3) = s_part (ys j) (rl 3))) j 0 → k ≤ j → q_V (q_g Z) mX8_unlikeParts (d+2) 0 0 38 [some (.ref (q_ad Z 194)), some (.int (nI (s_cnt (fun i => decide (s_find (fun j => decide (s_part (ys j) (rl 3) = s_part (ys i) (rl 3))) i 0 = i)) j))), some (.int (nI j)), some (.int (nI k))] [] (q_W Z (m)) (q_P Z fun r m2 => r = some (.int (nI (s_cnt (fun i => decide (s_find (fun j => decide (s_part (ys j) (rl 3) = s_part (ys i) (rl 3))) i 0 = i)) n))) ∧ m2 = m) := by
      intro k hk hkj
      have ih := ih (j + 1) (some (.int (nI k))) (by omega)
      refine q_iload_n (pc' := 39) dX8_unlikeParts_38 rfl rfl ?_
      refine q_iload_n (pc' := 40) dX8_unlikeParts_39 rfl rfl ?_
      refine q_iload_n (pc' := 41) dX8_unlikeParts_40 rfl rfl ?_
      refine q_icmp_neN (tgt := 48) (pc' := 44) dX8_unlikeParts_41 (by decide) rfl (by omega) (fun c_41 => ?_) (fun c_41 => ?_)
      · rw [s_cnt_f (decide_eq_false (fun z => c_41 (hk.trans z)))] at ih
        refine q_iconst (pc' := 49) (v := nI 0) dX8_unlikeParts_48 rfl rfl ?_
        refine q_iaddN (pc' := 50) dX8_unlikeParts_49 rfl ?_
        refine q_istore_n (pc' := 51) (lv' := [_, _, _, _]) dX8_unlikeParts_50 (by decide) rfl rfl ?_
        refine q_iincN (pc' := 54) (j := 1) (lv' := [_, _, _, _]) dX8_unlikeParts_51 rfl (by decide) rfl rfl ?_
        refine q_goto (pc' := 4) dX8_unlikeParts_54 (by decide) ?_
        exact ih
      · rw [s_cnt_t (decide_eq_true (hk.symm.trans c_41))] at ih
        refine q_iconst (pc' := 45) (v := nI 1) dX8_unlikeParts_44 rfl rfl ?_
        refine q_goto (pc' := 49) dX8_unlikeParts_45 (by decide) ?_
        refine q_iaddN (pc' := 50) dX8_unlikeParts_49 rfl ?_
        refine q_istore_n (pc' := 51) (lv' := [_, _, _, _]) dX8_unlikeParts_50 (by decide) rfl rfl ?_
        refine q_iincN (pc' := 54) (j := 1) (lv' := [_, _, _, _]) dX8_unlikeParts_51 rfl (by decide) rfl rfl ?_
        refine q_goto (pc' := 4) dX8_unlikeParts_54 (by decide) ?_
        exact ih
    suffices h : ∀ g k, k + g = j → s_find (fun i => decide (s_part (ys i) (rl 3) = s_part (ys j) (rl 3))) g k = s_find (fun i => decide (s_part (ys i) (rl 3) = s_part (ys j) (rl 3))) j 0 → q_V (q_g Z) mX8_unlikeParts (d+2) 0 0 14 [some (.ref (q_ad Z 194)), some (.int (nI (s_cnt (fun i => decide (s_find (fun j => decide (s_part (ys j) (rl 3) = s_part (ys i) (rl 3))) i 0 = i)) j))), some (.int (nI j)), some (.int (nI k))] [] (q_W Z (m)) (q_P Z fun r m2 => r = some (.int (nI (s_cnt (fun i => decide (s_find (fun j => decide (s_part (ys j) (rl 3) = s_part (ys i) (rl 3))) i 0 = i)) n))) ∧ m2 = m) from h j 0 (by omega) rfl
    intro g
    induction g with
    | zero =>
      intro k hk hs
      refine q_iload_n (pc' := 15) dX8_unlikeParts_14 rfl rfl ?_
      refine q_iload_n (pc' := 16) dX8_unlikeParts_15 rfl rfl ?_
      refine q_icmp_geN (tgt := 38) (pc' := 19) dX8_unlikeParts_16 (by decide) rfl (by omega) (fun c_16 => ?_) (fun c_16 => ?_)
      · exact fin k hs (by omega)
      · omega
    | succ g ihg =>
      intro k hk hs
      rw [s_find_succ] at hs
      refine q_iload_n (pc' := 15) dX8_unlikeParts_14 rfl rfl ?_
      refine q_iload_n (pc' := 16) dX8_unlikeParts_15 rfl rfl ?_
      refine q_icmp_geN (tgt := 38) (pc' := 19) dX8_unlikeParts_16 (by decide) rfl (by omega) (fun c_16 => ?_) (fun c_16 => ?_)
      · omega
      refine q_aload_n (pc' := 20) dX8_unlikeParts_19 rfl rfl ?_
      refine q_iload_n (pc' := 21) dX8_unlikeParts_20 rfl rfl ?_
      refine h_callV (pc' := 24) (M' := mX8_partAt) (As := [_]) dX8_unlikeParts_21 iX8_partAt lX8_150 rfl rfl rfl rfl (Nat.le_of_ble_eq_true rfl) (Nat.le_of_ble_eq_true rfl) rfl rfl (c_partAt_194 hP (by omega)) (fun r m' hq => ?_)
      obtain ⟨rfl, rfl⟩ := hq
      refine q_aload_n (pc' := 25) dX8_unlikeParts_24 rfl rfl ?_
      refine q_iload_n (pc' := 26) dX8_unlikeParts_25 rfl rfl ?_
      refine h_callV (pc' := 29) (M' := mX8_partAt) (As := [_]) dX8_unlikeParts_26 iX8_partAt lX8_150 rfl rfl rfl rfl (Nat.le_of_ble_eq_true rfl) (Nat.le_of_ble_eq_true rfl) rfl rfl (c_partAt_194 hP (by omega)) (fun r m' hq => ?_)
      obtain ⟨rfl, rfl⟩ := hq
      refine q_icmp_eq (tgt := 38) (pc' := 32) dX8_unlikeParts_29 (by decide) rfl (fun c_29 => ?_) (fun c_29 => ?_)
      · rw [if_pos (decide_eq_true c_29)] at hs
        exact fin k hs (by omega)
      · rw [if_neg (by simpa using c_29)] at hs
        refine q_iincN (pc' := 35) (j := 1) (lv' := [_, _, _, _]) dX8_unlikeParts_32 rfl (by decide) rfl rfl ?_
        refine q_goto (pc' := 14) dX8_unlikeParts_35 (by decide) ?_
        exact ihg (k + 1) (by omega) hs
set_option maxHeartbeats 4000000 in
set_option maxRecDepth 20000 in
theorem c_lay_194 {Z : q_Z} {m : q_Mm} {d : Nat} {n k : Nat} {rl : Nat → Nat} {xs : Nat → Int64} {nt : Nat → Int32} {ws : Nat → Nat → Int64} (hC : Col m 19 n k xs rl nt) (hw : ∀ i, i < n → ∀ p, p < 120 → m.2.2.2.1 193 (i * 120 + p) = ws i p) : q_V (q_g Z) mX8_lay (d+1) 0 0 0 [some (.ref (q_ad Z 194)), none] [] (q_W Z m) (q_P Z fun r m2 => r = none ∧ Fr [194, 195, 196] m m2 ∧ Kp 194 [4] m m2 ∧ PlI m2 194 n rl xs ws) := by
  obtain ⟨hn, hk, hn6, hk6, hx, hr, hnt, hok⟩ := hC
  refine q_aload_n (pc' := 1) dX8_lay_0 rfl rfl ?_
  refine h_getr (pc' := 4) dX8_lay_1 fX8_35 rfl rfl rfl ?_
  refine h_getr (pc' := 7) dX8_lay_4 fX8_42 rfl rfl rfl ?_
  refine q_iconst (pc' := 8) (v := nI 0) dX8_lay_7 rfl rfl ?_
  refine q_aload_n (pc' := 9) dX8_lay_8 rfl rfl ?_
  refine h_getr (pc' := 12) dX8_lay_9 fX8_9 rfl rfl rfl ?_
  refine q_iconst (pc' := 13) (v := nI 0) dX8_lay_12 rfl rfl ?_
  refine q_iconst (pc' := 14) (v := nI 5) dX8_lay_13 rfl rfl ?_
  refine h_copyi (pc' := 17) dX8_lay_14 lX8_45 cp_n cp_s cp_i rfl rfl (rfl) (rfl) (rfl) (by omega) (by omega) (by decide) (Nat.le_of_ble_eq_true rfl) rfl ?_
  refine q_aload_n (pc' := 18) dX8_lay_17 rfl rfl ?_
  refine q_aload_n (pc' := 19) dX8_lay_18 rfl rfl ?_
  refine h_getr (pc' := 22) dX8_lay_19 fX8_35 rfl rfl rfl ?_
  refine h_getiE (pc' := 25) dX8_lay_22 fX8_51 rfl rfl (hn) rfl ?_
  refine h_puti (pc' := 28) dX8_lay_25 fX8_55 rfl rfl rfl rfl rfl ?_
  refine q_iconst (pc' := 29) (v := nI 0) dX8_lay_28 rfl rfl ?_
  refine q_istore_n (pc' := 30) (lv' := [_, _]) dX8_lay_29 (by decide) rfl rfl ?_
  suffices h : ∀ c j (m1 : q_Mm), j + c = n → Fr [194, 195, 196] m m1 → Kp 194 [4] m m1 → m1.1 194 4 = nI n → (∀ i, i < 5 → m1.2.2.1 195 i = nI (rl i)) → (∀ i, i < j → m1.2.2.1 196 i = nI i) → q_V (q_g Z) mX8_lay (d+1) 0 0 30 [some (.ref (q_ad Z 194)), some (.int (nI j))] [] (q_W Z (m1)) (q_P Z fun r m2 => r = none ∧ Fr [194, 195, 196] m m2 ∧ Kp 194 [4] m m2 ∧ PlI m2 194 n rl xs ws) from by
    refine h n 0 _ (by omega) ((Fr.rf.A (by decide)).I (by decide)) ?_ rfl (fun i hi => ?_) (fun i hi => absurd hi (Nat.not_lt_zero i))
    · intro j hj
      exact q_u_n _ _ (by simpa using hj)
    · show va_cpy (m.2.2.1 21) (m.2.2.1 195) 0 0 5 i = nI (rl i)
      rw [cpy_in _ _ (Nat.zero_le _) (by omega)]
      simpa using hr i hi
  intro c
  induction c with
  | zero =>
    intro j m1 hj f1 k1 e4 e5 e6
    obtain rfl : n = j := by omega
    refine q_iload_n (pc' := 31) dX8_lay_30 rfl rfl ?_
    refine q_aload_n (pc' := 32) dX8_lay_31 rfl rfl ?_
    refine h_getiE (pc' := 35) dX8_lay_32 fX8_55 rfl rfl (e4) rfl ?_
    refine q_icmp_geN (tgt := 51) (pc' := 38) dX8_lay_35 (by decide) rfl (by omega) (fun c_35 => ?_) (fun c_35 => ?_)
    · refine q_vret dX8_lay_51 rfl ⟨_, rfl, rfl, f1, k1, ⟨e4, hn6, e5, hok, fun i hi => ⟨e6 i hi, (congrFun (f1.l (by decide)) i).trans (hx i hi), fun p hp => (congrFun (f1.l (by decide)) _).trans (hw i hi p hp)⟩⟩⟩
    · omega
  | succ c ih =>
    intro j m1 hj f1 k1 e4 e5 e6
    refine q_iload_n (pc' := 31) dX8_lay_30 rfl rfl ?_
    refine q_aload_n (pc' := 32) dX8_lay_31 rfl rfl ?_
    refine h_getiE (pc' := 35) dX8_lay_32 fX8_55 rfl rfl (e4) rfl ?_
    refine q_icmp_geN (tgt := 51) (pc' := 38) dX8_lay_35 (by decide) rfl (by omega) (fun c_35 => ?_) (fun c_35 => ?_)
    · omega
    refine q_aload_n (pc' := 39) dX8_lay_38 rfl rfl ?_
    refine h_getr (pc' := 42) dX8_lay_39 fX8_15 rfl rfl rfl ?_
    refine q_iload_n (pc' := 43) dX8_lay_42 rfl rfl ?_
    refine q_iload_n (pc' := 44) dX8_lay_43 rfl rfl ?_
    refine h_iast (pc' := 45) dX8_lay_44 rfl (rfl) (by omega) (by decide) rfl ?_
    refine q_iincN (pc' := 48) (j := 1) (lv' := [_, _]) dX8_lay_45 rfl (by decide) rfl rfl ?_
    refine q_goto (pc' := 30) dX8_lay_48 (by decide) ?_
    refine ih (j + 1) _ (by omega) (f1.A (by decide)) k1 e4 e5 (fun i hi => ?_)
    show q_u (m1.2.2.1 196) j (nI j) i = nI i
    by_cases h : i = j
    · rw [h, q_u_s]
    · rw [q_u_n _ _ h]
      exact e6 i (by omega)
set_option maxHeartbeats 4000000 in
set_option maxRecDepth 20000 in
theorem c_leaveOut_194 {Z : q_Z} {m : q_Mm} {d : Nat} {n pl : Nat} {rl : Nat → Nat} {xs : Nat → Int64} {ws : Nat → Nat → Int64} (hP : PlI m 194 n rl xs ws) (hpl : pl < n) : q_V (q_g Z) mX8_leaveOut (d) 0 0 0 [some (.ref (q_ad Z 194)), some (.int (nI pl)), none] [] (q_W Z m) (q_P Z fun r m2 => r = none ∧ Fr [194, 196] m m2 ∧ Kp 194 [4] m m2 ∧ Pl m2 194 (n - 1) rl (fun i => xs (if i < pl then i else i + 1)) (fun i => ws (if i < pl then i else i + 1))) := by
  obtain ⟨h1, h2, h3, h4, h5⟩ := hP
  refine q_aload_n (pc' := 1) dX8_leaveOut_0 rfl rfl ?_
  refine q_dup (pc' := 2) dX8_leaveOut_1 rfl rfl ?_
  refine h_getiE (pc' := 5) dX8_leaveOut_2 fX8_55 rfl rfl (h1) rfl ?_
  refine q_iconst (pc' := 6) (v := nI 1) dX8_leaveOut_5 rfl rfl ?_
  refine q_isubN (pc' := 7) dX8_leaveOut_6 (by omega) rfl ?_
  refine h_puti (pc' := 10) dX8_leaveOut_7 fX8_55 rfl rfl rfl rfl rfl ?_
  refine q_iload_n (pc' := 11) dX8_leaveOut_10 rfl rfl ?_
  refine q_istore_n (pc' := 12) (lv' := [_, _, _]) dX8_leaveOut_11 (by decide) rfl rfl ?_
  suffices h : ∀ c j (m1 : q_Mm), j + c = n - 1 → pl ≤ j → Fr [194, 196] m m1 → Kp 194 [4] m m1 → m1.1 194 4 = nI (n - 1) → (∀ i, i < j → m1.2.2.1 196 i = nI (if i < pl then i else i + 1)) → q_V (q_g Z) mX8_leaveOut (d) 0 0 12 [some (.ref (q_ad Z 194)), some (.int (nI pl)), some (.int (nI j))] [] (q_W Z (m1)) (q_P Z fun r m2 => r = none ∧ Fr [194, 196] m m2 ∧ Kp 194 [4] m m2 ∧ Pl m2 194 (n - 1) rl (fun i => xs (if i < pl then i else i + 1)) (fun i => ws (if i < pl then i else i + 1))) from by
    refine h (n - 1 - pl) pl _ (by omega) (Nat.le_refl _) (Fr.rf.I (by decide)) ?_ rfl (fun i hi => ?_)
    · intro j hj
      exact q_u_n _ _ (by simpa using hj)
    · rw [if_pos hi]
      exact (h5 i (by omega)).1
  intro c
  induction c with
  | zero =>
    intro j m1 hj hpj f1 k1 e4 e6
    obtain rfl : n - 1 = j := by omega
    refine q_iload_n (pc' := 13) dX8_leaveOut_12 rfl rfl ?_
    refine q_aload_n (pc' := 14) dX8_leaveOut_13 rfl rfl ?_
    refine h_getiE (pc' := 17) dX8_leaveOut_14 fX8_55 rfl rfl (e4) rfl ?_
    refine q_icmp_geN (tgt := 35) (pc' := 20) dX8_leaveOut_17 (by decide) rfl (by omega) (fun c_17 => ?_) (fun c_17 => ?_)
    · refine q_vret dX8_leaveOut_35 rfl ⟨_, rfl, rfl, f1, k1, ⟨e4, by omega, fun i hi => (congrFun (f1.a (by decide)) i).trans (h3 i hi), h4, fun i hi => ?_⟩⟩
      have hk : (if i < pl then i else i + 1) < n := by split <;> omega
      exact ⟨_, by omega, e6 i hi, (congrFun (f1.l (by decide)) _).trans (h5 _ hk).2.1, fun p hp => (congrFun (f1.l (by decide)) _).trans ((h5 _ hk).2.2 p hp)⟩
    · omega
  | succ c ih =>
    intro j m1 hj hpj f1 k1 e4 e6
    refine q_iload_n (pc' := 13) dX8_leaveOut_12 rfl rfl ?_
    refine q_aload_n (pc' := 14) dX8_leaveOut_13 rfl rfl ?_
    refine h_getiE (pc' := 17) dX8_leaveOut_14 fX8_55 rfl rfl (e4) rfl ?_
    refine q_icmp_geN (tgt := 35) (pc' := 20) dX8_leaveOut_17 (by decide) rfl (by omega) (fun c_17 => ?_) (fun c_17 => ?_)
    · omega
    refine q_aload_n (pc' := 21) dX8_leaveOut_20 rfl rfl ?_
    refine h_getr (pc' := 24) dX8_leaveOut_21 fX8_15 rfl rfl rfl ?_
    refine q_iload_n (pc' := 25) dX8_leaveOut_24 rfl rfl ?_
    refine q_iload_n (pc' := 26) dX8_leaveOut_25 rfl rfl ?_
    refine q_iconst (pc' := 27) (v := nI 1) dX8_leaveOut_26 rfl rfl ?_
    refine q_iaddN (pc' := 28) dX8_leaveOut_27 rfl ?_
    refine h_iast (pc' := 29) dX8_leaveOut_28 rfl (rfl) (by omega) (by decide) rfl ?_
    refine q_iincN (pc' := 32) (j := 1) (lv' := [_, _, _]) dX8_leaveOut_29 rfl (by decide) rfl rfl ?_
    refine q_goto (pc' := 12) dX8_leaveOut_32 (by decide) ?_
    refine ih (j + 1) _ (by omega) (by omega) (f1.A (by decide)) k1 e4 (fun i hi => ?_)
    show q_u (m1.2.2.1 196) j (nI (j + 1)) i = nI _
    by_cases h : i = j
    · rw [h, q_u_s, if_neg (by omega)]
    · rw [q_u_n _ _ h]
      exact e6 i (by omega)
set_option maxHeartbeats 4000000 in
set_option maxRecDepth 20000 in
theorem c_isException_203 {Z : q_Z} {m : q_Mm} {d : Nat} {n i : Nat} {rl : Nat → Nat} {ys : Nat → Int64} {ws : Nat → Nat → Int64} {q : s_F} (hP : Pl m 203 n rl ys ws) (hF : Fiv m 203 q) (hi : i < n) : q_V (q_g Z) mX8_isException (d+5) 0 0 0 [some (.ref (q_ad Z 203)), some (.int (nI i)), none] [] (q_W Z m) (q_P Z fun r m2 => r = some (.int (q_b (s_ex n rl ys ws (s_wp n rl ws q (i / rl 0)) (i / rl 0) (s_wf n rl ys ws q (i / rl 0)).1 (i - i / rl 0 * rl 0)))) ∧ Fr [203, 208, 209, 210, 211] m m2 ∧ Kp 203 [11, 12, 13, 14, 15] m m2) := by
  have hr := hP.2.2.2.1
  have hn := hP.2.1
  obtain ⟨h1, h2, h3⟩ := s_nb_of hr hi
  have h16 := s_sz16 (n := n) hr (i / rl 0)
  refine q_aload_n (pc' := 1) dX8_isException_0 rfl rfl ?_
  refine q_iload_n (pc' := 2) dX8_isException_1 rfl rfl ?_
  refine h_callV (pc' := 5) (M' := mX8_blockAt) (As := [_]) dX8_isException_2 iX8_blockAt lX8_204 rfl rfl rfl rfl (Nat.le_of_ble_eq_true rfl) (Nat.le_of_ble_eq_true rfl) rfl rfl (c_blockAt_203 hP (by omega)) (fun r m' hq => ?_)
  obtain ⟨rfl, rfl⟩ := hq
  refine q_istore_n (pc' := 6) (lv' := [_, _, _]) dX8_isException_5 (by decide) rfl rfl ?_
  refine q_aload_n (pc' := 7) dX8_isException_6 rfl rfl ?_
  refine q_iload_n (pc' := 8) dX8_isException_7 rfl rfl ?_
  refine h_callV (pc' := 11) (M' := mX8_weigh) (As := [_]) dX8_isException_8 iX8_weigh lX8_207 rfl rfl rfl rfl (Nat.le_of_ble_eq_true rfl) (Nat.le_of_ble_eq_true rfl) rfl rfl (c_weigh_203 hP hF h1) (fun r m' hq => ?_)
  obtain ⟨rfl, f1, k1, W1, -, -⟩ := hq
  have hP1 := hP.kp f1 k1 (by decide) (by decide) (by decide) (by decide) (by decide)
  refine q_aload_n (pc' := 12) dX8_isException_11 rfl rfl ?_
  refine h_getiE (pc' := 15) dX8_isException_12 fX8_189 rfl rfl (W1.2.2.2) rfl ?_
  refine q_iload_n (pc' := 16) dX8_isException_15 rfl rfl ?_
  refine q_aload_n (pc' := 17) dX8_isException_16 rfl rfl ?_
  refine q_iload_n (pc' := 18) dX8_isException_17 rfl rfl ?_
  refine h_callV (pc' := 21) (M' := mX8_startOf) (As := [_]) dX8_isException_18 iX8_startOf lX8_60 rfl rfl rfl rfl (Nat.le_of_ble_eq_true rfl) (Nat.le_of_ble_eq_true rfl) rfl rfl (c_startOf_203 hP1) (fun r m' hq => ?_)
  obtain ⟨rfl, rfl⟩ := hq
  refine q_isubN (pc' := 22) dX8_isException_21 (by omega) rfl ?_
  refine q_ishr (pc' := 23) dX8_isException_22 rfl ?_
  refine q_iconst (pc' := 24) (v := nI 1) dX8_isException_23 rfl rfl ?_
  refine q_iand (pc' := 25) dX8_isException_24 rfl ?_
  rw [s_mk_b (by omega) (by omega)]
  by_cases hx : s_ex n rl ys ws (s_wp n rl ws q (i / rl 0)) (i / rl 0) (s_wf n rl ys ws q (i / rl 0)).1 (i - i / rl 0 * rl 0) = true
  · rw [if_pos ⟨h3, hx⟩, hx]
    refine q_iconst (pc' := 26) (v := nI 1) dX8_isException_25 rfl rfl ?_
    refine q_icmp_neN (tgt := 33) (pc' := 29) dX8_isException_26 (by decide) rfl (by omega) (fun c_26 => ?_) (fun c_26 => ?_)
    · exact absurd rfl c_26
    refine q_iconst (pc' := 30) (v := nI 1) dX8_isException_29 rfl rfl ?_
    refine q_goto (pc' := 34) dX8_isException_30 (by decide) ?_
    refine q_iret dX8_isException_34 rfl (by first | exact q_nb0 | exact q_nb1 | exact q_nb _) ⟨_, rfl, rfl, f1, k1⟩
  · rw [if_neg (fun z => hx z.2), Bool.eq_false_iff.mpr hx]
    refine q_iconst (pc' := 26) (v := nI 1) dX8_isException_25 rfl rfl ?_
    refine q_icmp_neN (tgt := 33) (pc' := 29) dX8_isException_26 (by decide) rfl (by omega) (fun c_26 => ?_) (fun c_26 => ?_)
    · refine q_iconst (pc' := 34) (v := nI 0) dX8_isException_33 rfl rfl ?_
      refine q_iret dX8_isException_34 rfl (by first | exact q_nb0 | exact q_nb1 | exact q_nb _) ⟨_, rfl, rfl, f1, k1⟩
    · exact absurd c_26 (by decide)
set_option maxHeartbeats 4000000 in
set_option maxRecDepth 20000 in
theorem c_countWhole_203 {Z : q_Z} {m : q_Mm} {d : Nat} {n bk p : Nat} {w : Int64} {rl : Nat → Nat} {ys : Nat → Int64} {ws : Nat → Nat → Int64} (hP : Pl m 203 n rl ys ws) (hb : bk < s_nb n rl) (hp : p < 120) (h12 : m.1 203 12 = nI p) : q_V (q_g Z) mX8_countWhole (d+2) 0 0 0 [some (.ref (q_ad Z 203)), some (.int (nI bk)), some (.long w), none, none, none] [] (q_W Z m) (q_P Z fun r m2 => r = some (.int (nI (s_cnt (fun i => decide (ws (bk * rl 0 + i) p = w)) (s_sz n rl bk)))) ∧ m2 = m) := by
  have hr := hP.2.2.2.1
  have hz := s_nb_in hr hb
  have h16 := s_sz16 (n := n) hr bk
  refine q_iconst (pc' := 1) (v := nI 0) dX8_countWhole_0 rfl rfl ?_
  refine q_istore (pc' := 3) (lv' := [_, _, _, _, _, _]) dX8_countWhole_1 (by decide) rfl rfl ?_
  refine q_iconst (pc' := 4) (v := nI 0) dX8_countWhole_3 rfl rfl ?_
  refine q_istore (pc' := 6) (lv' := [_, _, _, _, _, _]) dX8_countWhole_4 (by decide) rfl rfl ?_
  suffices h : ∀ c j, j + c = s_sz n rl bk → q_V (q_g Z) mX8_countWhole (d+2) 0 0 6 [some (.ref (q_ad Z 203)), some (.int (nI bk)), some (.long w), none, some (.int (nI (s_cnt (fun i => decide (ws (bk * rl 0 + i) p = w)) j))), some (.int (nI j))] [] (q_W Z (m)) (q_P Z fun r m2 => r = some (.int (nI (s_cnt (fun i => decide (ws (bk * rl 0 + i) p = w)) (s_sz n rl bk)))) ∧ m2 = m) from h (s_sz n rl bk) 0 (by omega)
  intro c
  induction c with
  | zero =>
    intro j hj
    refine q_iload (pc' := 8) dX8_countWhole_6 rfl rfl ?_
    refine q_aload_n (pc' := 9) dX8_countWhole_8 rfl rfl ?_
    refine q_iload_n (pc' := 10) dX8_countWhole_9 rfl rfl ?_
    refine h_callV (pc' := 13) (M' := mX8_sizeOf) (As := [_]) dX8_countWhole_10 iX8_sizeOf lX8_106 rfl rfl rfl rfl (Nat.le_of_ble_eq_true rfl) (Nat.le_of_ble_eq_true rfl) rfl rfl (c_sizeOf_203 hP hb) (fun r m' hq => ?_)
    obtain ⟨rfl, rfl⟩ := hq
    obtain rfl : s_sz n rl bk = j := by omega
    refine q_icmp_geN (tgt := 46) (pc' := 16) dX8_countWhole_13 (by decide) rfl (by omega) (fun c_13 => ?_) (fun c_13 => ?_)
    · refine q_iload (pc' := 48) dX8_countWhole_46 rfl rfl ?_
      refine q_iret dX8_countWhole_48 rfl rfl ⟨_, rfl, rfl, rfl⟩
    · omega
  | succ c ih =>
    intro j hj
    have ih := ih (j + 1) (by omega)
    refine q_iload (pc' := 8) dX8_countWhole_6 rfl rfl ?_
    refine q_aload_n (pc' := 9) dX8_countWhole_8 rfl rfl ?_
    refine q_iload_n (pc' := 10) dX8_countWhole_9 rfl rfl ?_
    refine h_callV (pc' := 13) (M' := mX8_sizeOf) (As := [_]) dX8_countWhole_10 iX8_sizeOf lX8_106 rfl rfl rfl rfl (Nat.le_of_ble_eq_true rfl) (Nat.le_of_ble_eq_true rfl) rfl rfl (c_sizeOf_203 hP hb) (fun r m' hq => ?_)
    obtain ⟨rfl, rfl⟩ := hq
    refine q_icmp_geN (tgt := 46) (pc' := 16) dX8_countWhole_13 (by decide) rfl (by omega) (fun c_13 => ?_) (fun c_13 => ?_)
    · omega
    refine q_aload_n (pc' := 17) dX8_countWhole_16 rfl rfl ?_
    refine q_aload_n (pc' := 18) dX8_countWhole_17 rfl rfl ?_
    refine q_iload_n (pc' := 19) dX8_countWhole_18 rfl rfl ?_
    refine h_callV (pc' := 22) (M' := mX8_startOf) (As := [_]) dX8_countWhole_19 iX8_startOf lX8_60 rfl rfl rfl rfl (Nat.le_of_ble_eq_true rfl) (Nat.le_of_ble_eq_true rfl) rfl rfl (c_startOf_203 hP) (fun r m' hq => ?_)
    obtain ⟨rfl, rfl⟩ := hq
    refine q_iload (pc' := 24) dX8_countWhole_22 rfl rfl ?_
    refine q_iaddN (pc' := 25) dX8_countWhole_24 rfl ?_
    refine q_aload_n (pc' := 26) dX8_countWhole_25 rfl rfl ?_
    refine h_getiE (pc' := 29) dX8_countWhole_26 fX8_144 rfl rfl (h12) rfl ?_
    refine h_callV (pc' := 32) (M' := mX8_wholeAt) (As := [_, _]) dX8_countWhole_29 iX8_wholeAt lX8_201 rfl rfl rfl rfl (Nat.le_of_ble_eq_true rfl) (Nat.le_of_ble_eq_true rfl) rfl rfl (c_wholeAt_203 hP (by omega) hp) (fun r m' hq => ?_)
    obtain ⟨rfl, rfl⟩ := hq
    refine q_lload_n (pc' := 33) dX8_countWhole_32 rfl rfl ?_
    refine q_lcmp (pc' := 34) dX8_countWhole_33 rfl ?_
    refine q_if_neL (tgt := 40) (pc' := 37) dX8_countWhole_34 (by decide) rfl (fun c_34 => ?_) (fun c_34 => ?_)
    · rw [s_cnt_f (decide_eq_false c_34)] at ih
      refine q_iincN (pc' := 43) (j := 1) (lv' := [_, _, _, _, _, _]) dX8_countWhole_40 rfl (by decide) rfl rfl ?_
      refine q_goto (pc' := 6) dX8_countWhole_43 (by decide) ?_
      exact ih
    · rw [s_cnt_t (decide_eq_true c_34)] at ih
      refine q_iincN (pc' := 40) (j := 1) (lv' := [_, _, _, _, _, _]) dX8_countWhole_37 rfl (by decide) rfl rfl ?_
      refine q_iincN (pc' := 43) (j := 1) (lv' := [_, _, _, _, _, _]) dX8_countWhole_40 rfl (by decide) rfl rfl ?_
      refine q_goto (pc' := 6) dX8_countWhole_43 (by decide) ?_
      exact ih
set_option maxHeartbeats 4000000 in
set_option maxRecDepth 20000 in
theorem c_usualWhole_203 {Z : q_Z} {m : q_Mm} {d : Nat} {n bk p : Nat} {l0 : Int64} {g : Nat → Int64} {rl : Nat → Nat} {ys : Nat → Int64} {ws : Nat → Nat → Int64} (hP : Pl m 203 n rl ys ws) (hb : bk < s_nb n rl) (hp : p < 120) (h12 : m.1 203 12 = nI p) (h9 : m.2.1 203 9 = l0) (hgi : ∀ i, ws (bk * rl 0 + i) p = g i) : q_V (q_g Z) mX8_usualWhole (d+3) 0 0 0 [some (.ref (q_ad Z 203)), some (.int (nI bk)), none, none, none, none, none, none, none] [] (q_W Z m) (q_P Z fun r m2 => r = some (.long (s_us g (s_sz n rl bk) l0 (s_sz n rl bk)).1) ∧ m2 = m) := by
  have hr := hP.2.2.2.1
  have hz := s_nb_in hr hb
  have h16 := s_sz16 (n := n) hr bk
  refine q_aload_n (pc' := 1) dX8_usualWhole_0 rfl rfl ?_
  refine h_getjE (pc' := 4) dX8_usualWhole_1 fX8_119 rfl rfl (h9) rfl ?_
  refine q_lstore_n (pc' := 5) (lv' := [_, _, _, _, _, _, _, _, _]) dX8_usualWhole_4 (by decide) rfl rfl ?_
  refine q_iconst (pc' := 6) (v := nI 0) dX8_usualWhole_5 rfl rfl ?_
  refine q_istore (pc' := 8) (lv' := [_, _, _, _, _, _, _, _, _]) dX8_usualWhole_6 (by decide) rfl rfl ?_
  refine q_iconst (pc' := 9) (v := nI 0) dX8_usualWhole_8 rfl rfl ?_
  refine q_istore (pc' := 11) (lv' := [_, _, _, _, _, _, _, _, _]) dX8_usualWhole_9 (by decide) rfl rfl ?_
  suffices h : ∀ c j w1 w2, j + c = s_sz n rl bk → q_V (q_g Z) mX8_usualWhole (d+3) 0 0 11 [some (.ref (q_ad Z 203)), some (.int (nI bk)), some (.long (s_us g (s_sz n rl bk) l0 j).1), none, some (.int (nI (s_us g (s_sz n rl bk) l0 j).2)), some (.int (nI j)), w1, none, w2] [] (q_W Z (m)) (q_P Z fun r m2 => r = some (.long (s_us g (s_sz n rl bk) l0 (s_sz n rl bk)).1) ∧ m2 = m) from h (s_sz n rl bk) 0 none none (by omega)
  intro c
  induction c with
  | zero =>
    intro j w1 w2 hj
    refine q_iload (pc' := 13) dX8_usualWhole_11 rfl rfl ?_
    refine q_aload_n (pc' := 14) dX8_usualWhole_13 rfl rfl ?_
    refine q_iload_n (pc' := 15) dX8_usualWhole_14 rfl rfl ?_
    refine h_callV (pc' := 18) (M' := mX8_sizeOf) (As := [_]) dX8_usualWhole_15 iX8_sizeOf lX8_106 rfl rfl rfl rfl (Nat.le_of_ble_eq_true rfl) (Nat.le_of_ble_eq_true rfl) rfl rfl (c_sizeOf_203 hP hb) (fun r m' hq => ?_)
    obtain ⟨rfl, rfl⟩ := hq
    obtain rfl : s_sz n rl bk = j := by omega
    refine q_icmp_geN (tgt := 100) (pc' := 21) dX8_usualWhole_18 (by decide) rfl (by omega) (fun c_18 => ?_) (fun c_18 => ?_)
    · refine q_lload_n (pc' := 101) dX8_usualWhole_100 rfl rfl ?_
      refine q_lret dX8_usualWhole_101 rfl ⟨_, rfl, rfl, rfl⟩
    · omega
  | succ c ih =>
    intro j w1 w2 hj
    have hul := s_us_le g (s_sz n rl bk) l0 j
    have hcl := s_cnt_le (fun i => decide (g i = g j)) (s_sz n rl bk)
    generalize ho : (if g j = s_no then 0 else s_cnt (fun i => decide (g i = g j)) (s_sz n rl bk)) = o
    have hol : o ≤ 16 := by rw [← ho]; split <;> omega
    have hst : s_us g (s_sz n rl bk) l0 (j + 1) = if (s_us g (s_sz n rl bk) l0 j).2 < o ∨ (o = (s_us g (s_sz n rl bk) l0 j).2 ∧ 0 < o ∧ g j < (s_us g (s_sz n rl bk) l0 j).1) then (g j, o) else s_us g (s_sz n rl bk) l0 j := by rw [← ho]; rfl
    have tk : ((s_us g (s_sz n rl bk) l0 j).2 < o ∨ (o = (s_us g (s_sz n rl bk) l0 j).2 ∧ 0 < o ∧ g j < (s_us g (s_sz n rl bk) l0 j).1)) → q_V (q_g Z) mX8_usualWhole (d+3) 0 0 87 [some (.ref (q_ad Z 203)), some (.int (nI bk)), some (.long (s_us g (s_sz n rl bk) l0 j).1), none, some (.int (nI (s_us g (s_sz n rl bk) l0 j).2)), some (.int (nI j)), some (.long (g j)), none, some (.int (nI o))] [] (q_W Z (m)) (q_P Z fun r m2 => r = some (.long (s_us g (s_sz n rl bk) l0 (s_sz n rl bk)).1) ∧ m2 = m) := by
      intro z
      rw [if_pos z] at hst
      have ih := ih (j + 1) (some (.long (g j))) (some (.int (nI o))) (by omega)
      rw [hst] at ih
      refine q_lload (pc' := 89) dX8_usualWhole_87 rfl rfl ?_
      refine q_lstore_n (pc' := 90) (lv' := [_, _, _, _, _, _, _, _, _]) dX8_usualWhole_89 (by decide) rfl rfl ?_
      refine q_iload (pc' := 92) dX8_usualWhole_90 rfl rfl ?_
      refine q_istore (pc' := 94) (lv' := [_, _, _, _, _, _, _, _, _]) dX8_usualWhole_92 (by decide) rfl rfl ?_
      refine q_iincN (pc' := 97) (j := 1) (lv' := [_, _, _, _, _, _, _, _, _]) dX8_usualWhole_94 rfl (by decide) rfl rfl ?_
      refine q_goto (pc' := 11) dX8_usualWhole_97 (by decide) ?_
      exact ih
    have sk : ¬ ((s_us g (s_sz n rl bk) l0 j).2 < o ∨ (o = (s_us g (s_sz n rl bk) l0 j).2 ∧ 0 < o ∧ g j < (s_us g (s_sz n rl bk) l0 j).1)) → q_V (q_g Z) mX8_usualWhole (d+3) 0 0 94 [some (.ref (q_ad Z 203)), some (.int (nI bk)), some (.long (s_us g (s_sz n rl bk) l0 j).1), none, some (.int (nI (s_us g (s_sz n rl bk) l0 j).2)), some (.int (nI j)), some (.long (g j)), none, some (.int (nI o))] [] (q_W Z (m)) (q_P Z fun r m2 => r = some (.long (s_us g (s_sz n rl bk) l0 (s_sz n rl bk)).1) ∧ m2 = m) := by
      intro z
      rw [if_neg z] at hst
      have ih := ih (j + 1) (some (.long (g j))) (some (.int (nI o))) (by omega)
      rw [hst] at ih
      refine q_iincN (pc' := 97) (j := 1) (lv' := [_, _, _, _, _, _, _, _, _]) dX8_usualWhole_94 rfl (by decide) rfl rfl ?_
      refine q_goto (pc' := 11) dX8_usualWhole_97 (by decide) ?_
      exact ih
    have go : q_V (q_g Z) mX8_usualWhole (d+3) 0 0 61 [some (.ref (q_ad Z 203)), some (.int (nI bk)), some (.long (s_us g (s_sz n rl bk) l0 j).1), none, some (.int (nI (s_us g (s_sz n rl bk) l0 j).2)), some (.int (nI j)), some (.long (g j)), none, some (.int (nI o))] [] (q_W Z (m)) (q_P Z fun r m2 => r = some (.long (s_us g (s_sz n rl bk) l0 (s_sz n rl bk)).1) ∧ m2 = m) := by
      refine q_iload (pc' := 63) dX8_usualWhole_61 rfl rfl ?_
      refine q_iload (pc' := 65) dX8_usualWhole_63 rfl rfl ?_
      refine q_icmp_gtN (tgt := 87) (pc' := 68) dX8_usualWhole_65 (by decide) rfl (by omega) (fun c_65 => ?_) (fun c_65 => ?_)
      · exact tk (Or.inl c_65)
      refine q_iload (pc' := 70) dX8_usualWhole_68 rfl rfl ?_
      refine q_iload (pc' := 72) dX8_usualWhole_70 rfl rfl ?_
      refine q_icmp_neN (tgt := 94) (pc' := 75) dX8_usualWhole_72 (by decide) rfl (by omega) (fun c_72 => ?_) (fun c_72 => ?_)
      · exact sk (fun z => by rcases z with z | z <;> omega)
      refine q_iload (pc' := 77) dX8_usualWhole_75 rfl rfl ?_
      refine q_if_leN (tgt := 94) (pc' := 80) dX8_usualWhole_77 (by decide) rfl (by omega) (fun c_77 => ?_) (fun c_77 => ?_)
      · exact sk (fun z => by rcases z with z | z <;> omega)
      refine q_lload (pc' := 82) dX8_usualWhole_80 rfl rfl ?_
      refine q_lload_n (pc' := 83) dX8_usualWhole_82 rfl rfl ?_
      refine q_lcmp (pc' := 84) dX8_usualWhole_83 rfl ?_
      refine q_if_geL (tgt := 94) (pc' := 87) dX8_usualWhole_84 (by decide) rfl (fun c_84 => ?_) (fun c_84 => ?_)
      · exact sk (fun z => by rcases z with z | z; omega; exact c_84 z.2.2)
      · exact tk (Or.inr ⟨c_72, c_77, c_84⟩)
    refine q_iload (pc' := 13) dX8_usualWhole_11 rfl rfl ?_
    refine q_aload_n (pc' := 14) dX8_usualWhole_13 rfl rfl ?_
    refine q_iload_n (pc' := 15) dX8_usualWhole_14 rfl rfl ?_
    refine h_callV (pc' := 18) (M' := mX8_sizeOf) (As := [_]) dX8_usualWhole_15 iX8_sizeOf lX8_106 rfl rfl rfl rfl (Nat.le_of_ble_eq_true rfl) (Nat.le_of_ble_eq_true rfl) rfl rfl (c_sizeOf_203 hP hb) (fun r m' hq => ?_)
    obtain ⟨rfl, rfl⟩ := hq
    refine q_icmp_geN (tgt := 100) (pc' := 21) dX8_usualWhole_18 (by decide) rfl (by omega) (fun c_18 => ?_) (fun c_18 => ?_)
    · omega
    refine q_aload_n (pc' := 22) dX8_usualWhole_21 rfl rfl ?_
    refine q_aload_n (pc' := 23) dX8_usualWhole_22 rfl rfl ?_
    refine q_iload_n (pc' := 24) dX8_usualWhole_23 rfl rfl ?_
    refine h_callV (pc' := 27) (M' := mX8_startOf) (As := [_]) dX8_usualWhole_24 iX8_startOf lX8_60 rfl rfl rfl rfl (Nat.le_of_ble_eq_true rfl) (Nat.le_of_ble_eq_true rfl) rfl rfl (c_startOf_203 hP) (fun r m' hq => ?_)
    obtain ⟨rfl, rfl⟩ := hq
    refine q_iload (pc' := 29) dX8_usualWhole_27 rfl rfl ?_
    refine q_iaddN (pc' := 30) dX8_usualWhole_29 rfl ?_
    refine q_aload_n (pc' := 31) dX8_usualWhole_30 rfl rfl ?_
    refine h_getiE (pc' := 34) dX8_usualWhole_31 fX8_144 rfl rfl (h12) rfl ?_
    refine h_callV (pc' := 37) (M' := mX8_wholeAt) (As := [_, _]) dX8_usualWhole_34 iX8_wholeAt lX8_201 rfl rfl rfl rfl (Nat.le_of_ble_eq_true rfl) (Nat.le_of_ble_eq_true rfl) rfl rfl (c_wholeAt_203 hP (by omega) hp) (fun r m' hq => ?_)
    obtain ⟨rfl, rfl⟩ := hq
    rw [hgi j]
    refine q_lstore (pc' := 39) (lv' := [_, _, _, _, _, _, _, _, _]) dX8_usualWhole_37 (by decide) rfl rfl ?_
    refine q_lload (pc' := 41) dX8_usualWhole_39 rfl rfl ?_
    refine q_ldc2 (pc' := 44) dX8_usualWhole_41 kX8_132 rfl ?_
    refine q_lcmp (pc' := 45) dX8_usualWhole_44 rfl ?_
    refine q_if_neL (tgt := 52) (pc' := 48) dX8_usualWhole_45 (by decide) rfl (fun c_45 => ?_) (fun c_45 => ?_)
    · rw [if_neg (show ¬ g j = s_no from c_45)] at ho
      refine q_aload_n (pc' := 53) dX8_usualWhole_52 rfl rfl ?_
      refine q_iload_n (pc' := 54) dX8_usualWhole_53 rfl rfl ?_
      refine q_lload (pc' := 56) dX8_usualWhole_54 rfl rfl ?_
      refine h_callV (pc' := 59) (M' := mX8_countWhole) (As := [_, _]) dX8_usualWhole_56 iX8_countWhole lX8_210 rfl rfl rfl rfl (Nat.le_of_ble_eq_true rfl) (Nat.le_of_ble_eq_true rfl) rfl rfl (c_countWhole_203 hP hb hp h12) (fun r m' hq => ?_)
      obtain ⟨rfl, rfl⟩ := hq
      rw [show (fun i => decide (ws (bk * rl 0 + i) p = g j)) = (fun i => decide (g i = g j)) from funext fun i => by rw [hgi i], ho]
      refine q_istore (pc' := 61) (lv' := [_, _, _, _, _, _, _, _, _]) dX8_usualWhole_59 (by decide) rfl rfl ?_
      exact go
    · rw [if_pos (show g j = s_no from c_45)] at ho
      rw [← ho] at go
      refine q_iconst (pc' := 49) (v := nI 0) dX8_usualWhole_48 rfl rfl ?_
      refine q_goto (pc' := 59) dX8_usualWhole_49 (by decide) ?_
      refine q_istore (pc' := 61) (lv' := [_, _, _, _, _, _, _, _, _]) dX8_usualWhole_59 (by decide) rfl rfl ?_
      exact go
set_option maxHeartbeats 4000000 in
set_option maxRecDepth 20000 in
theorem c_total_203 {Z : q_Z} {m : q_Mm} {d : Nat} {n : Nat} {rl : Nat → Nat} {ys : Nat → Int64} {ws : Nat → Nat → Int64} {q : s_F} (hP : Pl m 203 n rl ys ws) (hF : Fiv m 203 q) : q_V (q_g Z) mX8_total (d+5) 0 0 0 [some (.ref (q_ad Z 203)), none, none] [] (q_W Z m) (q_P Z fun r m2 => r = some (.int (nI (s_sum (fun bk => (s_wf n rl ys ws q bk).2) (s_nb n rl)))) ∧ Fr [203, 208, 209, 210, 211] m m2 ∧ Kp 203 [11, 12, 13, 14, 15] m m2) := by
  have hr := hP.2.2.2.1
  have hnb := s_nb_le hr hP.2.1
  refine q_iconst (pc' := 1) (v := nI 0) dX8_total_0 rfl rfl ?_
  refine q_istore_n (pc' := 2) (lv' := [_, _, _]) dX8_total_1 (by decide) rfl rfl ?_
  refine q_iconst (pc' := 3) (v := nI 0) dX8_total_2 rfl rfl ?_
  refine q_istore_n (pc' := 4) (lv' := [_, _, _]) dX8_total_3 (by decide) rfl rfl ?_
  suffices h : ∀ c j (m1 : q_Mm), j + c = s_nb n rl → Fr [203, 208, 209, 210, 211] m m1 → Kp 203 [11, 12, 13, 14, 15] m m1 → q_V (q_g Z) mX8_total (d+5) 0 0 4 [some (.ref (q_ad Z 203)), some (.int (nI (s_sum (fun bk => (s_wf n rl ys ws q bk).2) j))), some (.int (nI j))] [] (q_W Z (m1)) (q_P Z fun r m2 => r = some (.int (nI (s_sum (fun bk => (s_wf n rl ys ws q bk).2) (s_nb n rl)))) ∧ Fr [203, 208, 209, 210, 211] m m2 ∧ Kp 203 [11, 12, 13, 14, 15] m m2) from h (s_nb n rl) 0 m (by omega) Fr.rf Kp.rf
  intro c
  induction c with
  | zero =>
    intro j m1 hj f1 k1
    have hP1 := hP.kp f1 k1 (by decide) (by decide) (by decide) (by decide) (by decide)
    refine q_iload_n (pc' := 5) dX8_total_4 rfl rfl ?_
    refine q_aload_n (pc' := 6) dX8_total_5 rfl rfl ?_
    refine h_callV (pc' := 9) (M' := mX8_blocks) (As := []) dX8_total_6 iX8_blocks lX8_100 rfl rfl rfl rfl (Nat.le_of_ble_eq_true rfl) (Nat.le_of_ble_eq_true rfl) rfl rfl (c_plBlocks_203 hP1) (fun r m' hq => ?_)
    obtain ⟨rfl, rfl⟩ := hq
    obtain rfl : s_nb n rl = j := by omega
    refine q_icmp_geN (tgt := 30) (pc' := 12) dX8_total_9 (by decide) rfl (by omega) (fun c_9 => ?_) (fun c_9 => ?_)
    · refine q_iload_n (pc' := 31) dX8_total_30 rfl rfl ?_
      refine q_iret dX8_total_31 rfl rfl ⟨_, rfl, rfl, f1, k1⟩
    · omega
  | succ c ih =>
    intro j m1 hj f1 k1
    have hP1 := hP.kp f1 k1 (by decide) (by decide) (by decide) (by decide) (by decide)
    have F1 := hF.fr f1 (k1 7 (by decide)) (by decide) (by decide)
    refine q_iload_n (pc' := 5) dX8_total_4 rfl rfl ?_
    refine q_aload_n (pc' := 6) dX8_total_5 rfl rfl ?_
    refine h_callV (pc' := 9) (M' := mX8_blocks) (As := []) dX8_total_6 iX8_blocks lX8_100 rfl rfl rfl rfl (Nat.le_of_ble_eq_true rfl) (Nat.le_of_ble_eq_true rfl) rfl rfl (c_plBlocks_203 hP1) (fun r m' hq => ?_)
    obtain ⟨rfl, rfl⟩ := hq
    refine q_icmp_geN (tgt := 30) (pc' := 12) dX8_total_9 (by decide) rfl (by omega) (fun c_9 => ?_) (fun c_9 => ?_)
    · omega
    refine q_aload_n (pc' := 13) dX8_total_12 rfl rfl ?_
    refine q_iload_n (pc' := 14) dX8_total_13 rfl rfl ?_
    refine h_callV (pc' := 17) (M' := mX8_weigh) (As := [_]) dX8_total_14 iX8_weigh lX8_207 rfl rfl rfl rfl (Nat.le_of_ble_eq_true rfl) (Nat.le_of_ble_eq_true rfl) rfl rfl (c_weigh_203 hP1 F1 (by omega)) (fun r m' hq => ?_)
    obtain ⟨rfl, f2, k2, W2, -, -⟩ := hq
    have ih := ih (j + 1) m' (by omega) (f1.trans f2) (k1.trans k2)
    refine q_iload_n (pc' := 18) dX8_total_17 rfl rfl ?_
    refine q_aload_n (pc' := 19) dX8_total_18 rfl rfl ?_
    refine h_getiE (pc' := 22) dX8_total_19 fX8_186 rfl rfl (W2.2.2.1) rfl ?_
    refine q_iaddN (pc' := 23) dX8_total_22 rfl ?_
    refine q_istore_n (pc' := 24) (lv' := [_, _, _]) dX8_total_23 (by decide) rfl rfl ?_
    refine q_iincN (pc' := 27) (j := 1) (lv' := [_, _, _]) dX8_total_24 rfl (by decide) rfl rfl ?_
    refine q_goto (pc' := 4) dX8_total_27 (by decide) ?_
    exact ih
set_option maxHeartbeats 4000000 in
set_option maxRecDepth 20000 in
theorem c_allExceptions_203 {Z : q_Z} {m : q_Mm} {d : Nat} {n : Nat} {rl : Nat → Nat} {ys : Nat → Int64} {ws : Nat → Nat → Int64} {q : s_F} (hP : Pl m 203 n rl ys ws) (hF : Fiv m 203 q) : q_V (q_g Z) mX8_allExceptions (d+5) 0 0 0 [some (.ref (q_ad Z 203)), none, none] [] (q_W Z m) (q_P Z fun r m2 => r = some (.int (nI (s_sum (fun bk => s_cnt (s_ex n rl ys ws (s_wp n rl ws q bk) bk (s_wf n rl ys ws q bk).1) (s_sz n rl bk)) (s_nb n rl)))) ∧ Fr [203, 208, 209, 210, 211] m m2 ∧ Kp 203 [11, 12, 13, 14, 15] m m2) := by
  have hr := hP.2.2.2.1
  have hnb := s_nb_le hr hP.2.1
  refine q_iconst (pc' := 1) (v := nI 0) dX8_allExceptions_0 rfl rfl ?_
  refine q_istore_n (pc' := 2) (lv' := [_, _, _]) dX8_allExceptions_1 (by decide) rfl rfl ?_
  refine q_iconst (pc' := 3) (v := nI 0) dX8_allExceptions_2 rfl rfl ?_
  refine q_istore_n (pc' := 4) (lv' := [_, _, _]) dX8_allExceptions_3 (by decide) rfl rfl ?_
  suffices h : ∀ c j (m1 : q_Mm), j + c = s_nb n rl → Fr [203, 208, 209, 210, 211] m m1 → Kp 203 [11, 12, 13, 14, 15] m m1 → q_V (q_g Z) mX8_allExceptions (d+5) 0 0 4 [some (.ref (q_ad Z 203)), some (.int (nI (s_sum (fun bk => s_cnt (s_ex n rl ys ws (s_wp n rl ws q bk) bk (s_wf n rl ys ws q bk).1) (s_sz n rl bk)) j))), some (.int (nI j))] [] (q_W Z (m1)) (q_P Z fun r m2 => r = some (.int (nI (s_sum (fun bk => s_cnt (s_ex n rl ys ws (s_wp n rl ws q bk) bk (s_wf n rl ys ws q bk).1) (s_sz n rl bk)) (s_nb n rl)))) ∧ Fr [203, 208, 209, 210, 211] m m2 ∧ Kp 203 [11, 12, 13, 14, 15] m m2) from h (s_nb n rl) 0 m (by omega) Fr.rf Kp.rf
  intro c
  induction c with
  | zero =>
    intro j m1 hj f1 k1
    have hP1 := hP.kp f1 k1 (by decide) (by decide) (by decide) (by decide) (by decide)
    refine q_iload_n (pc' := 5) dX8_allExceptions_4 rfl rfl ?_
    refine q_aload_n (pc' := 6) dX8_allExceptions_5 rfl rfl ?_
    refine h_callV (pc' := 9) (M' := mX8_blocks) (As := []) dX8_allExceptions_6 iX8_blocks lX8_100 rfl rfl rfl rfl (Nat.le_of_ble_eq_true rfl) (Nat.le_of_ble_eq_true rfl) rfl rfl (c_plBlocks_203 hP1) (fun r m' hq => ?_)
    obtain ⟨rfl, rfl⟩ := hq
    obtain rfl : s_nb n rl = j := by omega
    refine q_icmp_geN (tgt := 33) (pc' := 12) dX8_allExceptions_9 (by decide) rfl (by omega) (fun c_9 => ?_) (fun c_9 => ?_)
    · refine q_iload_n (pc' := 34) dX8_allExceptions_33 rfl rfl ?_
      refine q_iret dX8_allExceptions_34 rfl rfl ⟨_, rfl, rfl, f1, k1⟩
    · omega
  | succ c ih =>
    intro j m1 hj f1 k1
    have hP1 := hP.kp f1 k1 (by decide) (by decide) (by decide) (by decide) (by decide)
    have F1 := hF.fr f1 (k1 7 (by decide)) (by decide) (by decide)
    refine q_iload_n (pc' := 5) dX8_allExceptions_4 rfl rfl ?_
    refine q_aload_n (pc' := 6) dX8_allExceptions_5 rfl rfl ?_
    refine h_callV (pc' := 9) (M' := mX8_blocks) (As := []) dX8_allExceptions_6 iX8_blocks lX8_100 rfl rfl rfl rfl (Nat.le_of_ble_eq_true rfl) (Nat.le_of_ble_eq_true rfl) rfl rfl (c_plBlocks_203 hP1) (fun r m' hq => ?_)
    obtain ⟨rfl, rfl⟩ := hq
    refine q_icmp_geN (tgt := 33) (pc' := 12) dX8_allExceptions_9 (by decide) rfl (by omega) (fun c_9 => ?_) (fun c_9 => ?_)
    · omega
    refine q_aload_n (pc' := 13) dX8_allExceptions_12 rfl rfl ?_
    refine q_iload_n (pc' := 14) dX8_allExceptions_13 rfl rfl ?_
    refine h_callV (pc' := 17) (M' := mX8_weigh) (As := [_]) dX8_allExceptions_14 iX8_weigh lX8_207 rfl rfl rfl rfl (Nat.le_of_ble_eq_true rfl) (Nat.le_of_ble_eq_true rfl) rfl rfl (c_weigh_203 hP1 F1 (by omega)) (fun r m' hq => ?_)
    obtain ⟨rfl, f2, k2, W2, -, -⟩ := hq
    have ih := ih (j + 1) m' (by omega) (f1.trans f2) (k1.trans k2)
    refine q_iload_n (pc' := 18) dX8_allExceptions_17 rfl rfl ?_
    refine q_aload_n (pc' := 19) dX8_allExceptions_18 rfl rfl ?_
    refine h_getiE (pc' := 22) dX8_allExceptions_19 fX8_189 rfl rfl (W2.2.2.2) rfl ?_
    refine h_callS (pc' := 25) (M' := mJ6_bitCount_0f7a4) (As := [_]) dX8_allExceptions_22 iJ6_bitCount_0f7a4 lX8_172 rfl rfl (Nat.le_of_ble_eq_true rfl) (Nat.le_of_ble_eq_true rfl) rfl rfl (c_bitCount) (fun r m' hq => ?_)
    obtain ⟨rfl, rfl⟩ := hq
    rw [s_bc_mk (s_sz16 hr j)]
    refine q_iaddN (pc' := 26) dX8_allExceptions_25 rfl ?_
    refine q_istore_n (pc' := 27) (lv' := [_, _, _]) dX8_allExceptions_26 (by decide) rfl rfl ?_
    refine q_iincN (pc' := 30) (j := 1) (lv' := [_, _, _]) dX8_allExceptions_27 rfl (by decide) rfl rfl ?_
    refine q_goto (pc' := 4) dX8_allExceptions_30 (by decide) ?_
    exact ih
set_option maxHeartbeats 4000000 in
set_option maxRecDepth 20000 in
theorem c_blocksOf_203 {Z : q_Z} {m : q_Mm} {d : Nat} {n f : Nat} {rl : Nat → Nat} {ys : Nat → Int64} {ws : Nat → Nat → Int64} {q : s_F} (hP : Pl m 203 n rl ys ws) (hF : Fiv m 203 q) (hf : f ≤ 2) : q_V (q_g Z) mX8_blocksOf (d+5) 0 0 0 [some (.ref (q_ad Z 203)), some (.int (nI f)), none, none] [] (q_W Z m) (q_P Z fun r m2 => r = some (.int (nI (s_sum (fun bk => if (s_wf n rl ys ws q bk).1 = f then 1 else 0) (s_nb n rl)))) ∧ Fr [203, 208, 209, 210, 211] m m2 ∧ Kp 203 [11, 12, 13, 14, 15] m m2) := by
  have hr := hP.2.2.2.1
  have hnb := s_nb_le hr hP.2.1
  refine q_iconst (pc' := 1) (v := nI 0) dX8_blocksOf_0 rfl rfl ?_
  refine q_istore_n (pc' := 2) (lv' := [_, _, _, _]) dX8_blocksOf_1 (by decide) rfl rfl ?_
  refine q_iconst (pc' := 3) (v := nI 0) dX8_blocksOf_2 rfl rfl ?_
  refine q_istore_n (pc' := 4) (lv' := [_, _, _, _]) dX8_blocksOf_3 (by decide) rfl rfl ?_
  suffices h : ∀ c j (m1 : q_Mm), j + c = s_nb n rl → Fr [203, 208, 209, 210, 211] m m1 → Kp 203 [11, 12, 13, 14, 15] m m1 → q_V (q_g Z) mX8_blocksOf (d+5) 0 0 4 [some (.ref (q_ad Z 203)), some (.int (nI f)), some (.int (nI (s_sum (fun bk => if (s_wf n rl ys ws q bk).1 = f then 1 else 0) j))), some (.int (nI j))] [] (q_W Z (m1)) (q_P Z fun r m2 => r = some (.int (nI (s_sum (fun bk => if (s_wf n rl ys ws q bk).1 = f then 1 else 0) (s_nb n rl)))) ∧ Fr [203, 208, 209, 210, 211] m m2 ∧ Kp 203 [11, 12, 13, 14, 15] m m2) from h (s_nb n rl) 0 m (by omega) Fr.rf Kp.rf
  intro c
  induction c with
  | zero =>
    intro j m1 hj f1 k1
    have hP1 := hP.kp f1 k1 (by decide) (by decide) (by decide) (by decide) (by decide)
    refine q_iload_n (pc' := 5) dX8_blocksOf_4 rfl rfl ?_
    refine q_aload_n (pc' := 6) dX8_blocksOf_5 rfl rfl ?_
    refine h_callV (pc' := 9) (M' := mX8_blocks) (As := []) dX8_blocksOf_6 iX8_blocks lX8_100 rfl rfl rfl rfl (Nat.le_of_ble_eq_true rfl) (Nat.le_of_ble_eq_true rfl) rfl rfl (c_plBlocks_203 hP1) (fun r m' hq => ?_)
    obtain ⟨rfl, rfl⟩ := hq
    obtain rfl : s_nb n rl = j := by omega
    refine q_icmp_geN (tgt := 39) (pc' := 12) dX8_blocksOf_9 (by decide) rfl (by omega) (fun c_9 => ?_) (fun c_9 => ?_)
    · refine q_iload_n (pc' := 40) dX8_blocksOf_39 rfl rfl ?_
      refine q_iret dX8_blocksOf_40 rfl rfl ⟨_, rfl, rfl, f1, k1⟩
    · omega
  | succ c ih =>
    intro j m1 hj f1 k1
    have hP1 := hP.kp f1 k1 (by decide) (by decide) (by decide) (by decide) (by decide)
    have F1 := hF.fr f1 (k1 7 (by decide)) (by decide) (by decide)
    refine q_iload_n (pc' := 5) dX8_blocksOf_4 rfl rfl ?_
    refine q_aload_n (pc' := 6) dX8_blocksOf_5 rfl rfl ?_
    refine h_callV (pc' := 9) (M' := mX8_blocks) (As := []) dX8_blocksOf_6 iX8_blocks lX8_100 rfl rfl rfl rfl (Nat.le_of_ble_eq_true rfl) (Nat.le_of_ble_eq_true rfl) rfl rfl (c_plBlocks_203 hP1) (fun r m' hq => ?_)
    obtain ⟨rfl, rfl⟩ := hq
    refine q_icmp_geN (tgt := 39) (pc' := 12) dX8_blocksOf_9 (by decide) rfl (by omega) (fun c_9 => ?_) (fun c_9 => ?_)
    · omega
    refine q_aload_n (pc' := 13) dX8_blocksOf_12 rfl rfl ?_
    refine q_iload_n (pc' := 14) dX8_blocksOf_13 rfl rfl ?_
    refine h_callV (pc' := 17) (M' := mX8_weigh) (As := [_]) dX8_blocksOf_14 iX8_weigh lX8_207 rfl rfl rfl rfl (Nat.le_of_ble_eq_true rfl) (Nat.le_of_ble_eq_true rfl) rfl rfl (c_weigh_203 hP1 F1 (by omega)) (fun r m' hq => ?_)
    obtain ⟨rfl, f2, k2, W2, -, -⟩ := hq
    have ih := ih (j + 1) m' (by omega) (f1.trans f2) (k1.trans k2)
    have hw := (s_wf_le (n := n) hr ys ws q (bk := j)).1
    refine q_iload_n (pc' := 18) dX8_blocksOf_17 rfl rfl ?_
    refine q_aload_n (pc' := 19) dX8_blocksOf_18 rfl rfl ?_
    refine h_getiE (pc' := 22) dX8_blocksOf_19 fX8_180 rfl rfl (W2.2.1) rfl ?_
    refine q_iload_n (pc' := 23) dX8_blocksOf_22 rfl rfl ?_
    refine q_icmp_neN (tgt := 30) (pc' := 26) dX8_blocksOf_23 (by decide) rfl (by omega) (fun c_23 => ?_) (fun c_23 => ?_)
    · have e : s_sum (fun bk => if (s_wf n rl ys ws q bk).1 = f then 1 else 0) (j + 1) = s_sum (fun bk => if (s_wf n rl ys ws q bk).1 = f then 1 else 0) j + 0 := by rw [s_sum]; simp only [if_neg c_23]
      rw [e] at ih
      refine q_iconst (pc' := 31) (v := nI 0) dX8_blocksOf_30 rfl rfl ?_
      refine q_iaddN (pc' := 32) dX8_blocksOf_31 rfl ?_
      refine q_istore_n (pc' := 33) (lv' := [_, _, _, _]) dX8_blocksOf_32 (by decide) rfl rfl ?_
      refine q_iincN (pc' := 36) (j := 1) (lv' := [_, _, _, _]) dX8_blocksOf_33 rfl (by decide) rfl rfl ?_
      refine q_goto (pc' := 4) dX8_blocksOf_36 (by decide) ?_
      exact ih
    · have e : s_sum (fun bk => if (s_wf n rl ys ws q bk).1 = f then 1 else 0) (j + 1) = s_sum (fun bk => if (s_wf n rl ys ws q bk).1 = f then 1 else 0) j + 1 := by rw [s_sum]; simp only [if_pos c_23]
      rw [e] at ih
      refine q_iconst (pc' := 27) (v := nI 1) dX8_blocksOf_26 rfl rfl ?_
      refine q_goto (pc' := 31) dX8_blocksOf_27 (by decide) ?_
      refine q_iaddN (pc' := 32) dX8_blocksOf_31 rfl ?_
      refine q_istore_n (pc' := 33) (lv' := [_, _, _, _]) dX8_blocksOf_32 (by decide) rfl rfl ?_
      refine q_iincN (pc' := 36) (j := 1) (lv' := [_, _, _, _]) dX8_blocksOf_33 rfl (by decide) rfl rfl ?_
      refine q_goto (pc' := 4) dX8_blocksOf_36 (by decide) ?_
      exact ih
set_option maxHeartbeats 4000000 in
set_option maxRecDepth 20000 in
theorem c_unlikeParts_203 {Z : q_Z} {m : q_Mm} {d : Nat} {n : Nat} {rl : Nat → Nat} {ys : Nat → Int64} {ws : Nat → Nat → Int64} (hP : Pl m 203 n rl ys ws) : q_V (q_g Z) mX8_unlikeParts (d+2) 0 0 0 [some (.ref (q_ad Z 203)), none, none, none] [] (q_W Z m) (q_P Z fun r m2 => r = some (.int (nI (s_cnt (fun i => decide (s_find (fun j => decide (s_part (ys j) (rl 3) = s_part (ys i) (rl 3))) i 0 = i)) n))) ∧ m2 = m) := by
  have hn := hP.2.1
  refine q_iconst (pc' := 1) (v := nI 0) dX8_unlikeParts_0 rfl rfl ?_
  refine q_istore_n (pc' := 2) (lv' := [_, _, _, _]) dX8_unlikeParts_1 (by decide) rfl rfl ?_
  refine q_iconst (pc' := 3) (v := nI 0) dX8_unlikeParts_2 rfl rfl ?_
  refine q_istore_n (pc' := 4) (lv' := [_, _, _, _]) dX8_unlikeParts_3 (by decide) rfl rfl ?_
  suffices h : ∀ c j w, j + c = n → q_V (q_g Z) mX8_unlikeParts (d+2) 0 0 4 [some (.ref (q_ad Z 203)), some (.int (nI (s_cnt (fun i => decide (s_find (fun j => decide (s_part (ys j) (rl 3) = s_part (ys i) (rl 3))) i 0 = i)) j))), some (.int (nI j)), w] [] (q_W Z (m)) (q_P Z fun r m2 => r = some (.int (nI (s_cnt (fun i => decide (s_find (fun j => decide (s_part (ys j) (rl 3) = s_part (ys i) (rl 3))) i 0 = i)) n))) ∧ m2 = m) from h n 0 _ (by omega)
  intro c
  induction c with
  | zero =>
    intro j w hj
    obtain rfl : n = j := by omega
    refine q_iload_n (pc' := 5) dX8_unlikeParts_4 rfl rfl ?_
    refine q_aload_n (pc' := 6) dX8_unlikeParts_5 rfl rfl ?_
    refine h_getiE (pc' := 9) dX8_unlikeParts_6 fX8_55 rfl rfl (hP.1) rfl ?_
    refine q_icmp_geN (tgt := 57) (pc' := 12) dX8_unlikeParts_9 (by decide) rfl (by omega) (fun c_9 => ?_) (fun c_9 => ?_)
    · refine q_iload_n (pc' := 58) dX8_unlikeParts_57 rfl rfl ?_
      refine q_iret dX8_unlikeParts_58 rfl rfl ⟨_, rfl, rfl, rfl⟩
    · omega
  | succ c ih =>
    intro j w hj
    refine q_iload_n (pc' := 5) dX8_unlikeParts_4 rfl rfl ?_
    refine q_aload_n (pc' := 6) dX8_unlikeParts_5 rfl rfl ?_
    refine h_getiE (pc' := 9) dX8_unlikeParts_6 fX8_55 rfl rfl (hP.1) rfl ?_
    refine q_icmp_geN (tgt := 57) (pc' := 12) dX8_unlikeParts_9 (by decide) rfl (by omega) (fun c_9 => ?_) (fun c_9 => ?_)
    · omega
    refine q_iconst (pc' := 13) (v := nI 0) dX8_unlikeParts_12 rfl rfl ?_
    refine q_istore_n (pc' := 14) (lv' := [_, _, _, _]) dX8_unlikeParts_13 (by decide) rfl rfl ?_
    have fin : ∀ k, k = s_find (fun i => decide (s_part (ys i) (rl 3) = s_part (ys j) (rl 3))) j 0 → k ≤ j → q_V (q_g Z) mX8_unlikeParts (d+2) 0 0 38 [some (.ref (q_ad Z 203)), some (.int (nI (s_cnt (fun i => decide (s_find (fun j => decide (s_part (ys j) (rl 3) = s_part (ys i) (rl 3))) i 0 = i)) j))), some (.int (nI j)), some (.int (nI k))] [] (q_W Z (m)) (q_P Z fun r m2 => r = some (.int (nI (s_cnt (fun i => decide (s_find (fun j => decide (s_part (ys j) (rl 3) = s_part (ys i) (rl 3))) i 0 = i)) n))) ∧ m2 = m) := by
      intro k hk hkj
      have ih := ih (j + 1) (some (.int (nI k))) (by omega)
      refine q_iload_n (pc' := 39) dX8_unlikeParts_38 rfl rfl ?_
      refine q_iload_n (pc' := 40) dX8_unlikeParts_39 rfl rfl ?_
      refine q_iload_n (pc' := 41) dX8_unlikeParts_40 rfl rfl ?_
      refine q_icmp_neN (tgt := 48) (pc' := 44) dX8_unlikeParts_41 (by decide) rfl (by omega) (fun c_41 => ?_) (fun c_41 => ?_)
      · rw [s_cnt_f (decide_eq_false (fun z => c_41 (hk.trans z)))] at ih
        refine q_iconst (pc' := 49) (v := nI 0) dX8_unlikeParts_48 rfl rfl ?_
        refine q_iaddN (pc' := 50) dX8_unlikeParts_49 rfl ?_
        refine q_istore_n (pc' := 51) (lv' := [_, _, _, _]) dX8_unlikeParts_50 (by decide) rfl rfl ?_
        refine q_iincN (pc' := 54) (j := 1) (lv' := [_, _, _, _]) dX8_unlikeParts_51 rfl (by decide) rfl rfl ?_
        refine q_goto (pc' := 4) dX8_unlikeParts_54 (by decide) ?_
        exact ih
      · rw [s_cnt_t (decide_eq_true (hk.symm.trans c_41))] at ih
        refine q_iconst (pc' := 45) (v := nI 1) dX8_unlikeParts_44 rfl rfl ?_
        refine q_goto (pc' := 49) dX8_unlikeParts_45 (by decide) ?_
        refine q_iaddN (pc' := 50) dX8_unlikeParts_49 rfl ?_
        refine q_istore_n (pc' := 51) (lv' := [_, _, _, _]) dX8_unlikeParts_50 (by decide) rfl rfl ?_
        refine q_iincN (pc' := 54) (j := 1) (lv' := [_, _, _, _]) dX8_unlikeParts_51 rfl (by decide) rfl rfl ?_
        refine q_goto (pc' := 4) dX8_unlikeParts_54 (by decide) ?_
        exact ih
    suffices h : ∀ g k, k + g = j → s_find (fun i => decide (s_part (ys i) (rl 3) = s_part (ys j) (rl 3))) g k = s_find (fun i => decide (s_part (ys i) (rl 3) = s_part (ys j) (rl 3))) j 0 → q_V (q_g Z) mX8_unlikeParts (d+2) 0 0 14 [some (.ref (q_ad Z 203)), some (.int (nI (s_cnt (fun i => decide (s_find (fun j => decide (s_part (ys j) (rl 3) = s_part (ys i) (rl 3))) i 0 = i)) j))), some (.int (nI j)), some (.int (nI k))] [] (q_W Z (m)) (q_P Z fun r m2 => r = some (.int (nI (s_cnt (fun i => decide (s_find (fun j => decide (s_part (ys j) (rl 3) = s_part (ys i) (rl 3))) i 0 = i)) n))) ∧ m2 = m) from h j 0 (by omega) rfl
    intro g
    induction g with
    | zero =>
      intro k hk hs
      refine q_iload_n (pc' := 15) dX8_unlikeParts_14 rfl rfl ?_
      refine q_iload_n (pc' := 16) dX8_unlikeParts_15 rfl rfl ?_
      refine q_icmp_geN (tgt := 38) (pc' := 19) dX8_unlikeParts_16 (by decide) rfl (by omega) (fun c_16 => ?_) (fun c_16 => ?_)
      · exact fin k hs (by omega)
      · omega
    | succ g ihg =>
      intro k hk hs
      rw [s_find_succ] at hs
      refine q_iload_n (pc' := 15) dX8_unlikeParts_14 rfl rfl ?_
      refine q_iload_n (pc' := 16) dX8_unlikeParts_15 rfl rfl ?_
      refine q_icmp_geN (tgt := 38) (pc' := 19) dX8_unlikeParts_16 (by decide) rfl (by omega) (fun c_16 => ?_) (fun c_16 => ?_)
      · omega
      refine q_aload_n (pc' := 20) dX8_unlikeParts_19 rfl rfl ?_
      refine q_iload_n (pc' := 21) dX8_unlikeParts_20 rfl rfl ?_
      refine h_callV (pc' := 24) (M' := mX8_partAt) (As := [_]) dX8_unlikeParts_21 iX8_partAt lX8_150 rfl rfl rfl rfl (Nat.le_of_ble_eq_true rfl) (Nat.le_of_ble_eq_true rfl) rfl rfl (c_partAt_203 hP (by omega)) (fun r m' hq => ?_)
      obtain ⟨rfl, rfl⟩ := hq
      refine q_aload_n (pc' := 25) dX8_unlikeParts_24 rfl rfl ?_
      refine q_iload_n (pc' := 26) dX8_unlikeParts_25 rfl rfl ?_
      refine h_callV (pc' := 29) (M' := mX8_partAt) (As := [_]) dX8_unlikeParts_26 iX8_partAt lX8_150 rfl rfl rfl rfl (Nat.le_of_ble_eq_true rfl) (Nat.le_of_ble_eq_true rfl) rfl rfl (c_partAt_203 hP (by omega)) (fun r m' hq => ?_)
      obtain ⟨rfl, rfl⟩ := hq
      refine q_icmp_eq (tgt := 38) (pc' := 32) dX8_unlikeParts_29 (by decide) rfl (fun c_29 => ?_) (fun c_29 => ?_)
      · rw [if_pos (decide_eq_true c_29)] at hs
        exact fin k hs (by omega)
      · rw [if_neg (by simpa using c_29)] at hs
        refine q_iincN (pc' := 35) (j := 1) (lv' := [_, _, _, _]) dX8_unlikeParts_32 rfl (by decide) rfl rfl ?_
        refine q_goto (pc' := 14) dX8_unlikeParts_35 (by decide) ?_
        exact ihg (k + 1) (by omega) hs
set_option maxHeartbeats 4000000 in
set_option maxRecDepth 20000 in
theorem c_lay_203 {Z : q_Z} {m : q_Mm} {d : Nat} {n k : Nat} {rl : Nat → Nat} {xs : Nat → Int64} {nt : Nat → Int32} {ws : Nat → Nat → Int64} (hC : Col m 19 n k xs rl nt) (hw : ∀ i, i < n → ∀ p, p < 120 → m.2.2.2.1 193 (i * 120 + p) = ws i p) : q_V (q_g Z) mX8_lay (d+1) 0 0 0 [some (.ref (q_ad Z 203)), none] [] (q_W Z m) (q_P Z fun r m2 => r = none ∧ Fr [203, 204, 205] m m2 ∧ Kp 203 [4] m m2 ∧ PlI m2 203 n rl xs ws) := by
  obtain ⟨hn, hk, hn6, hk6, hx, hr, hnt, hok⟩ := hC
  refine q_aload_n (pc' := 1) dX8_lay_0 rfl rfl ?_
  refine h_getr (pc' := 4) dX8_lay_1 fX8_35 rfl rfl rfl ?_
  refine h_getr (pc' := 7) dX8_lay_4 fX8_42 rfl rfl rfl ?_
  refine q_iconst (pc' := 8) (v := nI 0) dX8_lay_7 rfl rfl ?_
  refine q_aload_n (pc' := 9) dX8_lay_8 rfl rfl ?_
  refine h_getr (pc' := 12) dX8_lay_9 fX8_9 rfl rfl rfl ?_
  refine q_iconst (pc' := 13) (v := nI 0) dX8_lay_12 rfl rfl ?_
  refine q_iconst (pc' := 14) (v := nI 5) dX8_lay_13 rfl rfl ?_
  refine h_copyi (pc' := 17) dX8_lay_14 lX8_45 cp_n cp_s cp_i rfl rfl (rfl) (rfl) (rfl) (by omega) (by omega) (by decide) (Nat.le_of_ble_eq_true rfl) rfl ?_
  refine q_aload_n (pc' := 18) dX8_lay_17 rfl rfl ?_
  refine q_aload_n (pc' := 19) dX8_lay_18 rfl rfl ?_
  refine h_getr (pc' := 22) dX8_lay_19 fX8_35 rfl rfl rfl ?_
  refine h_getiE (pc' := 25) dX8_lay_22 fX8_51 rfl rfl (hn) rfl ?_
  refine h_puti (pc' := 28) dX8_lay_25 fX8_55 rfl rfl rfl rfl rfl ?_
  refine q_iconst (pc' := 29) (v := nI 0) dX8_lay_28 rfl rfl ?_
  refine q_istore_n (pc' := 30) (lv' := [_, _]) dX8_lay_29 (by decide) rfl rfl ?_
  suffices h : ∀ c j (m1 : q_Mm), j + c = n → Fr [203, 204, 205] m m1 → Kp 203 [4] m m1 → m1.1 203 4 = nI n → (∀ i, i < 5 → m1.2.2.1 204 i = nI (rl i)) → (∀ i, i < j → m1.2.2.1 205 i = nI i) → q_V (q_g Z) mX8_lay (d+1) 0 0 30 [some (.ref (q_ad Z 203)), some (.int (nI j))] [] (q_W Z (m1)) (q_P Z fun r m2 => r = none ∧ Fr [203, 204, 205] m m2 ∧ Kp 203 [4] m m2 ∧ PlI m2 203 n rl xs ws) from by
    refine h n 0 _ (by omega) ((Fr.rf.A (by decide)).I (by decide)) ?_ rfl (fun i hi => ?_) (fun i hi => absurd hi (Nat.not_lt_zero i))
    · intro j hj
      exact q_u_n _ _ (by simpa using hj)
    · show va_cpy (m.2.2.1 21) (m.2.2.1 204) 0 0 5 i = nI (rl i)
      rw [cpy_in _ _ (Nat.zero_le _) (by omega)]
      simpa using hr i hi
  intro c
  induction c with
  | zero =>
    intro j m1 hj f1 k1 e4 e5 e6
    obtain rfl : n = j := by omega
    refine q_iload_n (pc' := 31) dX8_lay_30 rfl rfl ?_
    refine q_aload_n (pc' := 32) dX8_lay_31 rfl rfl ?_
    refine h_getiE (pc' := 35) dX8_lay_32 fX8_55 rfl rfl (e4) rfl ?_
    refine q_icmp_geN (tgt := 51) (pc' := 38) dX8_lay_35 (by decide) rfl (by omega) (fun c_35 => ?_) (fun c_35 => ?_)
    · refine q_vret dX8_lay_51 rfl ⟨_, rfl, rfl, f1, k1, ⟨e4, hn6, e5, hok, fun i hi => ⟨e6 i hi, (congrFun (f1.l (by decide)) i).trans (hx i hi), fun p hp => (congrFun (f1.l (by decide)) _).trans (hw i hi p hp)⟩⟩⟩
    · omega
  | succ c ih =>
    intro j m1 hj f1 k1 e4 e5 e6
    refine q_iload_n (pc' := 31) dX8_lay_30 rfl rfl ?_
    refine q_aload_n (pc' := 32) dX8_lay_31 rfl rfl ?_
    refine h_getiE (pc' := 35) dX8_lay_32 fX8_55 rfl rfl (e4) rfl ?_
    refine q_icmp_geN (tgt := 51) (pc' := 38) dX8_lay_35 (by decide) rfl (by omega) (fun c_35 => ?_) (fun c_35 => ?_)
    · omega
    refine q_aload_n (pc' := 39) dX8_lay_38 rfl rfl ?_
    refine h_getr (pc' := 42) dX8_lay_39 fX8_15 rfl rfl rfl ?_
    refine q_iload_n (pc' := 43) dX8_lay_42 rfl rfl ?_
    refine q_iload_n (pc' := 44) dX8_lay_43 rfl rfl ?_
    refine h_iast (pc' := 45) dX8_lay_44 rfl (rfl) (by omega) (by decide) rfl ?_
    refine q_iincN (pc' := 48) (j := 1) (lv' := [_, _]) dX8_lay_45 rfl (by decide) rfl rfl ?_
    refine q_goto (pc' := 30) dX8_lay_48 (by decide) ?_
    refine ih (j + 1) _ (by omega) (f1.A (by decide)) k1 e4 e5 (fun i hi => ?_)
    show q_u (m1.2.2.1 205) j (nI j) i = nI i
    by_cases h : i = j
    · rw [h, q_u_s]
    · rw [q_u_n _ _ h]
      exact e6 i (by omega)
set_option maxHeartbeats 4000000 in
set_option maxRecDepth 20000 in
theorem c_leaveOut_203 {Z : q_Z} {m : q_Mm} {d : Nat} {n pl : Nat} {rl : Nat → Nat} {xs : Nat → Int64} {ws : Nat → Nat → Int64} (hP : PlI m 203 n rl xs ws) (hpl : pl < n) : q_V (q_g Z) mX8_leaveOut (d) 0 0 0 [some (.ref (q_ad Z 203)), some (.int (nI pl)), none] [] (q_W Z m) (q_P Z fun r m2 => r = none ∧ Fr [203, 205] m m2 ∧ Kp 203 [4] m m2 ∧ Pl m2 203 (n - 1) rl (fun i => xs (if i < pl then i else i + 1)) (fun i => ws (if i < pl then i else i + 1))) := by
  obtain ⟨h1, h2, h3, h4, h5⟩ := hP
  refine q_aload_n (pc' := 1) dX8_leaveOut_0 rfl rfl ?_
  refine q_dup (pc' := 2) dX8_leaveOut_1 rfl rfl ?_
  refine h_getiE (pc' := 5) dX8_leaveOut_2 fX8_55 rfl rfl (h1) rfl ?_
  refine q_iconst (pc' := 6) (v := nI 1) dX8_leaveOut_5 rfl rfl ?_
  refine q_isubN (pc' := 7) dX8_leaveOut_6 (by omega) rfl ?_
  refine h_puti (pc' := 10) dX8_leaveOut_7 fX8_55 rfl rfl rfl rfl rfl ?_
  refine q_iload_n (pc' := 11) dX8_leaveOut_10 rfl rfl ?_
  refine q_istore_n (pc' := 12) (lv' := [_, _, _]) dX8_leaveOut_11 (by decide) rfl rfl ?_
  suffices h : ∀ c j (m1 : q_Mm), j + c = n - 1 → pl ≤ j → Fr [203, 205] m m1 → Kp 203 [4] m m1 → m1.1 203 4 = nI (n - 1) → (∀ i, i < j → m1.2.2.1 205 i = nI (if i < pl then i else i + 1)) → q_V (q_g Z) mX8_leaveOut (d) 0 0 12 [some (.ref (q_ad Z 203)), some (.int (nI pl)), some (.int (nI j))] [] (q_W Z (m1)) (q_P Z fun r m2 => r = none ∧ Fr [203, 205] m m2 ∧ Kp 203 [4] m m2 ∧ Pl m2 203 (n - 1) rl (fun i => xs (if i < pl then i else i + 1)) (fun i => ws (if i < pl then i else i + 1))) from by
    refine h (n - 1 - pl) pl _ (by omega) (Nat.le_refl _) (Fr.rf.I (by decide)) ?_ rfl (fun i hi => ?_)
    · intro j hj
      exact q_u_n _ _ (by simpa using hj)
    · rw [if_pos hi]
      exact (h5 i (by omega)).1
  intro c
  induction c with
  | zero =>
    intro j m1 hj hpj f1 k1 e4 e6
    obtain rfl : n - 1 = j := by omega
    refine q_iload_n (pc' := 13) dX8_leaveOut_12 rfl rfl ?_
    refine q_aload_n (pc' := 14) dX8_leaveOut_13 rfl rfl ?_
    refine h_getiE (pc' := 17) dX8_leaveOut_14 fX8_55 rfl rfl (e4) rfl ?_
    refine q_icmp_geN (tgt := 35) (pc' := 20) dX8_leaveOut_17 (by decide) rfl (by omega) (fun c_17 => ?_) (fun c_17 => ?_)
    · refine q_vret dX8_leaveOut_35 rfl ⟨_, rfl, rfl, f1, k1, ⟨e4, by omega, fun i hi => (congrFun (f1.a (by decide)) i).trans (h3 i hi), h4, fun i hi => ?_⟩⟩
      have hk : (if i < pl then i else i + 1) < n := by split <;> omega
      exact ⟨_, by omega, e6 i hi, (congrFun (f1.l (by decide)) _).trans (h5 _ hk).2.1, fun p hp => (congrFun (f1.l (by decide)) _).trans ((h5 _ hk).2.2 p hp)⟩
    · omega
  | succ c ih =>
    intro j m1 hj hpj f1 k1 e4 e6
    refine q_iload_n (pc' := 13) dX8_leaveOut_12 rfl rfl ?_
    refine q_aload_n (pc' := 14) dX8_leaveOut_13 rfl rfl ?_
    refine h_getiE (pc' := 17) dX8_leaveOut_14 fX8_55 rfl rfl (e4) rfl ?_
    refine q_icmp_geN (tgt := 35) (pc' := 20) dX8_leaveOut_17 (by decide) rfl (by omega) (fun c_17 => ?_) (fun c_17 => ?_)
    · omega
    refine q_aload_n (pc' := 21) dX8_leaveOut_20 rfl rfl ?_
    refine h_getr (pc' := 24) dX8_leaveOut_21 fX8_15 rfl rfl rfl ?_
    refine q_iload_n (pc' := 25) dX8_leaveOut_24 rfl rfl ?_
    refine q_iload_n (pc' := 26) dX8_leaveOut_25 rfl rfl ?_
    refine q_iconst (pc' := 27) (v := nI 1) dX8_leaveOut_26 rfl rfl ?_
    refine q_iaddN (pc' := 28) dX8_leaveOut_27 rfl ?_
    refine h_iast (pc' := 29) dX8_leaveOut_28 rfl (rfl) (by omega) (by decide) rfl ?_
    refine q_iincN (pc' := 32) (j := 1) (lv' := [_, _, _]) dX8_leaveOut_29 rfl (by decide) rfl rfl ?_
    refine q_goto (pc' := 12) dX8_leaveOut_32 (by decide) ?_
    refine ih (j + 1) _ (by omega) (by omega) (f1.A (by decide)) k1 e4 (fun i hi => ?_)
    show q_u (m1.2.2.1 205) j (nI (j + 1)) i = nI _
    by_cases h : i = j
    · rw [h, q_u_s, if_neg (by omega)]
    · rw [q_u_n _ _ h]
      exact e6 i (by omega)
