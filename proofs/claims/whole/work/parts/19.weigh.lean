/-! ===== Plan, the FORMS of BLOCKS ===== -/
theorem s_mo_0 (f : Nat → Nat) : ∀ c, (s_mo f c).1 = none → (s_mo f c).2 = 0 ∧ ∀ i, i < c → f i = 0
  | 0, _ => ⟨rfl, fun i h => absurd h (Nat.not_lt_zero i)⟩
  | c + 1, h => by
    unfold s_mo at h ⊢
    split at h
    · cases h
    · rename_i q
      have ih := s_mo_0 f c h
      rw [if_neg q]
      refine ⟨ih.1, fun i hi => ?_⟩
      rcases Nat.lt_or_ge i c with z | z
      · exact ih.2 i z
      · obtain rfl : i = c := by omega
        omega
theorem s_often_pos (ps : Nat → Int32) (c : Nat) (h : 1 ≤ c) : ∃ i, i < c ∧ 0 < s_often ps c i := by
  obtain ⟨c, rfl⟩ : ∃ k, c = k + 1 := ⟨c - 1, by omega⟩
  have := s_find_le (fun j => decide (ps j = ps c)) c 0
  refine ⟨s_find (fun j => decide (ps j = ps c)) c 0, by omega, ?_⟩
  unfold s_often
  rw [q_u_s]
  omega
theorem s_ch_mono (ps : Nat → Int32) (c : Nat) (f : Nat → Nat) (j : Nat) : (s_ch ps c f j).1 ≤ (s_ch ps c f (j + 1)).1 := by
  rw [s_ch]
  split
  · exact Nat.le_refl _
  · exact Nat.le_succ _
theorem s_ch_pos (ps : Nat → Int32) (c : Nat) (h : 1 ≤ c) : ∀ j, 1 ≤ (s_ch ps c (s_often ps c) (j + 1)).1
  | 0 => by
    obtain ⟨i, hi, hp⟩ := s_often_pos ps c h
    rw [s_ch]
    split
    · rename_i q
      have := (s_mo_0 _ _ q).2 i hi
      have : s_often ps c i = 0 := this
      omega
    · exact Nat.le_add_left 1 _
  | j + 1 => Nat.le_trans (s_ch_pos ps c h j) (s_ch_mono ps c _ (j + 1))
def s_ps (rl : Nat → Nat) (ys : Nat → Int64) (bk : Nat) (i : Nat) : Int32 := s_part (ys (bk * rl 0 + i)) (rl 3)
def s_S (n : Nat) (rl : Nat → Nat) (ys : Nat → Int64) (bk : Nat) : Nat × (Nat → Nat) × (Nat → Int32) := s_ch (s_ps rl ys bk) (s_sz n rl bk) (s_often (s_ps rl ys bk) (s_sz n rl bk)) (rl 4)
def s_cb (n : Nat) (rl : Nat → Nat) (ys : Nat → Int64) (bk : Nat) : Nat := s_bl (nI ((s_S n rl ys bk).1 - 1)).toInt64
def s_mi (n : Nat) (rl : Nat → Nat) (ys : Nat → Int64) (bk i : Nat) : Bool := !decide (s_code (s_S n rl ys bk).2.2 (s_S n rl ys bk).1 (s_ps rl ys bk i) < (s_S n rl ys bk).1)
def s_un (rl : Nat → Nat) (ws : Nat → Nat → Int64) (bk p i : Nat) : Bool := decide (ws (bk * rl 0 + i) p = s_no)
def s_spc (n : Nat) (rl : Nat → Nat) (ys : Nat → Int64) (bk : Nat) : Nat := 6 + 2 * (s_S n rl ys bk).1 + (s_sz n rl bk * (s_cb n rl ys bk + 64 - rl 3) + 7) / 8 + 3 * s_cnt (s_mi n rl ys bk) (s_sz n rl bk)
theorem s_S_in {n : Nat} {rl : Nat → Nat} (hr : s_rok rl) (ys : Nat → Int64) {bk : Nat} (h : 1 ≤ s_sz n rl bk) : 1 ≤ (s_S n rl ys bk).1 ∧ (s_S n rl ys bk).1 ≤ 8 := by
  have h4 := hr.2.2.2.2
  constructor
  · obtain ⟨k, hk⟩ : ∃ k, rl 4 = k + 1 := ⟨rl 4 - 1, by omega⟩
    unfold s_S
    rw [hk]
    exact s_ch_pos _ _ h k
  · exact Nat.le_trans (s_ch_le _ _ _ _) h4.2
theorem s_spc_le {n : Nat} {rl : Nat → Nat} (hr : s_rok rl) (ys : Nat → Int64) {bk : Nat} (h : 1 ≤ s_sz n rl bk) : s_spc n rl ys bk ≤ 1000 := by
  have h1 := (s_S_in hr ys h).2
  have h2 := s_bl_le (nI ((s_S n rl ys bk).1 - 1)).toInt64
  have h3 : s_sz n rl bk ≤ 16 := by have := hr.1.2; unfold s_sz; split <;> omega
  have h4 := s_cnt_le (s_mi n rl ys bk) (s_sz n rl bk)
  have h5 : s_sz n rl bk * (s_cb n rl ys bk + 64 - rl 3) ≤ 16 * 128 := Nat.mul_le_mul h3 (by unfold s_cb; omega)
  unfold s_spc
  omega
theorem s_sz16 {n : Nat} {rl : Nat → Nat} (hr : s_rok rl) (bk : Nat) : s_sz n rl bk ≤ 16 := by have := hr.1.2; unfold s_sz; split <;> omega
/-- the PAIR, the FORM and the COST of a BLOCK -/
def s_wp (n : Nat) (rl : Nat → Nat) (ws : Nat → Nat → Int64) (q : s_F) (bk : Nat) : Nat := (s_po (fun p => s_sc n rl ws bk p) q.2.1 q.1).1
def s_w1 (n : Nat) (rl : Nat → Nat) (ws : Nat → Nat → Int64) (q : s_F) (bk : Nat) : Nat × Nat := if s_dc n rl ws bk (s_wp n rl ws q bk) < 3 + 8 * s_sz n rl bk then (1, s_dc n rl ws bk (s_wp n rl ws q bk)) else (0, 3 + 8 * s_sz n rl bk)
def s_wf (n : Nat) (rl : Nat → Nat) (ys : Nat → Int64) (ws : Nat → Nat → Int64) (q : s_F) (bk : Nat) : Nat × Nat := if s_spc n rl ys bk < (s_w1 n rl ws q bk).2 then (2, s_spc n rl ys bk) else s_w1 n rl ws q bk
def s_ex (n : Nat) (rl : Nat → Nat) (ys : Nat → Int64) (ws : Nat → Nat → Int64) (p bk f i : Nat) : Bool := match f with
  | 0 => false
  | 1 => s_un rl ws bk p i
  | _ => s_mi n rl ys bk i
theorem s_mk_no : ∀ c, s_mk (fun _ => false) c = 0
  | 0 => rfl
  | c + 1 => by rw [s_mk_f rfl]; exact s_mk_no c
/-- what weigh leaves -/
def Wg (m : q_Mm) (b n : Nat) (rl : Nat → Nat) (ys : Nat → Int64) (ws : Nat → Nat → Int64) (q : s_F) (bk : Nat) : Prop := m.1 b 12 = nI (s_wp n rl ws q bk) ∧ m.1 b 13 = nI (s_wf n rl ys ws q bk).1 ∧ m.1 b 14 = nI (s_wf n rl ys ws q bk).2 ∧ m.1 b 15 = nI (s_mk (s_ex n rl ys ws (s_wp n rl ws q bk) bk (s_wf n rl ys ws q bk).1) (s_sz n rl bk))
theorem s_wp_lt {n : Nat} {rl : Nat → Nat} (hr : s_rok rl) (ws : Nat → Nat → Int64) {q : s_F} (hq : ∀ i, i < q.1 → q.2.1 i < 120) (bk : Nat) : s_wp n rl ws q bk < 120 := (s_po_le q.1 hq (fun p => s_sc_le hr ws bk p)).1
theorem s_wf_le {n : Nat} {rl : Nat → Nat} (hr : s_rok rl) (ys : Nat → Int64) (ws : Nat → Nat → Int64) (q : s_F) {bk : Nat} : (s_wf n rl ys ws q bk).1 ≤ 2 ∧ (s_wf n rl ys ws q bk).2 ≤ 1000 := by
  have h3 := s_sz16 (n := n) hr bk
  have h : (s_w1 n rl ws q bk).1 ≤ 2 ∧ (s_w1 n rl ws q bk).2 ≤ 1000 := by
    unfold s_w1
    split
    · exact ⟨(by show 1 ≤ 2; decide), s_dc_le hr ws bk _⟩
    · exact ⟨Nat.zero_le _, by simp only []; omega⟩
  unfold s_wf
  split
  · exact ⟨(by show 2 ≤ 2; decide), by simp only []; omega⟩
  · exact h
set_option maxHeartbeats 4000000 in
set_option maxRecDepth 20000 in
theorem c_divide_194 {Z : q_Z} {m : q_Mm} {d : Nat} {n bk : Nat} {rl : Nat → Nat} {ys : Nat → Int64} {ws : Nat → Nat → Int64} (hP : Pl m 194 n rl ys ws) (hb : bk < s_nb n rl) : q_V (q_g Z) mX8_divide (d+2) 0 0 0 [some (.ref (q_ad Z 194)), some (.int (nI bk)), none] [] (q_W Z m) (q_P Z fun r m2 => r = none ∧ Fr [199, 200, 201, 202] m m2 ∧ PartC m2 199 (s_sz n rl bk) (rl 4) (s_ps rl ys bk)) := by
  have hr := hP.2.2.2.1
  have hz := s_nb_in hr hb
  have h16 := s_sz16 (n := n) hr bk
  refine q_aload_n (pc' := 1) dX8_divide_0 rfl rfl ?_
  refine h_getr (pc' := 4) dX8_divide_1 fX8_27 rfl rfl rfl ?_
  refine h_callV (pc' := 7) (M' := mX6_start) (As := []) dX8_divide_4 iX6_start lX8_147 rfl rfl rfl rfl (Nat.le_of_ble_eq_true rfl) (Nat.le_of_ble_eq_true rfl) rfl rfl (c_start_199 (ps := s_ps rl ys bk)) (fun r m' hq => ?_)
  obtain ⟨rfl, f0, O0⟩ := hq
  refine q_iconst (pc' := 8) (v := nI 0) dX8_divide_7 rfl rfl ?_
  refine q_istore_n (pc' := 9) (lv' := [_, _, _]) dX8_divide_8 (by decide) rfl rfl ?_
  suffices h : ∀ c j (m1 : q_Mm), j + c = s_sz n rl bk → Fr [199, 200, 201, 202] m m1 → PartO m1 199 j (s_ps rl ys bk) → q_V (q_g Z) mX8_divide (d+2) 0 0 9 [some (.ref (q_ad Z 194)), some (.int (nI bk)), some (.int (nI j))] [] (q_W Z (m1)) (q_P Z fun r m2 => r = none ∧ Fr [199, 200, 201, 202] m m2 ∧ PartC m2 199 (s_sz n rl bk) (rl 4) (s_ps rl ys bk)) from h (s_sz n rl bk) 0 m' (by omega) (f0.mono (by decide)) O0
  intro c
  induction c with
  | zero =>
    intro j m1 hj f1 O1
    have hP1 := hP.fr f1 (congrFun (f1.i (by decide)) 4) (by decide) (by decide) (by decide) (by decide)
    refine q_iload_n (pc' := 10) dX8_divide_9 rfl rfl ?_
    refine q_aload_n (pc' := 11) dX8_divide_10 rfl rfl ?_
    refine q_iload_n (pc' := 12) dX8_divide_11 rfl rfl ?_
    refine h_callV (pc' := 15) (M' := mX8_sizeOf) (As := [_]) dX8_divide_12 iX8_sizeOf lX8_106 rfl rfl rfl rfl (Nat.le_of_ble_eq_true rfl) (Nat.le_of_ble_eq_true rfl) rfl rfl (c_sizeOf_194 hP1 hb) (fun r m' hq => ?_)
    obtain ⟨rfl, rfl⟩ := hq
    obtain rfl : s_sz n rl bk = j := by omega
    refine q_icmp_geN (tgt := 42) (pc' := 18) dX8_divide_15 (by decide) rfl (by omega) (fun c_15 => ?_) (fun c_15 => ?_)
    · refine q_aload_n (pc' := 43) dX8_divide_42 rfl rfl ?_
      refine h_getr (pc' := 46) dX8_divide_43 fX8_27 rfl rfl rfl ?_
      refine q_aload_n (pc' := 47) dX8_divide_46 rfl rfl ?_
      refine h_getr (pc' := 50) dX8_divide_47 fX8_9 rfl rfl rfl ?_
      refine q_iconst (pc' := 51) (v := nI 4) dX8_divide_50 rfl rfl ?_
      refine h_ialdE (pc' := 52) dX8_divide_51 rfl (rfl) (by omega) (by decide) (hP1.2.2.1 4 (by decide)) rfl ?_
      refine h_callV (pc' := 55) (M' := mX6_choose) (As := [_]) dX8_divide_52 iX6_choose lX8_157 rfl rfl rfl rfl (Nat.le_of_ble_eq_true rfl) (Nat.le_of_ble_eq_true rfl) rfl rfl (c_choose_199 O1 hr.2.2.2.2.2) (fun r m' hq => ?_)
      obtain ⟨rfl, f2, C2⟩ := hq
      refine q_vret dX8_divide_55 rfl ⟨_, rfl, rfl, f1.trans (f2.mono (by decide)), C2⟩
    · omega
  | succ c ih =>
    intro j m1 hj f1 O1
    have hP1 := hP.fr f1 (congrFun (f1.i (by decide)) 4) (by decide) (by decide) (by decide) (by decide)
    refine q_iload_n (pc' := 10) dX8_divide_9 rfl rfl ?_
    refine q_aload_n (pc' := 11) dX8_divide_10 rfl rfl ?_
    refine q_iload_n (pc' := 12) dX8_divide_11 rfl rfl ?_
    refine h_callV (pc' := 15) (M' := mX8_sizeOf) (As := [_]) dX8_divide_12 iX8_sizeOf lX8_106 rfl rfl rfl rfl (Nat.le_of_ble_eq_true rfl) (Nat.le_of_ble_eq_true rfl) rfl rfl (c_sizeOf_194 hP1 hb) (fun r m' hq => ?_)
    obtain ⟨rfl, rfl⟩ := hq
    refine q_icmp_geN (tgt := 42) (pc' := 18) dX8_divide_15 (by decide) rfl (by omega) (fun c_15 => ?_) (fun c_15 => ?_)
    · omega
    refine q_aload_n (pc' := 19) dX8_divide_18 rfl rfl ?_
    refine h_getr (pc' := 22) dX8_divide_19 fX8_27 rfl rfl rfl ?_
    refine q_aload_n (pc' := 23) dX8_divide_22 rfl rfl ?_
    refine q_aload_n (pc' := 24) dX8_divide_23 rfl rfl ?_
    refine q_iload_n (pc' := 25) dX8_divide_24 rfl rfl ?_
    refine h_callV (pc' := 28) (M' := mX8_startOf) (As := [_]) dX8_divide_25 iX8_startOf lX8_60 rfl rfl rfl rfl (Nat.le_of_ble_eq_true rfl) (Nat.le_of_ble_eq_true rfl) rfl rfl (c_startOf_194 hP1) (fun r m' hq => ?_)
    obtain ⟨rfl, rfl⟩ := hq
    refine q_iload_n (pc' := 29) dX8_divide_28 rfl rfl ?_
    refine q_iaddN (pc' := 30) dX8_divide_29 rfl ?_
    refine h_callV (pc' := 33) (M' := mX8_partAt) (As := [_]) dX8_divide_30 iX8_partAt lX8_150 rfl rfl rfl rfl (Nat.le_of_ble_eq_true rfl) (Nat.le_of_ble_eq_true rfl) rfl rfl (c_partAt_194 hP1 (by omega)) (fun r m' hq => ?_)
    obtain ⟨rfl, rfl⟩ := hq
    refine h_callV (pc' := 36) (M' := mX6_offer) (As := [_]) dX8_divide_33 iX6_offer lX8_153 rfl rfl rfl rfl (Nat.le_of_ble_eq_true rfl) (Nat.le_of_ble_eq_true rfl) rfl rfl (c_offer_199 O1 (by omega) rfl) (fun r m' hq => ?_)
    obtain ⟨rfl, f2, O2⟩ := hq
    refine q_iincN (pc' := 39) (j := 1) (lv' := [_, _, _]) dX8_divide_36 rfl (by decide) rfl rfl ?_
    refine q_goto (pc' := 9) dX8_divide_39 (by decide) ?_
    exact ih (j + 1) _ (by omega) (f1.trans (f2.mono (by decide))) O2
set_option maxHeartbeats 4000000 in
set_option maxRecDepth 20000 in
theorem c_splitCost_194 {Z : q_Z} {m : q_Mm} {d : Nat} {n bk : Nat} {rl : Nat → Nat} {ys : Nat → Int64} {ws : Nat → Nat → Int64} (hP : Pl m 194 n rl ys ws) (hb : bk < s_nb n rl) : q_V (q_g Z) mX8_splitCost (d+3) 0 0 0 [some (.ref (q_ad Z 194)), some (.int (nI bk)), none] [] (q_W Z m) (q_P Z fun r m2 => r = some (.int (nI (s_spc n rl ys bk))) ∧ Fr [199, 200, 201, 202] m m2 ∧ PartC m2 199 (s_sz n rl bk) (rl 4) (s_ps rl ys bk)) := by
  have hr := hP.2.2.2.1
  have hz := s_nb_in hr hb
  have h16 := s_sz16 (n := n) hr bk
  have hS := s_S_in hr ys hz.2.1
  have h3 := hr.2.2.2.1
  refine q_aload_n (pc' := 1) dX8_splitCost_0 rfl rfl ?_
  refine q_iload_n (pc' := 2) dX8_splitCost_1 rfl rfl ?_
  refine h_callV (pc' := 5) (M' := mX8_divide) (As := [_]) dX8_splitCost_2 iX8_divide lX8_160 rfl rfl rfl rfl (Nat.le_of_ble_eq_true rfl) (Nat.le_of_ble_eq_true rfl) rfl rfl (c_divide_194 hP hb) (fun r m' hq => ?_)
  obtain ⟨rfl, f1, C1⟩ := hq
  have hP1 := hP.fr f1 (congrFun (f1.i (by decide)) 4) (by decide) (by decide) (by decide) (by decide)
  have e1 : m'.1 199 1 = nI (s_S n rl ys bk).1 := C1.1
  have e2 : m'.1 199 2 = nI (s_mk (s_mi n rl ys bk) (s_sz n rl bk)) := C1.2.2.trans (s_miss_mk _ _ _ _ (by omega))
  refine q_aload_n (pc' := 6) dX8_splitCost_5 rfl rfl ?_
  refine q_iload_n (pc' := 7) dX8_splitCost_6 rfl rfl ?_
  refine h_callV (pc' := 10) (M' := mX8_sizeOf) (As := [_]) dX8_splitCost_7 iX8_sizeOf lX8_106 rfl rfl rfl rfl (Nat.le_of_ble_eq_true rfl) (Nat.le_of_ble_eq_true rfl) rfl rfl (c_sizeOf_194 hP1 hb) (fun r m' hq => ?_)
  obtain ⟨rfl, rfl⟩ := hq
  refine q_aload_n (pc' := 11) dX8_splitCost_10 rfl rfl ?_
  refine h_getr (pc' := 14) dX8_splitCost_11 fX8_27 rfl rfl rfl ?_
  refine h_callV (pc' := 17) (M' := mX6_codeBits) (As := []) dX8_splitCost_14 iX6_codeBits lX8_163 rfl rfl rfl rfl (Nat.le_of_ble_eq_true rfl) (Nat.le_of_ble_eq_true rfl) rfl rfl (c_codeBits_199 e1 hS.1) (fun r m' hq => ?_)
  obtain ⟨rfl, rfl⟩ := hq
  have h2 := s_bl_le (nI ((s_S n rl ys bk).1 - 1)).toInt64
  have h5 : s_sz n rl bk * (s_bl (nI ((s_S n rl ys bk).1 - 1)).toInt64 + 64 - rl 3) ≤ 16 * 128 := Nat.mul_le_mul h16 (by omega)
  refine q_bipush (pc' := 19) (v := nI 64) dX8_splitCost_17 rfl rfl ?_
  refine q_iaddN (pc' := 20) dX8_splitCost_19 rfl ?_
  refine q_aload_n (pc' := 21) dX8_splitCost_20 rfl rfl ?_
  refine h_getr (pc' := 24) dX8_splitCost_21 fX8_9 rfl rfl rfl ?_
  refine q_iconst (pc' := 25) (v := nI 3) dX8_splitCost_24 rfl rfl ?_
  refine h_ialdE (pc' := 26) dX8_splitCost_25 rfl (rfl) (by omega) (by decide) (hP1.2.2.1 3 (by decide)) rfl ?_
  refine q_isubN (pc' := 27) dX8_splitCost_26 (by omega) rfl ?_
  refine q_imulN (pc' := 28) dX8_splitCost_27 rfl ?_
  refine q_istore_n (pc' := 29) (lv' := [_, _, _]) dX8_splitCost_28 (by decide) rfl rfl ?_
  refine q_bipush (pc' := 31) (v := nI 6) dX8_splitCost_29 rfl rfl ?_
  refine q_iconst (pc' := 32) (v := nI 2) dX8_splitCost_31 rfl rfl ?_
  refine q_aload_n (pc' := 33) dX8_splitCost_32 rfl rfl ?_
  refine h_getr (pc' := 36) dX8_splitCost_33 fX8_27 rfl rfl rfl ?_
  refine h_getiE (pc' := 39) dX8_splitCost_36 fX8_166 rfl rfl (e1) rfl ?_
  refine q_imulN (pc' := 40) dX8_splitCost_39 rfl ?_
  refine q_iaddN (pc' := 41) dX8_splitCost_40 rfl ?_
  refine q_iload_n (pc' := 42) dX8_splitCost_41 rfl rfl ?_
  refine q_bipush (pc' := 44) (v := nI 7) dX8_splitCost_42 rfl rfl ?_
  refine q_iaddN (pc' := 45) dX8_splitCost_44 rfl ?_
  refine q_bipush (pc' := 47) (v := nI 8) dX8_splitCost_45 rfl rfl ?_
  refine q_idivN (pc' := 48) dX8_splitCost_47 (by omega) rfl ?_
  refine q_iaddN (pc' := 49) dX8_splitCost_48 rfl ?_
  refine q_iconst (pc' := 50) (v := nI 3) dX8_splitCost_49 rfl rfl ?_
  refine q_aload_n (pc' := 51) dX8_splitCost_50 rfl rfl ?_
  refine h_getr (pc' := 54) dX8_splitCost_51 fX8_27 rfl rfl rfl ?_
  refine h_getiE (pc' := 57) dX8_splitCost_54 fX8_169 rfl rfl (e2) rfl ?_
  refine h_callS (pc' := 60) (M' := mJ6_bitCount_0f7a4) (As := [_]) dX8_splitCost_57 iJ6_bitCount_0f7a4 lX8_172 rfl rfl (Nat.le_of_ble_eq_true rfl) (Nat.le_of_ble_eq_true rfl) rfl rfl (c_bitCount) (fun r m' hq => ?_)
  obtain ⟨rfl, rfl⟩ := hq
  rw [s_bc_mk h16]
  refine q_imulN (pc' := 61) dX8_splitCost_60 rfl ?_
  refine q_iaddN (pc' := 62) dX8_splitCost_61 rfl ?_
  refine q_iret dX8_splitCost_62 rfl rfl ⟨_, rfl, rfl, f1, C1⟩
set_option maxHeartbeats 4000000 in
set_option maxRecDepth 20000 in
theorem c_unfitting_194 {Z : q_Z} {m : q_Mm} {d : Nat} {n bk p : Nat} {rl : Nat → Nat} {ys : Nat → Int64} {ws : Nat → Nat → Int64} (hP : Pl m 194 n rl ys ws) (hb : bk < s_nb n rl) (hp : p < 120) (h12 : m.1 194 12 = nI p) : q_V (q_g Z) mX8_unfitting (d+2) 0 0 0 [some (.ref (q_ad Z 194)), some (.int (nI bk)), none, none] [] (q_W Z m) (q_P Z fun r m2 => r = some (.int (nI (s_mk (s_un rl ws bk p) (s_sz n rl bk)))) ∧ m2 = m) := by
  have hr := hP.2.2.2.1
  have hz := s_nb_in hr hb
  have h16 := s_sz16 (n := n) hr bk
  refine q_iconst (pc' := 1) (v := nI 0) dX8_unfitting_0 rfl rfl ?_
  refine q_istore_n (pc' := 2) (lv' := [_, _, _, _]) dX8_unfitting_1 (by decide) rfl rfl ?_
  refine q_iconst (pc' := 3) (v := nI 0) dX8_unfitting_2 rfl rfl ?_
  refine q_istore_n (pc' := 4) (lv' := [_, _, _, _]) dX8_unfitting_3 (by decide) rfl rfl ?_
  suffices h : ∀ c j, j + c = s_sz n rl bk → q_V (q_g Z) mX8_unfitting (d+2) 0 0 4 [some (.ref (q_ad Z 194)), some (.int (nI bk)), some (.int (nI (s_mk (s_un rl ws bk p) j))), some (.int (nI j))] [] (q_W Z (m)) (q_P Z fun r m2 => r = some (.int (nI (s_mk (s_un rl ws bk p) (s_sz n rl bk)))) ∧ m2 = m) from h (s_sz n rl bk) 0 (by omega)
  intro c
  induction c with
  | zero =>
    intro j hj
    refine q_iload_n (pc' := 5) dX8_unfitting_4 rfl rfl ?_
    refine q_aload_n (pc' := 6) dX8_unfitting_5 rfl rfl ?_
    refine q_iload_n (pc' := 7) dX8_unfitting_6 rfl rfl ?_
    refine h_callV (pc' := 10) (M' := mX8_sizeOf) (As := [_]) dX8_unfitting_7 iX8_sizeOf lX8_106 rfl rfl rfl rfl (Nat.le_of_ble_eq_true rfl) (Nat.le_of_ble_eq_true rfl) rfl rfl (c_sizeOf_194 hP hb) (fun r m' hq => ?_)
    obtain ⟨rfl, rfl⟩ := hq
    obtain rfl : s_sz n rl bk = j := by omega
    refine q_icmp_geN (tgt := 47) (pc' := 13) dX8_unfitting_10 (by decide) rfl (by omega) (fun c_10 => ?_) (fun c_10 => ?_)
    · refine q_iload_n (pc' := 48) dX8_unfitting_47 rfl rfl ?_
      refine q_iret dX8_unfitting_48 rfl rfl ⟨_, rfl, rfl, rfl⟩
    · omega
  | succ c ih =>
    intro j hj
    refine q_iload_n (pc' := 5) dX8_unfitting_4 rfl rfl ?_
    refine q_aload_n (pc' := 6) dX8_unfitting_5 rfl rfl ?_
    refine q_iload_n (pc' := 7) dX8_unfitting_6 rfl rfl ?_
    refine h_callV (pc' := 10) (M' := mX8_sizeOf) (As := [_]) dX8_unfitting_7 iX8_sizeOf lX8_106 rfl rfl rfl rfl (Nat.le_of_ble_eq_true rfl) (Nat.le_of_ble_eq_true rfl) rfl rfl (c_sizeOf_194 hP hb) (fun r m' hq => ?_)
    obtain ⟨rfl, rfl⟩ := hq
    refine q_icmp_geN (tgt := 47) (pc' := 13) dX8_unfitting_10 (by decide) rfl (by omega) (fun c_10 => ?_) (fun c_10 => ?_)
    · omega
    refine q_aload_n (pc' := 14) dX8_unfitting_13 rfl rfl ?_
    refine q_aload_n (pc' := 15) dX8_unfitting_14 rfl rfl ?_
    refine q_iload_n (pc' := 16) dX8_unfitting_15 rfl rfl ?_
    refine h_callV (pc' := 19) (M' := mX8_startOf) (As := [_]) dX8_unfitting_16 iX8_startOf lX8_60 rfl rfl rfl rfl (Nat.le_of_ble_eq_true rfl) (Nat.le_of_ble_eq_true rfl) rfl rfl (c_startOf_194 hP) (fun r m' hq => ?_)
    obtain ⟨rfl, rfl⟩ := hq
    refine q_iload_n (pc' := 20) dX8_unfitting_19 rfl rfl ?_
    refine q_iaddN (pc' := 21) dX8_unfitting_20 rfl ?_
    refine q_aload_n (pc' := 22) dX8_unfitting_21 rfl rfl ?_
    refine h_getiE (pc' := 25) dX8_unfitting_22 fX8_144 rfl rfl (h12) rfl ?_
    refine h_callV (pc' := 28) (M' := mX8_wholeAt) (As := [_, _]) dX8_unfitting_25 iX8_wholeAt lX8_201 rfl rfl rfl rfl (Nat.le_of_ble_eq_true rfl) (Nat.le_of_ble_eq_true rfl) rfl rfl (c_wholeAt_194 hP (by omega) hp) (fun r m' hq => ?_)
    obtain ⟨rfl, rfl⟩ := hq
    refine q_ldc2 (pc' := 31) dX8_unfitting_28 kX8_132 rfl ?_
    refine q_lcmp (pc' := 32) dX8_unfitting_31 rfl ?_
    refine q_if_neL (tgt := 41) (pc' := 35) dX8_unfitting_32 (by decide) rfl (fun c_32 => ?_) (fun c_32 => ?_)
    · refine q_iincN (pc' := 44) (j := 1) (lv' := [_, _, _, _]) dX8_unfitting_41 rfl (by decide) rfl rfl ?_
      refine q_goto (pc' := 4) dX8_unfitting_44 (by decide) ?_
      have ih := ih (j + 1) (by omega)
      rw [s_mk_f (P := s_un rl ws bk p) (decide_eq_false c_32)] at ih
      exact ih
    · refine q_iload_n (pc' := 36) dX8_unfitting_35 rfl rfl ?_
      refine q_iconst (pc' := 37) (v := nI 1) dX8_unfitting_36 rfl rfl ?_
      refine q_iload_n (pc' := 38) dX8_unfitting_37 rfl rfl ?_
      refine q_ishl (pc' := 39) dX8_unfitting_38 rfl ?_
      refine q_ior (pc' := 40) dX8_unfitting_39 rfl ?_
      rw [s_mk_t (P := s_un rl ws bk p) (by omega) (decide_eq_true c_32)]
      refine q_istore_n (pc' := 41) (lv' := [_, _, _, _]) dX8_unfitting_40 (by decide) rfl rfl ?_
      refine q_iincN (pc' := 44) (j := 1) (lv' := [_, _, _, _]) dX8_unfitting_41 rfl (by decide) rfl rfl ?_
      refine q_goto (pc' := 4) dX8_unfitting_44 (by decide) ?_
      exact ih (j + 1) (by omega)
set_option maxHeartbeats 4000000 in
set_option maxRecDepth 20000 in
theorem c_weigh_194 {Z : q_Z} {m : q_Mm} {d : Nat} {n bk : Nat} {rl : Nat → Nat} {ys : Nat → Int64} {ws : Nat → Nat → Int64} {q : s_F} (hP : Pl m 194 n rl ys ws) (hF : Fiv m 194 q) (hb : bk < s_nb n rl) : q_V (q_g Z) mX8_weigh (d+4) 0 0 0 [some (.ref (q_ad Z 194)), some (.int (nI bk)), none, none] [] (q_W Z m) (q_P Z fun r m2 => r = none ∧ Fr [194, 199, 200, 201, 202] m m2 ∧ Kp 194 [11, 12, 13, 14, 15] m m2 ∧ Wg m2 194 n rl ys ws q bk ∧ PartC m2 199 (s_sz n rl bk) (rl 4) (s_ps rl ys bk) ∧ Ms m2 194 (s_dm n rl ws bk (s_wp n rl ws q bk))) := by
  have hr := hP.2.2.2.1
  have hz := s_nb_in hr hb
  have h16 := s_sz16 (n := n) hr bk
  have hwp := s_wp_lt (n := n) hr ws (fun i hi => (hF.2.2.2 i hi).1) bk
  refine q_aload_n (pc' := 1) dX8_weigh_0 rfl rfl ?_
  refine q_aload_n (pc' := 2) dX8_weigh_1 rfl rfl ?_
  refine q_iload_n (pc' := 3) dX8_weigh_2 rfl rfl ?_
  refine h_callV (pc' := 6) (M' := mX8_pairOf) (As := [_]) dX8_weigh_3 iX8_pairOf lX8_177 rfl rfl rfl rfl (Nat.le_of_ble_eq_true rfl) (Nat.le_of_ble_eq_true rfl) rfl rfl (c_pairOf_194 hP hF hb) (fun r m' hq => ?_)
  obtain ⟨rfl, f1, k1⟩ := hq
  refine h_puti (pc' := 9) dX8_weigh_6 fX8_144 rfl rfl rfl rfl rfl ?_
  refine q_aload_n (pc' := 10) dX8_weigh_9 rfl rfl ?_
  refine q_iconst (pc' := 11) (v := nI 0) dX8_weigh_10 rfl rfl ?_
  refine h_puti (pc' := 14) dX8_weigh_11 fX8_180 rfl rfl rfl rfl rfl ?_
  generalize hm1 : sI (sI m' 194 12 (nI (s_po (fun p => s_sc n rl ws bk p) q.2.1 q.1).1)) 194 13 (nI 0) = m1
  have f1 : Fr [194, 199, 200, 201, 202] m m1 := hm1 ▸ (((f1.mono (by decide)).I (by decide)).I (by decide))
  have k1 : Kp 194 [11, 12, 13, 14, 15] m m1 := (k1.mono (by decide)).trans (by
    rw [← hm1]
    intro j hj
    show q_u (q_u (m'.1 194) 12 _) 13 _ j = _
    rw [q_u_n _ _ (fun h => by subst h; exact absurd hj (by decide)), q_u_n _ _ (fun h => by subst h; exact absurd hj (by decide))])
  have e12 : m1.1 194 12 = nI (s_wp n rl ws q bk) := hm1 ▸ rfl
  have e13 : m1.1 194 13 = nI 0 := hm1 ▸ rfl
  clear hm1
  have hP1 := hP.kp f1 k1 (by decide) (by decide) (by decide) (by decide) (by decide)
  refine q_aload_n (pc' := 15) dX8_weigh_14 rfl rfl ?_
  refine q_aload_n (pc' := 16) dX8_weigh_15 rfl rfl ?_
  refine q_iload_n (pc' := 17) dX8_weigh_16 rfl rfl ?_
  refine h_callV (pc' := 20) (M' := mX8_rawCost) (As := [_]) dX8_weigh_17 iX8_rawCost lX8_183 rfl rfl rfl rfl (Nat.le_of_ble_eq_true rfl) (Nat.le_of_ble_eq_true rfl) rfl rfl (c_rawCost_194 hP1 hb) (fun r m' hq => ?_)
  obtain ⟨rfl, rfl⟩ := hq
  refine h_puti (pc' := 23) dX8_weigh_20 fX8_186 rfl rfl rfl rfl rfl ?_
  refine q_aload_n (pc' := 24) dX8_weigh_23 rfl rfl ?_
  refine q_iconst (pc' := 25) (v := nI 0) dX8_weigh_24 rfl rfl ?_
  refine h_puti (pc' := 28) dX8_weigh_25 fX8_189 rfl rfl rfl rfl rfl ?_
  generalize hm2 : sI (sI m' 194 14 (nI (3 + 8 * s_sz n rl bk))) 194 15 (nI 0) = m2
  have f2 : Fr [194, 199, 200, 201, 202] m m2 := hm2 ▸ ((f1.I (by decide)).I (by decide))
  have k2 : Kp 194 [11, 12, 13, 14, 15] m m2 := k1.trans (by
    rw [← hm2]
    intro j hj
    show q_u (q_u (m'.1 194) 14 _) 15 _ j = _
    rw [q_u_n _ _ (fun h => by subst h; exact absurd hj (by decide)), q_u_n _ _ (fun h => by subst h; exact absurd hj (by decide))])
  have d12 : m2.1 194 12 = nI (s_wp n rl ws q bk) := hm2 ▸ e12
  have d13 : m2.1 194 13 = nI 0 := hm2 ▸ e13
  have d14 : m2.1 194 14 = nI (3 + 8 * s_sz n rl bk) := hm2 ▸ rfl
  have d15 : m2.1 194 15 = nI 0 := hm2 ▸ rfl
  clear hm2
  have hP2 := hP.kp f2 k2 (by decide) (by decide) (by decide) (by decide) (by decide)
  refine q_aload_n (pc' := 29) dX8_weigh_28 rfl rfl ?_
  refine q_iload_n (pc' := 30) dX8_weigh_29 rfl rfl ?_
  refine q_aload_n (pc' := 31) dX8_weigh_30 rfl rfl ?_
  refine h_getiE (pc' := 34) dX8_weigh_31 fX8_144 rfl rfl (d12) rfl ?_
  refine h_callV (pc' := 37) (M' := mX8_decimalCost) (As := [_, _]) dX8_weigh_34 iX8_decimalCost lX8_192 rfl rfl rfl rfl (Nat.le_of_ble_eq_true rfl) (Nat.le_of_ble_eq_true rfl) rfl rfl (c_decimalCost_194 hP2 hb hwp) (fun r m' hq => ?_)
  obtain ⟨rfl, f3, k3, M3⟩ := hq
  obtain ⟨m3, hm3⟩ : ∃ z, z = m' := ⟨_, rfl⟩
  subst hm3
  have f3 : Fr [194, 199, 200, 201, 202] m m3 := f2.trans (f3.mono (by decide))
  have d12 := (k3 12 (by decide)).trans d12
  have d13 := (k3 13 (by decide)).trans d13
  have d14 := (k3 14 (by decide)).trans d14
  have d15 := (k3 15 (by decide)).trans d15
  have k3 : Kp 194 [11, 12, 13, 14, 15] m m3 := k2.trans (k3.mono (by decide))
  have hdc := s_dc_le (n := n) hr ws bk (s_wp n rl ws q bk)
  have hsp := s_spc_le hr ys hz.2.1
  have fin : ∀ (m4 : q_Mm), Fr [194, 199, 200, 201, 202] m m4 → Kp 194 [11, 12, 13, 14, 15] m m4 → Ms m4 194 (s_dm n rl ws bk (s_wp n rl ws q bk)) → m4.1 194 12 = nI (s_wp n rl ws q bk) → m4.1 194 13 = nI (s_w1 n rl ws q bk).1 → m4.1 194 14 = nI (s_w1 n rl ws q bk).2 → m4.1 194 15 = nI (s_mk (s_ex n rl ys ws (s_wp n rl ws q bk) bk (s_w1 n rl ws q bk).1) (s_sz n rl bk)) → (s_w1 n rl ws q bk).2 ≤ 1000 → q_V (q_g Z) mX8_weigh (d+4) 0 0 65 [some (.ref (q_ad Z 194)), some (.int (nI bk)), some (.int (nI (s_dc n rl ws bk (s_wp n rl ws q bk)))), none] [] (q_W Z (m4)) (q_P Z fun r m2 => r = none ∧ Fr [194, 199, 200, 201, 202] m m2 ∧ Kp 194 [11, 12, 13, 14, 15] m m2 ∧ Wg m2 194 n rl ys ws q bk ∧ PartC m2 199 (s_sz n rl bk) (rl 4) (s_ps rl ys bk) ∧ Ms m2 194 (s_dm n rl ws bk (s_wp n rl ws q bk))) := by
    intro m4 f4 k4 M4 a12 a13 a14 a15 hle
    have hP4 := hP.kp f4 k4 (by decide) (by decide) (by decide) (by decide) (by decide)
    refine q_aload_n (pc' := 66) dX8_weigh_65 rfl rfl ?_
    refine q_iload_n (pc' := 67) dX8_weigh_66 rfl rfl ?_
    refine h_callV (pc' := 70) (M' := mX8_splitCost) (As := [_]) dX8_weigh_67 iX8_splitCost lX8_198 rfl rfl rfl rfl (Nat.le_of_ble_eq_true rfl) (Nat.le_of_ble_eq_true rfl) rfl rfl (c_splitCost_194 hP4 hb) (fun r m' hq => ?_)
    obtain ⟨rfl, f5, C5⟩ := hq
    have kf := congrFun (f5.i (p := 194) (by decide))
    have a14 := (kf 14).trans a14
    have k5 : Kp 194 [11, 12, 13, 14, 15] m m' := k4.trans (Kp.fr f5 (by decide))
    have M5 := M4.fr f5 (by decide)
    have e2 : m'.1 199 2 = nI (s_mk (s_mi n rl ys bk) (s_sz n rl bk)) := C5.2.2.trans (s_miss_mk _ _ _ _ (by omega))
    refine q_istore_n (pc' := 71) (lv' := [_, _, _, _]) dX8_weigh_70 (by decide) rfl rfl ?_
    refine q_iload_n (pc' := 72) dX8_weigh_71 rfl rfl ?_
    refine q_aload_n (pc' := 73) dX8_weigh_72 rfl rfl ?_
    refine h_getiE (pc' := 76) dX8_weigh_73 fX8_186 rfl rfl (a14) rfl ?_
    refine q_icmp_geN (tgt := 100) (pc' := 79) dX8_weigh_76 (by decide) rfl (by omega) (fun c_76 => ?_) (fun c_76 => ?_)
    · have e : s_wf n rl ys ws q bk = s_w1 n rl ws q bk := by unfold s_wf; rw [if_neg (by omega)]
      refine q_vret dX8_weigh_100 rfl ⟨_, rfl, rfl, f4.trans (f5.mono (by decide)), k5, ⟨(kf 12).trans a12, by rw [e]; exact (kf 13).trans a13, by rw [e]; exact a14, by rw [e]; exact (kf 15).trans a15⟩, C5, M5⟩
    · have e : s_wf n rl ys ws q bk = (2, s_spc n rl ys bk) := by unfold s_wf; rw [if_pos (by omega)]
      refine q_aload_n (pc' := 80) dX8_weigh_79 rfl rfl ?_
      refine q_iconst (pc' := 81) (v := nI 2) dX8_weigh_80 rfl rfl ?_
      refine h_puti (pc' := 84) dX8_weigh_81 fX8_180 rfl rfl rfl rfl rfl ?_
      refine q_aload_n (pc' := 85) dX8_weigh_84 rfl rfl ?_
      refine q_iload_n (pc' := 86) dX8_weigh_85 rfl rfl ?_
      refine h_puti (pc' := 89) dX8_weigh_86 fX8_186 rfl rfl rfl rfl rfl ?_
      refine q_aload_n (pc' := 90) dX8_weigh_89 rfl rfl ?_
      refine q_aload_n (pc' := 91) dX8_weigh_90 rfl rfl ?_
      refine h_getr (pc' := 94) dX8_weigh_91 fX8_27 rfl rfl rfl ?_
      refine h_getiE (pc' := 97) dX8_weigh_94 fX8_169 rfl rfl (e2) rfl ?_
      refine h_puti (pc' := 100) dX8_weigh_97 fX8_189 rfl rfl rfl rfl rfl ?_
      refine q_vret dX8_weigh_100 rfl ⟨_, rfl, rfl, (((f4.trans (f5.mono (by decide))).I (by decide)).I (by decide)).I (by decide), k5.trans ?_, ⟨(kf 12).trans a12, by rw [e]; rfl, by rw [e]; rfl, by rw [e]; rfl⟩, C5, M5⟩
      intro j hj
      show q_u (q_u (q_u (m'.1 194) 13 _) 14 _) 15 _ j = _
      rw [q_u_n _ _ (fun h => by subst h; exact absurd hj (by decide)), q_u_n _ _ (fun h => by subst h; exact absurd hj (by decide)), q_u_n _ _ (fun h => by subst h; exact absurd hj (by decide))]
  refine q_istore_n (pc' := 38) (lv' := [_, _, _, _]) dX8_weigh_37 (by decide) rfl rfl ?_
  refine q_iload_n (pc' := 39) dX8_weigh_38 rfl rfl ?_
  refine q_aload_n (pc' := 40) dX8_weigh_39 rfl rfl ?_
  refine h_getiE (pc' := 43) dX8_weigh_40 fX8_186 rfl rfl (d14) rfl ?_
  refine q_icmp_geN (tgt := 65) (pc' := 46) dX8_weigh_43 (by decide) rfl (by omega) (fun c_43 => ?_) (fun c_43 => ?_)
  · have e : s_w1 n rl ws q bk = (0, 3 + 8 * s_sz n rl bk) := by unfold s_w1; rw [if_neg (by omega)]
    refine fin _ f3 k3 M3 d12 (by rw [e]; exact d13) (by rw [e]; exact d14) (by rw [e, d15]; exact congrArg nI (s_mk_no _).symm) (by rw [e]; simp only []; omega)
  · have e : s_w1 n rl ws q bk = (1, s_dc n rl ws bk (s_wp n rl ws q bk)) := by unfold s_w1; rw [if_pos (by omega)]
    refine q_aload_n (pc' := 47) dX8_weigh_46 rfl rfl ?_
    refine q_iconst (pc' := 48) (v := nI 1) dX8_weigh_47 rfl rfl ?_
    refine h_puti (pc' := 51) dX8_weigh_48 fX8_180 rfl rfl rfl rfl rfl ?_
    refine q_aload_n (pc' := 52) dX8_weigh_51 rfl rfl ?_
    refine q_iload_n (pc' := 53) dX8_weigh_52 rfl rfl ?_
    refine h_puti (pc' := 56) dX8_weigh_53 fX8_186 rfl rfl rfl rfl rfl ?_
    have f4 : Fr [194, 199, 200, 201, 202] m (sI (sI m3 194 13 (nI 1)) 194 14 (nI (s_dc n rl ws bk (s_wp n rl ws q bk)))) := (f3.I (by decide)).I (by decide)
    have hP4 : Pl (sI (sI m3 194 13 (nI 1)) 194 14 (nI (s_dc n rl ws bk (s_wp n rl ws q bk)))) 194 n rl ys ws := hP.fr f4 (k3 4 (by decide)) (by decide) (by decide) (by decide) (by decide)
    refine q_aload_n (pc' := 57) dX8_weigh_56 rfl rfl ?_
    refine q_aload_n (pc' := 58) dX8_weigh_57 rfl rfl ?_
    refine q_iload_n (pc' := 59) dX8_weigh_58 rfl rfl ?_
    refine h_callV (pc' := 62) (M' := mX8_unfitting) (As := [_]) dX8_weigh_59 iX8_unfitting lX8_195 rfl rfl rfl rfl (Nat.le_of_ble_eq_true rfl) (Nat.le_of_ble_eq_true rfl) rfl rfl (c_unfitting_194 hP4 hb hwp d12) (fun r m' hq => ?_)
    obtain ⟨rfl, rfl⟩ := hq
    refine h_puti (pc' := 65) dX8_weigh_62 fX8_189 rfl rfl rfl rfl rfl ?_
    refine fin _ (f4.I (by decide)) (k3.trans ?_) M3 d12 (by rw [e]; rfl) (by rw [e]; rfl) (by rw [e]; rfl) (by rw [e]; simp only []; omega)
    intro j hj
    show q_u (q_u (q_u (m3.1 194) 13 _) 14 _) 15 _ j = _
    rw [q_u_n _ _ (fun h => by subst h; exact absurd hj (by decide)), q_u_n _ _ (fun h => by subst h; exact absurd hj (by decide)), q_u_n _ _ (fun h => by subst h; exact absurd hj (by decide))]
set_option maxHeartbeats 4000000 in
set_option maxRecDepth 20000 in
theorem c_divide_203 {Z : q_Z} {m : q_Mm} {d : Nat} {n bk : Nat} {rl : Nat → Nat} {ys : Nat → Int64} {ws : Nat → Nat → Int64} (hP : Pl m 203 n rl ys ws) (hb : bk < s_nb n rl) : q_V (q_g Z) mX8_divide (d+2) 0 0 0 [some (.ref (q_ad Z 203)), some (.int (nI bk)), none] [] (q_W Z m) (q_P Z fun r m2 => r = none ∧ Fr [208, 209, 210, 211] m m2 ∧ PartC m2 208 (s_sz n rl bk) (rl 4) (s_ps rl ys bk)) := by
  have hr := hP.2.2.2.1
  have hz := s_nb_in hr hb
  have h16 := s_sz16 (n := n) hr bk
  refine q_aload_n (pc' := 1) dX8_divide_0 rfl rfl ?_
  refine h_getr (pc' := 4) dX8_divide_1 fX8_27 rfl rfl rfl ?_
  refine h_callV (pc' := 7) (M' := mX6_start) (As := []) dX8_divide_4 iX6_start lX8_147 rfl rfl rfl rfl (Nat.le_of_ble_eq_true rfl) (Nat.le_of_ble_eq_true rfl) rfl rfl (c_start_208 (ps := s_ps rl ys bk)) (fun r m' hq => ?_)
  obtain ⟨rfl, f0, O0⟩ := hq
  refine q_iconst (pc' := 8) (v := nI 0) dX8_divide_7 rfl rfl ?_
  refine q_istore_n (pc' := 9) (lv' := [_, _, _]) dX8_divide_8 (by decide) rfl rfl ?_
  suffices h : ∀ c j (m1 : q_Mm), j + c = s_sz n rl bk → Fr [208, 209, 210, 211] m m1 → PartO m1 208 j (s_ps rl ys bk) → q_V (q_g Z) mX8_divide (d+2) 0 0 9 [some (.ref (q_ad Z 203)), some (.int (nI bk)), some (.int (nI j))] [] (q_W Z (m1)) (q_P Z fun r m2 => r = none ∧ Fr [208, 209, 210, 211] m m2 ∧ PartC m2 208 (s_sz n rl bk) (rl 4) (s_ps rl ys bk)) from h (s_sz n rl bk) 0 m' (by omega) (f0.mono (by decide)) O0
  intro c
  induction c with
  | zero =>
    intro j m1 hj f1 O1
    have hP1 := hP.fr f1 (congrFun (f1.i (by decide)) 4) (by decide) (by decide) (by decide) (by decide)
    refine q_iload_n (pc' := 10) dX8_divide_9 rfl rfl ?_
    refine q_aload_n (pc' := 11) dX8_divide_10 rfl rfl ?_
    refine q_iload_n (pc' := 12) dX8_divide_11 rfl rfl ?_
    refine h_callV (pc' := 15) (M' := mX8_sizeOf) (As := [_]) dX8_divide_12 iX8_sizeOf lX8_106 rfl rfl rfl rfl (Nat.le_of_ble_eq_true rfl) (Nat.le_of_ble_eq_true rfl) rfl rfl (c_sizeOf_203 hP1 hb) (fun r m' hq => ?_)
    obtain ⟨rfl, rfl⟩ := hq
    obtain rfl : s_sz n rl bk = j := by omega
    refine q_icmp_geN (tgt := 42) (pc' := 18) dX8_divide_15 (by decide) rfl (by omega) (fun c_15 => ?_) (fun c_15 => ?_)
    · refine q_aload_n (pc' := 43) dX8_divide_42 rfl rfl ?_
      refine h_getr (pc' := 46) dX8_divide_43 fX8_27 rfl rfl rfl ?_
      refine q_aload_n (pc' := 47) dX8_divide_46 rfl rfl ?_
      refine h_getr (pc' := 50) dX8_divide_47 fX8_9 rfl rfl rfl ?_
      refine q_iconst (pc' := 51) (v := nI 4) dX8_divide_50 rfl rfl ?_
      refine h_ialdE (pc' := 52) dX8_divide_51 rfl (rfl) (by omega) (by decide) (hP1.2.2.1 4 (by decide)) rfl ?_
      refine h_callV (pc' := 55) (M' := mX6_choose) (As := [_]) dX8_divide_52 iX6_choose lX8_157 rfl rfl rfl rfl (Nat.le_of_ble_eq_true rfl) (Nat.le_of_ble_eq_true rfl) rfl rfl (c_choose_208 O1 hr.2.2.2.2.2) (fun r m' hq => ?_)
      obtain ⟨rfl, f2, C2⟩ := hq
      refine q_vret dX8_divide_55 rfl ⟨_, rfl, rfl, f1.trans (f2.mono (by decide)), C2⟩
    · omega
  | succ c ih =>
    intro j m1 hj f1 O1
    have hP1 := hP.fr f1 (congrFun (f1.i (by decide)) 4) (by decide) (by decide) (by decide) (by decide)
    refine q_iload_n (pc' := 10) dX8_divide_9 rfl rfl ?_
    refine q_aload_n (pc' := 11) dX8_divide_10 rfl rfl ?_
    refine q_iload_n (pc' := 12) dX8_divide_11 rfl rfl ?_
    refine h_callV (pc' := 15) (M' := mX8_sizeOf) (As := [_]) dX8_divide_12 iX8_sizeOf lX8_106 rfl rfl rfl rfl (Nat.le_of_ble_eq_true rfl) (Nat.le_of_ble_eq_true rfl) rfl rfl (c_sizeOf_203 hP1 hb) (fun r m' hq => ?_)
    obtain ⟨rfl, rfl⟩ := hq
    refine q_icmp_geN (tgt := 42) (pc' := 18) dX8_divide_15 (by decide) rfl (by omega) (fun c_15 => ?_) (fun c_15 => ?_)
    · omega
    refine q_aload_n (pc' := 19) dX8_divide_18 rfl rfl ?_
    refine h_getr (pc' := 22) dX8_divide_19 fX8_27 rfl rfl rfl ?_
    refine q_aload_n (pc' := 23) dX8_divide_22 rfl rfl ?_
    refine q_aload_n (pc' := 24) dX8_divide_23 rfl rfl ?_
    refine q_iload_n (pc' := 25) dX8_divide_24 rfl rfl ?_
    refine h_callV (pc' := 28) (M' := mX8_startOf) (As := [_]) dX8_divide_25 iX8_startOf lX8_60 rfl rfl rfl rfl (Nat.le_of_ble_eq_true rfl) (Nat.le_of_ble_eq_true rfl) rfl rfl (c_startOf_203 hP1) (fun r m' hq => ?_)
    obtain ⟨rfl, rfl⟩ := hq
    refine q_iload_n (pc' := 29) dX8_divide_28 rfl rfl ?_
    refine q_iaddN (pc' := 30) dX8_divide_29 rfl ?_
    refine h_callV (pc' := 33) (M' := mX8_partAt) (As := [_]) dX8_divide_30 iX8_partAt lX8_150 rfl rfl rfl rfl (Nat.le_of_ble_eq_true rfl) (Nat.le_of_ble_eq_true rfl) rfl rfl (c_partAt_203 hP1 (by omega)) (fun r m' hq => ?_)
    obtain ⟨rfl, rfl⟩ := hq
    refine h_callV (pc' := 36) (M' := mX6_offer) (As := [_]) dX8_divide_33 iX6_offer lX8_153 rfl rfl rfl rfl (Nat.le_of_ble_eq_true rfl) (Nat.le_of_ble_eq_true rfl) rfl rfl (c_offer_208 O1 (by omega) rfl) (fun r m' hq => ?_)
    obtain ⟨rfl, f2, O2⟩ := hq
    refine q_iincN (pc' := 39) (j := 1) (lv' := [_, _, _]) dX8_divide_36 rfl (by decide) rfl rfl ?_
    refine q_goto (pc' := 9) dX8_divide_39 (by decide) ?_
    exact ih (j + 1) _ (by omega) (f1.trans (f2.mono (by decide))) O2
set_option maxHeartbeats 4000000 in
set_option maxRecDepth 20000 in
theorem c_splitCost_203 {Z : q_Z} {m : q_Mm} {d : Nat} {n bk : Nat} {rl : Nat → Nat} {ys : Nat → Int64} {ws : Nat → Nat → Int64} (hP : Pl m 203 n rl ys ws) (hb : bk < s_nb n rl) : q_V (q_g Z) mX8_splitCost (d+3) 0 0 0 [some (.ref (q_ad Z 203)), some (.int (nI bk)), none] [] (q_W Z m) (q_P Z fun r m2 => r = some (.int (nI (s_spc n rl ys bk))) ∧ Fr [208, 209, 210, 211] m m2 ∧ PartC m2 208 (s_sz n rl bk) (rl 4) (s_ps rl ys bk)) := by
  have hr := hP.2.2.2.1
  have hz := s_nb_in hr hb
  have h16 := s_sz16 (n := n) hr bk
  have hS := s_S_in hr ys hz.2.1
  have h3 := hr.2.2.2.1
  refine q_aload_n (pc' := 1) dX8_splitCost_0 rfl rfl ?_
  refine q_iload_n (pc' := 2) dX8_splitCost_1 rfl rfl ?_
  refine h_callV (pc' := 5) (M' := mX8_divide) (As := [_]) dX8_splitCost_2 iX8_divide lX8_160 rfl rfl rfl rfl (Nat.le_of_ble_eq_true rfl) (Nat.le_of_ble_eq_true rfl) rfl rfl (c_divide_203 hP hb) (fun r m' hq => ?_)
  obtain ⟨rfl, f1, C1⟩ := hq
  have hP1 := hP.fr f1 (congrFun (f1.i (by decide)) 4) (by decide) (by decide) (by decide) (by decide)
  have e1 : m'.1 208 1 = nI (s_S n rl ys bk).1 := C1.1
  have e2 : m'.1 208 2 = nI (s_mk (s_mi n rl ys bk) (s_sz n rl bk)) := C1.2.2.trans (s_miss_mk _ _ _ _ (by omega))
  refine q_aload_n (pc' := 6) dX8_splitCost_5 rfl rfl ?_
  refine q_iload_n (pc' := 7) dX8_splitCost_6 rfl rfl ?_
  refine h_callV (pc' := 10) (M' := mX8_sizeOf) (As := [_]) dX8_splitCost_7 iX8_sizeOf lX8_106 rfl rfl rfl rfl (Nat.le_of_ble_eq_true rfl) (Nat.le_of_ble_eq_true rfl) rfl rfl (c_sizeOf_203 hP1 hb) (fun r m' hq => ?_)
  obtain ⟨rfl, rfl⟩ := hq
  refine q_aload_n (pc' := 11) dX8_splitCost_10 rfl rfl ?_
  refine h_getr (pc' := 14) dX8_splitCost_11 fX8_27 rfl rfl rfl ?_
  refine h_callV (pc' := 17) (M' := mX6_codeBits) (As := []) dX8_splitCost_14 iX6_codeBits lX8_163 rfl rfl rfl rfl (Nat.le_of_ble_eq_true rfl) (Nat.le_of_ble_eq_true rfl) rfl rfl (c_codeBits_208 e1 hS.1) (fun r m' hq => ?_)
  obtain ⟨rfl, rfl⟩ := hq
  have h2 := s_bl_le (nI ((s_S n rl ys bk).1 - 1)).toInt64
  have h5 : s_sz n rl bk * (s_bl (nI ((s_S n rl ys bk).1 - 1)).toInt64 + 64 - rl 3) ≤ 16 * 128 := Nat.mul_le_mul h16 (by omega)
  refine q_bipush (pc' := 19) (v := nI 64) dX8_splitCost_17 rfl rfl ?_
  refine q_iaddN (pc' := 20) dX8_splitCost_19 rfl ?_
  refine q_aload_n (pc' := 21) dX8_splitCost_20 rfl rfl ?_
  refine h_getr (pc' := 24) dX8_splitCost_21 fX8_9 rfl rfl rfl ?_
  refine q_iconst (pc' := 25) (v := nI 3) dX8_splitCost_24 rfl rfl ?_
  refine h_ialdE (pc' := 26) dX8_splitCost_25 rfl (rfl) (by omega) (by decide) (hP1.2.2.1 3 (by decide)) rfl ?_
  refine q_isubN (pc' := 27) dX8_splitCost_26 (by omega) rfl ?_
  refine q_imulN (pc' := 28) dX8_splitCost_27 rfl ?_
  refine q_istore_n (pc' := 29) (lv' := [_, _, _]) dX8_splitCost_28 (by decide) rfl rfl ?_
  refine q_bipush (pc' := 31) (v := nI 6) dX8_splitCost_29 rfl rfl ?_
  refine q_iconst (pc' := 32) (v := nI 2) dX8_splitCost_31 rfl rfl ?_
  refine q_aload_n (pc' := 33) dX8_splitCost_32 rfl rfl ?_
  refine h_getr (pc' := 36) dX8_splitCost_33 fX8_27 rfl rfl rfl ?_
  refine h_getiE (pc' := 39) dX8_splitCost_36 fX8_166 rfl rfl (e1) rfl ?_
  refine q_imulN (pc' := 40) dX8_splitCost_39 rfl ?_
  refine q_iaddN (pc' := 41) dX8_splitCost_40 rfl ?_
  refine q_iload_n (pc' := 42) dX8_splitCost_41 rfl rfl ?_
  refine q_bipush (pc' := 44) (v := nI 7) dX8_splitCost_42 rfl rfl ?_
  refine q_iaddN (pc' := 45) dX8_splitCost_44 rfl ?_
  refine q_bipush (pc' := 47) (v := nI 8) dX8_splitCost_45 rfl rfl ?_
  refine q_idivN (pc' := 48) dX8_splitCost_47 (by omega) rfl ?_
  refine q_iaddN (pc' := 49) dX8_splitCost_48 rfl ?_
  refine q_iconst (pc' := 50) (v := nI 3) dX8_splitCost_49 rfl rfl ?_
  refine q_aload_n (pc' := 51) dX8_splitCost_50 rfl rfl ?_
  refine h_getr (pc' := 54) dX8_splitCost_51 fX8_27 rfl rfl rfl ?_
  refine h_getiE (pc' := 57) dX8_splitCost_54 fX8_169 rfl rfl (e2) rfl ?_
  refine h_callS (pc' := 60) (M' := mJ6_bitCount_0f7a4) (As := [_]) dX8_splitCost_57 iJ6_bitCount_0f7a4 lX8_172 rfl rfl (Nat.le_of_ble_eq_true rfl) (Nat.le_of_ble_eq_true rfl) rfl rfl (c_bitCount) (fun r m' hq => ?_)
  obtain ⟨rfl, rfl⟩ := hq
  rw [s_bc_mk h16]
  refine q_imulN (pc' := 61) dX8_splitCost_60 rfl ?_
  refine q_iaddN (pc' := 62) dX8_splitCost_61 rfl ?_
  refine q_iret dX8_splitCost_62 rfl rfl ⟨_, rfl, rfl, f1, C1⟩
set_option maxHeartbeats 4000000 in
set_option maxRecDepth 20000 in
theorem c_unfitting_203 {Z : q_Z} {m : q_Mm} {d : Nat} {n bk p : Nat} {rl : Nat → Nat} {ys : Nat → Int64} {ws : Nat → Nat → Int64} (hP : Pl m 203 n rl ys ws) (hb : bk < s_nb n rl) (hp : p < 120) (h12 : m.1 203 12 = nI p) : q_V (q_g Z) mX8_unfitting (d+2) 0 0 0 [some (.ref (q_ad Z 203)), some (.int (nI bk)), none, none] [] (q_W Z m) (q_P Z fun r m2 => r = some (.int (nI (s_mk (s_un rl ws bk p) (s_sz n rl bk)))) ∧ m2 = m) := by
  have hr := hP.2.2.2.1
  have hz := s_nb_in hr hb
  have h16 := s_sz16 (n := n) hr bk
  refine q_iconst (pc' := 1) (v := nI 0) dX8_unfitting_0 rfl rfl ?_
  refine q_istore_n (pc' := 2) (lv' := [_, _, _, _]) dX8_unfitting_1 (by decide) rfl rfl ?_
  refine q_iconst (pc' := 3) (v := nI 0) dX8_unfitting_2 rfl rfl ?_
  refine q_istore_n (pc' := 4) (lv' := [_, _, _, _]) dX8_unfitting_3 (by decide) rfl rfl ?_
  suffices h : ∀ c j, j + c = s_sz n rl bk → q_V (q_g Z) mX8_unfitting (d+2) 0 0 4 [some (.ref (q_ad Z 203)), some (.int (nI bk)), some (.int (nI (s_mk (s_un rl ws bk p) j))), some (.int (nI j))] [] (q_W Z (m)) (q_P Z fun r m2 => r = some (.int (nI (s_mk (s_un rl ws bk p) (s_sz n rl bk)))) ∧ m2 = m) from h (s_sz n rl bk) 0 (by omega)
  intro c
  induction c with
  | zero =>
    intro j hj
    refine q_iload_n (pc' := 5) dX8_unfitting_4 rfl rfl ?_
    refine q_aload_n (pc' := 6) dX8_unfitting_5 rfl rfl ?_
    refine q_iload_n (pc' := 7) dX8_unfitting_6 rfl rfl ?_
    refine h_callV (pc' := 10) (M' := mX8_sizeOf) (As := [_]) dX8_unfitting_7 iX8_sizeOf lX8_106 rfl rfl rfl rfl (Nat.le_of_ble_eq_true rfl) (Nat.le_of_ble_eq_true rfl) rfl rfl (c_sizeOf_203 hP hb) (fun r m' hq => ?_)
    obtain ⟨rfl, rfl⟩ := hq
    obtain rfl : s_sz n rl bk = j := by omega
    refine q_icmp_geN (tgt := 47) (pc' := 13) dX8_unfitting_10 (by decide) rfl (by omega) (fun c_10 => ?_) (fun c_10 => ?_)
    · refine q_iload_n (pc' := 48) dX8_unfitting_47 rfl rfl ?_
      refine q_iret dX8_unfitting_48 rfl rfl ⟨_, rfl, rfl, rfl⟩
    · omega
  | succ c ih =>
    intro j hj
    refine q_iload_n (pc' := 5) dX8_unfitting_4 rfl rfl ?_
    refine q_aload_n (pc' := 6) dX8_unfitting_5 rfl rfl ?_
    refine q_iload_n (pc' := 7) dX8_unfitting_6 rfl rfl ?_
    refine h_callV (pc' := 10) (M' := mX8_sizeOf) (As := [_]) dX8_unfitting_7 iX8_sizeOf lX8_106 rfl rfl rfl rfl (Nat.le_of_ble_eq_true rfl) (Nat.le_of_ble_eq_true rfl) rfl rfl (c_sizeOf_203 hP hb) (fun r m' hq => ?_)
    obtain ⟨rfl, rfl⟩ := hq
    refine q_icmp_geN (tgt := 47) (pc' := 13) dX8_unfitting_10 (by decide) rfl (by omega) (fun c_10 => ?_) (fun c_10 => ?_)
    · omega
    refine q_aload_n (pc' := 14) dX8_unfitting_13 rfl rfl ?_
    refine q_aload_n (pc' := 15) dX8_unfitting_14 rfl rfl ?_
    refine q_iload_n (pc' := 16) dX8_unfitting_15 rfl rfl ?_
    refine h_callV (pc' := 19) (M' := mX8_startOf) (As := [_]) dX8_unfitting_16 iX8_startOf lX8_60 rfl rfl rfl rfl (Nat.le_of_ble_eq_true rfl) (Nat.le_of_ble_eq_true rfl) rfl rfl (c_startOf_203 hP) (fun r m' hq => ?_)
    obtain ⟨rfl, rfl⟩ := hq
    refine q_iload_n (pc' := 20) dX8_unfitting_19 rfl rfl ?_
    refine q_iaddN (pc' := 21) dX8_unfitting_20 rfl ?_
    refine q_aload_n (pc' := 22) dX8_unfitting_21 rfl rfl ?_
    refine h_getiE (pc' := 25) dX8_unfitting_22 fX8_144 rfl rfl (h12) rfl ?_
    refine h_callV (pc' := 28) (M' := mX8_wholeAt) (As := [_, _]) dX8_unfitting_25 iX8_wholeAt lX8_201 rfl rfl rfl rfl (Nat.le_of_ble_eq_true rfl) (Nat.le_of_ble_eq_true rfl) rfl rfl (c_wholeAt_203 hP (by omega) hp) (fun r m' hq => ?_)
    obtain ⟨rfl, rfl⟩ := hq
    refine q_ldc2 (pc' := 31) dX8_unfitting_28 kX8_132 rfl ?_
    refine q_lcmp (pc' := 32) dX8_unfitting_31 rfl ?_
    refine q_if_neL (tgt := 41) (pc' := 35) dX8_unfitting_32 (by decide) rfl (fun c_32 => ?_) (fun c_32 => ?_)
    · refine q_iincN (pc' := 44) (j := 1) (lv' := [_, _, _, _]) dX8_unfitting_41 rfl (by decide) rfl rfl ?_
      refine q_goto (pc' := 4) dX8_unfitting_44 (by decide) ?_
      have ih := ih (j + 1) (by omega)
      rw [s_mk_f (P := s_un rl ws bk p) (decide_eq_false c_32)] at ih
      exact ih
    · refine q_iload_n (pc' := 36) dX8_unfitting_35 rfl rfl ?_
      refine q_iconst (pc' := 37) (v := nI 1) dX8_unfitting_36 rfl rfl ?_
      refine q_iload_n (pc' := 38) dX8_unfitting_37 rfl rfl ?_
      refine q_ishl (pc' := 39) dX8_unfitting_38 rfl ?_
      refine q_ior (pc' := 40) dX8_unfitting_39 rfl ?_
      rw [s_mk_t (P := s_un rl ws bk p) (by omega) (decide_eq_true c_32)]
      refine q_istore_n (pc' := 41) (lv' := [_, _, _, _]) dX8_unfitting_40 (by decide) rfl rfl ?_
      refine q_iincN (pc' := 44) (j := 1) (lv' := [_, _, _, _]) dX8_unfitting_41 rfl (by decide) rfl rfl ?_
      refine q_goto (pc' := 4) dX8_unfitting_44 (by decide) ?_
      exact ih (j + 1) (by omega)
set_option maxHeartbeats 4000000 in
set_option maxRecDepth 20000 in
theorem c_weigh_203 {Z : q_Z} {m : q_Mm} {d : Nat} {n bk : Nat} {rl : Nat → Nat} {ys : Nat → Int64} {ws : Nat → Nat → Int64} {q : s_F} (hP : Pl m 203 n rl ys ws) (hF : Fiv m 203 q) (hb : bk < s_nb n rl) : q_V (q_g Z) mX8_weigh (d+4) 0 0 0 [some (.ref (q_ad Z 203)), some (.int (nI bk)), none, none] [] (q_W Z m) (q_P Z fun r m2 => r = none ∧ Fr [203, 208, 209, 210, 211] m m2 ∧ Kp 203 [11, 12, 13, 14, 15] m m2 ∧ Wg m2 203 n rl ys ws q bk ∧ PartC m2 208 (s_sz n rl bk) (rl 4) (s_ps rl ys bk) ∧ Ms m2 203 (s_dm n rl ws bk (s_wp n rl ws q bk))) := by
  have hr := hP.2.2.2.1
  have hz := s_nb_in hr hb
  have h16 := s_sz16 (n := n) hr bk
  have hwp := s_wp_lt (n := n) hr ws (fun i hi => (hF.2.2.2 i hi).1) bk
  refine q_aload_n (pc' := 1) dX8_weigh_0 rfl rfl ?_
  refine q_aload_n (pc' := 2) dX8_weigh_1 rfl rfl ?_
  refine q_iload_n (pc' := 3) dX8_weigh_2 rfl rfl ?_
  refine h_callV (pc' := 6) (M' := mX8_pairOf) (As := [_]) dX8_weigh_3 iX8_pairOf lX8_177 rfl rfl rfl rfl (Nat.le_of_ble_eq_true rfl) (Nat.le_of_ble_eq_true rfl) rfl rfl (c_pairOf_203 hP hF hb) (fun r m' hq => ?_)
  obtain ⟨rfl, f1, k1⟩ := hq
  refine h_puti (pc' := 9) dX8_weigh_6 fX8_144 rfl rfl rfl rfl rfl ?_
  refine q_aload_n (pc' := 10) dX8_weigh_9 rfl rfl ?_
  refine q_iconst (pc' := 11) (v := nI 0) dX8_weigh_10 rfl rfl ?_
  refine h_puti (pc' := 14) dX8_weigh_11 fX8_180 rfl rfl rfl rfl rfl ?_
  generalize hm1 : sI (sI m' 203 12 (nI (s_po (fun p => s_sc n rl ws bk p) q.2.1 q.1).1)) 203 13 (nI 0) = m1
  have f1 : Fr [203, 208, 209, 210, 211] m m1 := hm1 ▸ (((f1.mono (by decide)).I (by decide)).I (by decide))
  have k1 : Kp 203 [11, 12, 13, 14, 15] m m1 := (k1.mono (by decide)).trans (by
    rw [← hm1]
    intro j hj
    show q_u (q_u (m'.1 203) 12 _) 13 _ j = _
    rw [q_u_n _ _ (fun h => by subst h; exact absurd hj (by decide)), q_u_n _ _ (fun h => by subst h; exact absurd hj (by decide))])
  have e12 : m1.1 203 12 = nI (s_wp n rl ws q bk) := hm1 ▸ rfl
  have e13 : m1.1 203 13 = nI 0 := hm1 ▸ rfl
  clear hm1
  have hP1 := hP.kp f1 k1 (by decide) (by decide) (by decide) (by decide) (by decide)
  refine q_aload_n (pc' := 15) dX8_weigh_14 rfl rfl ?_
  refine q_aload_n (pc' := 16) dX8_weigh_15 rfl rfl ?_
  refine q_iload_n (pc' := 17) dX8_weigh_16 rfl rfl ?_
  refine h_callV (pc' := 20) (M' := mX8_rawCost) (As := [_]) dX8_weigh_17 iX8_rawCost lX8_183 rfl rfl rfl rfl (Nat.le_of_ble_eq_true rfl) (Nat.le_of_ble_eq_true rfl) rfl rfl (c_rawCost_203 hP1 hb) (fun r m' hq => ?_)
  obtain ⟨rfl, rfl⟩ := hq
  refine h_puti (pc' := 23) dX8_weigh_20 fX8_186 rfl rfl rfl rfl rfl ?_
  refine q_aload_n (pc' := 24) dX8_weigh_23 rfl rfl ?_
  refine q_iconst (pc' := 25) (v := nI 0) dX8_weigh_24 rfl rfl ?_
  refine h_puti (pc' := 28) dX8_weigh_25 fX8_189 rfl rfl rfl rfl rfl ?_
  generalize hm2 : sI (sI m' 203 14 (nI (3 + 8 * s_sz n rl bk))) 203 15 (nI 0) = m2
  have f2 : Fr [203, 208, 209, 210, 211] m m2 := hm2 ▸ ((f1.I (by decide)).I (by decide))
  have k2 : Kp 203 [11, 12, 13, 14, 15] m m2 := k1.trans (by
    rw [← hm2]
    intro j hj
    show q_u (q_u (m'.1 203) 14 _) 15 _ j = _
    rw [q_u_n _ _ (fun h => by subst h; exact absurd hj (by decide)), q_u_n _ _ (fun h => by subst h; exact absurd hj (by decide))])
  have d12 : m2.1 203 12 = nI (s_wp n rl ws q bk) := hm2 ▸ e12
  have d13 : m2.1 203 13 = nI 0 := hm2 ▸ e13
  have d14 : m2.1 203 14 = nI (3 + 8 * s_sz n rl bk) := hm2 ▸ rfl
  have d15 : m2.1 203 15 = nI 0 := hm2 ▸ rfl
  clear hm2
  have hP2 := hP.kp f2 k2 (by decide) (by decide) (by decide) (by decide) (by decide)
  refine q_aload_n (pc' := 29) dX8_weigh_28 rfl rfl ?_
  refine q_iload_n (pc' := 30) dX8_weigh_29 rfl rfl ?_
  refine q_aload_n (pc' := 31) dX8_weigh_30 rfl rfl ?_
  refine h_getiE (pc' := 34) dX8_weigh_31 fX8_144 rfl rfl (d12) rfl ?_
  refine h_callV (pc' := 37) (M' := mX8_decimalCost) (As := [_, _]) dX8_weigh_34 iX8_decimalCost lX8_192 rfl rfl rfl rfl (Nat.le_of_ble_eq_true rfl) (Nat.le_of_ble_eq_true rfl) rfl rfl (c_decimalCost_203 hP2 hb hwp) (fun r m' hq => ?_)
  obtain ⟨rfl, f3, k3, M3⟩ := hq
  obtain ⟨m3, hm3⟩ : ∃ z, z = m' := ⟨_, rfl⟩
  subst hm3
  have f3 : Fr [203, 208, 209, 210, 211] m m3 := f2.trans (f3.mono (by decide))
  have d12 := (k3 12 (by decide)).trans d12
  have d13 := (k3 13 (by decide)).trans d13
  have d14 := (k3 14 (by decide)).trans d14
  have d15 := (k3 15 (by decide)).trans d15
  have k3 : Kp 203 [11, 12, 13, 14, 15] m m3 := k2.trans (k3.mono (by decide))
  have hdc := s_dc_le (n := n) hr ws bk (s_wp n rl ws q bk)
  have hsp := s_spc_le hr ys hz.2.1
  have fin : ∀ (m4 : q_Mm), Fr [203, 208, 209, 210, 211] m m4 → Kp 203 [11, 12, 13, 14, 15] m m4 → Ms m4 203 (s_dm n rl ws bk (s_wp n rl ws q bk)) → m4.1 203 12 = nI (s_wp n rl ws q bk) → m4.1 203 13 = nI (s_w1 n rl ws q bk).1 → m4.1 203 14 = nI (s_w1 n rl ws q bk).2 → m4.1 203 15 = nI (s_mk (s_ex n rl ys ws (s_wp n rl ws q bk) bk (s_w1 n rl ws q bk).1) (s_sz n rl bk)) → (s_w1 n rl ws q bk).2 ≤ 1000 → q_V (q_g Z) mX8_weigh (d+4) 0 0 65 [some (.ref (q_ad Z 203)), some (.int (nI bk)), some (.int (nI (s_dc n rl ws bk (s_wp n rl ws q bk)))), none] [] (q_W Z (m4)) (q_P Z fun r m2 => r = none ∧ Fr [203, 208, 209, 210, 211] m m2 ∧ Kp 203 [11, 12, 13, 14, 15] m m2 ∧ Wg m2 203 n rl ys ws q bk ∧ PartC m2 208 (s_sz n rl bk) (rl 4) (s_ps rl ys bk) ∧ Ms m2 203 (s_dm n rl ws bk (s_wp n rl ws q bk))) := by
    intro m4 f4 k4 M4 a12 a13 a14 a15 hle
    have hP4 := hP.kp f4 k4 (by decide) (by decide) (by decide) (by decide) (by decide)
    refine q_aload_n (pc' := 66) dX8_weigh_65 rfl rfl ?_
    refine q_iload_n (pc' := 67) dX8_weigh_66 rfl rfl ?_
    refine h_callV (pc' := 70) (M' := mX8_splitCost) (As := [_]) dX8_weigh_67 iX8_splitCost lX8_198 rfl rfl rfl rfl (Nat.le_of_ble_eq_true rfl) (Nat.le_of_ble_eq_true rfl) rfl rfl (c_splitCost_203 hP4 hb) (fun r m' hq => ?_)
    obtain ⟨rfl, f5, C5⟩ := hq
    have kf := congrFun (f5.i (p := 203) (by decide))
    have a14 := (kf 14).trans a14
    have k5 : Kp 203 [11, 12, 13, 14, 15] m m' := k4.trans (Kp.fr f5 (by decide))
    have M5 := M4.fr f5 (by decide)
    have e2 : m'.1 208 2 = nI (s_mk (s_mi n rl ys bk) (s_sz n rl bk)) := C5.2.2.trans (s_miss_mk _ _ _ _ (by omega))
    refine q_istore_n (pc' := 71) (lv' := [_, _, _, _]) dX8_weigh_70 (by decide) rfl rfl ?_
    refine q_iload_n (pc' := 72) dX8_weigh_71 rfl rfl ?_
    refine q_aload_n (pc' := 73) dX8_weigh_72 rfl rfl ?_
    refine h_getiE (pc' := 76) dX8_weigh_73 fX8_186 rfl rfl (a14) rfl ?_
    refine q_icmp_geN (tgt := 100) (pc' := 79) dX8_weigh_76 (by decide) rfl (by omega) (fun c_76 => ?_) (fun c_76 => ?_)
    · have e : s_wf n rl ys ws q bk = s_w1 n rl ws q bk := by unfold s_wf; rw [if_neg (by omega)]
      refine q_vret dX8_weigh_100 rfl ⟨_, rfl, rfl, f4.trans (f5.mono (by decide)), k5, ⟨(kf 12).trans a12, by rw [e]; exact (kf 13).trans a13, by rw [e]; exact a14, by rw [e]; exact (kf 15).trans a15⟩, C5, M5⟩
    · have e : s_wf n rl ys ws q bk = (2, s_spc n rl ys bk) := by unfold s_wf; rw [if_pos (by omega)]
      refine q_aload_n (pc' := 80) dX8_weigh_79 rfl rfl ?_
      refine q_iconst (pc' := 81) (v := nI 2) dX8_weigh_80 rfl rfl ?_
      refine h_puti (pc' := 84) dX8_weigh_81 fX8_180 rfl rfl rfl rfl rfl ?_
      refine q_aload_n (pc' := 85) dX8_weigh_84 rfl rfl ?_
      refine q_iload_n (pc' := 86) dX8_weigh_85 rfl rfl ?_
      refine h_puti (pc' := 89) dX8_weigh_86 fX8_186 rfl rfl rfl rfl rfl ?_
      refine q_aload_n (pc' := 90) dX8_weigh_89 rfl rfl ?_
      refine q_aload_n (pc' := 91) dX8_weigh_90 rfl rfl ?_
      refine h_getr (pc' := 94) dX8_weigh_91 fX8_27 rfl rfl rfl ?_
      refine h_getiE (pc' := 97) dX8_weigh_94 fX8_169 rfl rfl (e2) rfl ?_
      refine h_puti (pc' := 100) dX8_weigh_97 fX8_189 rfl rfl rfl rfl rfl ?_
      refine q_vret dX8_weigh_100 rfl ⟨_, rfl, rfl, (((f4.trans (f5.mono (by decide))).I (by decide)).I (by decide)).I (by decide), k5.trans ?_, ⟨(kf 12).trans a12, by rw [e]; rfl, by rw [e]; rfl, by rw [e]; rfl⟩, C5, M5⟩
      intro j hj
      show q_u (q_u (q_u (m'.1 203) 13 _) 14 _) 15 _ j = _
      rw [q_u_n _ _ (fun h => by subst h; exact absurd hj (by decide)), q_u_n _ _ (fun h => by subst h; exact absurd hj (by decide)), q_u_n _ _ (fun h => by subst h; exact absurd hj (by decide))]
  refine q_istore_n (pc' := 38) (lv' := [_, _, _, _]) dX8_weigh_37 (by decide) rfl rfl ?_
  refine q_iload_n (pc' := 39) dX8_weigh_38 rfl rfl ?_
  refine q_aload_n (pc' := 40) dX8_weigh_39 rfl rfl ?_
  refine h_getiE (pc' := 43) dX8_weigh_40 fX8_186 rfl rfl (d14) rfl ?_
  refine q_icmp_geN (tgt := 65) (pc' := 46) dX8_weigh_43 (by decide) rfl (by omega) (fun c_43 => ?_) (fun c_43 => ?_)
  · have e : s_w1 n rl ws q bk = (0, 3 + 8 * s_sz n rl bk) := by unfold s_w1; rw [if_neg (by omega)]
    refine fin _ f3 k3 M3 d12 (by rw [e]; exact d13) (by rw [e]; exact d14) (by rw [e, d15]; exact congrArg nI (s_mk_no _).symm) (by rw [e]; simp only []; omega)
  · have e : s_w1 n rl ws q bk = (1, s_dc n rl ws bk (s_wp n rl ws q bk)) := by unfold s_w1; rw [if_pos (by omega)]
    refine q_aload_n (pc' := 47) dX8_weigh_46 rfl rfl ?_
    refine q_iconst (pc' := 48) (v := nI 1) dX8_weigh_47 rfl rfl ?_
    refine h_puti (pc' := 51) dX8_weigh_48 fX8_180 rfl rfl rfl rfl rfl ?_
    refine q_aload_n (pc' := 52) dX8_weigh_51 rfl rfl ?_
    refine q_iload_n (pc' := 53) dX8_weigh_52 rfl rfl ?_
    refine h_puti (pc' := 56) dX8_weigh_53 fX8_186 rfl rfl rfl rfl rfl ?_
    have f4 : Fr [203, 208, 209, 210, 211] m (sI (sI m3 203 13 (nI 1)) 203 14 (nI (s_dc n rl ws bk (s_wp n rl ws q bk)))) := (f3.I (by decide)).I (by decide)
    have hP4 : Pl (sI (sI m3 203 13 (nI 1)) 203 14 (nI (s_dc n rl ws bk (s_wp n rl ws q bk)))) 203 n rl ys ws := hP.fr f4 (k3 4 (by decide)) (by decide) (by decide) (by decide) (by decide)
    refine q_aload_n (pc' := 57) dX8_weigh_56 rfl rfl ?_
    refine q_aload_n (pc' := 58) dX8_weigh_57 rfl rfl ?_
    refine q_iload_n (pc' := 59) dX8_weigh_58 rfl rfl ?_
    refine h_callV (pc' := 62) (M' := mX8_unfitting) (As := [_]) dX8_weigh_59 iX8_unfitting lX8_195 rfl rfl rfl rfl (Nat.le_of_ble_eq_true rfl) (Nat.le_of_ble_eq_true rfl) rfl rfl (c_unfitting_203 hP4 hb hwp d12) (fun r m' hq => ?_)
    obtain ⟨rfl, rfl⟩ := hq
    refine h_puti (pc' := 65) dX8_weigh_62 fX8_189 rfl rfl rfl rfl rfl ?_
    refine fin _ (f4.I (by decide)) (k3.trans ?_) M3 d12 (by rw [e]; rfl) (by rw [e]; rfl) (by rw [e]; rfl) (by rw [e]; simp only []; omega)
    intro j hj
    show q_u (q_u (q_u (m3.1 203) 13 _) 14 _) 15 _ j = _
    rw [q_u_n _ _ (fun h => by subst h; exact absurd hj (by decide)), q_u_n _ _ (fun h => by subst h; exact absurd hj (by decide)), q_u_n _ _ (fun h => by subst h; exact absurd hj (by decide))]
