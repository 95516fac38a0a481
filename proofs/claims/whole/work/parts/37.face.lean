/-! ===== GuisePack's face, first ones ===== -/
/-- the class's COLUMN and what is learnt of it -/
def Cls (m : q_Mm) (st : Bool) (n k : Nat) (rl : Nat → Nat) (xs : Nat → Int64) (nt : Nat → Int32) : Prop := DblOk m ∧ CdOk m ∧ FitsOk m ∧ Col m 19 n k xs rl nt ∧ (m.1 0 14 = q_b true → m.1 0 16 = q_b st) ∧ (st = false → Cur m 194 n rl xs)
theorem Cls.fr {S : List Nat} {m m2 : q_Mm} {st : Bool} {n k : Nat} {rl : Nat → Nat} {xs : Nat → Int64} {nt : Nat → Int32} (h : Cls m st n k rl xs nt) (f : Fr S m m2) (k4 : Kp 194 [9, 10, 11, 12, 13, 14, 15] m m2) (hS : ∀ p ∈ [0, 2, 3, 4, 5, 19, 20, 21, 22, 190, 191, 192, 193, 195, 196, 197, 198], p ∉ S) : Cls m2 st n k rl xs nt := by
  obtain ⟨h1, h2, h3, h4, h5, h6⟩ := h
  refine ⟨h1.fr f (hS 2 (by decide)) (hS 3 (by decide)) (hS 4 (by decide)) (hS 5 (by decide)), h2.fr f (hS 190 (by decide)), h3.fr f (hS 191 (by decide)) (hS 192 (by decide)) (hS 193 (by decide)), h4.fr f (hS 19 (by decide)) (hS 20 (by decide)) (hS 21 (by decide)) (hS 22 (by decide)), fun z => (congrFun (f.i (hS 0 (by decide))) 16).trans (h5 ((congrFun (f.i (hS 0 (by decide))) 14).symm.trans z)), fun z => ?_⟩
  obtain ⟨a, b⟩ := h6 z
  exact ⟨a.fr f (k4 4 (by decide)) (hS 195 (by decide)) (hS 196 (by decide)) (hS 20 (by decide)) (hS 193 (by decide)), b.fr f (k4 7 (by decide)) (hS 197 (by decide)) (hS 198 (by decide))⟩
theorem told {m : q_Mm} {t : Bool} (h : m.1 0 14 = q_b t) (z : t = true) : m.1 0 14 = q_b true := h.trans (congrArg q_b z)
theorem s_has_t {t : Bool} {n : Nat} {x : Int32} (h : s_has t n x = true) : t = true := by
  unfold s_has at h
  rw [Bool.and_eq_true] at h
  exact h.1
set_option maxHeartbeats 4000000 in
set_option maxRecDepth 20000 in
theorem c_cur {Z : q_Z} {m : q_Mm} {d : Nat} {n k : Nat} {st : Bool} {rl : Nat → Nat} {xs : Nat → Int64} {nt : Nat → Int32} (h : Cls m st n k rl xs nt) (hto : m.1 0 14 = q_b true) : q_V (q_g Z) mX10_current (d+5) 0 0 0 [some (.ref (q_ad Z 0))] [] (q_W Z m) (q_P Z fun r m2 => r = some (.ref (q_ad Z 194)) ∧ Fr [0, 191, 192, 193, 194, 195, 196, 197, 198] m m2 ∧ Kp 0 [16] m m2 ∧ Cls m2 false n k rl xs nt) := by
  obtain ⟨h1, h2, h3, h4, h5, h6⟩ := h
  refine h_weak (c_current h1 h2 h3 h4 (h5 hto) h6) ?_
  rintro r m2 ⟨a, f, b, c, e, g⟩
  exact ⟨a, f, b, h1.fr f (by decide) (by decide) (by decide) (by decide), h2.fr f (by decide), e, h4.fr f (by decide) (by decide) (by decide) (by decide), fun _ => c, fun _ => g⟩
set_option maxHeartbeats 4000000 in
set_option maxRecDepth 20000 in
theorem c_layOther {Z : q_Z} {m : q_Mm} {d : Nat} {n k w v : Nat} {rl : Nat → Nat} {xs : Nat → Int64} {nt : Nat → Int32} (hC : Col m 19 n k xs rl nt) (hl : ∀ i, i < n → ∀ p, p < 120 → m.2.2.2.1 193 (i * 120 + p) = s_wv (xs i) p) (hw : w < 5) (hok : s_rok (q_u rl w v)) : q_V (q_g Z) mX10_layOther (d+5) 0 0 0 [some (.ref (q_ad Z 0)), some (.int (nI w)), some (.int (nI v))] [] (q_W Z m) (q_P Z fun r m2 => r = none ∧ Fr [203, 204, 205, 206, 207] m m2 ∧ Cur m2 203 n (q_u rl w v) xs) := by
  refine q_aload_n (pc' := 1) dX10_layOther_0 rfl rfl ?_
  refine h_getr (pc' := 4) dX10_layOther_1 fX10_77 rfl rfl rfl ?_
  refine h_callV (pc' := 7) (M' := mX8_lay) (As := []) dX10_layOther_4 iX8_lay lX10_337 rfl rfl rfl rfl (Nat.le_of_ble_eq_true rfl) (Nat.le_of_ble_eq_true rfl) rfl rfl (c_lay_203 (ws := s_ws xs) hC hl) (fun r m' hq => ?_)
  obtain ⟨rfl, f1, k1, P1⟩ := hq
  refine q_aload_n (pc' := 8) dX10_layOther_7 rfl rfl ?_
  refine h_getr (pc' := 11) dX10_layOther_8 fX10_77 rfl rfl rfl ?_
  refine h_getr (pc' := 14) dX10_layOther_11 fX10_385 rfl rfl rfl ?_
  refine q_iload_n (pc' := 15) dX10_layOther_14 rfl rfl ?_
  refine q_iload_n (pc' := 16) dX10_layOther_15 rfl rfl ?_
  refine h_iast (pc' := 17) dX10_layOther_16 rfl (rfl) (by omega) (by decide) rfl ?_
  have P2 : PlI (sA m' 204 (q_u (m'.2.2.1 204) w (nI v))) 203 n (q_u rl w v) xs (s_ws xs) := by
    refine ⟨P1.1, P1.2.1, fun i hi => ?_, hok, P1.2.2.2.2⟩
    show q_u (m'.2.2.1 204) w (nI v) i = nI (q_u rl w v i)
    by_cases z : i = w
    · rw [z, q_u_s, q_u_s]
    · rw [q_u_n _ _ z, q_u_n _ _ z]
      exact P1.2.2.1 i hi
  have f2 : Fr [203, 204, 205, 206, 207] m (sA m' 204 (q_u (m'.2.2.1 204) w (nI v))) := (f1.mono (by decide)).A (by decide)
  refine q_aload_n (pc' := 18) dX10_layOther_17 rfl rfl ?_
  refine h_getr (pc' := 21) dX10_layOther_18 fX10_77 rfl rfl rfl ?_
  refine h_callV (pc' := 24) (M' := mX8_rank) (As := []) dX10_layOther_21 iX8_rank lX10_343 rfl rfl rfl rfl (Nat.le_of_ble_eq_true rfl) (Nat.le_of_ble_eq_true rfl) rfl rfl (c_rank_203 P2.pl) (fun r m' hq => ?_)
  obtain ⟨rfl, f3, k3, V3⟩ := hq
  refine q_vret dX10_layOther_24 rfl ⟨_, rfl, rfl, f2.trans (f3.mono (by decide)), ⟨P2.fr f3 (k3 4 (by decide)) (by decide) (by decide) (by decide) (by decide), V3⟩⟩
set_option maxHeartbeats 4000000 in
set_option maxRecDepth 20000 in
theorem c_feed {Z : q_Z} {m : q_Mm} {d : Nat} {B : List Nat} {a b c e g : Int32} (hO : Oct m 6 B) : q_V (q_g Z) mX10_feed (d+2) 0 0 0 [some (.ref (q_ad Z 0)), some (.int a), some (.int b), some (.int c), some (.int e), some (.int g)] [] (q_W Z m) (q_P Z fun r m2 => r = some (.int (if B.length + 20 ≤ 320 then nI (B.length + 20) else -1)) ∧ Fr [6, 7] m m2 ∧ Oct m2 6 (if B.length + 20 ≤ 320 then B ++ s_i4 a ++ s_i4 b ++ s_i4 c ++ s_i4 e ++ s_i4 g else B)) := by
  have hl := hO.2.1
  refine q_aload_n (pc' := 1) dX10_feed_0 rfl rfl ?_
  refine h_getr (pc' := 4) dX10_feed_1 fX10_19 rfl rfl rfl ?_
  refine h_getiE (pc' := 7) dX10_feed_4 fX10_97 rfl rfl (hO.1) rfl ?_
  refine q_bipush (pc' := 9) (v := nI 20) dX10_feed_7 rfl rfl ?_
  refine q_iaddN (pc' := 10) dX10_feed_9 rfl ?_
  refine q_sipush (pc' := 13) (v := nI 320) dX10_feed_10 rfl rfl ?_
  refine q_icmp_leN (tgt := 18) (pc' := 16) dX10_feed_13 (by decide) rfl (by omega) (fun c_13 => ?_) (fun c_13 => ?_)
  rotate_left
  · refine q_iconst (pc' := 17) (v := (-1)) dX10_feed_16 rfl rfl ?_
    refine q_iret dX10_feed_17 rfl rfl ⟨_, rfl, by rw [if_neg (by omega)], Fr.rf, by rw [if_neg (by omega)]; exact hO⟩
  have h4 : ∀ x : Int32, (s_i4 x).length = 4 := fun _ => rfl
  refine q_aload_n (pc' := 19) dX10_feed_18 rfl rfl ?_
  refine h_getr (pc' := 22) dX10_feed_19 fX10_19 rfl rfl rfl ?_
  refine q_iload_n (pc' := 23) dX10_feed_22 rfl rfl ?_
  refine h_callV (pc' := 26) (M' := mX5_appendInt) (As := [_]) dX10_feed_23 iX5_appendInt lX10_101 rfl rfl rfl rfl (Nat.le_of_ble_eq_true rfl) (Nat.le_of_ble_eq_true rfl) rfl rfl (c_appendInt_6 hO (by omega)) (fun r m' hq => ?_)
  obtain ⟨rfl, f1, O1⟩ := hq
  refine q_aload_n (pc' := 27) dX10_feed_26 rfl rfl ?_
  refine h_getr (pc' := 30) dX10_feed_27 fX10_19 rfl rfl rfl ?_
  refine q_iload_n (pc' := 31) dX10_feed_30 rfl rfl ?_
  refine h_callV (pc' := 34) (M' := mX5_appendInt) (As := [_]) dX10_feed_31 iX5_appendInt lX10_101 rfl rfl rfl rfl (Nat.le_of_ble_eq_true rfl) (Nat.le_of_ble_eq_true rfl) rfl rfl (c_appendInt_6 O1 (by rw [List.length_append, h4]; omega)) (fun r m' hq => ?_)
  obtain ⟨rfl, f2, O2⟩ := hq
  refine q_aload_n (pc' := 35) dX10_feed_34 rfl rfl ?_
  refine h_getr (pc' := 38) dX10_feed_35 fX10_19 rfl rfl rfl ?_
  refine q_iload_n (pc' := 39) dX10_feed_38 rfl rfl ?_
  refine h_callV (pc' := 42) (M' := mX5_appendInt) (As := [_]) dX10_feed_39 iX5_appendInt lX10_101 rfl rfl rfl rfl (Nat.le_of_ble_eq_true rfl) (Nat.le_of_ble_eq_true rfl) rfl rfl (c_appendInt_6 O2 (by simp only [List.length_append, h4]; omega)) (fun r m' hq => ?_)
  obtain ⟨rfl, f3, O3⟩ := hq
  refine q_aload_n (pc' := 43) dX10_feed_42 rfl rfl ?_
  refine h_getr (pc' := 46) dX10_feed_43 fX10_19 rfl rfl rfl ?_
  refine q_iload (pc' := 48) dX10_feed_46 rfl rfl ?_
  refine h_callV (pc' := 51) (M' := mX5_appendInt) (As := [_]) dX10_feed_48 iX5_appendInt lX10_101 rfl rfl rfl rfl (Nat.le_of_ble_eq_true rfl) (Nat.le_of_ble_eq_true rfl) rfl rfl (c_appendInt_6 O3 (by simp only [List.length_append, h4]; omega)) (fun r m' hq => ?_)
  obtain ⟨rfl, f4, O4⟩ := hq
  refine q_aload_n (pc' := 52) dX10_feed_51 rfl rfl ?_
  refine h_getr (pc' := 55) dX10_feed_52 fX10_19 rfl rfl rfl ?_
  refine q_iload (pc' := 57) dX10_feed_55 rfl rfl ?_
  refine h_callV (pc' := 60) (M' := mX5_appendInt) (As := [_]) dX10_feed_57 iX5_appendInt lX10_101 rfl rfl rfl rfl (Nat.le_of_ble_eq_true rfl) (Nat.le_of_ble_eq_true rfl) rfl rfl (c_appendInt_6 O4 (by simp only [List.length_append, h4]; omega)) (fun r m' hq => ?_)
  obtain ⟨rfl, f5, O5⟩ := hq
  have hL : (B ++ s_i4 a ++ s_i4 b ++ s_i4 c ++ s_i4 e ++ s_i4 g).length = B.length + 20 := by simp only [List.length_append, h4]
  refine q_aload_n (pc' := 61) dX10_feed_60 rfl rfl ?_
  refine h_getr (pc' := 64) dX10_feed_61 fX10_19 rfl rfl rfl ?_
  refine h_getiE (pc' := 67) dX10_feed_64 fX10_97 rfl rfl (O5.1) rfl ?_
  refine q_iret dX10_feed_67 rfl rfl ⟨_, rfl, by rw [if_pos c_13, ← hL], (((f1.trans f2).trans f3).trans f4).trans f5, by rw [if_pos c_13]; exact O5⟩
theorem oct_take {m : q_Mm} {B : List Nat} {j : Nat} (hO : Oct m 6 B) (hj : j ≤ B.length) : Oct (sI m 6 1 (nI j)) 6 (B.take j) := by
  obtain ⟨h1, h2, h3, h4⟩ := hO
  have e : (B.take j).length = j := by rw [List.length_take]; omega
  refine ⟨by rw [e]; rfl, by omega, fun i hi => ?_, fun x hx => h4 x (List.mem_of_mem_take hx)⟩
  rw [e] at hi
  refine (h3 i (by omega)).trans ?_
  congr 1
  rw [List.getD_eq_getElem?_getD, List.getD_eq_getElem?_getD, List.getElem?_take, if_pos hi]
set_option maxHeartbeats 4000000 in
set_option maxRecDepth 20000 in
theorem c_end {Z : q_Z} {m : q_Mm} {d : Nat} {B : List Nat} {x : Int32} (hO : Oct m 6 B) : q_V (q_g Z) mX10_end (d) 0 0 0 [some (.ref (q_ad Z 0)), some (.int x)] [] (q_W Z m) (q_P Z fun r m2 => r = some (.int (q_b (decide (0 ≤ x.toInt ∧ x.toInt ≤ (B.length : Int))))) ∧ Fr [6] m m2 ∧ Oct m2 6 (if 0 ≤ x.toInt ∧ x.toInt ≤ (B.length : Int) then B.take x.toInt.toNat else B)) := by
  have hl := hO.2.1
  refine q_iload_n (pc' := 1) dX10_end_0 rfl rfl ?_
  refine q_if_lt (tgt := 15) (pc' := 4) dX10_end_1 (by decide) rfl (fun c_1 => ?_) (fun c_1 => ?_)
  · rw [z_lt, z_0] at c_1
    refine q_iconst (pc' := 16) (v := nI 0) dX10_end_15 rfl rfl ?_
    refine q_iret dX10_end_16 rfl (by first | exact q_nb0 | exact q_nb1 | exact q_nb _) ⟨_, rfl, z_f (by omega), Fr.rf, by rw [if_neg (by omega)]; exact hO⟩
  rw [z_lt, z_0] at c_1
  refine q_iload_n (pc' := 5) dX10_end_4 rfl rfl ?_
  refine q_aload_n (pc' := 6) dX10_end_5 rfl rfl ?_
  refine h_getr (pc' := 9) dX10_end_6 fX10_19 rfl rfl rfl ?_
  refine h_getiE (pc' := 12) dX10_end_9 fX10_97 rfl rfl (hO.1) rfl ?_
  refine q_icmp_le (tgt := 17) (pc' := 15) dX10_end_12 (by decide) rfl (fun c_12 => ?_) (fun c_12 => ?_)
  · rw [z_le, z_n (by omega)] at c_12
    obtain ⟨j, hj, rfl⟩ := z_ex (x := x) (n := B.length + 1) (by omega) (by omega) (by omega)
    rw [z_n (by omega)] at c_12 c_1 ⊢
    refine q_aload_n (pc' := 18) dX10_end_17 rfl rfl ?_
    refine h_getr (pc' := 21) dX10_end_18 fX10_19 rfl rfl rfl ?_
    refine q_iload_n (pc' := 22) dX10_end_21 rfl rfl ?_
    refine h_puti (pc' := 25) dX10_end_22 fX10_97 rfl rfl rfl rfl rfl ?_
    refine q_iconst (pc' := 26) (v := nI 1) dX10_end_25 rfl rfl ?_
    refine q_iret dX10_end_26 rfl (by first | exact q_nb0 | exact q_nb1 | exact q_nb _) ⟨_, rfl, z_t (by omega), Fr.rf.I (by decide), by rw [if_pos (by omega)]; exact oct_take hO (by omega)⟩
  · rw [z_le, z_n (by omega)] at c_12
    refine q_iconst (pc' := 16) (v := nI 0) dX10_end_15 rfl rfl ?_
    refine q_iret dX10_end_16 rfl (by first | exact q_nb0 | exact q_nb1 | exact q_nb _) ⟨_, rfl, z_f (by omega), Fr.rf, by rw [if_neg (by omega)]; exact hO⟩
set_option maxHeartbeats 4000000 in
set_option maxRecDepth 20000 in
theorem c_octet {Z : q_Z} {m : q_Mm} {d : Nat} {B : List Nat} {x : Int32} (hO : Oct m 8 B) : q_V (q_g Z) mX10_octet (d) 0 0 0 [some (.ref (q_ad Z 0)), some (.int x)] [] (q_W Z m) (q_P Z fun r m2 => r = some (.int (if 0 ≤ x.toInt ∧ x.toInt < (B.length : Int) then nI (B.getD x.toInt.toNat 0) else -1)) ∧ m2 = m) := by
  have hl := hO.2.1
  refine q_iload_n (pc' := 1) dX10_octet_0 rfl rfl ?_
  refine q_if_lt (tgt := 15) (pc' := 4) dX10_octet_1 (by decide) rfl (fun c_1 => ?_) (fun c_1 => ?_)
  · rw [z_lt, z_0] at c_1
    refine q_iconst (pc' := 16) (v := (-1)) dX10_octet_15 rfl rfl ?_
    refine q_iret dX10_octet_16 rfl rfl ⟨_, rfl, by rw [if_neg (by omega)], rfl⟩
  rw [z_lt, z_0] at c_1
  refine q_iload_n (pc' := 5) dX10_octet_4 rfl rfl ?_
  refine q_aload_n (pc' := 6) dX10_octet_5 rfl rfl ?_
  refine h_getr (pc' := 9) dX10_octet_6 fX10_23 rfl rfl rfl ?_
  refine h_getiE (pc' := 12) dX10_octet_9 fX10_97 rfl rfl (hO.1) rfl ?_
  refine q_icmp_lt (tgt := 17) (pc' := 15) dX10_octet_12 (by decide) rfl (fun c_12 => ?_) (fun c_12 => ?_)
  · rw [z_lt, z_n (by omega)] at c_12
    obtain ⟨j, hj, rfl⟩ := z_ex (x := x) (n := B.length) (by omega) (by omega) (by omega)
    rw [z_n (by omega)] at c_12 c_1 ⊢
    refine q_aload_n (pc' := 18) dX10_octet_17 rfl rfl ?_
    refine h_getr (pc' := 21) dX10_octet_18 fX10_23 rfl rfl rfl ?_
    refine h_getr (pc' := 24) dX10_octet_21 fX10_294 rfl rfl rfl ?_
    refine q_iload_n (pc' := 25) dX10_octet_24 rfl rfl ?_
    refine h_ialdE (pc' := 26) dX10_octet_25 rfl (rfl) (by omega) (by decide) (hO.2.2.1 j hj) rfl ?_
    refine q_iret dX10_octet_26 rfl rfl ⟨_, rfl, by rw [if_pos (by omega)]; rfl, rfl⟩
  · rw [z_lt, z_n (by omega)] at c_12
    refine q_iconst (pc' := 16) (v := (-1)) dX10_octet_15 rfl rfl ?_
    refine q_iret dX10_octet_16 rfl rfl ⟨_, rfl, by rw [if_neg (by omega)], rfl⟩
