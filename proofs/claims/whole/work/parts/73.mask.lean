/-! ===== the reference: what it tells of the VALUES ===== -/
/-- what the reference's COLUMN holds while it is told -/
def MV (m : q_Mm) (n : Nat) (rl : Nat → Nat) (xs : Nat → Int64) : Prop := m.1 215 20 = nI n ∧ n ≤ 64 ∧ (∀ i, i < n → m.2.2.2.1 223 i = xs i) ∧ (∀ i, i < 5 → m.2.2.1 224 i = nI (rl i)) ∧ s_rok rl
theorem MC.v {m : q_Mm} {t : Bool} {c : q_Cs} (h : MC m t c) (ht : t = true) : MV m c.1 c.2.2.2.1 c.2.2.1 := ⟨h.1, h.2.2.1, h.2.2.2.2.1, h.2.2.2.2.2.1 ht, h.2.2.2.2.2.2.2⟩
theorem MV.fr {S : List Nat} {m m2 : q_Mm} {n : Nat} {rl : Nat → Nat} {xs : Nat → Int64} (h : MV m n rl xs) (f : Fr S m m2) (k : m2.1 215 20 = m.1 215 20) (h1 : 223 ∉ S) (h2 : 224 ∉ S) : MV m2 n rl xs := ⟨k.trans h.1, h.2.1, fun i hi => (congrFun (f.l h1) i).trans (h.2.2.1 i hi), fun i hi => (congrFun (f.a h2) i).trans (h.2.2.2.1 i hi), h.2.2.2.2⟩
theorem z_mis (v : Int64) : (v <<< ((nI 12).toInt64 &&& 63) = 0) ↔ (v &&& s_frac = 0) := by
  have h := s_N_lt v
  have e1 : s_N (v <<< ((nI 12).toInt64 &&& 63)) = s_N v * 2 ^ 12 % 2 ^ 64 := by
    show (v <<< ((nI 12).toInt64 &&& 63)).toBitVec.toNat = _
    rw [Int64.toBitVec_shiftLeft, show ((nI 12).toInt64 &&& 63).toBitVec.smod 64 = 12#64 from by decide, BitVec.shiftLeft_eq', BitVec.toNat_shiftLeft, Nat.shiftLeft_eq]
    rfl
  have e2 : s_N (v &&& s_frac) = s_N v % 2 ^ 52 := by
    show (v &&& s_frac).toBitVec.toNat = _
    rw [Int64.toBitVec_and, BitVec.toNat_and, show s_frac.toBitVec.toNat = 2 ^ 52 - 1 from rfl, s_N_bv, Nat.and_two_pow_sub_one_eq_mod]
  constructor
  · intro z
    rw [z] at e1
    have e1 : 0 = s_N v * 2 ^ 12 % 2 ^ 64 := e1
    exact s_N_inj (by rw [e2]; show s_N v % 2 ^ 52 = 0; omega)
  · intro z
    rw [z] at e2
    have e2 : 0 = s_N v % 2 ^ 52 := e2
    exact s_N_inj (by rw [e1]; show s_N v * 2 ^ 12 % 2 ^ 64 = 0; omega)
set_option maxHeartbeats 4000000 in
set_option maxRecDepth 20000 in
theorem k_isFinite {Z : q_Z} {m : q_Mm} {d : Nat} {v : Int64} : q_V (q_g Z) mX11_isFinite (d) 0 0 0 [some (.long v), none] [] (q_W Z m) (q_P Z fun r m2 => r = some (.int (q_b (s_fin v))) ∧ m2 = m) := by
  refine q_lload_n (pc' := 1) dX11_isFinite_0 rfl rfl ?_
  refine q_ldc2 (pc' := 4) dX11_isFinite_1 kX11_163 rfl ?_
  refine q_land (pc' := 5) dX11_isFinite_4 rfl ?_
  refine q_ldc2 (pc' := 8) dX11_isFinite_5 kX11_163 rfl ?_
  refine q_lcmp (pc' := 9) dX11_isFinite_8 rfl ?_
  refine q_if_eqL (tgt := 16) (pc' := 12) dX11_isFinite_9 (by decide) rfl (fun c_9 => ?_) (fun c_9 => ?_)
  · refine q_iconst (pc' := 17) (v := nI 0) dX11_isFinite_16 rfl rfl ?_
    refine q_iret dX11_isFinite_17 rfl (by first | exact q_nb0 | exact q_nb1 | exact q_nb _) ⟨_, rfl, by simp [s_fin, s_inf, q_b, c_9], rfl⟩
  refine q_iconst (pc' := 13) (v := nI 1) dX11_isFinite_12 rfl rfl ?_
  refine q_goto (pc' := 17) dX11_isFinite_13 (by decide) ?_
  refine q_iret dX11_isFinite_17 rfl (by first | exact q_nb0 | exact q_nb1 | exact q_nb _) ⟨_, rfl, by simp [s_fin, s_inf, q_b, c_9], rfl⟩
set_option maxHeartbeats 4000000 in
set_option maxRecDepth 20000 in
theorem k_isMissing {Z : q_Z} {m : q_Mm} {d : Nat} {v : Int64} : q_V (q_g Z) mX11_isMissing (d+1) 0 0 0 [some (.ref (q_ad Z 215)), some (.long v), none] [] (q_W Z m) (q_P Z fun r m2 => r = some (.int (q_b (s_mis v))) ∧ m2 = m) := by
  refine q_lload_n (pc' := 1) dX11_isMissing_0 rfl rfl ?_
  refine h_callS (pc' := 4) (M' := mX11_isFinite) (As := [_]) dX11_isMissing_1 iX11_isFinite lX11_260 rfl rfl (Nat.le_of_ble_eq_true rfl) (Nat.le_of_ble_eq_true rfl) rfl rfl (k_isFinite) (fun r m' hq => ?_)
  obtain ⟨rfl, rfl⟩ := hq
  refine q_if_neB (tgt := 20) (pc' := 7) dX11_isMissing_4 (by decide) rfl (fun c_4 => ?_) (fun c_4 => ?_)
  · refine q_iconst (pc' := 21) (v := nI 0) dX11_isMissing_20 rfl rfl ?_
    refine q_iret dX11_isMissing_21 rfl (by first | exact q_nb0 | exact q_nb1 | exact q_nb _) ⟨_, rfl, by simp [s_mis, q_b, c_4], rfl⟩
  refine q_lload_n (pc' := 8) dX11_isMissing_7 rfl rfl ?_
  refine q_bipush (pc' := 10) (v := nI 12) dX11_isMissing_8 rfl rfl ?_
  refine q_lshl (pc' := 11) dX11_isMissing_10 rfl rfl ?_
  refine q_lconst (pc' := 12) (v := 0) dX11_isMissing_11 rfl rfl ?_
  refine q_lcmp (pc' := 13) dX11_isMissing_12 rfl ?_
  refine q_if_eqL (tgt := 20) (pc' := 16) dX11_isMissing_13 (by decide) rfl (fun c_13 => ?_) (fun c_13 => ?_)
  · have c := (z_mis v).mp c_13
    refine q_iconst (pc' := 21) (v := nI 0) dX11_isMissing_20 rfl rfl ?_
    refine q_iret dX11_isMissing_21 rfl (by first | exact q_nb0 | exact q_nb1 | exact q_nb _) ⟨_, rfl, by simp [s_mis, q_b, c_4, c], rfl⟩
  have c : ¬ v &&& s_frac = 0 := fun z => c_13 ((z_mis v).mpr z)
  refine q_iconst (pc' := 17) (v := nI 1) dX11_isMissing_16 rfl rfl ?_
  refine q_goto (pc' := 21) dX11_isMissing_17 (by decide) ?_
  refine q_iret dX11_isMissing_21 rfl (by first | exact q_nb0 | exact q_nb1 | exact q_nb _) ⟨_, rfl, by simp [s_mis, q_b, c_4, c], rfl⟩
set_option maxHeartbeats 4000000 in
set_option maxRecDepth 20000 in
theorem k_firstLike {Z : q_Z} {m : q_Mm} {d : Nat} {n i : Nat} {rl : Nat → Nat} {xs : Nat → Int64} (hV : MV m n rl xs) (hi : i < n) : q_V (q_g Z) mX11_firstLike (d) 0 0 0 [some (.ref (q_ad Z 215)), some (.int (nI i)), none] [] (q_W Z m) (q_P Z fun r m2 => r = some (.int (nI (s_first xs i))) ∧ m2 = m) := by
  obtain ⟨hn, hn6, hx, -⟩ := hV
  refine q_iconst (pc' := 1) (v := nI 0) dX11_firstLike_0 rfl rfl ?_
  refine q_istore_n (pc' := 2) (lv' := [_, _, _]) dX11_firstLike_1 (by decide) rfl rfl ?_
  suffices h : ∀ g j, j + g = i → s_find (fun j => decide (xs j = xs i)) g j = s_first xs i → q_V (q_g Z) mX11_firstLike (d) 0 0 2 [some (.ref (q_ad Z 215)), some (.int (nI i)), some (.int (nI j))] [] (q_W Z (m)) (q_P Z fun r m2 => r = some (.int (nI (s_first xs i))) ∧ m2 = m) from h i 0 (by omega) rfl
  intro g
  induction g with
  | zero =>
    intro j hj hs
    obtain rfl : j = i := by omega
    refine q_aload_n (pc' := 3) dX11_firstLike_2 rfl rfl ?_
    refine h_getr (pc' := 6) dX11_firstLike_3 fX11_33 rfl rfl rfl ?_
    refine q_iload_n (pc' := 7) dX11_firstLike_6 rfl rfl ?_
    refine h_laldE (pc' := 8) dX11_firstLike_7 rfl (rfl) (by omega) (by decide) (hx j hi) rfl ?_
    refine q_aload_n (pc' := 9) dX11_firstLike_8 rfl rfl ?_
    refine h_getr (pc' := 12) dX11_firstLike_9 fX11_33 rfl rfl rfl ?_
    refine q_iload_n (pc' := 13) dX11_firstLike_12 rfl rfl ?_
    refine h_laldE (pc' := 14) dX11_firstLike_13 rfl (rfl) (by omega) (by decide) (hx j hi) rfl ?_
    refine q_lcmp (pc' := 15) dX11_firstLike_14 rfl ?_
    refine q_if_eqL (tgt := 24) (pc' := 18) dX11_firstLike_15 (by decide) rfl (fun c_15 => ?_) (fun c_15 => ?_)
    · refine q_iload_n (pc' := 25) dX11_firstLike_24 rfl rfl ?_
      refine q_iret dX11_firstLike_25 rfl rfl ⟨_, rfl, by rw [← hs]; rfl, rfl⟩
    · exact absurd rfl c_15
  | succ g ih =>
    intro j hj hs
    refine q_aload_n (pc' := 3) dX11_firstLike_2 rfl rfl ?_
    refine h_getr (pc' := 6) dX11_firstLike_3 fX11_33 rfl rfl rfl ?_
    refine q_iload_n (pc' := 7) dX11_firstLike_6 rfl rfl ?_
    refine h_laldE (pc' := 8) dX11_firstLike_7 rfl (rfl) (by omega) (by decide) (hx j (by omega)) rfl ?_
    refine q_aload_n (pc' := 9) dX11_firstLike_8 rfl rfl ?_
    refine h_getr (pc' := 12) dX11_firstLike_9 fX11_33 rfl rfl rfl ?_
    refine q_iload_n (pc' := 13) dX11_firstLike_12 rfl rfl ?_
    refine h_laldE (pc' := 14) dX11_firstLike_13 rfl (rfl) (by omega) (by decide) (hx i hi) rfl ?_
    refine q_lcmp (pc' := 15) dX11_firstLike_14 rfl ?_
    refine q_if_eqL (tgt := 24) (pc' := 18) dX11_firstLike_15 (by decide) rfl (fun c_15 => ?_) (fun c_15 => ?_)
    · rw [s_find_t (decide_eq_true c_15)] at hs
      refine q_iload_n (pc' := 25) dX11_firstLike_24 rfl rfl ?_
      refine q_iret dX11_firstLike_25 rfl rfl ⟨_, rfl, by rw [← hs], rfl⟩
    · rw [s_find_f (decide_eq_false c_15)] at hs
      refine q_iincN (pc' := 21) (j := 1) (lv' := [_, _, _]) dX11_firstLike_18 rfl (by decide) rfl rfl ?_
      refine q_goto (pc' := 2) dX11_firstLike_21 (by decide) ?_
      exact ih (j + 1) (by omega) hs
set_option maxHeartbeats 4000000 in
set_option maxRecDepth 20000 in
theorem k_timesOf {Z : q_Z} {m : q_Mm} {d : Nat} {n : Nat} {v : Int64} {rl : Nat → Nat} {xs : Nat → Int64} (hV : MV m n rl xs) : q_V (q_g Z) mX11_timesOf (d) 0 0 0 [some (.ref (q_ad Z 215)), some (.long v), none, none, none] [] (q_W Z m) (q_P Z fun r m2 => r = some (.int (nI (s_cnt (fun j => decide (xs j = v)) n))) ∧ m2 = m) := by
  obtain ⟨hn, hn6, hx, -⟩ := hV
  refine q_iconst (pc' := 1) (v := nI 0) dX11_timesOf_0 rfl rfl ?_
  refine q_istore_n (pc' := 2) (lv' := [_, _, _, _, _]) dX11_timesOf_1 (by decide) rfl rfl ?_
  refine q_iconst (pc' := 3) (v := nI 0) dX11_timesOf_2 rfl rfl ?_
  refine q_istore (pc' := 5) (lv' := [_, _, _, _, _]) dX11_timesOf_3 (by decide) rfl rfl ?_
  suffices h : ∀ g j, j + g = n → q_V (q_g Z) mX11_timesOf (d) 0 0 5 [some (.ref (q_ad Z 215)), some (.long v), none, some (.int (nI (s_cnt (fun j => decide (xs j = v)) j))), some (.int (nI j))] [] (q_W Z (m)) (q_P Z fun r m2 => r = some (.int (nI (s_cnt (fun j => decide (xs j = v)) n))) ∧ m2 = m) from h n 0 (by omega)
  intro g
  induction g with
  | zero =>
    intro j hj
    obtain rfl : j = n := by omega
    refine q_iload (pc' := 7) dX11_timesOf_5 rfl rfl ?_
    refine q_aload_n (pc' := 8) dX11_timesOf_7 rfl rfl ?_
    refine h_getiE (pc' := 11) dX11_timesOf_8 fX11_242 rfl rfl (hn) rfl ?_
    refine q_icmp_geN (tgt := 40) (pc' := 14) dX11_timesOf_11 (by decide) rfl (by omega) (fun c_11 => ?_) (fun c_11 => ?_)
    · refine q_iload_n (pc' := 41) dX11_timesOf_40 rfl rfl ?_
      refine q_iret dX11_timesOf_41 rfl rfl ⟨_, rfl, rfl, rfl⟩
    · omega
  | succ g ih =>
    intro j hj
    have ih := ih (j + 1) (by omega)
    refine q_iload (pc' := 7) dX11_timesOf_5 rfl rfl ?_
    refine q_aload_n (pc' := 8) dX11_timesOf_7 rfl rfl ?_
    refine h_getiE (pc' := 11) dX11_timesOf_8 fX11_242 rfl rfl (hn) rfl ?_
    refine q_icmp_geN (tgt := 40) (pc' := 14) dX11_timesOf_11 (by decide) rfl (by omega) (fun c_11 => ?_) (fun c_11 => ?_)
    · omega
    refine q_iload_n (pc' := 15) dX11_timesOf_14 rfl rfl ?_
    refine q_aload_n (pc' := 16) dX11_timesOf_15 rfl rfl ?_
    refine h_getr (pc' := 19) dX11_timesOf_16 fX11_33 rfl rfl rfl ?_
    refine q_iload (pc' := 21) dX11_timesOf_19 rfl rfl ?_
    refine h_laldE (pc' := 22) dX11_timesOf_21 rfl (rfl) (by omega) (by decide) (hx j (by omega)) rfl ?_
    refine q_lload_n (pc' := 23) dX11_timesOf_22 rfl rfl ?_
    refine q_lcmp (pc' := 24) dX11_timesOf_23 rfl ?_
    refine q_if_neL (tgt := 31) (pc' := 27) dX11_timesOf_24 (by decide) rfl (fun c_24 => ?_) (fun c_24 => ?_)
    · rw [s_cnt_f (decide_eq_false c_24)] at ih
      refine q_iconst (pc' := 32) (v := nI 0) dX11_timesOf_31 rfl rfl ?_
      refine q_iaddN (pc' := 33) dX11_timesOf_32 rfl ?_
      refine q_istore_n (pc' := 34) (lv' := [_, _, _, _, _]) dX11_timesOf_33 (by decide) rfl rfl ?_
      refine q_iincN (pc' := 37) (j := 1) (lv' := [_, _, _, _, _]) dX11_timesOf_34 rfl (by decide) rfl rfl ?_
      refine q_goto (pc' := 5) dX11_timesOf_37 (by decide) ?_
      exact ih
    · rw [s_cnt_t (decide_eq_true c_24)] at ih
      refine q_iconst (pc' := 28) (v := nI 1) dX11_timesOf_27 rfl rfl ?_
      refine q_goto (pc' := 32) dX11_timesOf_28 (by decide) ?_
      refine q_iaddN (pc' := 33) dX11_timesOf_32 rfl ?_
      refine q_istore_n (pc' := 34) (lv' := [_, _, _, _, _]) dX11_timesOf_33 (by decide) rfl rfl ?_
      refine q_iincN (pc' := 37) (j := 1) (lv' := [_, _, _, _, _]) dX11_timesOf_34 rfl (by decide) rfl rfl ?_
      refine q_goto (pc' := 5) dX11_timesOf_37 (by decide) ?_
      exact ih
theorem s_com_at (f : Nat → Nat) : ∀ j, (s_com f (j + 1)).1 = f (s_com f (j + 1)).2
  | 0 => by
    show (if 0 < f 0 then (f 0, 0) else (0, 0)).1 = f (if 0 < f 0 then (f 0, 0) else (0, 0)).2
    split
    · rfl
    · show 0 = f 0; omega
  | j + 1 => by
    have ih := s_com_at f j
    rw [show s_com f (j + 1 + 1) = if (s_com f (j + 1)).1 < f (j + 1) then (f (j + 1), j + 1) else s_com f (j + 1) from rfl]
    split
    · rfl
    · exact ih
theorem s_com_lt (f : Nat → Nat) : ∀ j, (s_com f (j + 1)).2 < j + 1
  | 0 => by
    show (if 0 < f 0 then (f 0, 0) else (0, 0)).2 < 1
    split <;> exact Nat.zero_lt_one
  | j + 1 => by
    have ih := s_com_lt f j
    rw [show s_com f (j + 1 + 1) = if (s_com f (j + 1)).1 < f (j + 1) then (f (j + 1), j + 1) else s_com f (j + 1) from rfl]
    split
    · show j + 1 < _; omega
    · omega
set_option maxHeartbeats 4000000 in
set_option maxRecDepth 20000 in
theorem k_common {Z : q_Z} {m : q_Mm} {d : Nat} {n : Nat} {t : Bool} {x : Int32} {rl : Nat → Nat} {xs : Nat → Int64} (hV : t = true → MV m n rl xs) (hn1 : m.1 215 20 = nI n) (hn6 : n ≤ 64) (ht : m.1 215 22 = q_b t) : q_V (q_g Z) mX11_common (d+1) 0 0 0 [some (.ref (q_ad Z 215)), some (.int x), none, none] [] (q_W Z m) (q_P Z fun r m2 => r = some (.long (if t = true ∧ n ≠ 0 ∧ 0 ≤ x.toInt ∧ x.toInt ≤ 1 then (if x.toInt = 0 then xs (s_com (s_lk n xs) n).2 else (nI (s_com (s_lk n xs) n).1).toInt64) else -1000000)) ∧ m2 = m) := by
  refine q_aload_n (pc' := 1) dX11_common_0 rfl rfl ?_
  refine h_getiE (pc' := 4) dX11_common_1 fX11_238 rfl rfl (ht) rfl ?_
  refine q_if_eqB (tgt := 23) (pc' := 7) dX11_common_4 (by decide) rfl (fun c_4 => ?_) (fun c_4 => ?_)
  · refine q_ldc2 (pc' := 26) dX11_common_23 kX11_236 rfl ?_
    refine q_lret dX11_common_26 rfl ⟨_, rfl, by rw [if_neg (fun z => by rw [c_4] at z; exact absurd z.1 (by decide))], rfl⟩
  have hV := hV c_4
  refine q_aload_n (pc' := 8) dX11_common_7 rfl rfl ?_
  refine h_getiE (pc' := 11) dX11_common_8 fX11_242 rfl rfl (hn1) rfl ?_
  refine q_if_eqN (tgt := 23) (pc' := 14) dX11_common_11 (by decide) rfl (by omega) (fun c_11 => ?_) (fun c_11 => ?_)
  · refine q_ldc2 (pc' := 26) dX11_common_23 kX11_236 rfl ?_
    refine q_lret dX11_common_26 rfl ⟨_, rfl, by rw [if_neg (fun z => z.2.1 c_11)], rfl⟩
  refine q_iload_n (pc' := 15) dX11_common_14 rfl rfl ?_
  refine q_iconst (pc' := 16) (v := nI 0) dX11_common_15 rfl rfl ?_
  refine q_iconst (pc' := 17) (v := nI 1) dX11_common_16 rfl rfl ?_
  refine h_callS (pc' := 20) (M' := mX11_in) (As := [_, _, _]) dX11_common_17 iX11_in lX11_99 rfl rfl (Nat.le_of_ble_eq_true rfl) (Nat.le_of_ble_eq_true rfl) rfl rfl (k_in) (fun r m' hq => ?_)
  obtain ⟨rfl, hmm⟩ := hq
  subst m'
  rw [show (nI 0).toInt = 0 from rfl, show (nI 1).toInt = 1 from rfl]
  refine q_if_neB (tgt := 27) (pc' := 23) dX11_common_20 (by decide) rfl (fun c_20 => ?_) (fun c_20 => ?_)
  rotate_left
  · have c_20 := of_decide_eq_false c_20
    refine q_ldc2 (pc' := 26) dX11_common_23 kX11_236 rfl ?_
    refine q_lret dX11_common_26 rfl ⟨_, rfl, by rw [if_neg (fun z => c_20 ⟨z.2.2.1, z.2.2.2⟩)], rfl⟩
  have c_20 := of_decide_eq_true c_20
  rw [if_pos ⟨c_4, by omega, c_20.1, c_20.2⟩]
  have hx := hV.2.2.1
  have hlt := s_com_lt (s_lk n xs)
  refine q_iconst (pc' := 28) (v := nI 0) dX11_common_27 rfl rfl ?_
  refine q_istore_n (pc' := 29) (lv' := [_, _, _, _]) dX11_common_28 (by decide) rfl rfl ?_
  refine q_iconst (pc' := 30) (v := nI 1) dX11_common_29 rfl rfl ?_
  refine q_istore_n (pc' := 31) (lv' := [_, _, _, _]) dX11_common_30 (by decide) rfl rfl ?_
  suffices h : ∀ g j, j + 1 + g = n → q_V (q_g Z) mX11_common (d + 1) 0 0 31 [some (.ref (q_ad Z 215)), some (.int x), some (.int (nI (s_com (s_lk n xs) (j + 1)).2)), some (.int (nI (j + 1)))] [] (q_W Z m) (q_P Z fun r m2 => r = some (.long (if x.toInt = 0 then xs (s_com (s_lk n xs) n).2 else (nI (s_com (s_lk n xs) n).1).toInt64)) ∧ m2 = m) by
    have h0 := h (n - 1) 0 (by omega)
    rw [show (s_com (s_lk n xs) (0 + 1)).2 = 0 by have := hlt 0; omega] at h0
    exact h0
  intro g
  induction g with
  | zero =>
    intro j hj
    obtain rfl : n = j + 1 := by omega
    have := hlt j
    refine q_iload_n (pc' := 32) dX11_common_31 rfl rfl ?_
    refine q_aload_n (pc' := 33) dX11_common_32 rfl rfl ?_
    refine h_getiE (pc' := 36) dX11_common_33 fX11_242 rfl rfl (hn1) rfl ?_
    refine q_icmp_geN (tgt := 74) (pc' := 39) dX11_common_36 (by decide) rfl (by omega) (fun c_36 => ?_) (fun c_36 => ?_)
    rotate_left
    · omega
    refine q_iload_n (pc' := 75) dX11_common_74 rfl rfl ?_
    refine q_if_ne (tgt := 87) (pc' := 78) dX11_common_75 (by decide) rfl (fun c_75 => ?_) (fun c_75 => ?_)
    · rw [z_eq, z_0] at c_75
      refine q_aload_n (pc' := 88) dX11_common_87 rfl rfl ?_
      refine q_aload_n (pc' := 89) dX11_common_88 rfl rfl ?_
      refine h_getr (pc' := 92) dX11_common_89 fX11_33 rfl rfl rfl ?_
      refine q_iload_n (pc' := 93) dX11_common_92 rfl rfl ?_
      refine h_laldE (pc' := 94) dX11_common_93 rfl (rfl) (by omega) (by decide) (hx (s_com (s_lk (j + 1) xs) (j + 1)).2 (by omega)) rfl ?_
      refine h_callV (pc' := 97) (M' := mX11_timesOf) (As := [_]) dX11_common_94 iX11_timesOf lX11_442 rfl rfl rfl rfl (Nat.le_of_ble_eq_true rfl) (Nat.le_of_ble_eq_true rfl) rfl rfl (k_timesOf hV) (fun r m' hq => ?_)
      obtain ⟨rfl, hmm⟩ := hq
      refine q_i2l (pc' := 98) dX11_common_97 rfl ?_
      refine q_lret dX11_common_98 rfl ⟨_, rfl, by rw [if_neg c_75, s_com_at]; rfl, hmm⟩
    · rw [z_eq, z_0] at c_75
      refine q_aload_n (pc' := 79) dX11_common_78 rfl rfl ?_
      refine h_getr (pc' := 82) dX11_common_79 fX11_33 rfl rfl rfl ?_
      refine q_iload_n (pc' := 83) dX11_common_82 rfl rfl ?_
      refine h_laldE (pc' := 84) dX11_common_83 rfl (rfl) (by omega) (by decide) (hx (s_com (s_lk (j + 1) xs) (j + 1)).2 (by omega)) rfl ?_
      refine q_goto (pc' := 98) dX11_common_84 (by decide) ?_
      refine q_lret dX11_common_98 rfl ⟨_, rfl, by rw [if_pos c_75], rfl⟩
  | succ g ih =>
    intro j hj
    have ih := ih (j + 1) (by omega)
    have hl := hlt j
    have ha := s_com_at (s_lk n xs) j
    have hb1 : s_lk n xs (j + 1) ≤ 64 := Nat.le_trans (s_cnt_le _ n) hn6
    have hb2 : s_lk n xs (s_com (s_lk n xs) (j + 1)).2 ≤ 64 := Nat.le_trans (s_cnt_le _ n) hn6
    refine q_iload_n (pc' := 32) dX11_common_31 rfl rfl ?_
    refine q_aload_n (pc' := 33) dX11_common_32 rfl rfl ?_
    refine h_getiE (pc' := 36) dX11_common_33 fX11_242 rfl rfl (hn1) rfl ?_
    refine q_icmp_geN (tgt := 74) (pc' := 39) dX11_common_36 (by decide) rfl (by omega) (fun c_36 => ?_) (fun c_36 => ?_)
    · omega
    refine q_aload_n (pc' := 40) dX11_common_39 rfl rfl ?_
    refine q_aload_n (pc' := 41) dX11_common_40 rfl rfl ?_
    refine h_getr (pc' := 44) dX11_common_41 fX11_33 rfl rfl rfl ?_
    refine q_iload_n (pc' := 45) dX11_common_44 rfl rfl ?_
    refine h_laldE (pc' := 46) dX11_common_45 rfl (rfl) (by omega) (by decide) (hx (j + 1) (by omega)) rfl ?_
    refine h_callV (pc' := 49) (M' := mX11_timesOf) (As := [_]) dX11_common_46 iX11_timesOf lX11_442 rfl rfl rfl rfl (Nat.le_of_ble_eq_true rfl) (Nat.le_of_ble_eq_true rfl) rfl rfl (k_timesOf hV) (fun r m' hq => ?_)
    obtain ⟨rfl, hmm⟩ := hq
    subst m'
    rw [show s_cnt (fun i => decide (xs i = xs (j + 1))) n = s_lk n xs (j + 1) from rfl]
    refine q_aload_n (pc' := 50) dX11_common_49 rfl rfl ?_
    refine q_aload_n (pc' := 51) dX11_common_50 rfl rfl ?_
    refine h_getr (pc' := 54) dX11_common_51 fX11_33 rfl rfl rfl ?_
    refine q_iload_n (pc' := 55) dX11_common_54 rfl rfl ?_
    refine h_laldE (pc' := 56) dX11_common_55 rfl (rfl) (by omega) (by decide) (hx _ (by omega)) rfl ?_
    refine h_callV (pc' := 59) (M' := mX11_timesOf) (As := [_]) dX11_common_56 iX11_timesOf lX11_442 rfl rfl rfl rfl (Nat.le_of_ble_eq_true rfl) (Nat.le_of_ble_eq_true rfl) rfl rfl (k_timesOf hV) (fun r m' hq => ?_)
    obtain ⟨rfl, hmm⟩ := hq
    subst m'
    rw [show s_cnt (fun i => decide (xs i = xs (s_com (s_lk n xs) (j + 1)).2)) n = s_lk n xs (s_com (s_lk n xs) (j + 1)).2 from rfl]
    refine q_icmp_leN (tgt := 66) (pc' := 62) dX11_common_59 (by decide) rfl (by omega) (fun c_59 => ?_) (fun c_59 => ?_)
    · rw [show s_com (s_lk n xs) (j + 1 + 1) = s_com (s_lk n xs) (j + 1) from if_neg (by omega)] at ih
      refine q_iload_n (pc' := 67) dX11_common_66 rfl rfl ?_
      refine q_istore_n (pc' := 68) (lv' := [_, _, _, _]) dX11_common_67 (by decide) rfl rfl ?_
      refine q_iincN (pc' := 71) (j := 1) (lv' := [_, _, _, _]) dX11_common_68 rfl (by decide) rfl rfl ?_
      refine q_goto (pc' := 31) dX11_common_71 (by decide) ?_
      exact ih
    · rw [show s_com (s_lk n xs) (j + 1 + 1) = (s_lk n xs (j + 1), j + 1) from if_pos (by omega)] at ih
      refine q_iload_n (pc' := 63) dX11_common_62 rfl rfl ?_
      refine q_goto (pc' := 67) dX11_common_63 (by decide) ?_
      refine q_istore_n (pc' := 68) (lv' := [_, _, _, _]) dX11_common_67 (by decide) rfl rfl ?_
      refine q_iincN (pc' := 71) (j := 1) (lv' := [_, _, _, _]) dX11_common_68 rfl (by decide) rfl rfl ?_
      refine q_goto (pc' := 31) dX11_common_71 (by decide) ?_
      exact ih
set_option maxHeartbeats 4000000 in
set_option maxRecDepth 20000 in
theorem k_partOf {Z : q_Z} {m : q_Mm} {d : Nat} {n : Nat} {v : Int64} {rl : Nat → Nat} {xs : Nat → Int64} (hV : MV m n rl xs) : q_V (q_g Z) mX11_partOf (d) 0 0 0 [some (.ref (q_ad Z 215)), some (.long v), none] [] (q_W Z m) (q_P Z fun r m2 => r = some (.int (s_part v (rl 3))) ∧ m2 = m) := by
  obtain ⟨hn, hn6, hx, hr, hok⟩ := hV
  have := hok.2.2.2.1
  refine q_lload_n (pc' := 1) dX11_partOf_0 rfl rfl ?_
  refine q_bipush (pc' := 3) (v := nI 64) dX11_partOf_1 rfl rfl ?_
  refine q_aload_n (pc' := 4) dX11_partOf_3 rfl rfl ?_
  refine h_getr (pc' := 7) dX11_partOf_4 fX11_36 rfl rfl rfl ?_
  refine q_iconst (pc' := 8) (v := nI 3) dX11_partOf_7 rfl rfl ?_
  refine h_ialdE (pc' := 9) dX11_partOf_8 rfl (rfl) (by omega) (by decide) (hr 3 (by decide)) rfl ?_
  refine q_isubN (pc' := 10) dX11_partOf_9 (by omega) rfl ?_
  refine q_lushr (pc' := 11) dX11_partOf_10 rfl rfl ?_
  refine q_l2i (pc' := 12) dX11_partOf_11 rfl ?_
  refine q_iret dX11_partOf_12 rfl rfl ⟨_, rfl, rfl, rfl⟩
set_option maxHeartbeats 4000000 in
set_option maxRecDepth 20000 in
theorem k_runs {Z : q_Z} {m : q_Mm} {d : Nat} {n : Nat} {rl : Nat → Nat} {xs : Nat → Int64} (hV : MV m n rl xs) : q_V (q_g Z) mX11_runs (d) 0 0 0 [some (.ref (q_ad Z 215)), none, none] [] (q_W Z m) (q_P Z fun r m2 => r = some (.int (nI (s_cnt (s_runs xs) n))) ∧ m2 = m) := by
  obtain ⟨hn, hn6, hx, -⟩ := hV
  refine q_iconst (pc' := 1) (v := nI 0) dX11_runs_0 rfl rfl ?_
  refine q_istore_n (pc' := 2) (lv' := [_, _, _]) dX11_runs_1 (by decide) rfl rfl ?_
  refine q_iconst (pc' := 3) (v := nI 0) dX11_runs_2 rfl rfl ?_
  refine q_istore_n (pc' := 4) (lv' := [_, _, _]) dX11_runs_3 (by decide) rfl rfl ?_
  suffices h : ∀ g j, j + g = n → q_V (q_g Z) mX11_runs (d) 0 0 4 [some (.ref (q_ad Z 215)), some (.int (nI (s_cnt (s_runs xs) j))), some (.int (nI j))] [] (q_W Z (m)) (q_P Z fun r m2 => r = some (.int (nI (s_cnt (s_runs xs) n))) ∧ m2 = m) from h n 0 (by omega)
  intro g
  induction g with
  | zero =>
    intro j hj
    obtain rfl : j = n := by omega
    refine q_iload_n (pc' := 5) dX11_runs_4 rfl rfl ?_
    refine q_aload_n (pc' := 6) dX11_runs_5 rfl rfl ?_
    refine h_getiE (pc' := 9) dX11_runs_6 fX11_242 rfl rfl (hn) rfl ?_
    refine q_icmp_geN (tgt := 48) (pc' := 12) dX11_runs_9 (by decide) rfl (by omega) (fun c_9 => ?_) (fun c_9 => ?_)
    · refine q_iload_n (pc' := 49) dX11_runs_48 rfl rfl ?_
      refine q_iret dX11_runs_49 rfl rfl ⟨_, rfl, rfl, rfl⟩
    · omega
  | succ g ih =>
    intro j hj
    have ih := ih (j + 1) (by omega)
    refine q_iload_n (pc' := 5) dX11_runs_4 rfl rfl ?_
    refine q_aload_n (pc' := 6) dX11_runs_5 rfl rfl ?_
    refine h_getiE (pc' := 9) dX11_runs_6 fX11_242 rfl rfl (hn) rfl ?_
    refine q_icmp_geN (tgt := 48) (pc' := 12) dX11_runs_9 (by decide) rfl (by omega) (fun c_9 => ?_) (fun c_9 => ?_)
    · omega
    refine q_iload_n (pc' := 13) dX11_runs_12 rfl rfl ?_
    refine q_iload_n (pc' := 14) dX11_runs_13 rfl rfl ?_
    refine q_if_eqN (tgt := 35) (pc' := 17) dX11_runs_14 (by decide) rfl (by omega) (fun c_14 => ?_) (fun c_14 => ?_)
    · have hj0 : j = 0 := by omega
      rw [s_cnt_t (show s_runs xs j = true by unfold s_runs; rw [decide_eq_true hj0]; rfl)] at ih
      refine q_iconst (pc' := 36) (v := nI 1) dX11_runs_35 rfl rfl ?_
      refine q_goto (pc' := 40) dX11_runs_36 (by decide) ?_
      refine q_iaddN (pc' := 41) dX11_runs_40 rfl ?_
      refine q_istore_n (pc' := 42) (lv' := [_, _, _]) dX11_runs_41 (by decide) rfl rfl ?_
      refine q_iincN (pc' := 45) (j := 1) (lv' := [_, _, _]) dX11_runs_42 rfl (by decide) rfl rfl ?_
      refine q_goto (pc' := 4) dX11_runs_45 (by decide) ?_
      exact ih
    refine q_aload_n (pc' := 18) dX11_runs_17 rfl rfl ?_
    refine h_getr (pc' := 21) dX11_runs_18 fX11_33 rfl rfl rfl ?_
    refine q_iload_n (pc' := 22) dX11_runs_21 rfl rfl ?_
    refine h_laldE (pc' := 23) dX11_runs_22 rfl (rfl) (by omega) (by decide) (hx j (by omega)) rfl ?_
    refine q_aload_n (pc' := 24) dX11_runs_23 rfl rfl ?_
    refine h_getr (pc' := 27) dX11_runs_24 fX11_33 rfl rfl rfl ?_
    refine q_iload_n (pc' := 28) dX11_runs_27 rfl rfl ?_
    refine q_iconst (pc' := 29) (v := nI 1) dX11_runs_28 rfl rfl ?_
    refine q_isubN (pc' := 30) dX11_runs_29 (by omega) rfl ?_
    refine h_laldE (pc' := 31) dX11_runs_30 rfl (rfl) (by omega) (by decide) (hx (j - 1) (by omega)) rfl ?_
    refine q_lcmp (pc' := 32) dX11_runs_31 rfl ?_
    refine q_if_eqL (tgt := 39) (pc' := 35) dX11_runs_32 (by decide) rfl (fun c_32 => ?_) (fun c_32 => ?_)
    · rw [s_cnt_f (show s_runs xs j = false by unfold s_runs; rw [decide_eq_false (by omega), decide_eq_true c_32]; rfl)] at ih
      refine q_iconst (pc' := 40) (v := nI 0) dX11_runs_39 rfl rfl ?_
      refine q_iaddN (pc' := 41) dX11_runs_40 rfl ?_
      refine q_istore_n (pc' := 42) (lv' := [_, _, _]) dX11_runs_41 (by decide) rfl rfl ?_
      refine q_iincN (pc' := 45) (j := 1) (lv' := [_, _, _]) dX11_runs_42 rfl (by decide) rfl rfl ?_
      refine q_goto (pc' := 4) dX11_runs_45 (by decide) ?_
      exact ih
    · rw [s_cnt_t (show s_runs xs j = true by unfold s_runs; rw [decide_eq_false (by omega), decide_eq_false c_32]; rfl)] at ih
      refine q_iconst (pc' := 36) (v := nI 1) dX11_runs_35 rfl rfl ?_
      refine q_goto (pc' := 40) dX11_runs_36 (by decide) ?_
      refine q_iaddN (pc' := 41) dX11_runs_40 rfl ?_
      refine q_istore_n (pc' := 42) (lv' := [_, _, _]) dX11_runs_41 (by decide) rfl rfl ?_
      refine q_iincN (pc' := 45) (j := 1) (lv' := [_, _, _]) dX11_runs_42 rfl (by decide) rfl rfl ?_
      refine q_goto (pc' := 4) dX11_runs_45 (by decide) ?_
      exact ih
set_option maxHeartbeats 4000000 in
set_option maxRecDepth 20000 in
theorem k_finites {Z : q_Z} {m : q_Mm} {d : Nat} {n : Nat} {rl : Nat → Nat} {xs : Nat → Int64} (hV : MV m n rl xs) : q_V (q_g Z) mX11_manyOf (d+2) 0 0 0 [some (.ref (q_ad Z 215)), some (.int (nI 0)), none, none, none] [] (q_W Z m) (q_P Z fun r m2 => r = some (.int (nI (s_cnt (fun j => s_fin (xs j)) n))) ∧ m2 = m) := by
  obtain ⟨hn, hn6, hx, -⟩ := hV
  refine q_iconst (pc' := 1) (v := nI 0) dX11_manyOf_0 rfl rfl ?_
  refine q_istore_n (pc' := 2) (lv' := [_, _, _, _, _]) dX11_manyOf_1 (by decide) rfl rfl ?_
  refine q_iconst (pc' := 3) (v := nI 0) dX11_manyOf_2 rfl rfl ?_
  refine q_istore_n (pc' := 4) (lv' := [_, _, _, _, _]) dX11_manyOf_3 (by decide) rfl rfl ?_
  suffices h : ∀ g j u, j + g = n → q_V (q_g Z) mX11_manyOf (d+2) 0 0 4 [some (.ref (q_ad Z 215)), some (.int (nI 0)), some (.int (nI (s_cnt (fun j => s_fin (xs j)) j))), some (.int (nI j)), u] [] (q_W Z (m)) (q_P Z fun r m2 => r = some (.int (nI (s_cnt (fun j => s_fin (xs j)) n))) ∧ m2 = m) from h n 0 _ (by omega)
  intro g
  induction g with
  | zero =>
    intro j u hj
    obtain rfl : j = n := by omega
    refine q_iload_n (pc' := 5) dX11_manyOf_4 rfl rfl ?_
    refine q_aload_n (pc' := 6) dX11_manyOf_5 rfl rfl ?_
    refine h_getiE (pc' := 9) dX11_manyOf_6 fX11_242 rfl rfl (hn) rfl ?_
    refine q_icmp_geN (tgt := 85) (pc' := 12) dX11_manyOf_9 (by decide) rfl (by omega) (fun c_9 => ?_) (fun c_9 => ?_)
    · refine q_iload_n (pc' := 86) dX11_manyOf_85 rfl rfl ?_
      refine q_iret dX11_manyOf_86 rfl rfl ⟨_, rfl, rfl, rfl⟩
    · omega
  | succ g ih =>
    intro j u hj
    have ih := fun b => ih (j + 1) (some (.int (q_b b))) (by omega)
    have tail : q_V (q_g Z) mX11_manyOf (d+2) 0 0 64 [some (.ref (q_ad Z 215)), some (.int (nI 0)), some (.int (nI (s_cnt (fun j => s_fin (xs j)) j))), some (.int (nI j)), u] [.int (q_b (s_fin (xs j)))] (q_W Z (m)) (q_P Z fun r m2 => r = some (.int (nI (s_cnt (fun j => s_fin (xs j)) n))) ∧ m2 = m) := by
      cases hb : s_fin (xs j) with
      | false =>
        have ih := ih false
        rw [s_cnt_f (show (fun j => s_fin (xs j)) j = false from hb)] at ih
        refine q_istore (pc' := 66) (lv' := [_, _, _, _, _]) dX11_manyOf_64 (by decide) rfl rfl ?_
        refine q_iload_n (pc' := 67) dX11_manyOf_66 rfl rfl ?_
        refine q_iload (pc' := 69) dX11_manyOf_67 rfl rfl ?_
        refine q_if_eqB (tgt := 76) (pc' := 72) dX11_manyOf_69 (by decide) rfl (fun c_69 => ?_) (fun c_69 => ?_)
        · refine q_iconst (pc' := 77) (v := nI 0) dX11_manyOf_76 rfl rfl ?_
          refine q_iaddN (pc' := 78) dX11_manyOf_77 rfl ?_
          refine q_istore_n (pc' := 79) (lv' := [_, _, _, _, _]) dX11_manyOf_78 (by decide) rfl rfl ?_
          refine q_iincN (pc' := 82) (j := 1) (lv' := [_, _, _, _, _]) dX11_manyOf_79 rfl (by decide) rfl rfl ?_
          refine q_goto (pc' := 4) dX11_manyOf_82 (by decide) ?_
          exact ih
        · cases c_69
      | true =>
        have ih := ih true
        rw [s_cnt_t (show (fun j => s_fin (xs j)) j = true from hb)] at ih
        refine q_istore (pc' := 66) (lv' := [_, _, _, _, _]) dX11_manyOf_64 (by decide) rfl rfl ?_
        refine q_iload_n (pc' := 67) dX11_manyOf_66 rfl rfl ?_
        refine q_iload (pc' := 69) dX11_manyOf_67 rfl rfl ?_
        refine q_if_eqB (tgt := 76) (pc' := 72) dX11_manyOf_69 (by decide) rfl (fun c_69 => ?_) (fun c_69 => ?_)
        · cases c_69
        · refine q_iconst (pc' := 73) (v := nI 1) dX11_manyOf_72 rfl rfl ?_
          refine q_goto (pc' := 77) dX11_manyOf_73 (by decide) ?_
          refine q_iaddN (pc' := 78) dX11_manyOf_77 rfl ?_
          refine q_istore_n (pc' := 79) (lv' := [_, _, _, _, _]) dX11_manyOf_78 (by decide) rfl rfl ?_
          refine q_iincN (pc' := 82) (j := 1) (lv' := [_, _, _, _, _]) dX11_manyOf_79 rfl (by decide) rfl rfl ?_
          refine q_goto (pc' := 4) dX11_manyOf_82 (by decide) ?_
          exact ih
    refine q_iload_n (pc' := 5) dX11_manyOf_4 rfl rfl ?_
    refine q_aload_n (pc' := 6) dX11_manyOf_5 rfl rfl ?_
    refine h_getiE (pc' := 9) dX11_manyOf_6 fX11_242 rfl rfl (hn) rfl ?_
    refine q_icmp_geN (tgt := 85) (pc' := 12) dX11_manyOf_9 (by decide) rfl (by omega) (fun c_9 => ?_) (fun c_9 => ?_)
    · omega
    refine q_iload_n (pc' := 13) dX11_manyOf_12 rfl rfl ?_
    refine q_if_ne (tgt := 28) (pc' := 16) dX11_manyOf_13 (by decide) rfl (fun c_13 => ?_) (fun c_13 => ?_)
    · exact absurd rfl c_13
    refine q_aload_n (pc' := 17) dX11_manyOf_16 rfl rfl ?_
    refine h_getr (pc' := 20) dX11_manyOf_17 fX11_33 rfl rfl rfl ?_
    refine q_iload_n (pc' := 21) dX11_manyOf_20 rfl rfl ?_
    refine h_laldE (pc' := 22) dX11_manyOf_21 rfl (rfl) (by omega) (by decide) (hx j (by omega)) rfl ?_
    refine h_callS (pc' := 25) (M' := mX11_isFinite) (As := [_]) dX11_manyOf_22 iX11_isFinite lX11_260 rfl rfl (Nat.le_of_ble_eq_true rfl) (Nat.le_of_ble_eq_true rfl) rfl rfl (k_isFinite.up (Nat.zero_le _)) (fun r m' hq => ?_)
    obtain ⟨rfl, hmm⟩ := hq
    subst m'
    refine q_goto (pc' := 64) dX11_manyOf_25 (by decide) ?_
    exact tail
set_option maxHeartbeats 4000000 in
set_option maxRecDepth 20000 in
theorem k_missing {Z : q_Z} {m : q_Mm} {d : Nat} {n : Nat} {rl : Nat → Nat} {xs : Nat → Int64} (hV : MV m n rl xs) : q_V (q_g Z) mX11_manyOf (d+2) 0 0 0 [some (.ref (q_ad Z 215)), some (.int (nI 1)), none, none, none] [] (q_W Z m) (q_P Z fun r m2 => r = some (.int (nI (s_cnt (fun j => s_mis (xs j)) n))) ∧ m2 = m) := by
  obtain ⟨hn, hn6, hx, -⟩ := hV
  refine q_iconst (pc' := 1) (v := nI 0) dX11_manyOf_0 rfl rfl ?_
  refine q_istore_n (pc' := 2) (lv' := [_, _, _, _, _]) dX11_manyOf_1 (by decide) rfl rfl ?_
  refine q_iconst (pc' := 3) (v := nI 0) dX11_manyOf_2 rfl rfl ?_
  refine q_istore_n (pc' := 4) (lv' := [_, _, _, _, _]) dX11_manyOf_3 (by decide) rfl rfl ?_
  suffices h : ∀ g j u, j + g = n → q_V (q_g Z) mX11_manyOf (d+2) 0 0 4 [some (.ref (q_ad Z 215)), some (.int (nI 1)), some (.int (nI (s_cnt (fun j => s_mis (xs j)) j))), some (.int (nI j)), u] [] (q_W Z (m)) (q_P Z fun r m2 => r = some (.int (nI (s_cnt (fun j => s_mis (xs j)) n))) ∧ m2 = m) from h n 0 _ (by omega)
  intro g
  induction g with
  | zero =>
    intro j u hj
    obtain rfl : j = n := by omega
    refine q_iload_n (pc' := 5) dX11_manyOf_4 rfl rfl ?_
    refine q_aload_n (pc' := 6) dX11_manyOf_5 rfl rfl ?_
    refine h_getiE (pc' := 9) dX11_manyOf_6 fX11_242 rfl rfl (hn) rfl ?_
    refine q_icmp_geN (tgt := 85) (pc' := 12) dX11_manyOf_9 (by decide) rfl (by omega) (fun c_9 => ?_) (fun c_9 => ?_)
    · refine q_iload_n (pc' := 86) dX11_manyOf_85 rfl rfl ?_
      refine q_iret dX11_manyOf_86 rfl rfl ⟨_, rfl, rfl, rfl⟩
    · omega
  | succ g ih =>
    intro j u hj
    have ih := fun b => ih (j + 1) (some (.int (q_b b))) (by omega)
    have tail : q_V (q_g Z) mX11_manyOf (d+2) 0 0 64 [some (.ref (q_ad Z 215)), some (.int (nI 1)), some (.int (nI (s_cnt (fun j => s_mis (xs j)) j))), some (.int (nI j)), u] [.int (q_b (s_mis (xs j)))] (q_W Z (m)) (q_P Z fun r m2 => r = some (.int (nI (s_cnt (fun j => s_mis (xs j)) n))) ∧ m2 = m) := by
      cases hb : s_mis (xs j) with
      | false =>
        have ih := ih false
        rw [s_cnt_f (show (fun j => s_mis (xs j)) j = false from hb)] at ih
        refine q_istore (pc' := 66) (lv' := [_, _, _, _, _]) dX11_manyOf_64 (by decide) rfl rfl ?_
        refine q_iload_n (pc' := 67) dX11_manyOf_66 rfl rfl ?_
        refine q_iload (pc' := 69) dX11_manyOf_67 rfl rfl ?_
        refine q_if_eqB (tgt := 76) (pc' := 72) dX11_manyOf_69 (by decide) rfl (fun c_69 => ?_) (fun c_69 => ?_)
        · refine q_iconst (pc' := 77) (v := nI 0) dX11_manyOf_76 rfl rfl ?_
          refine q_iaddN (pc' := 78) dX11_manyOf_77 rfl ?_
          refine q_istore_n (pc' := 79) (lv' := [_, _, _, _, _]) dX11_manyOf_78 (by decide) rfl rfl ?_
          refine q_iincN (pc' := 82) (j := 1) (lv' := [_, _, _, _, _]) dX11_manyOf_79 rfl (by decide) rfl rfl ?_
          refine q_goto (pc' := 4) dX11_manyOf_82 (by decide) ?_
          exact ih
        · cases c_69
      | true =>
        have ih := ih true
        rw [s_cnt_t (show (fun j => s_mis (xs j)) j = true from hb)] at ih
        refine q_istore (pc' := 66) (lv' := [_, _, _, _, _]) dX11_manyOf_64 (by decide) rfl rfl ?_
        refine q_iload_n (pc' := 67) dX11_manyOf_66 rfl rfl ?_
        refine q_iload (pc' := 69) dX11_manyOf_67 rfl rfl ?_
        refine q_if_eqB (tgt := 76) (pc' := 72) dX11_manyOf_69 (by decide) rfl (fun c_69 => ?_) (fun c_69 => ?_)
        · cases c_69
        · refine q_iconst (pc' := 73) (v := nI 1) dX11_manyOf_72 rfl rfl ?_
          refine q_goto (pc' := 77) dX11_manyOf_73 (by decide) ?_
          refine q_iaddN (pc' := 78) dX11_manyOf_77 rfl ?_
          refine q_istore_n (pc' := 79) (lv' := [_, _, _, _, _]) dX11_manyOf_78 (by decide) rfl rfl ?_
          refine q_iincN (pc' := 82) (j := 1) (lv' := [_, _, _, _, _]) dX11_manyOf_79 rfl (by decide) rfl rfl ?_
          refine q_goto (pc' := 4) dX11_manyOf_82 (by decide) ?_
          exact ih
    refine q_iload_n (pc' := 5) dX11_manyOf_4 rfl rfl ?_
    refine q_aload_n (pc' := 6) dX11_manyOf_5 rfl rfl ?_
    refine h_getiE (pc' := 9) dX11_manyOf_6 fX11_242 rfl rfl (hn) rfl ?_
    refine q_icmp_geN (tgt := 85) (pc' := 12) dX11_manyOf_9 (by decide) rfl (by omega) (fun c_9 => ?_) (fun c_9 => ?_)
    · omega
    refine q_iload_n (pc' := 13) dX11_manyOf_12 rfl rfl ?_
    refine q_if_ne (tgt := 28) (pc' := 16) dX11_manyOf_13 (by decide) rfl (fun c_13 => ?_) (fun c_13 => ?_)
    rotate_left
    · exact absurd c_13 (by decide)
    refine q_iload_n (pc' := 29) dX11_manyOf_28 rfl rfl ?_
    refine q_iconst (pc' := 30) (v := nI 1) dX11_manyOf_29 rfl rfl ?_
    refine q_icmp_ne (tgt := 46) (pc' := 33) dX11_manyOf_30 (by decide) rfl (fun c_30 => ?_) (fun c_30 => ?_)
    · exact absurd rfl c_30
    refine q_aload_n (pc' := 34) dX11_manyOf_33 rfl rfl ?_
    refine q_aload_n (pc' := 35) dX11_manyOf_34 rfl rfl ?_
    refine h_getr (pc' := 38) dX11_manyOf_35 fX11_33 rfl rfl rfl ?_
    refine q_iload_n (pc' := 39) dX11_manyOf_38 rfl rfl ?_
    refine h_laldE (pc' := 40) dX11_manyOf_39 rfl (rfl) (by omega) (by decide) (hx j (by omega)) rfl ?_
    refine h_callV (pc' := 43) (M' := mX11_isMissing) (As := [_]) dX11_manyOf_40 iX11_isMissing lX11_458 rfl rfl rfl rfl (Nat.le_of_ble_eq_true rfl) (Nat.le_of_ble_eq_true rfl) rfl rfl (k_isMissing) (fun r m' hq => ?_)
    obtain ⟨rfl, hmm⟩ := hq
    subst m'
    refine q_goto (pc' := 64) dX11_manyOf_43 (by decide) ?_
    exact tail
set_option maxHeartbeats 4000000 in
set_option maxRecDepth 20000 in
theorem k_minus {Z : q_Z} {m : q_Mm} {d : Nat} {n : Nat} {rl : Nat → Nat} {xs : Nat → Int64} (hV : MV m n rl xs) : q_V (q_g Z) mX11_manyOf (d+2) 0 0 0 [some (.ref (q_ad Z 215)), some (.int (nI 2)), none, none, none] [] (q_W Z m) (q_P Z fun r m2 => r = some (.int (nI (s_cnt (fun j => decide (xs j = s_minus)) n))) ∧ m2 = m) := by
  obtain ⟨hn, hn6, hx, -⟩ := hV
  refine q_iconst (pc' := 1) (v := nI 0) dX11_manyOf_0 rfl rfl ?_
  refine q_istore_n (pc' := 2) (lv' := [_, _, _, _, _]) dX11_manyOf_1 (by decide) rfl rfl ?_
  refine q_iconst (pc' := 3) (v := nI 0) dX11_manyOf_2 rfl rfl ?_
  refine q_istore_n (pc' := 4) (lv' := [_, _, _, _, _]) dX11_manyOf_3 (by decide) rfl rfl ?_
  suffices h : ∀ g j u, j + g = n → q_V (q_g Z) mX11_manyOf (d+2) 0 0 4 [some (.ref (q_ad Z 215)), some (.int (nI 2)), some (.int (nI (s_cnt (fun j => decide (xs j = s_minus)) j))), some (.int (nI j)), u] [] (q_W Z (m)) (q_P Z fun r m2 => r = some (.int (nI (s_cnt (fun j => decide (xs j = s_minus)) n))) ∧ m2 = m) from h n 0 _ (by omega)
  intro g
  induction g with
  | zero =>
    intro j u hj
    obtain rfl : j = n := by omega
    refine q_iload_n (pc' := 5) dX11_manyOf_4 rfl rfl ?_
    refine q_aload_n (pc' := 6) dX11_manyOf_5 rfl rfl ?_
    refine h_getiE (pc' := 9) dX11_manyOf_6 fX11_242 rfl rfl (hn) rfl ?_
    refine q_icmp_geN (tgt := 85) (pc' := 12) dX11_manyOf_9 (by decide) rfl (by omega) (fun c_9 => ?_) (fun c_9 => ?_)
    · refine q_iload_n (pc' := 86) dX11_manyOf_85 rfl rfl ?_
      refine q_iret dX11_manyOf_86 rfl rfl ⟨_, rfl, rfl, rfl⟩
    · omega
  | succ g ih =>
    intro j u hj
    have ih := fun b => ih (j + 1) (some (.int (q_b b))) (by omega)
    have tail : q_V (q_g Z) mX11_manyOf (d+2) 0 0 64 [some (.ref (q_ad Z 215)), some (.int (nI 2)), some (.int (nI (s_cnt (fun j => decide (xs j = s_minus)) j))), some (.int (nI j)), u] [.int (q_b (decide (xs j = s_minus)))] (q_W Z (m)) (q_P Z fun r m2 => r = some (.int (nI (s_cnt (fun j => decide (xs j = s_minus)) n))) ∧ m2 = m) := by
      cases hb : decide (xs j = s_minus) with
      | false =>
        have ih := ih false
        rw [s_cnt_f (show (fun j => decide (xs j = s_minus)) j = false from hb)] at ih
        refine q_istore (pc' := 66) (lv' := [_, _, _, _, _]) dX11_manyOf_64 (by decide) rfl rfl ?_
        refine q_iload_n (pc' := 67) dX11_manyOf_66 rfl rfl ?_
        refine q_iload (pc' := 69) dX11_manyOf_67 rfl rfl ?_
        refine q_if_eqB (tgt := 76) (pc' := 72) dX11_manyOf_69 (by decide) rfl (fun c_69 => ?_) (fun c_69 => ?_)
        · refine q_iconst (pc' := 77) (v := nI 0) dX11_manyOf_76 rfl rfl ?_
          refine q_iaddN (pc' := 78) dX11_manyOf_77 rfl ?_
          refine q_istore_n (pc' := 79) (lv' := [_, _, _, _, _]) dX11_manyOf_78 (by decide) rfl rfl ?_
          refine q_iincN (pc' := 82) (j := 1) (lv' := [_, _, _, _, _]) dX11_manyOf_79 rfl (by decide) rfl rfl ?_
          refine q_goto (pc' := 4) dX11_manyOf_82 (by decide) ?_
          exact ih
        · cases c_69
      | true =>
        have ih := ih true
        rw [s_cnt_t (show (fun j => decide (xs j = s_minus)) j = true from hb)] at ih
        refine q_istore (pc' := 66) (lv' := [_, _, _, _, _]) dX11_manyOf_64 (by decide) rfl rfl ?_
        refine q_iload_n (pc' := 67) dX11_manyOf_66 rfl rfl ?_
        refine q_iload (pc' := 69) dX11_manyOf_67 rfl rfl ?_
        refine q_if_eqB (tgt := 76) (pc' := 72) dX11_manyOf_69 (by decide) rfl (fun c_69 => ?_) (fun c_69 => ?_)
        · cases c_69
        · refine q_iconst (pc' := 73) (v := nI 1) dX11_manyOf_72 rfl rfl ?_
          refine q_goto (pc' := 77) dX11_manyOf_73 (by decide) ?_
          refine q_iaddN (pc' := 78) dX11_manyOf_77 rfl ?_
          refine q_istore_n (pc' := 79) (lv' := [_, _, _, _, _]) dX11_manyOf_78 (by decide) rfl rfl ?_
          refine q_iincN (pc' := 82) (j := 1) (lv' := [_, _, _, _, _]) dX11_manyOf_79 rfl (by decide) rfl rfl ?_
          refine q_goto (pc' := 4) dX11_manyOf_82 (by decide) ?_
          exact ih
    refine q_iload_n (pc' := 5) dX11_manyOf_4 rfl rfl ?_
    refine q_aload_n (pc' := 6) dX11_manyOf_5 rfl rfl ?_
    refine h_getiE (pc' := 9) dX11_manyOf_6 fX11_242 rfl rfl (hn) rfl ?_
    refine q_icmp_geN (tgt := 85) (pc' := 12) dX11_manyOf_9 (by decide) rfl (by omega) (fun c_9 => ?_) (fun c_9 => ?_)
    · omega
    refine q_iload_n (pc' := 13) dX11_manyOf_12 rfl rfl ?_
    refine q_if_ne (tgt := 28) (pc' := 16) dX11_manyOf_13 (by decide) rfl (fun c_13 => ?_) (fun c_13 => ?_)
    rotate_left
    · exact absurd c_13 (by decide)
    refine q_iload_n (pc' := 29) dX11_manyOf_28 rfl rfl ?_
    refine q_iconst (pc' := 30) (v := nI 1) dX11_manyOf_29 rfl rfl ?_
    refine q_icmp_ne (tgt := 46) (pc' := 33) dX11_manyOf_30 (by decide) rfl (fun c_30 => ?_) (fun c_30 => ?_)
    rotate_left
    · exact absurd c_30 (by decide)
    refine q_aload_n (pc' := 47) dX11_manyOf_46 rfl rfl ?_
    refine h_getr (pc' := 50) dX11_manyOf_47 fX11_33 rfl rfl rfl ?_
    refine q_iload_n (pc' := 51) dX11_manyOf_50 rfl rfl ?_
    refine h_laldE (pc' := 52) dX11_manyOf_51 rfl (rfl) (by omega) (by decide) (hx j (by omega)) rfl ?_
    refine q_ldc2 (pc' := 55) dX11_manyOf_52 kX11_167 rfl ?_
    refine q_lcmp (pc' := 56) dX11_manyOf_55 rfl ?_
    refine q_if_neL (tgt := 63) (pc' := 59) dX11_manyOf_56 (by decide) rfl (fun c_56 => ?_) (fun c_56 => ?_)
    · rw [decide_eq_false (show ¬ xs j = s_minus from c_56)] at tail
      refine q_iconst (pc' := 64) (v := nI 0) dX11_manyOf_63 rfl rfl ?_
      exact tail
    · rw [decide_eq_true (show xs j = s_minus from c_56)] at tail
      refine q_iconst (pc' := 60) (v := nI 1) dX11_manyOf_59 rfl rfl ?_
      refine q_goto (pc' := 64) dX11_manyOf_60 (by decide) ?_
      exact tail
