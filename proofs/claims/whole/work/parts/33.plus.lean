/-! ===== Doubles.bitsOf, bitsOfDigits, plus ===== -/
theorem w_inf : FP.dcmp 9218868437227405312 FP.dconst0 = some .gt ∧ FP.dcmp 18442240474082181120 FP.dconst0 = some .lt ∧ FP.dneg 18442240474082181120 = 9218868437227405312 ∧ FP.dcmp 9218868437227405312 9218868437227405311 = some .gt := by decide +kernel
set_option maxHeartbeats 4000000 in
set_option maxRecDepth 20000 in
theorem c_bitsOfInf {Z : q_Z} {m : q_Mm} {d : Nat} {x : UInt64} (hx : x = 9218868437227405312 ∨ x = 18442240474082181120) : q_V (q_g Z) mX3_bitsOf (d+1) 0 0 0 [some (.ref (q_ad Z 1)), some (.double x), none, none, none, none, none, none, none, none] [] (q_W Z m) (q_P Z fun r m2 => r = some (.long (s_b x)) ∧ m2 = m) := by
  rcases hx with h | h
  · rw [h]
    refine q_dload_n (pc' := 1) dX3_bitsOf_0 rfl rfl ?_
    refine q_dconst0 (pc' := 2) dX3_bitsOf_1 rfl ?_
    refine q_dcmp (pc' := 3) dX3_bitsOf_2 rfl ?_
    rw [w_inf.1]
    refine q_if_ge (tgt := 12) (pc' := 6) dX3_bitsOf_3 (by decide) rfl (fun c_3 => ?_) (fun c_3 => ?_)
    rotate_left
    · exact absurd (by decide) c_3
    refine q_lconst (pc' := 13) (v := 0) dX3_bitsOf_12 rfl rfl ?_
    refine q_lstore_n (pc' := 14) (lv' := [_, _, _, _, _, _, _, _, _, _]) dX3_bitsOf_13 (by decide) rfl rfl ?_
    refine q_dload_n (pc' := 15) dX3_bitsOf_14 rfl rfl ?_
    refine q_dconst0 (pc' := 16) dX3_bitsOf_15 rfl ?_
    refine q_dcmp (pc' := 17) dX3_bitsOf_16 rfl ?_
    rw [w_inf.1]
    refine q_if_ge (tgt := 25) (pc' := 20) dX3_bitsOf_17 (by decide) rfl (fun c_17 => ?_) (fun c_17 => ?_)
    rotate_left
    · exact absurd (by decide) c_17
    refine q_dload_n (pc' := 26) dX3_bitsOf_25 rfl rfl ?_
    refine q_dstore (pc' := 28) (lv' := [_, _, _, _, _, _, _, _, _, _]) dX3_bitsOf_26 (by decide) rfl rfl ?_
    refine q_dload (pc' := 30) dX3_bitsOf_28 rfl rfl ?_
    refine q_ldc2d (pc' := 33) dX3_bitsOf_30 kX3_38 rfl ?_
    refine q_dcmp (pc' := 34) dX3_bitsOf_33 rfl ?_
    rw [w_inf.2.2.2]
    refine q_if_le (tgt := 43) (pc' := 37) dX3_bitsOf_34 (by decide) rfl (fun c_34 => ?_) (fun c_34 => ?_)
    · exact absurd c_34 (by decide)
    refine q_lload_n (pc' := 38) dX3_bitsOf_37 rfl rfl ?_
    refine q_ldc2 (pc' := 41) dX3_bitsOf_38 kX3_40 rfl ?_
    refine q_lor (pc' := 42) dX3_bitsOf_41 rfl ?_
    refine q_lret dX3_bitsOf_42 rfl ⟨_, rfl, by decide, rfl⟩
  · rw [h]
    refine q_dload_n (pc' := 1) dX3_bitsOf_0 rfl rfl ?_
    refine q_dconst0 (pc' := 2) dX3_bitsOf_1 rfl ?_
    refine q_dcmp (pc' := 3) dX3_bitsOf_2 rfl ?_
    rw [w_inf.2.1]
    refine q_if_ge (tgt := 12) (pc' := 6) dX3_bitsOf_3 (by decide) rfl (fun c_3 => ?_) (fun c_3 => ?_)
    · exact absurd c_3 (by decide)
    refine q_ldc2 (pc' := 9) dX3_bitsOf_6 kX3_36 rfl ?_
    refine q_goto (pc' := 13) dX3_bitsOf_9 (by decide) ?_
    refine q_lstore_n (pc' := 14) (lv' := [_, _, _, _, _, _, _, _, _, _]) dX3_bitsOf_13 (by decide) rfl rfl ?_
    refine q_dload_n (pc' := 15) dX3_bitsOf_14 rfl rfl ?_
    refine q_dconst0 (pc' := 16) dX3_bitsOf_15 rfl ?_
    refine q_dcmp (pc' := 17) dX3_bitsOf_16 rfl ?_
    rw [w_inf.2.1]
    refine q_if_ge (tgt := 25) (pc' := 20) dX3_bitsOf_17 (by decide) rfl (fun c_17 => ?_) (fun c_17 => ?_)
    · exact absurd c_17 (by decide)
    refine q_dload_n (pc' := 21) dX3_bitsOf_20 rfl rfl ?_
    refine q_dneg (pc' := 22) dX3_bitsOf_21 rfl ?_
    rw [w_inf.2.2.1]
    refine q_goto (pc' := 26) dX3_bitsOf_22 (by decide) ?_
    refine q_dstore (pc' := 28) (lv' := [_, _, _, _, _, _, _, _, _, _]) dX3_bitsOf_26 (by decide) rfl rfl ?_
    refine q_dload (pc' := 30) dX3_bitsOf_28 rfl rfl ?_
    refine q_ldc2d (pc' := 33) dX3_bitsOf_30 kX3_38 rfl ?_
    refine q_dcmp (pc' := 34) dX3_bitsOf_33 rfl ?_
    rw [w_inf.2.2.2]
    refine q_if_le (tgt := 43) (pc' := 37) dX3_bitsOf_34 (by decide) rfl (fun c_34 => ?_) (fun c_34 => ?_)
    · exact absurd c_34 (by decide)
    refine q_lload_n (pc' := 38) dX3_bitsOf_37 rfl rfl ?_
    refine q_ldc2 (pc' := 41) dX3_bitsOf_38 kX3_40 rfl ?_
    refine q_lor (pc' := 42) dX3_bitsOf_41 rfl ?_
    refine q_lret dX3_bitsOf_42 rfl ⟨_, rfl, by decide, rfl⟩
theorem w_infv : FP.Core.val64 9218868437227405312 = .inf false ∧ FP.Core.val64 18442240474082181120 = .inf true := by decide +kernel
theorem c_bitsOf {Z : q_Z} {m : q_Mm} {d : Nat} {x : UInt64} (hD : DblOk m) (hx : FP.Core.val64 x ≠ .nan) : q_V (q_g Z) mX3_bitsOf (d + 1) 0 0 0 [some (.ref (q_ad Z 1)), some (.double x), none, none, none, none, none, none, none, none] [] (q_W Z m) (q_P Z fun r m2 => r = some (.long (s_b x)) ∧ m2 = m) := by
  cases h : FP.Core.val64 x with
  | nan => exact absurd h hx
  | inf s =>
    refine c_bitsOfInf ?_
    cases s with
    | false => exact Or.inl (FP.Core.val64_inj hx (h.trans w_infv.1.symm))
    | true => exact Or.inr (FP.Core.val64_inj hx (h.trans w_infv.2.symm))
  | fin s c q => exact c_bitsOfFin hD ⟨c, q, h, rfl⟩
theorem nn_div {x y : UInt64} (hx : FP.Core.val64 x ≠ .nan) (hy : q_nz y = true) : FP.Core.val64 (FP.ddiv x y) ≠ .nan := by
  obtain ⟨t, d, r, e, hd⟩ := q_nz_fin hy
  rw [show FP.Core.val64 (FP.ddiv x y) = _ from FP.Core.val64_ddiv x y, e]
  cases h : FP.Core.val64 x with
  | nan => exact absurd h hx
  | inf s => exact fun z => by cases z
  | fin s c q =>
    show (if d = 0 then (if c = 0 then FP.Core.Datum.nan else .inf (s != t)) else FP.Core.roundRatio FP.Core.b64 (s != t) c d (q - r)) ≠ .nan
    rw [if_neg hd]
    exact nn_ratio _ _ _ _ _
set_option maxHeartbeats 4000000 in
set_option maxRecDepth 20000 in
theorem c_bitsOfDigits {Z : q_Z} {m : q_Mm} {d : Nat} {v : Int64} {k : Nat} (hD : DblOk m) (hk : k < 15) : q_V (q_g Z) mX3_bitsOfDigits (d+2) 0 0 0 [some (.ref (q_ad Z 1)), some (.long v), none, some (.int (nI k))] [] (q_W Z m) (q_P Z fun r m2 => r = some (.long (s_b (FP.ddiv (FP.l2d v) (s_tn k)))) ∧ m2 = m) := by
  have h1 := nn_div (nn_l2d v) (nz_tn ⟨k, hk⟩)
  refine q_aload_n (pc' := 1) dX3_bitsOfDigits_0 rfl rfl ?_
  refine q_lload_n (pc' := 2) dX3_bitsOfDigits_1 rfl rfl ?_
  refine q_l2d (pc' := 3) dX3_bitsOfDigits_2 rfl ?_
  refine q_aload_n (pc' := 4) dX3_bitsOfDigits_3 rfl rfl ?_
  refine h_getr (pc' := 7) dX3_bitsOfDigits_4 fX3_9 rfl rfl rfl ?_
  refine q_iload_n (pc' := 8) dX3_bitsOfDigits_7 rfl rfl ?_
  refine h_daldE (pc' := 9) dX3_bitsOfDigits_8 rfl (rfl) (by omega) (by decide) (hD.tn hk) rfl ?_
  refine q_ddiv (pc' := 10) dX3_bitsOfDigits_9 (dv_n64 h1) rfl ?_
  refine h_callV (pc' := 13) (M' := mX3_bitsOf) (As := [_]) dX3_bitsOfDigits_10 iX3_bitsOf lX3_48 rfl rfl rfl rfl (Nat.le_of_ble_eq_true rfl) (Nat.le_of_ble_eq_true rfl) rfl rfl (c_bitsOf hD h1) (fun r m' hq => ?_)
  obtain ⟨rfl, hmm⟩ := hq
  subst m'
  refine q_lret dX3_bitsOfDigits_13 rfl ⟨_, rfl, rfl, rfl⟩
theorem dv_snum {v : Int64} (h : s_fin v = true) : ∃ s N, q_dv (s_num v) s N := by
  unfold s_num
  split
  · exact ⟨_, _, dv_0⟩
  · exact ⟨_, _, dv_num h⟩
theorem nn_addf {x y : UInt64} {s t : Bool} {N M : Nat} (hx : q_dv x s N) (hy : q_dv y t M) : FP.Core.val64 (FP.dadd x y) ≠ .nan := by
  obtain ⟨c, q, h1, -⟩ := hx
  obtain ⟨d, r, h2, -⟩ := hy
  rw [show FP.Core.val64 (FP.dadd x y) = _ from FP.Core.val64_dadd x y, h1, h2]
  exact nn_ratio _ _ _ _ _
/-- the sum of two, as bits -/
def s_plus (a b : Int64) : Int64 := if s_fin a = false then (if s_fin b = true ∨ a = b then a else 9221120237041090560) else if s_fin b = false then b else if a = s_minus ∧ b = s_minus then s_minus else s_b (FP.dadd (s_num a) (s_num b))
set_option maxHeartbeats 4000000 in
set_option maxRecDepth 20000 in
theorem c_plus {Z : q_Z} {m : q_Mm} {d : Nat} {a b : Int64} (hD : DblOk m) : q_V (q_g Z) mX3_plus (d+2) 0 0 0 [some (.ref (q_ad Z 1)), some (.long a), none, some (.long b), none] [] (q_W Z m) (q_P Z fun r m2 => r = some (.long (s_plus a b)) ∧ m2 = m) := by
  have fin : s_fin a = true → s_fin b = true → ¬ (a = s_minus ∧ b = s_minus) → q_V (q_g Z) mX3_plus (d+2) 0 0 57 [some (.ref (q_ad Z 1)), some (.long a), none, some (.long b), none] [] (q_W Z (m)) (q_P Z fun r m2 => r = some (.long (s_plus a b)) ∧ m2 = m) := by
    intro ha hb hne
    obtain ⟨s, N, h1⟩ := dv_snum ha
    obtain ⟨t, M, h2⟩ := dv_snum hb
    have h3 := nn_addf h1 h2
    have e : s_plus a b = s_b (FP.dadd (s_num a) (s_num b)) := by unfold s_plus; rw [ha, hb, if_neg (by decide), if_neg (by decide), if_neg hne]
    refine q_aload_n (pc' := 58) dX3_plus_57 rfl rfl ?_
    refine q_aload_n (pc' := 59) dX3_plus_58 rfl rfl ?_
    refine q_lload_n (pc' := 60) dX3_plus_59 rfl rfl ?_
    refine h_callV (pc' := 63) (M' := mX3_numberOf) (As := [_]) dX3_plus_60 iX3_numberOf lX3_68 rfl rfl rfl rfl (Nat.le_of_ble_eq_true rfl) (Nat.le_of_ble_eq_true rfl) rfl rfl (c_numberOf hD ha) (fun r m' hq => ?_)
    obtain ⟨rfl, hmm⟩ := hq
    subst m'
    refine q_aload_n (pc' := 64) dX3_plus_63 rfl rfl ?_
    refine q_lload_n (pc' := 65) dX3_plus_64 rfl rfl ?_
    refine h_callV (pc' := 68) (M' := mX3_numberOf) (As := [_]) dX3_plus_65 iX3_numberOf lX3_68 rfl rfl rfl rfl (Nat.le_of_ble_eq_true rfl) (Nat.le_of_ble_eq_true rfl) rfl rfl (c_numberOf hD hb) (fun r m' hq => ?_)
    obtain ⟨rfl, hmm⟩ := hq
    subst m'
    refine q_dadd (pc' := 69) dX3_plus_68 (dv_n64 h3) rfl ?_
    refine h_callV (pc' := 72) (M' := mX3_bitsOf) (As := [_]) dX3_plus_69 iX3_bitsOf lX3_48 rfl rfl rfl rfl (Nat.le_of_ble_eq_true rfl) (Nat.le_of_ble_eq_true rfl) rfl rfl (c_bitsOf hD h3) (fun r m' hq => ?_)
    obtain ⟨rfl, hmm⟩ := hq
    subst m'
    refine q_lret dX3_plus_72 rfl ⟨_, rfl, by rw [e], rfl⟩
  refine q_lload_n (pc' := 1) dX3_plus_0 rfl rfl ?_
  refine h_callSN (pc' := 4) (M' := mX10_isFinite) (As := [_]) dX3_plus_1 iX10_isFinite nm_X3_62 rfl rfl (Nat.le_of_ble_eq_true rfl) (Nat.le_of_ble_eq_true rfl) rfl rfl (c_isFinite) (fun r m' hq => ?_)
  obtain ⟨rfl, hmm⟩ := hq
  subst m'
  refine q_if_neB (tgt := 28) (pc' := 7) dX3_plus_4 (by decide) rfl (fun c_4 => ?_) (fun c_4 => ?_)
  · refine q_lload_n (pc' := 29) dX3_plus_28 rfl rfl ?_
    refine h_callSN (pc' := 32) (M' := mX10_isFinite) (As := [_]) dX3_plus_29 iX10_isFinite nm_X3_62 rfl rfl (Nat.le_of_ble_eq_true rfl) (Nat.le_of_ble_eq_true rfl) rfl rfl (c_isFinite) (fun r m' hq => ?_)
    obtain ⟨rfl, hmm⟩ := hq
    subst m'
    refine q_if_neB (tgt := 37) (pc' := 35) dX3_plus_32 (by decide) rfl (fun c_32 => ?_) (fun c_32 => ?_)
    · refine q_lload_n (pc' := 38) dX3_plus_37 rfl rfl ?_
      refine q_ldc2 (pc' := 41) dX3_plus_38 kX3_36 rfl ?_
      refine q_lcmp (pc' := 42) dX3_plus_41 rfl ?_
      refine q_if_neL (tgt := 57) (pc' := 45) dX3_plus_42 (by decide) rfl (fun c_42 => ?_) (fun c_42 => ?_)
      · exact fin c_4 c_32 (fun z => c_42 z.1)
      refine q_lload_n (pc' := 46) dX3_plus_45 rfl rfl ?_
      refine q_ldc2 (pc' := 49) dX3_plus_46 kX3_36 rfl ?_
      refine q_lcmp (pc' := 50) dX3_plus_49 rfl ?_
      refine q_if_neL (tgt := 57) (pc' := 53) dX3_plus_50 (by decide) rfl (fun c_50 => ?_) (fun c_50 => ?_)
      · exact fin c_4 c_32 (fun z => c_50 z.2)
      refine q_ldc2 (pc' := 56) dX3_plus_53 kX3_36 rfl ?_
      refine q_lret dX3_plus_56 rfl ⟨_, rfl, by unfold s_plus; rw [c_4, c_32, if_neg (by decide), if_neg (by decide), if_pos ⟨c_42, c_50⟩]; rfl, rfl⟩
    · refine q_lload_n (pc' := 36) dX3_plus_35 rfl rfl ?_
      refine q_lret dX3_plus_36 rfl ⟨_, rfl, by unfold s_plus; rw [c_4, c_32, if_neg (by decide), if_pos rfl], rfl⟩
  · refine q_lload_n (pc' := 8) dX3_plus_7 rfl rfl ?_
    refine h_callSN (pc' := 11) (M' := mX10_isFinite) (As := [_]) dX3_plus_8 iX10_isFinite nm_X3_62 rfl rfl (Nat.le_of_ble_eq_true rfl) (Nat.le_of_ble_eq_true rfl) rfl rfl (c_isFinite) (fun r m' hq => ?_)
    obtain ⟨rfl, hmm⟩ := hq
    subst m'
    refine q_if_neB (tgt := 20) (pc' := 14) dX3_plus_11 (by decide) rfl (fun c_11 => ?_) (fun c_11 => ?_)
    · refine q_lload_n (pc' := 21) dX3_plus_20 rfl rfl ?_
      refine q_goto (pc' := 27) dX3_plus_21 (by decide) ?_
      refine q_lret dX3_plus_27 rfl ⟨_, rfl, by unfold s_plus; rw [c_4, if_pos rfl, if_pos (Or.inl c_11)], rfl⟩
    · refine q_lload_n (pc' := 15) dX3_plus_14 rfl rfl ?_
      refine q_lload_n (pc' := 16) dX3_plus_15 rfl rfl ?_
      refine q_lcmp (pc' := 17) dX3_plus_16 rfl ?_
      refine q_if_neL (tgt := 24) (pc' := 20) dX3_plus_17 (by decide) rfl (fun c_17 => ?_) (fun c_17 => ?_)
      · refine q_ldc2 (pc' := 27) dX3_plus_24 kX3_66 rfl ?_
        refine q_lret dX3_plus_27 rfl ⟨_, rfl, by unfold s_plus; rw [c_4, c_11, if_pos rfl, if_neg (fun z => z.elim (fun q => by cases q) c_17)], rfl⟩
      · refine q_lload_n (pc' := 21) dX3_plus_20 rfl rfl ?_
        refine q_goto (pc' := 27) dX3_plus_21 (by decide) ?_
        refine q_lret dX3_plus_27 rfl ⟨_, rfl, by unfold s_plus; rw [c_4, if_pos rfl, if_pos (Or.inr c_17)], rfl⟩
