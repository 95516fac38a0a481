/-! ===== Doubles.decimal, wholeOf ===== -/
theorem nn_ratio (f : FP.Core.Fmt) (s : Bool) (A B : Nat) (e : Int) : FP.Core.roundRatio f s A B e ≠ .nan := by
  unfold FP.Core.roundRatio
  split
  · exact fun z => by cases z
  · unfold FP.Core.roundAt FP.Core.settle
    split <;> unfold FP.Core.bound <;> split <;> exact fun z => by cases z
/-- finite and no zero -/
def q_nz (y : UInt64) : Bool := match FP.Core.val64 y with
  | .fin _ c _ => c != 0
  | _ => false
theorem q_nz_fin {y : UInt64} (h : q_nz y = true) : ∃ t d r, FP.Core.val64 y = .fin t d r ∧ d ≠ 0 := by
  unfold q_nz at h
  split at h
  · rename_i t d r e
    exact ⟨t, d, r, e, by simpa using h⟩
  · cases h
theorem nn_mul {x y : UInt64} (hx : FP.Core.val64 x ≠ .nan) (hy : q_nz y = true) : FP.Core.val64 (FP.dmul x y) ≠ .nan := by
  obtain ⟨t, d, r, e, hd⟩ := q_nz_fin hy
  rw [show FP.Core.val64 (FP.dmul x y) = _ from FP.Core.val64_dmul x y, e]
  cases h : FP.Core.val64 x with
  | nan => exact absurd h hx
  | inf s =>
    show FP.Core.round FP.Core.b64 (if d = 0 then .nan else .inf (s != t)) ≠ .nan
    rw [if_neg hd]
    exact fun z => by cases z
  | fin s c q => exact nn_ratio _ _ _ _ _
theorem nn_add {x y : UInt64} (hx : FP.Core.val64 x ≠ .nan) (hy : q_nz y = true) : FP.Core.val64 (FP.dadd x y) ≠ .nan := by
  obtain ⟨t, d, r, e, hd⟩ := q_nz_fin hy
  rw [show FP.Core.val64 (FP.dadd x y) = _ from FP.Core.val64_dadd x y, e]
  cases h : FP.Core.val64 x with
  | nan => exact absurd h hx
  | inf s => exact fun z => by cases z
  | fin s c q => exact nn_ratio _ _ _ _ _
theorem nn_sub {x y : UInt64} (hx : FP.Core.val64 x ≠ .nan) (hy : q_nz y = true) : FP.Core.val64 (FP.dsub x y) ≠ .nan := by
  obtain ⟨t, d, r, e, hd⟩ := q_nz_fin hy
  rw [show FP.Core.val64 (FP.dsub x y) = _ from FP.Core.val64_dsub x y, e]
  cases h : FP.Core.val64 x with
  | nan => exact absurd h hx
  | inf s => exact fun z => by cases z
  | fin s c q => exact nn_ratio _ _ _ _ _
theorem nn_l2d (v : Int64) : FP.Core.val64 (FP.l2d v) ≠ .nan := by
  rw [show FP.Core.val64 (FP.l2d v) = _ from FP.Core.val64_l2d v]
  exact nn_ratio _ _ _ _ _
def s_tn (k : Nat) : UInt64 := FP.l2d (Int64.ofNat (10 ^ k))
def s_th (k : Nat) : UInt64 := FP.ddiv FP.dconst1 (s_tn k)
theorem nz_tn : ∀ k : Fin 15, q_nz (s_tn k.1) = true := by decide +kernel
theorem nz_th : ∀ k : Fin 15, q_nz (s_th k.1) = true := by decide +kernel
def s_MG : UInt64 := 4843621399236968448
theorem nz_MG : q_nz s_MG = true := by decide +kernel
def s_mv (x : UInt64) (e f : Nat) : UInt64 := FP.dmul (FP.dmul x (s_tn e)) (s_th f)
def s_rd (x : UInt64) (e f : Nat) : Int64 := FP.d2l (FP.dsub (FP.dadd (s_mv x e f) s_MG) s_MG)
def s_dec (w : Int64) (e f : Nat) : UInt64 := FP.dmul (FP.dmul (FP.l2d w) (s_tn f)) (s_th e)
def s_whole (x : UInt64) (e f : Nat) : Int64 := if Op.cmpValue (FP.dcmp (s_mv x e f) 14060238036650688512) .l ≤ 0 then s_no else if 0 ≤ Op.cmpValue (FP.dcmp (s_mv x e f) 4836865999795912704) .g then s_no else if Op.cmpValue (FP.dcmp (s_dec (s_rd x e f) e f) x) .l = 0 then s_rd x e f else s_no
theorem DblOk.tn {m : q_Mm} (h : DblOk m) {k : Nat} (hk : k < 15) : m.2.2.2.2 2 k = s_tn k := (h.2 k hk).1
theorem DblOk.th {m : q_Mm} (h : DblOk m) {k : Nat} (hk : k < 15) : m.2.2.2.2 3 k = s_th k := (h.2 k hk).2
theorem s_whole_a {x : UInt64} {e f : Nat} (h : Op.cmpValue (FP.dcmp (s_mv x e f) 14060238036650688512) .l ≤ 0) : s_whole x e f = s_no := by unfold s_whole; rw [if_pos h]
theorem s_whole_b {x : UInt64} {e f : Nat} (h : ¬ Op.cmpValue (FP.dcmp (s_mv x e f) 14060238036650688512) .l ≤ 0) (g : 0 ≤ Op.cmpValue (FP.dcmp (s_mv x e f) 4836865999795912704) .g) : s_whole x e f = s_no := by unfold s_whole; rw [if_neg h, if_pos g]
theorem s_whole_c {x : UInt64} {e f : Nat} (h : ¬ Op.cmpValue (FP.dcmp (s_mv x e f) 14060238036650688512) .l ≤ 0) (g : ¬ 0 ≤ Op.cmpValue (FP.dcmp (s_mv x e f) 4836865999795912704) .g) (i : ¬ Op.cmpValue (FP.dcmp (s_dec (s_rd x e f) e f) x) .l = 0) : s_whole x e f = s_no := by unfold s_whole; rw [if_neg h, if_neg g, if_neg i]
theorem s_whole_d {x : UInt64} {e f : Nat} (h : ¬ Op.cmpValue (FP.dcmp (s_mv x e f) 14060238036650688512) .l ≤ 0) (g : ¬ 0 ≤ Op.cmpValue (FP.dcmp (s_mv x e f) 4836865999795912704) .g) (i : Op.cmpValue (FP.dcmp (s_dec (s_rd x e f) e f) x) .l = 0) : s_whole x e f = s_rd x e f := by unfold s_whole; rw [if_neg h, if_neg g, if_pos i]
set_option maxHeartbeats 4000000 in
set_option maxRecDepth 20000 in
theorem c_decimal {Z : q_Z} {m : q_Mm} {d : Nat} {w : Int64} {e f : Nat} (hD : DblOk m) (he : e < 15) (hf : f < 15) : q_V (q_g Z) mX3_decimal (d) 0 0 0 [some (.ref (q_ad Z 1)), some (.long w), none, some (.int (nI e)), some (.int (nI f))] [] (q_W Z m) (q_P Z fun r m2 => r = some (.double (s_dec w e f)) ∧ m2 = m) := by
  have h1 := nn_mul (nn_l2d w) (nz_tn ⟨f, hf⟩)
  have h2 := nn_mul h1 (nz_th ⟨e, he⟩)
  refine q_lload_n (pc' := 1) dX3_decimal_0 rfl rfl ?_
  refine q_l2d (pc' := 2) dX3_decimal_1 rfl ?_
  refine q_aload_n (pc' := 3) dX3_decimal_2 rfl rfl ?_
  refine h_getr (pc' := 6) dX3_decimal_3 fX3_9 rfl rfl rfl ?_
  refine q_iload (pc' := 8) dX3_decimal_6 rfl rfl ?_
  refine h_daldE (pc' := 9) dX3_decimal_8 rfl (rfl) (by omega) (by decide) (hD.tn hf) rfl ?_
  refine q_dmul (pc' := 10) dX3_decimal_9 (dv_n64 h1) rfl ?_
  refine q_aload_n (pc' := 11) dX3_decimal_10 rfl rfl ?_
  refine h_getr (pc' := 14) dX3_decimal_11 fX3_15 rfl rfl rfl ?_
  refine q_iload_n (pc' := 15) dX3_decimal_14 rfl rfl ?_
  refine h_daldE (pc' := 16) dX3_decimal_15 rfl (rfl) (by omega) (by decide) (hD.th he) rfl ?_
  refine q_dmul (pc' := 17) dX3_decimal_16 (dv_n64 h2) rfl ?_
  refine q_dret dX3_decimal_17 rfl ⟨_, rfl, rfl, rfl⟩
set_option maxHeartbeats 4000000 in
set_option maxRecDepth 20000 in
theorem c_wholeOf {Z : q_Z} {m : q_Mm} {d : Nat} {x : UInt64} {e f : Nat} (hD : DblOk m) (hx : FP.Core.val64 x ≠ .nan) (he : e < 15) (hf : f < 15) : q_V (q_g Z) mX3_wholeOf (d+1) 0 0 0 [some (.ref (q_ad Z 1)), some (.double x), none, some (.int (nI e)), some (.int (nI f)), none, none, none, none] [] (q_W Z m) (q_P Z fun r m2 => r = some (.long (s_whole x e f)) ∧ m2 = m) := by
  have h1 := nn_mul hx (nz_tn ⟨e, he⟩)
  have h2 := nn_mul h1 (nz_th ⟨f, hf⟩)
  have h3 := nn_add h2 nz_MG
  have h4 := nn_sub h3 nz_MG
  refine q_dload_n (pc' := 1) dX3_wholeOf_0 rfl rfl ?_
  refine q_aload_n (pc' := 2) dX3_wholeOf_1 rfl rfl ?_
  refine h_getr (pc' := 5) dX3_wholeOf_2 fX3_9 rfl rfl rfl ?_
  refine q_iload_n (pc' := 6) dX3_wholeOf_5 rfl rfl ?_
  refine h_daldE (pc' := 7) dX3_wholeOf_6 rfl (rfl) (by omega) (by decide) (hD.tn he) rfl ?_
  refine q_dmul (pc' := 8) dX3_wholeOf_7 (dv_n64 h1) rfl ?_
  refine q_aload_n (pc' := 9) dX3_wholeOf_8 rfl rfl ?_
  refine h_getr (pc' := 12) dX3_wholeOf_9 fX3_15 rfl rfl rfl ?_
  refine q_iload (pc' := 14) dX3_wholeOf_12 rfl rfl ?_
  refine h_daldE (pc' := 15) dX3_wholeOf_14 rfl (rfl) (by omega) (by decide) (hD.th hf) rfl ?_
  refine q_dmul (pc' := 16) dX3_wholeOf_15 (dv_n64 h2) rfl ?_
  refine q_dstore (pc' := 18) (lv' := [_, _, _, _, _, _, _, _, _]) dX3_wholeOf_16 (by decide) rfl rfl ?_
  refine q_dload (pc' := 20) dX3_wholeOf_18 rfl rfl ?_
  refine q_ldc2d (pc' := 23) dX3_wholeOf_20 kX3_52 rfl ?_
  refine q_dcmp (pc' := 24) dX3_wholeOf_23 rfl ?_
  refine q_if_le (tgt := 72) (pc' := 27) dX3_wholeOf_24 (by decide) rfl (fun c_24 => ?_) (fun c_24 => ?_)
  · refine q_ldc2 (pc' := 75) dX3_wholeOf_72 kX3_36 rfl ?_
    refine q_lret dX3_wholeOf_75 rfl ⟨_, rfl, congrArg (fun z => some (Value.long z)) (s_whole_a c_24).symm, rfl⟩
  refine q_dload (pc' := 29) dX3_wholeOf_27 rfl rfl ?_
  refine q_ldc2d (pc' := 32) dX3_wholeOf_29 kX3_54 rfl ?_
  refine q_dcmp (pc' := 33) dX3_wholeOf_32 rfl ?_
  refine q_if_ge (tgt := 72) (pc' := 36) dX3_wholeOf_33 (by decide) rfl (fun c_33 => ?_) (fun c_33 => ?_)
  · refine q_ldc2 (pc' := 75) dX3_wholeOf_72 kX3_36 rfl ?_
    refine q_lret dX3_wholeOf_75 rfl ⟨_, rfl, congrArg (fun z => some (Value.long z)) (s_whole_b c_24 c_33).symm, rfl⟩
  refine q_dload (pc' := 38) dX3_wholeOf_36 rfl rfl ?_
  refine q_ldc2d (pc' := 41) dX3_wholeOf_38 kX3_56 rfl ?_
  refine q_dadd (pc' := 42) dX3_wholeOf_41 (dv_n64 h3) rfl ?_
  refine q_ldc2d (pc' := 45) dX3_wholeOf_42 kX3_56 rfl ?_
  refine q_dsub (pc' := 46) dX3_wholeOf_45 (dv_n64 h4) rfl ?_
  refine q_d2l (pc' := 47) dX3_wholeOf_46 rfl ?_
  refine q_lstore (pc' := 49) (lv' := [_, _, _, _, _, _, _, _, _]) dX3_wholeOf_47 (by decide) rfl rfl ?_
  refine q_aload_n (pc' := 50) dX3_wholeOf_49 rfl rfl ?_
  refine q_lload (pc' := 52) dX3_wholeOf_50 rfl rfl ?_
  refine q_iload_n (pc' := 53) dX3_wholeOf_52 rfl rfl ?_
  refine q_iload (pc' := 55) dX3_wholeOf_53 rfl rfl ?_
  refine h_callV (pc' := 58) (M' := mX3_decimal) (As := [_, _, _]) dX3_wholeOf_55 iX3_decimal lX3_58 rfl rfl rfl rfl (Nat.le_of_ble_eq_true rfl) (Nat.le_of_ble_eq_true rfl) rfl rfl (c_decimal hD he hf) (fun r m' hq => ?_)
  obtain ⟨rfl, rfl⟩ := hq
  refine q_dload_n (pc' := 59) dX3_wholeOf_58 rfl rfl ?_
  refine q_dcmp (pc' := 60) dX3_wholeOf_59 rfl ?_
  refine q_if_ne (tgt := 68) (pc' := 63) dX3_wholeOf_60 (by decide) rfl (fun c_60 => ?_) (fun c_60 => ?_)
  · refine q_ldc2 (pc' := 71) dX3_wholeOf_68 kX3_36 rfl ?_
    refine q_lret dX3_wholeOf_71 rfl ⟨_, rfl, congrArg (fun z => some (Value.long z)) (s_whole_c c_24 c_33 c_60).symm, rfl⟩
  · refine q_lload (pc' := 65) dX3_wholeOf_63 rfl rfl ?_
    refine q_goto (pc' := 71) dX3_wholeOf_65 (by decide) ?_
    refine q_lret dX3_wholeOf_71 rfl ⟨_, rfl, congrArg (fun z => some (Value.long z)) (s_whole_d c_24 c_33 c_60).symm, rfl⟩
