/-! ===== doubles told by their bits, any NaN by one; the sum of two ===== -/
def s_nn (x : UInt64) : Bool := match FP.Core.val64 x with
  | .nan => true
  | _ => false
def s_dl (x : UInt64) : Int64 := if s_nn x = true then 9221120237041090560 else x.toInt64
theorem s_dl_n {x : UInt64} (h : FP.Core.val64 x = .nan) : s_dl x = 9221120237041090560 := by
  unfold s_dl s_nn
  rw [h, if_pos rfl]
theorem s_dl_o {x : UInt64} (h : FP.Core.val64 x ≠ .nan) : s_dl x = x.toInt64 := by
  unfold s_dl s_nn
  cases e : FP.Core.val64 x with
  | nan => exact absurd e h
  | inf s => exact if_neg Bool.false_ne_true
  | fin s c q => exact if_neg Bool.false_ne_true
theorem nan_v {x : UInt64} (h : isNaN64 x = true) : FP.Core.val64 x = .nan := by
  cases e : FP.Core.val64 x with
  | nan => rfl
  | inf s => exact absurd (dv_n64 (x := x) (by rw [e]; exact fun z => by cases z)) (isNaN64_not.mp h)
  | fin s c q => exact absurd (dv_n64 (x := x) (by rw [e]; exact fun z => by cases z)) (isNaN64_not.mp h)
theorem dl_alike {r y : UInt64} (h : alike64 r y = true) : s_dl r = s_dl y := by
  unfold alike64 at h
  rw [Bool.or_eq_true, Bool.and_eq_true, decide_eq_true_iff] at h
  rcases h with h | ⟨h1, h2⟩
  · rw [h]
  · rw [s_dl_n (nan_v h1), s_dl_n (nan_v h2)]
theorem fin_t {x : UInt64} {s : Bool} {c : Nat} {q : Int} (h : FP.Core.val64 x = .fin s c q) : s_fin x.toInt64 = true := by
  rw [s_fin_E, decide_eq_true_iff]
  intro z
  have z : x.toNat / 2 ^ 52 % 2048 = 2047 := z
  have e : FP.Core.val64 x = FP.Core.decode FP.Core.b64 x.toNat := rfl
  rw [FP.Core.decode, show FP.Core.fieldE FP.Core.b64 x.toNat = x.toNat / 2 ^ 52 % 2048 from rfl, if_pos (show x.toNat / 2 ^ 52 % 2048 = FP.Core.b64.exps - 1 from z), h] at e
  split at e <;> cases e
theorem fin_f {x : UInt64} {s : Bool} (h : FP.Core.val64 x = .inf s) : s_fin x.toInt64 = false := by
  rw [s_fin_E, decide_eq_false_iff_not]
  intro z
  obtain ⟨c, q, e, -⟩ := dv_bits (x := x) z
  rw [h] at e
  cases e
theorem t_inj {x y : UInt64} (h : x.toInt64 = y.toInt64) : x = y := congrArg Int64.toUInt64 h
abbrev s_M0 : UInt64 := 9223372036854775808
theorem m0_v : FP.Core.val64 s_M0 = .fin true 0 FP.Core.b64.qmin := by decide +kernel
theorem m0_i : s_M0.toInt64 = s_minus := by decide
theorem m0_d : q_dv s_M0 true 0 := ⟨0, _, m0_v, Nat.zero_mul _⟩
theorem z0_s {y : UInt64} {s : Bool} {q : Int} (h : FP.Core.val64 y = .fin s 0 q) (hy : y ≠ s_M0) : s = false := by
  cases s with
  | false => rfl
  | true => exact absurd (dv_unique (x := y) ⟨0, q, h, Nat.zero_mul _⟩ m0_d) hy
theorem add0 {y z : UInt64} {t : Bool} (hn : FP.Core.val64 y ≠ .nan) (hy : y ≠ s_M0) (hz : FP.Core.val64 z = .fin t 0 FP.Core.b64.qmin) : FP.dadd y z = y := by
  have e : FP.Core.val64 (FP.dadd y z) = FP.Core.val64 y := by
    rw [show FP.Core.val64 (FP.dadd y z) = _ from FP.Core.val64_dadd y z, hz]
    refine FP.Core.round_sum_zero FP.Core.good_b64 (FP.Core.val64_fits y) t (fun s q h => ?_)
    rw [z0_s h hy]
    cases t with
    | false => exact Or.inl rfl
    | true => exact Or.inr ⟨rfl, rfl⟩
  exact (FP.Core.val64_inj hn e.symm).symm
theorem dadd_c (x y : UInt64) : FP.dadd x y = FP.dadd y x := FP.Core.dadd_comm x y
theorem add_nm {x y : UInt64} {s t : Bool} {c d : Nat} {q r : Int} (hx : FP.Core.val64 x = .fin s c q) (hy : FP.Core.val64 y = .fin t d r) (ne : ¬ (x = s_M0 ∧ y = s_M0)) : FP.dadd x y ≠ s_M0 := by
  have nx : FP.Core.val64 x ≠ .nan := by rw [hx]; exact fun z => by cases z
  have ny : FP.Core.val64 y ≠ .nan := by rw [hy]; exact fun z => by cases z
  by_cases h1 : y = s_M0
  · have h2 : x ≠ s_M0 := fun z => ne ⟨z, h1⟩
    rw [h1, add0 nx h2 m0_v]
    exact h2
  by_cases h2 : x = s_M0
  · rw [h2, dadd_c, add0 ny h1 m0_v]
    exact h1
  intro z
  have a1 := dv_q hx
  have a2 := dv_q hy
  have e : FP.Core.val64 (FP.dadd x y) = FP.Core.roundRatio FP.Core.b64 (FP.Core.sumSign s t (FP.Core.sumUnits s c q t d r (min q r))) (FP.Core.sumUnits s c q t d r (min q r)).natAbs 1 (min q r) := by
    rw [show FP.Core.val64 (FP.dadd x y) = _ from FP.Core.val64_dadd x y, hx, hy]
    rfl
  rw [z] at e
  by_cases hu : FP.Core.sumUnits s c q t d r (min q r) = 0
  · rw [hu] at e
    unfold FP.Core.roundRatio FP.Core.sumSign at e
    rw [if_pos (show (0 : Int).natAbs = 0 from rfl), if_pos rfl, m0_v] at e
    injection e with e1 e2 e3
    have e1 := e1.symm
    rw [Bool.and_eq_true] at e1
    obtain ⟨rfl, rfl⟩ := e1
    have hu : -((c * 2 ^ (q - min q r).toNat : Nat) : Int) + -((d * 2 ^ (r - min q r).toNat : Nat) : Int) = 0 := hu
    have hc : c * 2 ^ (q - min q r).toNat = 0 := by omega
    have hc : c = 0 := by
      rcases Nat.mul_eq_zero.mp hc with h | h
      · exact h
      · exact absurd h (Nat.ne_of_gt (Nat.two_pow_pos _))
    rw [hc] at hx
    exact absurd (z0_s hx h2) (by decide)
  · obtain ⟨V, g1, g2⟩ := zm_pow (k := 0) (by decide)
    have h3 := FP.Core.zmag_roundRatio_ge FP.Core.good_b64 (s := FP.Core.sumSign s t (FP.Core.sumUnits s c q t d r (min q r))) (A := (FP.Core.sumUnits s c q t d r (min q r)).natAbs) (B := 1) (e := min q r) (e0 := -1074) (by decide) g1 (by decide) (by omega) (by
      rw [g2, show (FP.Core.b64.qmin - -1074).toNat = 0 from by decide]
      unfold FP.Core.inUnits
      have := Nat.mul_le_mul (show 1 ≤ (FP.Core.sumUnits s c q t d r (min q r)).natAbs by omega) (Nat.two_pow_pos (min q r - -1074).toNat)
      exact this)
    rw [← e, zm_m0, g2] at h3
    exact absurd h3 (by decide)
theorem s_num_o {x : UInt64} (h : x ≠ s_M0) : s_num x.toInt64 = x := by
  unfold s_num
  rw [if_neg (fun z => h (t_inj (z.trans m0_i.symm)))]
  rfl
theorem s_num_m : s_num s_M0.toInt64 = FP.dconst0 := by
  unfold s_num
  rw [if_pos m0_i]
theorem add_num {x y : UInt64} (nx : FP.Core.val64 x ≠ .nan) (ny : FP.Core.val64 y ≠ .nan) (ne : ¬ (x = s_M0 ∧ y = s_M0)) : FP.dadd (s_num x.toInt64) (s_num y.toInt64) = FP.dadd x y := by
  by_cases h1 : y = s_M0
  · have h2 : x ≠ s_M0 := fun z => ne ⟨z, h1⟩
    rw [h1, s_num_m, s_num_o h2, add0 nx h2 m0_v]
    exact add0 nx h2 FP.Core.val64_dconst0
  rw [s_num_o h1]
  by_cases h2 : x = s_M0
  · rw [h2, s_num_m, dadd_c s_M0, add0 ny h1 m0_v, dadd_c]
    exact add0 ny h1 FP.Core.val64_dconst0
  rw [s_num_o h2]
theorem s_b_o {x : UInt64} (h : x ≠ s_M0) : s_b x = x.toInt64 := by
  unfold s_b
  exact if_neg (fun z => h (UInt64.toNat_inj.mp (by rw [z]; rfl)))
theorem add_mm : FP.dadd s_M0 s_M0 = s_M0 := by decide +kernel
theorem dl_add (x y : UInt64) : s_dl (FP.dadd x y) = s_plus (s_dl x) (s_dl y) := by
  have ea : FP.Core.val64 (FP.dadd x y) = FP.Core.round FP.Core.b64 (FP.Core.exactSum (FP.Core.val64 x) (FP.Core.val64 y)) := FP.Core.val64_dadd x y
  have hC : s_fin 9221120237041090560 = false := by decide
  cases hx : FP.Core.val64 x with
  | nan =>
    rw [hx] at ea
    rw [s_dl_n hx, s_dl_n (x := FP.dadd x y) ea]
    unfold s_plus
    rw [hC, if_pos rfl]
    exact (ite_self _).symm
  | inf s =>
    have nx : FP.Core.val64 x ≠ .nan := by rw [hx]; exact fun z => by cases z
    rw [s_dl_o nx]
    cases hy : FP.Core.val64 y with
    | nan =>
      rw [hx, hy] at ea
      rw [s_dl_n hy, s_dl_n (x := FP.dadd x y) ea]
      unfold s_plus
      rw [fin_f hx, if_pos rfl]
      split
      · rename_i z
        rcases z with z | z
        · rw [hC] at z; cases z
        · exact z.symm
      · rfl
    | inf t =>
      have ny : FP.Core.val64 y ≠ .nan := by rw [hy]; exact fun z => by cases z
      rw [s_dl_o ny]
      unfold s_plus
      rw [fin_f hx, fin_f hy, if_pos rfl]
      by_cases z : s = t
      · subst z
        have e := t_inj (x := x) (y := y) (congrArg UInt64.toInt64 (FP.Core.val64_inj nx (hx.trans hy.symm)))
        rw [if_pos (Or.inr (congrArg UInt64.toInt64 e))]
        have ea : FP.Core.val64 (FP.dadd x y) = .inf s := by
          rw [ea, hx, hy]
          show FP.Core.round FP.Core.b64 (if s = s then .inf s else .nan) = _
          rw [if_pos rfl]
          rfl
        have e2 := FP.Core.val64_inj nx (hx.trans ea.symm)
        rw [← e2]
        exact s_dl_o nx
      · have ea : FP.Core.val64 (FP.dadd x y) = .nan := by
          rw [ea, hx, hy]
          show FP.Core.round FP.Core.b64 (if s = t then .inf s else .nan) = _
          rw [if_neg z]
          rfl
        rw [s_dl_n ea, if_neg]
        rintro (q | q)
        · cases q
        · have := t_inj q
          rw [this] at hx
          rw [hx] at hy
          injection hy with hy
          exact z hy
    | fin t d r =>
      have ny : FP.Core.val64 y ≠ .nan := by rw [hy]; exact fun z => by cases z
      rw [s_dl_o ny]
      have ea : FP.Core.val64 (FP.dadd x y) = .inf s := by rw [ea, hx, hy]; rfl
      have e2 := FP.Core.val64_inj nx (hx.trans ea.symm)
      unfold s_plus
      rw [fin_f hx, fin_t hy, if_pos rfl, if_pos (Or.inl rfl), ← e2]
      exact s_dl_o nx
  | fin s c q =>
    have nx : FP.Core.val64 x ≠ .nan := by rw [hx]; exact fun z => by cases z
    rw [s_dl_o nx]
    cases hy : FP.Core.val64 y with
    | nan =>
      rw [hx, hy] at ea
      rw [s_dl_n hy, s_dl_n (x := FP.dadd x y) ea]
      unfold s_plus
      rw [fin_t hx, hC, if_neg (by decide), if_pos rfl]
    | inf t =>
      have ny : FP.Core.val64 y ≠ .nan := by rw [hy]; exact fun z => by cases z
      rw [s_dl_o ny]
      have ea : FP.Core.val64 (FP.dadd x y) = .inf t := by rw [ea, hx, hy]; rfl
      have e2 := FP.Core.val64_inj ny (hy.trans ea.symm)
      unfold s_plus
      rw [fin_t hx, fin_f hy, if_neg (by decide), if_pos rfl, ← e2]
      exact s_dl_o ny
    | fin t d r =>
      have ny : FP.Core.val64 y ≠ .nan := by rw [hy]; exact fun z => by cases z
      rw [s_dl_o ny]
      unfold s_plus
      rw [fin_t hx, fin_t hy, if_neg (by decide), if_neg (by decide)]
      by_cases ne : x = s_M0 ∧ y = s_M0
      · rw [ne.1, ne.2, if_pos ⟨m0_i, m0_i⟩, add_mm, s_dl_o (by rw [m0_v]; exact fun z => by cases z), m0_i]
      · rw [if_neg (fun z => ne ⟨t_inj (z.1.trans m0_i.symm), t_inj (z.2.trans m0_i.symm)⟩), add_num nx ny ne, s_b_o (add_nm hx hy ne)]
        exact s_dl_o (nn_addf ⟨_, _, hx, rfl⟩ ⟨_, _, hy, rfl⟩)
theorem dl_num {v : Int64} (h : s_fin v = true) : s_dl v.toUInt64 = v := by
  obtain ⟨c, q, e, -⟩ := dv_num h
  exact s_dl_o (by rw [e]; exact fun z => by cases z)
theorem dv_ord {x : UInt64} (hx : FP.Core.val64 x = .nan) : FP.dcmp x x = none := by
  show FP.Core.order (FP.Core.val64 x) (FP.Core.val64 x) = _
  rw [hx]
  rfl
set_option maxHeartbeats 4000000 in
set_option maxRecDepth 20000 in
theorem k_isNaNn {Z : q_Z} {m : q_Mm} {d : Nat} {x : UInt64} (hx : FP.Core.val64 x = .nan) : q_V (q_g Z) mJxe99ae_isNaN_b9ae7 (d) 0 0 0 [some (.double x), none] [] (q_W Z m) (q_P Z fun r m2 => r = some (.int (q_b true)) ∧ m2 = m) := by
  refine q_dload_n (pc' := 1) dJxe99ae_isNaN_b9ae7_0 rfl rfl ?_
  refine q_dload_n (pc' := 2) dJxe99ae_isNaN_b9ae7_1 rfl rfl ?_
  refine q_dcmp (pc' := 3) dJxe99ae_isNaN_b9ae7_2 rfl ?_
  rw [dv_ord hx]
  refine q_if_eq (tgt := 10) (pc' := 6) dJxe99ae_isNaN_b9ae7_3 (by decide) rfl (fun c_3 => ?_) (fun c_3 => ?_)
  · exact absurd c_3 (by decide)
  refine q_iconst (pc' := 7) (v := nI 1) dJxe99ae_isNaN_b9ae7_6 rfl rfl ?_
  refine q_goto (pc' := 11) dJxe99ae_isNaN_b9ae7_7 (by decide) ?_
  refine q_iret dJxe99ae_isNaN_b9ae7_11 rfl (by first | exact q_nb0 | exact q_nb1 | exact q_nb _) ⟨_, rfl, rfl, rfl⟩
set_option maxHeartbeats 4000000 in
set_option maxRecDepth 20000 in
theorem k_d2lA {Z : q_Z} {m : q_Mm} {d : Nat} {x : UInt64} : q_V (q_g Z) mJxe99ae_doubleToLongBits_ccdee (d+1) 0 0 0 [some (.double x), none] [] (q_W Z m) (q_P Z fun r m2 => r = some (.long (s_dl x)) ∧ m2 = m) := by
  by_cases hx : FP.Core.val64 x = .nan
  rotate_left
  · rw [s_dl_o hx]
    exact k_d2l hx
  rw [s_dl_n hx]
  refine q_dload_n (pc' := 1) dJxe99ae_doubleToLongBits_ccdee_0 rfl rfl ?_
  refine h_callS (pc' := 4) (M' := mJxe99ae_isNaN_b9ae7) (As := [_]) dJxe99ae_doubleToLongBits_ccdee_1 iJxe99ae_isNaN_b9ae7 lJxe99ae_122 rfl rfl (Nat.le_of_ble_eq_true rfl) (Nat.le_of_ble_eq_true rfl) rfl rfl (k_isNaNn hx) (fun r m' hq => ?_)
  obtain ⟨rfl, hmm⟩ := hq
  subst m'
  refine q_if_neB (tgt := 12) (pc' := 7) dJxe99ae_doubleToLongBits_ccdee_4 (by decide) rfl (fun c_4 => ?_) (fun c_4 => ?_)
  rotate_left
  · cases c_4
  refine q_ldc2 (pc' := 15) dJxe99ae_doubleToLongBits_ccdee_12 kJxe99ae_137 rfl ?_
  refine q_lret dJxe99ae_doubleToLongBits_ccdee_15 rfl ⟨_, rfl, rfl, rfl⟩
