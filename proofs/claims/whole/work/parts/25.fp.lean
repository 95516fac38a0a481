/-! ===== finite doubles, as multiples of the least one ===== -/
/-- x is N times 2 to the -1074, with this sign -/
def q_dv (x : UInt64) (s : Bool) (N : Nat) : Prop := ∃ c q, FP.Core.val64 x = .fin s c q ∧ c * 2 ^ (q + 1074).toNat = N
theorem dv_q {x : UInt64} {s : Bool} {c : Nat} {q : Int} (h : FP.Core.val64 x = .fin s c q) : c < 2 ^ 53 ∧ -1074 ≤ q ∧ q ≤ 971 := by
  have := FP.Core.val64_fits x
  rw [h] at this
  obtain ⟨h1, h2, h3, -⟩ := this
  have e1 : FP.Core.b64.qmin = -1074 := by decide
  have e2 : FP.Core.b64.qmax = 971 := by decide
  rw [e1] at h2; rw [e2] at h3
  exact ⟨h1, h2, h3⟩
theorem dv_veq {A c u : Nat} {e q : Int} (he : -(u : Int) ≤ e) (hq : -(u : Int) ≤ q) (h : A * 2 ^ (e + u).toNat = c * 2 ^ (q + u).toNat) : A * 2 ^ (e - q).toNat = c * 2 ^ (q - e).toNat := by
  obtain ⟨m, hm⟩ : ∃ m : Nat, e + u = m := ⟨(e + u).toNat, by omega⟩
  obtain ⟨n, hn⟩ : ∃ n : Nat, q + u = n := ⟨(q + u).toNat, by omega⟩
  rw [hm, hn, Int.toNat_natCast, Int.toNat_natCast] at h
  have e1 : (e - q).toNat = m - n := by omega
  have e2 : (q - e).toNat = n - m := by omega
  rw [e1, e2]
  rcases Nat.le_total n m with z | z
  · rw [show n - m = 0 by omega]
    apply Nat.eq_of_mul_eq_mul_right (Nat.two_pow_pos n)
    rw [Nat.mul_assoc, ← Nat.pow_add, show m - n + n = m by omega, h, Nat.pow_zero, Nat.mul_one]
  · rw [show m - n = 0 by omega]
    apply Nat.eq_of_mul_eq_mul_right (Nat.two_pow_pos m)
    rw [Nat.pow_zero, Nat.mul_one, h, Nat.mul_assoc, ← Nat.pow_add, show n - m + m = n by omega]
theorem dv_rep (s : Bool) {c : Nat} (hc : c < 2 ^ 53) : ∀ b, b ≤ 2045 → ∀ c, c < 2 ^ 53 → ∃ c2 q2, FP.Core.fits FP.Core.b64 (.fin s c2 q2) ∧ c2 * 2 ^ (q2 + 1074).toNat = c * 2 ^ b
  | 0, _, c, hc => ⟨c, -1074, ⟨hc, by decide, by decide, Or.inl (by decide)⟩, by simp⟩
  | b + 1, hb, c, hc => by
    rcases Nat.lt_or_ge c (2 ^ 52) with h | h
    · obtain ⟨c2, q2, h1, h2⟩ := dv_rep s hc b (by omega) (2 * c) (by omega)
      refine ⟨c2, q2, h1, h2.trans ?_⟩
      rw [Nat.pow_succ, Nat.mul_comm 2 c, Nat.mul_assoc, Nat.mul_comm 2]
    · refine ⟨c, (b : Int) + 1 - 1074, ⟨hc, ?_, ?_, Or.inr h⟩, ?_⟩
      · show (-1074 : Int) ≤ _
        omega
      · show _ ≤ (971 : Int)
        omega
      · rw [show ((b : Int) + 1 - 1074 + 1074).toNat = b + 1 by omega]
theorem dv_round (s : Bool) {A c b : Nat} {e : Int} (he : -2148 ≤ e) (hc : c < 2 ^ 53) (hb : b ≤ 2045) (h : A * 2 ^ (e + 2148).toNat = c * 2 ^ b * 2 ^ 1074) : ∃ c2 q2, FP.Core.roundRatio FP.Core.b64 s A 1 e = .fin s c2 q2 ∧ c2 * 2 ^ (q2 + 1074).toNat = c * 2 ^ b := by
  obtain ⟨c2, q2, h1, h2⟩ := dv_rep s hc b hb c hc
  refine ⟨c2, q2, FP.Core.roundRatio_exact FP.Core.good_b64 (by decide) h1 ?_, h2⟩
  have hq : -1074 ≤ q2 := h1.2.1
  rw [Nat.mul_one]
  refine dv_veq (u := 2148) (by omega) (by omega) ?_
  show A * 2 ^ (e + 2148).toNat = c2 * 2 ^ (q2 + 2148).toNat
  rw [h, ← h2, Nat.mul_assoc, ← Nat.pow_add]
  congr 2
  omega
theorem dv_unique {x y : UInt64} {s : Bool} {N : Nat} (hx : q_dv x s N) (hy : q_dv y s N) : x = y := by
  obtain ⟨c, q, h1, h2⟩ := hx
  obtain ⟨d, r, h3, h4⟩ := hy
  have a1 := dv_q h1
  have a2 := dv_q h3
  have e1 := FP.Core.round_of_fits FP.Core.good_b64 (FP.Core.val64_fits x)
  have e2 := FP.Core.round_of_fits FP.Core.good_b64 (FP.Core.val64_fits y)
  refine FP.Core.val64_inj (by rw [h1]; exact fun z => by cases z) ?_
  rw [← e1, ← e2, h1, h3]
  show FP.Core.roundRatio FP.Core.b64 s c 1 q = FP.Core.roundRatio FP.Core.b64 s d 1 r
  refine FP.Core.roundRatio_congr (by decide) (by decide) ?_
  rw [Nat.mul_one, Nat.mul_one]
  exact dv_veq (u := 1074) (by omega) (by omega) (by rw [show ((1074 : Nat) : Int) = 1074 from rfl, h2, h4])
theorem dv_mul {x y : UInt64} {s t : Bool} {N M c b : Nat} (hx : q_dv x s N) (hy : q_dv y t M) (hc : c < 2 ^ 53) (hb : b ≤ 2045) (h : N * M = c * 2 ^ b * 2 ^ 1074) : q_dv (FP.Core.dmul x y) (s != t) (c * 2 ^ b) := by
  obtain ⟨c1, q1, h1, h2⟩ := hx
  obtain ⟨d1, r1, h3, h4⟩ := hy
  have a1 := dv_q h1
  have a2 := dv_q h3
  have e : FP.Core.val64 (FP.Core.dmul x y) = FP.Core.roundRatio FP.Core.b64 (s != t) (c1 * d1) 1 (q1 + r1) := by rw [FP.Core.val64_dmul, h1, h3]; rfl
  obtain ⟨c2, q2, h5, h6⟩ := dv_round (s != t) (A := c1 * d1) (e := q1 + r1) (by omega) hc hb (by
    rw [← h, ← h2, ← h4, show (q1 + r1 + 2148).toNat = (q1 + 1074).toNat + (r1 + 1074).toNat by omega, Nat.pow_add]
    simp only [Nat.mul_assoc, Nat.mul_left_comm, Nat.mul_comm])
  exact ⟨c2, q2, e.trans h5, h6⟩
theorem dv_l2d {v : Int64} (h : v.toInt.natAbs < 2 ^ 53) : q_dv (FP.Core.l2d v) (decide (v.toInt < 0)) (v.toInt.natAbs * 2 ^ 1074) := by
  have e : FP.Core.val64 (FP.Core.l2d v) = FP.Core.roundRatio FP.Core.b64 (decide (v.toInt < 0)) v.toInt.natAbs 1 0 := by rw [FP.Core.val64_l2d]; rfl
  obtain ⟨c2, q2, h5, h6⟩ := dv_round (decide (v.toInt < 0)) (A := v.toInt.natAbs) (e := 0) (b := 1074) (by decide) h (by decide) (by
    rw [show ((0 : Int) + 2148).toNat = 1074 + 1074 from rfl, Nat.pow_add, Nat.mul_assoc])
  exact ⟨c2, q2, e.trans h5, h6⟩
theorem dv_neg {x : UInt64} {s : Bool} {N : Nat} (hx : q_dv x s N) : q_dv (FP.Core.dneg x) (!s) N := by
  obtain ⟨c, q, h1, h2⟩ := hx
  exact ⟨c, q, by rw [FP.Core.val64_dneg, h1]; rfl, h2⟩
theorem dv_nn {x : UInt64} {s : Bool} {N : Nat} (hx : q_dv x s N) : FP.Core.val64 x ≠ .nan := by
  obtain ⟨c, q, h1, h2⟩ := hx
  rw [h1]; exact fun z => by cases z
theorem dv_0 : q_dv FP.Core.dconst0 false 0 := ⟨0, _, FP.Core.val64_dconst0, Nat.zero_mul _⟩
theorem dv_units {c : Nat} {q r : Int} (hq : -1074 ≤ q) (hr : -1074 ≤ r) (h : r ≤ q) : FP.Core.inUnits c q r * 2 ^ (r + 1074).toNat = c * 2 ^ (q + 1074).toNat := by
  unfold FP.Core.inUnits
  rw [Nat.mul_assoc, ← Nat.pow_add]
  congr 2
  omega
theorem dv_cmp {x y : UInt64} {s t : Bool} {N M : Nat} (hx : q_dv x s N) (hy : q_dv y t M) : FP.Core.dcmp x y = some (compare (FP.Core.signed s N) (FP.Core.signed t M)) := by
  obtain ⟨c, q, h1, h2⟩ := hx
  obtain ⟨d, r, h3, h4⟩ := hy
  have a1 := dv_q h1
  have a2 := dv_q h3
  have e1 := dv_units (c := c) a1.2.1 (r := min q r) (by omega) (by omega)
  have e2 := dv_units (c := d) a2.2.1 (r := min q r) (by omega) (by omega)
  show FP.Core.order (FP.Core.val64 x) (FP.Core.val64 y) = _
  rw [h1, h3, ← h2, ← h4, ← e1, ← e2, FP.Core.signed_mul, FP.Core.signed_mul]
  show some _ = some _
  rw [FP.Core.compare_mul_pos]
  exact Int.natCast_pos.mpr (Nat.two_pow_pos _)
theorem dv_d2l {x : UInt64} {N : Nat} (hx : q_dv x false N) (h : N / 2 ^ 1074 < 2 ^ 63) : FP.Core.d2l x = Int64.ofInt ((N / 2 ^ 1074 : Nat) : Int) := by
  obtain ⟨c, q, h1, h2⟩ := hx
  have a1 := dv_q h1
  have e : FP.Core.truncate false c q = ((N / 2 ^ 1074 : Nat) : Int) := by
    show (((c * 2 ^ q.toNat / 2 ^ (-q).toNat : Nat) : Int)) = _
    congr 1
    rw [← h2]
    rcases Int.le_total 0 q with z | z
    · rw [show (-q).toNat = 0 by omega, Nat.pow_zero, Nat.div_one, show (q + 1074).toNat = q.toNat + 1074 by omega, Nat.pow_add, ← Nat.mul_assoc, Nat.mul_div_cancel _ (Nat.two_pow_pos 1074)]
    · rw [show q.toNat = 0 by omega, Nat.pow_zero, Nat.mul_one, show (2 : Nat) ^ 1074 = 2 ^ (-q).toNat * 2 ^ (q + 1074).toNat by rw [← Nat.pow_add]; congr 1; omega, Nat.mul_div_mul_right _ _ (Nat.two_pow_pos _)]
  show Int64.ofInt (FP.Core.toInt (-2 ^ 63) (2 ^ 63 - 1) (FP.Core.val64 x)) = _
  rw [h1]
  show Int64.ofInt (max (-2 ^ 63) (min (2 ^ 63 - 1) (FP.Core.truncate false c q))) = _
  rw [e]
  congr 1
  omega
def s_mag (n : Nat) : Nat := if n / 2 ^ 52 % 2048 = 0 then n % 2 ^ 52 else (2 ^ 52 + n % 2 ^ 52) * 2 ^ (n / 2 ^ 52 % 2048 - 1)
theorem dv_bits {x : UInt64} (h : x.toNat / 2 ^ 52 % 2048 ≠ 2047) : q_dv x (decide (2 ^ 63 ≤ x.toNat)) (s_mag x.toNat) := by
  have hlt := x.toNat_lt
  have e : FP.Core.val64 x = FP.Core.decode FP.Core.b64 x.toNat := rfl
  have eT : FP.Core.fieldT FP.Core.b64 x.toNat = x.toNat % 2 ^ 52 := rfl
  have eE : FP.Core.fieldE FP.Core.b64 x.toNat = x.toNat / 2 ^ 52 % 2048 := rfl
  have eS : FP.Core.fieldS FP.Core.b64 x.toNat = decide (2 ^ 63 ≤ x.toNat) := by
    show (x.toNat / 2 ^ 52 / 2048 % 2 == 1) = _
    rw [Bool.eq_iff_iff, beq_iff_eq, decide_eq_true_iff]
    omega
  unfold s_mag
  rw [FP.Core.decode, eE, eT, eS, if_neg (show ¬ x.toNat / 2 ^ 52 % 2048 = FP.Core.b64.exps - 1 from h)] at e
  by_cases z : x.toNat / 2 ^ 52 % 2048 = 0
  · rw [if_pos z] at e ⊢
    exact ⟨_, _, e, by rw [show (FP.Core.b64.qmin + 1074).toNat = 0 from rfl, Nat.pow_zero, Nat.mul_one]⟩
  · rw [if_neg z] at e ⊢
    refine ⟨_, _, e, ?_⟩
    rw [show (FP.Core.b64.qmin + (((x.toNat / 2 ^ 52 % 2048 : Nat) : Int) - 1) + 1074).toNat = x.toNat / 2 ^ 52 % 2048 - 1 by
      rw [show FP.Core.b64.qmin = -1074 by decide]; omega]
    rfl
theorem dv_n64 {x : UInt64} (h : FP.Core.val64 x ≠ .nan) : vf_n64 x := by
  have hlt := x.toNat_lt
  show x &&& 0x7fffffffffffffff ≤ 0x7ff0000000000000
  rw [UInt64.le_iff_toNat_le, UInt64.toNat_and, show (0x7fffffffffffffff : UInt64).toNat = 2 ^ 63 - 1 from rfl, Nat.and_two_pow_sub_one_eq_mod, show (0x7ff0000000000000 : UInt64).toNat = 2047 * 2 ^ 52 from rfl]
  have e : FP.Core.val64 x = FP.Core.decode FP.Core.b64 x.toNat := rfl
  have eT : FP.Core.fieldT FP.Core.b64 x.toNat = x.toNat % 2 ^ 52 := rfl
  have eE : FP.Core.fieldE FP.Core.b64 x.toNat = x.toNat / 2 ^ 52 % 2048 := rfl
  rw [FP.Core.decode, eE, eT] at e
  by_cases z : x.toNat / 2 ^ 52 % 2048 = FP.Core.b64.exps - 1
  · rw [if_pos z] at e
    have z : x.toNat / 2 ^ 52 % 2048 = 2047 := z
    by_cases y : x.toNat % 2 ^ 52 = 0
    · omega
    · rw [if_neg y] at e
      exact absurd e h
  · have z : ¬ x.toNat / 2 ^ 52 % 2048 = 2047 := z
    omega
theorem dv_ok {x : UInt64} {s : Bool} {N : Nat} (h : q_dv x s N) : vf_n64 x := dv_n64 (dv_nn h)
theorem dv_up {y z : UInt64} {s : Bool} {c e k : Nat} (hy : q_dv y s (c * 2 ^ e)) (hz : q_dv z false (2 ^ (1074 + k))) (hc : c < 2 ^ 53) (he : e + k ≤ 2045) : q_dv (FP.Core.dmul y z) s (c * 2 ^ (e + k)) := by
  have := dv_mul hy hz hc he (by rw [Nat.add_comm 1074 k, Nat.pow_add, Nat.pow_add]; simp only [Nat.mul_assoc])
  rw [Bool.bne_false] at this
  exact this
theorem dv_dn {y z : UInt64} {s : Bool} {c e k : Nat} (hy : q_dv y s (c * 2 ^ (e + k))) (hz : q_dv z false (2 ^ (1074 - k))) (hc : c < 2 ^ 53) (he : e ≤ 2045) (hk : k ≤ 1074) : q_dv (FP.Core.dmul y z) s (c * 2 ^ e) := by
  have := dv_mul hy hz hc he (by rw [Nat.pow_add, Nat.mul_assoc, Nat.mul_assoc, Nat.mul_assoc, ← Nat.pow_add, show k + (1074 - k) = 1074 by omega])
  rw [Bool.bne_false] at this
  exact this
/-- what Doubles' rows hold -/
def DblOk (m : q_Mm) : Prop := (∀ k, k < 10 → q_dv (m.2.2.2.2 4 k) false (2 ^ (1074 + 2 ^ k)) ∧ q_dv (m.2.2.2.2 5 k) false (2 ^ (1074 - 2 ^ k))) ∧ ∀ k, k < 15 → m.2.2.2.2 2 k = FP.l2d (Int64.ofNat (10 ^ k)) ∧ m.2.2.2.2 3 k = FP.ddiv FP.dconst1 (FP.l2d (Int64.ofNat (10 ^ k)))
set_option maxHeartbeats 4000000 in
set_option maxRecDepth 20000 in
theorem c_scaled_4 {Z : q_Z} {m : q_Mm} {d : Nat} {x : UInt64} {v : Int32} {s : Bool} {n co : Nat} {E : Nat → Nat} (hx : q_dv x s (co * 2 ^ E n)) (hst : ∀ y l k, k < 10 → 2 ^ k ≤ l → l ≤ n → q_dv y s (co * 2 ^ E l) → q_dv (FP.dmul y (m.2.2.2.2 4 k)) s (co * 2 ^ E (l - 2 ^ k))) (hn : n < 2048) (hv : 0 ≤ v ∧ v = nI n) : q_V (q_g Z) mX3_scaled (d) 0 0 0 [some (.ref (q_ad Z 1)), some (.double x), none, some (.int v), none, none, none, none, none, none] [] (q_W Z m) (q_P Z fun r m2 => (∃ y, r = some (.double y) ∧ q_dv y s (co * 2 ^ E 0)) ∧ m2 = m) := by
  refine q_iload_n (pc' := 1) dX3_scaled_0 rfl rfl ?_
  refine q_if_ge (tgt := 11) (pc' := 4) dX3_scaled_1 (by decide) rfl (fun c_1 => ?_) (fun c_1 => ?_)
  rotate_left
  · exact absurd hv.1 c_1
  refine q_aload_n (pc' := 12) dX3_scaled_11 rfl rfl ?_
  refine h_getr (pc' := 15) dX3_scaled_12 fX3_18 rfl rfl rfl ?_
  refine q_astore (pc' := 17) (lv' := [_, _, _, _, _, _, _, _, _, _]) dX3_scaled_15 (by decide) rfl rfl ?_
  refine q_dload_n (pc' := 18) dX3_scaled_17 rfl rfl ?_
  refine q_dstore (pc' := 20) (lv' := [_, _, _, _, _, _, _, _, _, _]) dX3_scaled_18 (by decide) rfl rfl ?_
  refine q_iload_n (pc' := 21) dX3_scaled_20 rfl rfl ?_
  refine q_if_ge (tgt := 29) (pc' := 24) dX3_scaled_21 (by decide) rfl (fun c_21 => ?_) (fun c_21 => ?_)
  rotate_left
  · exact absurd hv.1 c_21
  refine q_iload_n (pc' := 30) dX3_scaled_29 rfl rfl ?_
  refine q_istore (pc' := 32) (lv' := [_, _, _, _, _, _, _, _, _, _]) dX3_scaled_30 (by decide) rfl rfl ?_
  refine q_bipush (pc' := 34) (v := nI 9) dX3_scaled_32 rfl rfl ?_
  refine q_istore (pc' := 36) (lv' := [_, _, _, _, _, _, _, _, _, _]) dX3_scaled_34 (by decide) rfl rfl ?_
  rw [show nI 9 = nI 10 - nI 1 from by decide]
  suffices h : ∀ c l y w, c ≤ 10 → l ≤ n → (l < 2 ^ c ∨ c = 10) → q_dv y s (co * 2 ^ E l) → q_V (q_g Z) mX3_scaled (d) 0 0 36 [some (.ref (q_ad Z 1)), some (.double x), none, some (.int v), some (.ref (q_ad Z 4)), some (.double y), none, some (.int (nI l)), some (.int (nI c - nI 1)), w] [] (q_W Z (m)) (q_P Z fun r m2 => (∃ y, r = some (.double y) ∧ q_dv y s (co * 2 ^ E 0)) ∧ m2 = m) from by
    have h2 := h 10 n x none (by omega) (Nat.le_refl _) (Or.inr rfl) hx
    rw [← hv.2] at h2
    exact h2
  intro c
  induction c with
  | zero =>
    intro l y w hc hl hlc hy
    obtain rfl : l = 0 := by
      rcases hlc with z | z
      · rw [Nat.pow_zero] at z; omega
      · omega
    refine q_iload (pc' := 38) dX3_scaled_36 rfl rfl ?_
    refine q_if_lt (tgt := 80) (pc' := 41) dX3_scaled_38 (by decide) rfl (fun c_38 => ?_) (fun c_38 => ?_)
    · refine q_dload (pc' := 82) dX3_scaled_80 rfl rfl ?_
      refine q_dret dX3_scaled_82 rfl ⟨_, rfl, ⟨y, rfl, hy⟩, rfl⟩
    · exact absurd (by decide) c_38
  | succ k ih =>
    intro l y w hc hl hlc hy
    have h2k : 2 ^ k ≤ 2 ^ 9 := Nat.pow_le_pow_right (by decide) (by omega)
    rw [pk_sub (by omega), Nat.add_sub_cancel]
    refine q_iload (pc' := 38) dX3_scaled_36 rfl rfl ?_
    refine q_if_lt (tgt := 80) (pc' := 41) dX3_scaled_38 (by decide) rfl (fun c_38 => ?_) (fun c_38 => ?_)
    · exact absurd c_38 (nI_pos (by omega))
    refine q_iconst (pc' := 42) (v := nI 1) dX3_scaled_41 rfl rfl ?_
    refine q_iload (pc' := 44) dX3_scaled_42 rfl rfl ?_
    refine q_ishl (pc' := 45) dX3_scaled_44 rfl ?_
    rw [pk_shlN (nI k &&& 31) k (z_sm k (by omega)) (by omega), Nat.one_mul]
    refine q_istore (pc' := 47) (lv' := [_, _, _, _, _, _, _, _, _, _]) dX3_scaled_45 (by decide) rfl rfl ?_
    suffices h : ∀ g l y, l ≤ g → l ≤ n → q_dv y s (co * 2 ^ E l) → q_V (q_g Z) mX3_scaled (d) 0 0 47 [some (.ref (q_ad Z 1)), some (.double x), none, some (.int v), some (.ref (q_ad Z 4)), some (.double y), none, some (.int (nI l)), some (.int (nI k)), some (.int (nI (2 ^ k)))] [] (q_W Z (m)) (q_P Z fun r m2 => (∃ y, r = some (.double y) ∧ q_dv y s (co * 2 ^ E 0)) ∧ m2 = m) from h l l y (Nat.le_refl _) hl hy
    have fin : ∀ l y, l < 2 ^ k → l ≤ n → q_dv y s (co * 2 ^ E l) → q_V (q_g Z) mX3_scaled (d) 0 0 74 [some (.ref (q_ad Z 1)), some (.double x), none, some (.int v), some (.ref (q_ad Z 4)), some (.double y), none, some (.int (nI l)), some (.int (nI k)), some (.int (nI (2 ^ k)))] [] (q_W Z (m)) (q_P Z fun r m2 => (∃ y, r = some (.double y) ∧ q_dv y s (co * 2 ^ E 0)) ∧ m2 = m) := by
      intro l y h1 h2 h3
      refine q_iinc (pc' := 77) (lv' := [_, _, _, _, _, _, _, _, _, _]) dX3_scaled_74 rfl (by decide) rfl rfl ?_
      refine q_goto (pc' := 36) dX3_scaled_77 (by decide) ?_
      rw [z_m1]
      exact ih l y _ (by omega) h2 (Or.inl h1) h3
    intro g
    induction g with
    | zero =>
      intro l y hg hl hy
      have := Nat.two_pow_pos k
      refine q_iload (pc' := 49) dX3_scaled_47 rfl rfl ?_
      refine q_iload (pc' := 51) dX3_scaled_49 rfl rfl ?_
      refine q_icmp_ltN (tgt := 74) (pc' := 54) dX3_scaled_51 (by decide) rfl (by omega) (fun c_51 => ?_) (fun c_51 => ?_)
      · exact fin l y c_51 hl hy
      · omega
    | succ g ihg =>
      intro l y hg hl hy
      have := Nat.two_pow_pos k
      refine q_iload (pc' := 49) dX3_scaled_47 rfl rfl ?_
      refine q_iload (pc' := 51) dX3_scaled_49 rfl rfl ?_
      refine q_icmp_ltN (tgt := 74) (pc' := 54) dX3_scaled_51 (by decide) rfl (by omega) (fun c_51 => ?_) (fun c_51 => ?_)
      · exact fin l y c_51 hl hy
      have hm := hst y l k (by omega) c_51 hl hy
      refine q_dload (pc' := 56) dX3_scaled_54 rfl rfl ?_
      refine q_aload (pc' := 58) dX3_scaled_56 rfl rfl ?_
      refine q_iload (pc' := 60) dX3_scaled_58 rfl rfl ?_
      refine h_dald (pc' := 61) dX3_scaled_60 rfl (rfl) (by omega) (by decide) rfl ?_
      refine q_dmul (pc' := 62) dX3_scaled_61 (dv_ok hm) rfl ?_
      refine q_dstore (pc' := 64) (lv' := [_, _, _, _, _, _, _, _, _, _]) dX3_scaled_62 (by decide) rfl rfl ?_
      refine q_iload (pc' := 66) dX3_scaled_64 rfl rfl ?_
      refine q_iload (pc' := 68) dX3_scaled_66 rfl rfl ?_
      refine q_isubN (pc' := 69) dX3_scaled_68 (by omega) rfl ?_
      refine q_istore (pc' := 71) (lv' := [_, _, _, _, _, _, _, _, _, _]) dX3_scaled_69 (by decide) rfl rfl ?_
      refine q_goto (pc' := 47) dX3_scaled_71 (by decide) ?_
      exact ihg (l - 2 ^ k) _ (by omega) (by omega) hm
set_option maxHeartbeats 4000000 in
set_option maxRecDepth 20000 in
theorem c_scaled_5 {Z : q_Z} {m : q_Mm} {d : Nat} {x : UInt64} {v : Int32} {s : Bool} {n co : Nat} {E : Nat → Nat} (hx : q_dv x s (co * 2 ^ E n)) (hst : ∀ y l k, k < 10 → 2 ^ k ≤ l → l ≤ n → q_dv y s (co * 2 ^ E l) → q_dv (FP.dmul y (m.2.2.2.2 5 k)) s (co * 2 ^ E (l - 2 ^ k))) (hn : n < 2048) (hv : ¬ 0 ≤ v ∧ -v = nI n) : q_V (q_g Z) mX3_scaled (d) 0 0 0 [some (.ref (q_ad Z 1)), some (.double x), none, some (.int v), none, none, none, none, none, none] [] (q_W Z m) (q_P Z fun r m2 => (∃ y, r = some (.double y) ∧ q_dv y s (co * 2 ^ E 0)) ∧ m2 = m) := by
  refine q_iload_n (pc' := 1) dX3_scaled_0 rfl rfl ?_
  refine q_if_ge (tgt := 11) (pc' := 4) dX3_scaled_1 (by decide) rfl (fun c_1 => ?_) (fun c_1 => ?_)
  · exact absurd c_1 hv.1
  refine q_aload_n (pc' := 5) dX3_scaled_4 rfl rfl ?_
  refine h_getr (pc' := 8) dX3_scaled_5 fX3_21 rfl rfl rfl ?_
  refine q_goto (pc' := 15) dX3_scaled_8 (by decide) ?_
  refine q_astore (pc' := 17) (lv' := [_, _, _, _, _, _, _, _, _, _]) dX3_scaled_15 (by decide) rfl rfl ?_
  refine q_dload_n (pc' := 18) dX3_scaled_17 rfl rfl ?_
  refine q_dstore (pc' := 20) (lv' := [_, _, _, _, _, _, _, _, _, _]) dX3_scaled_18 (by decide) rfl rfl ?_
  refine q_iload_n (pc' := 21) dX3_scaled_20 rfl rfl ?_
  refine q_if_ge (tgt := 29) (pc' := 24) dX3_scaled_21 (by decide) rfl (fun c_21 => ?_) (fun c_21 => ?_)
  · exact absurd c_21 hv.1
  refine q_iload_n (pc' := 25) dX3_scaled_24 rfl rfl ?_
  refine q_ineg (pc' := 26) dX3_scaled_25 rfl ?_
  rw [hv.2]
  refine q_goto (pc' := 30) dX3_scaled_26 (by decide) ?_
  refine q_istore (pc' := 32) (lv' := [_, _, _, _, _, _, _, _, _, _]) dX3_scaled_30 (by decide) rfl rfl ?_
  refine q_bipush (pc' := 34) (v := nI 9) dX3_scaled_32 rfl rfl ?_
  refine q_istore (pc' := 36) (lv' := [_, _, _, _, _, _, _, _, _, _]) dX3_scaled_34 (by decide) rfl rfl ?_
  rw [show nI 9 = nI 10 - nI 1 from by decide]
  suffices h : ∀ c l y w, c ≤ 10 → l ≤ n → (l < 2 ^ c ∨ c = 10) → q_dv y s (co * 2 ^ E l) → q_V (q_g Z) mX3_scaled (d) 0 0 36 [some (.ref (q_ad Z 1)), some (.double x), none, some (.int v), some (.ref (q_ad Z 5)), some (.double y), none, some (.int (nI l)), some (.int (nI c - nI 1)), w] [] (q_W Z (m)) (q_P Z fun r m2 => (∃ y, r = some (.double y) ∧ q_dv y s (co * 2 ^ E 0)) ∧ m2 = m) from h 10 n x _ (by omega) (Nat.le_refl _) (Or.inr rfl) hx
  intro c
  induction c with
  | zero =>
    intro l y w hc hl hlc hy
    obtain rfl : l = 0 := by
      rcases hlc with z | z
      · rw [Nat.pow_zero] at z; omega
      · omega
    refine q_iload (pc' := 38) dX3_scaled_36 rfl rfl ?_
    refine q_if_lt (tgt := 80) (pc' := 41) dX3_scaled_38 (by decide) rfl (fun c_38 => ?_) (fun c_38 => ?_)
    · refine q_dload (pc' := 82) dX3_scaled_80 rfl rfl ?_
      refine q_dret dX3_scaled_82 rfl ⟨_, rfl, ⟨y, rfl, hy⟩, rfl⟩
    · exact absurd (by decide) c_38
  | succ k ih =>
    intro l y w hc hl hlc hy
    have h2k : 2 ^ k ≤ 2 ^ 9 := Nat.pow_le_pow_right (by decide) (by omega)
    rw [pk_sub (by omega), Nat.add_sub_cancel]
    refine q_iload (pc' := 38) dX3_scaled_36 rfl rfl ?_
    refine q_if_lt (tgt := 80) (pc' := 41) dX3_scaled_38 (by decide) rfl (fun c_38 => ?_) (fun c_38 => ?_)
    · exact absurd c_38 (nI_pos (by omega))
    refine q_iconst (pc' := 42) (v := nI 1) dX3_scaled_41 rfl rfl ?_
    refine q_iload (pc' := 44) dX3_scaled_42 rfl rfl ?_
    refine q_ishl (pc' := 45) dX3_scaled_44 rfl ?_
    rw [pk_shlN (nI k &&& 31) k (z_sm k (by omega)) (by omega), Nat.one_mul]
    refine q_istore (pc' := 47) (lv' := [_, _, _, _, _, _, _, _, _, _]) dX3_scaled_45 (by decide) rfl rfl ?_
    suffices h : ∀ g l y, l ≤ g → l ≤ n → q_dv y s (co * 2 ^ E l) → q_V (q_g Z) mX3_scaled (d) 0 0 47 [some (.ref (q_ad Z 1)), some (.double x), none, some (.int v), some (.ref (q_ad Z 5)), some (.double y), none, some (.int (nI l)), some (.int (nI k)), some (.int (nI (2 ^ k)))] [] (q_W Z (m)) (q_P Z fun r m2 => (∃ y, r = some (.double y) ∧ q_dv y s (co * 2 ^ E 0)) ∧ m2 = m) from h l l y (Nat.le_refl _) hl hy
    have fin : ∀ l y, l < 2 ^ k → l ≤ n → q_dv y s (co * 2 ^ E l) → q_V (q_g Z) mX3_scaled (d) 0 0 74 [some (.ref (q_ad Z 1)), some (.double x), none, some (.int v), some (.ref (q_ad Z 5)), some (.double y), none, some (.int (nI l)), some (.int (nI k)), some (.int (nI (2 ^ k)))] [] (q_W Z (m)) (q_P Z fun r m2 => (∃ y, r = some (.double y) ∧ q_dv y s (co * 2 ^ E 0)) ∧ m2 = m) := by
      intro l y h1 h2 h3
      refine q_iinc (pc' := 77) (lv' := [_, _, _, _, _, _, _, _, _, _]) dX3_scaled_74 rfl (by decide) rfl rfl ?_
      refine q_goto (pc' := 36) dX3_scaled_77 (by decide) ?_
      rw [z_m1]
      exact ih l y _ (by omega) h2 (Or.inl h1) h3
    intro g
    induction g with
    | zero =>
      intro l y hg hl hy
      have := Nat.two_pow_pos k
      refine q_iload (pc' := 49) dX3_scaled_47 rfl rfl ?_
      refine q_iload (pc' := 51) dX3_scaled_49 rfl rfl ?_
      refine q_icmp_ltN (tgt := 74) (pc' := 54) dX3_scaled_51 (by decide) rfl (by omega) (fun c_51 => ?_) (fun c_51 => ?_)
      · exact fin l y c_51 hl hy
      · omega
    | succ g ihg =>
      intro l y hg hl hy
      have := Nat.two_pow_pos k
      refine q_iload (pc' := 49) dX3_scaled_47 rfl rfl ?_
      refine q_iload (pc' := 51) dX3_scaled_49 rfl rfl ?_
      refine q_icmp_ltN (tgt := 74) (pc' := 54) dX3_scaled_51 (by decide) rfl (by omega) (fun c_51 => ?_) (fun c_51 => ?_)
      · exact fin l y c_51 hl hy
      have hm := hst y l k (by omega) c_51 hl hy
      refine q_dload (pc' := 56) dX3_scaled_54 rfl rfl ?_
      refine q_aload (pc' := 58) dX3_scaled_56 rfl rfl ?_
      refine q_iload (pc' := 60) dX3_scaled_58 rfl rfl ?_
      refine h_dald (pc' := 61) dX3_scaled_60 rfl (rfl) (by omega) (by decide) rfl ?_
      refine q_dmul (pc' := 62) dX3_scaled_61 (dv_ok hm) rfl ?_
      refine q_dstore (pc' := 64) (lv' := [_, _, _, _, _, _, _, _, _, _]) dX3_scaled_62 (by decide) rfl rfl ?_
      refine q_iload (pc' := 66) dX3_scaled_64 rfl rfl ?_
      refine q_iload (pc' := 68) dX3_scaled_66 rfl rfl ?_
      refine q_isubN (pc' := 69) dX3_scaled_68 (by omega) rfl ?_
      refine q_istore (pc' := 71) (lv' := [_, _, _, _, _, _, _, _, _, _]) dX3_scaled_69 (by decide) rfl rfl ?_
      refine q_goto (pc' := 47) dX3_scaled_71 (by decide) ?_
      exact ihg (l - 2 ^ k) _ (by omega) (by omega) hm
theorem c_up {Z : q_Z} {m : q_Mm} {d : Nat} {x : UInt64} {v : Int32} {s : Bool} {n co b : Nat} (hD : DblOk m) (hx : q_dv x s (co * 2 ^ b)) (hc : co < 2 ^ 53) (hb : b + n ≤ 2045) (hv : v = nI n) : q_V (q_g Z) mX3_scaled d 0 0 0 [some (.ref (q_ad Z 1)), some (.double x), none, some (.int v), none, none, none, none, none, none] [] (q_W Z m) (q_P Z fun r m2 => (∃ y, r = some (.double y) ∧ q_dv y s (co * 2 ^ (b + n))) ∧ m2 = m) := by
  refine c_scaled_4 (E := fun l => b + n - l) (n := n) (by rw [Nat.add_sub_cancel]; exact hx) ?_ (by omega) ⟨by rw [hv]; exact nI_pos' (by omega), hv⟩
  intro y l k hk h1 h2 hy
  have hz := (hD.1 k hk).1
  generalize 2 ^ k = t at *
  have := dv_up (k := t) hy hz hc (by omega)
  rw [show b + n - l + t = b + n - (l - t) by omega] at this
  exact this
theorem c_down {Z : q_Z} {m : q_Mm} {d : Nat} {x : UInt64} {v : Int32} {s : Bool} {n co b : Nat} (hD : DblOk m) (hx : q_dv x s (co * 2 ^ (b + n))) (hc : co < 2 ^ 53) (hb : b + n ≤ 2045) (hn : n ≤ 2047) (hv : ¬ 0 ≤ v ∧ -v = nI n) : q_V (q_g Z) mX3_scaled d 0 0 0 [some (.ref (q_ad Z 1)), some (.double x), none, some (.int v), none, none, none, none, none, none] [] (q_W Z m) (q_P Z fun r m2 => (∃ y, r = some (.double y) ∧ q_dv y s (co * 2 ^ b)) ∧ m2 = m) := by
  refine c_scaled_5 (E := fun l => b + l) (n := n) hx ?_ (by omega) hv
  intro y l k hk h1 h2 hy
  have h512 : 2 ^ k ≤ 2 ^ 9 := Nat.pow_le_pow_right (by decide) (by omega)
  have hz := (hD.1 k hk).2
  generalize 2 ^ k = t at *
  refine dv_dn (k := t) ?_ hz hc (by omega) (by omega)
  rw [show b + (l - t) + t = b + l by omega]
  exact hy
