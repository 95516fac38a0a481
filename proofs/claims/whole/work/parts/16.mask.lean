/-! ===== sets of places, a bit each ===== -/
def s_mk (P : Nat → Bool) : Nat → Nat
  | 0 => 0
  | i + 1 => s_mk P i + (if P i = true then 2 ^ i else 0)
theorem s_mk_lt (P : Nat → Bool) : ∀ c, s_mk P c < 2 ^ c
  | 0 => Nat.one_pos
  | c + 1 => by
    have := s_mk_lt P c
    unfold s_mk
    rw [Nat.pow_succ]
    split <;> omega
theorem z_sm (i : Nat) (h : i < 32) : ((nI i &&& 31).toBitVec.smod 32).toNat = i := by
  have : ∀ i : Fin 32, ((nI i.1 &&& 31).toBitVec.smod 32).toNat = i.1 := by decide +kernel
  exact this ⟨i, h⟩
theorem z_or {v i : Nat} (hi : i < 31) (hv : v < 2 ^ i) : nI v ||| nI 1 <<< (nI i &&& 31) = nI (v + 2 ^ i) := by
  have h2 : 2 ^ i ≤ 2 ^ 30 := Nat.pow_le_pow_right (by decide) (by omega)
  rw [pk_shlN (nI i &&& 31) i (z_sm i (by omega)) (by omega), Nat.one_mul]
  apply Int32.toBitVec_inj.mp
  apply BitVec.eq_of_toNat_eq
  rw [Int32.toBitVec_or, BitVec.toNat_or, pk_tn (by omega), pk_tn (by omega), pk_tn (by omega)]
  have := Nat.two_pow_add_eq_or_of_lt hv 1
  rw [Nat.mul_one] at this
  rw [Nat.or_comm, ← this, Nat.add_comm]
theorem s_mk_t {P : Nat → Bool} {i : Nat} (hi : i < 31) (h : P i = true) : nI (s_mk P i) ||| nI 1 <<< (nI i &&& 31) = nI (s_mk P (i + 1)) := by
  rw [z_or hi (s_mk_lt P i)]
  show _ = nI (_ + if P i = true then _ else _)
  rw [if_pos h]
theorem s_mk_f {P : Nat → Bool} {i : Nat} (h : P i = false) : s_mk P (i + 1) = s_mk P i := by
  show _ + (if P i = true then _ else _) = _
  rw [h]; rfl
theorem s_mk_bit (P : Nat → Bool) (i : Nat) : ∀ c, s_mk P c / 2 ^ i % 2 = if i < c ∧ P i = true then 1 else 0
  | 0 => by simp [s_mk]
  | c + 1 => by
    have ih := s_mk_bit P i c
    have hl := s_mk_lt P c
    have hp := Nat.two_pow_pos i
    unfold s_mk
    rcases Nat.lt_trichotomy i c with h | h | h
    · have h1 : (s_mk P c + if P c = true then 2 ^ c else 0) / 2 ^ i % 2 = s_mk P c / 2 ^ i % 2 := by
        split
        · have e : 2 ^ c = 2 ^ i * (2 * 2 ^ (c - i - 1)) := by
            rw [← Nat.mul_assoc, Nat.mul_comm (2 ^ i) 2, Nat.mul_assoc, ← Nat.pow_add, ← Nat.pow_succ']
            congr 1; omega
          rw [e, Nat.add_mul_div_left _ _ hp, Nat.add_mul_mod_self_left]
        · rw [Nat.add_zero]
      rw [h1, ih]
      by_cases q : P i = true
      · rw [if_pos ⟨h, q⟩, if_pos ⟨by omega, q⟩]
      · rw [if_neg (fun z => q z.2), if_neg (fun z => q z.2)]
    · subst h
      by_cases q : P i = true
      · rw [if_pos q, if_pos ⟨by omega, q⟩, Nat.add_div_right _ hp, Nat.div_eq_of_lt hl]
      · rw [if_neg q, if_neg (fun z => q z.2), Nat.add_zero, Nat.div_eq_of_lt hl]
    · have e : s_mk P c + (if P c = true then 2 ^ c else 0) < 2 ^ i := by
        have : 2 ^ (c + 1) ≤ 2 ^ i := Nat.pow_le_pow_right (by decide) h
        rw [Nat.pow_succ] at this
        split <;> omega
      rw [Nat.div_eq_of_lt e, if_neg (fun z => by omega)]
theorem s_mk_b {P : Nat → Bool} {i c : Nat} (hc : c ≤ 30) (hi : i < 31) : (nI (s_mk P c) >>> (nI i &&& 31)) &&& nI 1 = nI (if i < c ∧ P i = true then 1 else 0) := by
  have hl := s_mk_lt P c
  have : 2 ^ c ≤ 2 ^ 30 := Nat.pow_le_pow_right (by decide) hc
  have h2 : s_mk P c / 2 ^ i ≤ s_mk P c := Nat.div_le_self _ _
  rw [pk_shrN (by omega) (nI i &&& 31) i (z_sm i (by omega)), pk_andN (by omega) 1 rfl, ← s_mk_bit P i c]
theorem s_mk_congr {P Q : Nat → Bool} : ∀ c, (∀ i, i < c → P i = Q i) → s_mk P c = s_mk Q c
  | 0, _ => rfl
  | c + 1, h => by unfold s_mk; rw [s_mk_congr c (fun i hi => h i (by omega)), h c (by omega)]
theorem s_cnt_congr {P Q : Nat → Bool} : ∀ c, (∀ i, i < c → P i = Q i) → s_cnt P c = s_cnt Q c
  | 0, _ => rfl
  | c + 1, h => by unfold s_cnt; rw [s_cnt_congr c (fun i hi => h i (by omega)), h c (by omega)]
theorem kJ6_265 : Cond.constant RJ6 265 1431655765 ∈ tbg := tb 918 (by decide +kernel) (by decide +kernel)
theorem kJ6_266 : Cond.constant RJ6 266 858993459 ∈ tbg := tb 919 (by decide +kernel) (by decide +kernel)
theorem kJ6_267 : Cond.constant RJ6 267 252645135 ∈ tbg := tb 920 (by decide +kernel) (by decide +kernel)
theorem kJ13_314 : Cond.constantLong RJ13 314 6148914691236517205 ∈ tbg := tb 967 (by decide +kernel) (by decide +kernel)
theorem kJ13_316 : Cond.constantLong RJ13 316 3689348814741910323 ∈ tbg := tb 968 (by decide +kernel) (by decide +kernel)
theorem kJ13_318 : Cond.constantLong RJ13 318 1085102592571150095 ∈ tbg := tb 969 (by decide +kernel) (by decide +kernel)
theorem kJxe99ae_137 : Cond.constantLong RJxe99ae 137 9221120237041090560 ∈ tbg := tb 1577 (by decide +kernel) (by decide +kernel)
/-- Integer.bitCount, as its bytecode has it -/
def s_bc (x : Int32) : Int32 :=
  let u (x s : Int32) : Int32 := (x.toUInt32 >>> (s.toUInt32 &&& Int32.toUInt32 31)).toInt32
  let a := x - (u x (nI 1) &&& 1431655765)
  let b := (a &&& 858993459) + (u a (nI 2) &&& 858993459)
  let c := (b + u b (nI 4)) &&& 252645135
  let e := c + u c (nI 8)
  (e + u e (nI 16)) &&& nI 63
def s_pc : Nat → Nat → Nat
  | 0, _ => 0
  | k + 1, v => v % 2 + s_pc k (v / 2)
theorem w_and {m : Nat} (hm : m < 256) (x : Nat) : x &&& (256 * m + m) = 256 * (x / 256 &&& m) + (x % 256 &&& m) := by
  have h1 : (x &&& (256 * m + m)) / 256 = x / 256 &&& m := by
    have := @Nat.shiftRight_and_distrib 8 x (256 * m + m)
    rw [Nat.shiftRight_eq_div_pow, Nat.shiftRight_eq_div_pow, Nat.shiftRight_eq_div_pow] at this
    rw [show (2:Nat) ^ 8 = 256 from rfl] at this
    rw [this]; congr 1; omega
  have h2 : (x &&& (256 * m + m)) % 256 = x % 256 &&& m := by
    have := @Nat.and_mod_two_pow x (256 * m + m) 8
    rw [show (2:Nat) ^ 8 = 256 from rfl] at this
    rw [this]; congr 1; omega
  omega
theorem w_lo {x : Nat} (k : Nat) (K : Nat) (hx : x < 2 ^ k) : x &&& K = x &&& (K % 2 ^ k) := by
  have h1 := @Nat.and_mod_two_pow x K k
  have h2 : x &&& K ≤ x := Nat.and_le_left
  rw [Nat.mod_eq_of_lt (by omega), Nat.mod_eq_of_lt hx] at h1
  exact h1
def w_A (h : Nat) : Nat := h - (h / 2 &&& 85)
def w_P (h : Nat) : Nat := (w_A h &&& 51) + (w_A h / 4 &&& 51)
theorem w_1 : ∀ l : Fin 256, ∀ c : Fin 2, (128 * c.1 + l.1 / 2 &&& 85) = (l.1 / 2 &&& 85) := by decide +kernel
theorem w_2 : ∀ l : Fin 256, ∀ c : Fin 4, (64 * c.1 + l.1 / 4 &&& 51) = (l.1 / 4 &&& 51) := by decide +kernel
theorem w_3 : ∀ l : Fin 256, w_P l.1 % 16 ≤ 4 ∧ w_P l.1 / 16 ≤ 4 ∧ w_P l.1 % 16 + w_P l.1 / 16 = s_pc 8 l.1 := by decide +kernel
theorem w_end {X Y : Nat} (p1 : X % 16 ≤ 4) (p2 : X / 16 ≤ 4) (q1 : Y % 16 ≤ 4) (q2 : Y / 16 ≤ 4) : (256 * ((256 * X + Y + (256 * X + Y) / 16) / 256 % 16) + (256 * X + Y + (256 * X + Y) / 16) % 256 % 16 + (256 * ((256 * X + Y + (256 * X + Y) / 16) / 256 % 16) + (256 * X + Y + (256 * X + Y) / 16) % 256 % 16) / 256) % 64 = Y % 16 + Y / 16 + (X % 16 + X / 16) := by
  have h0 : (256 * X + Y) / 16 = 16 * X + Y / 16 := by omega
  have h1 : (256 * X + Y + (256 * X + Y) / 16) / 256 = X + X / 16 := by omega
  have h2 : (256 * X + Y + (256 * X + Y) / 16) % 256 % 16 = Y % 16 + Y / 16 := by omega
  rw [h1, h2, show (X + X / 16) % 16 = X % 16 + X / 16 by omega]
  omega
def w_b (v : Nat) : Nat :=
  let a := v - (v / 2 &&& 21845)
  let b := (a &&& 13107) + (a / 4 &&& 13107)
  let c := (b + b / 16) &&& 3855
  (c + c / 256) % 64
theorem w_pcs : ∀ k v, s_pc (8 + k) v = s_pc 8 (v % 256) + s_pc k (v / 256) := by
  intro k v
  have e : ∀ k v, s_pc (k + 1) v = v % 2 + s_pc k (v / 2) := fun _ _ => rfl
  have e0 : ∀ v, s_pc 0 v = 0 := fun _ => rfl
  rw [show 8 + k = k + 1 + 1 + 1 + 1 + 1 + 1 + 1 + 1 by omega]
  simp only [e, e0, Nat.div_div_eq_div_mul]
  have : v / (2 * 2 * 2 * 2 * 2 * 2 * 2 * 2) = v / 256 := rfl
  simp only [this]
  omega
theorem w_bv {v : Nat} (hv : v < 65536) : w_b v = s_pc 16 v := by
  have hA : ∀ h, w_A h ≤ h := fun h => Nat.sub_le _ _
  have b1 : v / 2 &&& 21845 = 256 * (v / 256 / 2 &&& 85) + (v % 256 / 2 &&& 85) := by
    have := w_and (m := 85) (by decide) (v / 2)
    rw [show 256 * 85 + 85 = 21845 from rfl] at this
    rw [this, show v / 2 / 256 = v / 256 / 2 by omega, show v / 2 % 256 = 128 * (v / 256 % 2) + v % 256 / 2 by omega]
    have w1 : 128 * (v / 256 % 2) + v % 256 / 2 &&& 85 = v % 256 / 2 &&& 85 := w_1 ⟨v % 256, Nat.mod_lt _ (by decide)⟩ ⟨v / 256 % 2, Nat.mod_lt _ (by decide)⟩
    rw [w1]
  have a1 : v - (v / 2 &&& 21845) = 256 * w_A (v / 256) + w_A (v % 256) := by
    have h1 : (v / 256 / 2 &&& 85) ≤ v / 256 / 2 := Nat.and_le_left
    have h2 : (v % 256 / 2 &&& 85) ≤ v % 256 / 2 := Nat.and_le_left
    rw [b1]; unfold w_A; omega
  have g : ∀ A B : Nat, A < 256 → B < 256 → ((256 * A + B) &&& 13107) + ((256 * A + B) / 4 &&& 13107) = 256 * ((A &&& 51) + (A / 4 &&& 51)) + ((B &&& 51) + (B / 4 &&& 51)) := by
    intro A B hA hB
    have e1 := w_and (m := 51) (by decide) (256 * A + B)
    have e2 := w_and (m := 51) (by decide) ((256 * A + B) / 4)
    rw [show 256 * 51 + 51 = 13107 from rfl] at e1 e2
    have w2 : 64 * (A % 4) + B / 4 &&& 51 = B / 4 &&& 51 := w_2 ⟨B, hB⟩ ⟨A % 4, Nat.mod_lt _ (by decide)⟩
    rw [e1, e2, show (256 * A + B) / 256 = A by omega, show (256 * A + B) % 256 = B by omega, show (256 * A + B) / 4 / 256 = A / 4 by omega, show (256 * A + B) / 4 % 256 = 64 * (A % 4) + B / 4 by omega, w2]
    omega
  have hh := hA (v / 256)
  have hl := hA (v % 256)
  have a2 := g (w_A (v / 256)) (w_A (v % 256)) (by omega) (by omega)
  obtain ⟨p1, p2, p3⟩ := w_3 ⟨v / 256, by omega⟩
  obtain ⟨q1, q2, q3⟩ := w_3 ⟨v % 256, by omega⟩
  have a3 := w_and (m := 15) (by decide) (256 * w_P (v / 256) + w_P (v % 256) + (256 * w_P (v / 256) + w_P (v % 256)) / 16)
  rw [show 256 * 15 + 15 = 3855 from rfl, Nat.and_two_pow_sub_one_eq_mod _ 4, Nat.and_two_pow_sub_one_eq_mod _ 4] at a3
  unfold w_b
  simp only []
  rw [a1, a2]
  show ((256 * w_P (v / 256) + w_P (v % 256) + (256 * w_P (v / 256) + w_P (v % 256)) / 16 &&& 3855) + (256 * w_P (v / 256) + w_P (v % 256) + (256 * w_P (v / 256) + w_P (v % 256)) / 16 &&& 3855) / 256) % 64 = _
  rw [a3, show s_pc 16 v = s_pc 8 (v % 256) + s_pc 8 (v / 256) from w_pcs 8 v, ← p3, ← q3]
  simp only []
  exact w_end p1 p2 q1 q2
theorem w_andN {a b : Nat} (ha : a < 2 ^ 32) (hb : b < 2 ^ 32) : nI a &&& nI b = nI (a &&& b) := by
  have h2 : a &&& b ≤ a := Nat.and_le_left
  apply Int32.toBitVec_inj.mp
  apply BitVec.eq_of_toNat_eq
  rw [Int32.toBitVec_and, BitVec.toNat_and, pk_tn ha, pk_tn hb, pk_tn (by omega)]
theorem s_bc_n {v : Nat} (h : v < 65536) : s_bc (nI v) = nI (s_pc 16 v) := by
  have lo : ∀ x K : Nat, x < 65536 → K < 2 ^ 32 → nI x &&& nI K = nI (x &&& (K % 65536)) := fun x K hx hK => by
    rw [w_andN (by omega) hK, w_lo 16 K hx]
  have h1 : (v / 2 &&& 21845) ≤ v / 2 := Nat.and_le_left
  rw [← w_bv h]
  unfold s_bc w_b
  simp only []
  rw [pk_ushrN (by omega) (nI 1) 1 rfl, show (1431655765 : Int32) = nI 1431655765 from rfl, show (858993459 : Int32) = nI 858993459 from rfl, show (252645135 : Int32) = nI 252645135 from rfl, lo _ _ (by omega) (by decide), show 2 ^ 1 = 2 from rfl, show 1431655765 % 65536 = 21845 from rfl, pk_sub (by omega)]
  generalize ha : v - (v / 2 &&& 21845) = a
  rw [pk_ushrN (by omega) (nI 2) 2 rfl, lo a _ (by omega) (by decide), lo _ _ (by omega) (by decide), nI_add, show 2 ^ 2 = 4 from rfl, show 858993459 % 65536 = 13107 from rfl]
  have h2 : (a &&& 13107) ≤ 13107 := Nat.and_le_right
  have h3 : (a / 4 &&& 13107) ≤ 13107 := Nat.and_le_right
  generalize hb : (a &&& 13107) + (a / 4 &&& 13107) = b
  rw [pk_ushrN (by omega) (nI 4) 4 rfl, nI_add, lo _ _ (by omega) (by decide), show 2 ^ 4 = 16 from rfl, show 252645135 % 65536 = 3855 from rfl]
  have h4 : (b + b / 16 &&& 3855) ≤ 3855 := Nat.and_le_right
  generalize hc : (b + b / 16 &&& 3855) = c
  rw [pk_ushrN (by omega) (nI 8) 8 rfl, nI_add, show 2 ^ 8 = 256 from rfl, pk_ushrN (by omega) (nI 16) 16 rfl, nI_add, show 2 ^ 16 = 65536 from rfl, pk_andN (by omega) 6 rfl, show (c + c / 256) / 65536 = 0 by omega, Nat.add_zero]
theorem s_pc_cnt : ∀ k v, s_pc k v = s_cnt (fun i => decide (v / 2 ^ i % 2 = 1)) k
  | 0, _ => rfl
  | k + 1, v => by
    have sh : ∀ (Q : Nat → Bool) k, s_cnt Q (k + 1) = (if Q 0 = true then 1 else 0) + s_cnt (fun i => Q (i + 1)) k := by
      intro Q k
      induction k with
      | zero => simp [s_cnt]
      | succ k ih => rw [show s_cnt Q (k + 1 + 1) = s_cnt Q (k + 1) + (if Q (k + 1) = true then 1 else 0) from rfl, ih, show s_cnt (fun i => Q (i + 1)) (k + 1) = s_cnt (fun i => Q (i + 1)) k + (if Q (k + 1) = true then 1 else 0) from rfl]; omega
    rw [sh, show s_pc (k + 1) v = v % 2 + s_pc k (v / 2) from rfl, s_pc_cnt k (v / 2)]
    congr 1
    · rw [Nat.pow_zero, Nat.div_one]
      rcases Nat.mod_two_eq_zero_or_one v with h | h <;> simp [h]
    · apply s_cnt_congr
      intro i _
      rw [Nat.pow_succ', Nat.div_div_eq_div_mul]
theorem s_cnt_ext {P : Nat → Bool} {c : Nat} : ∀ k, s_cnt (fun i => decide (i < c) && P i) (c + k) = s_cnt P c
  | 0 => s_cnt_congr c (fun i hi => by simp [hi])
  | k + 1 => by
    rw [← Nat.add_assoc, s_cnt_f (by rw [decide_eq_false (by omega)]; rfl), s_cnt_ext k]
theorem s_bc_mk {P : Nat → Bool} {c : Nat} (h : c ≤ 16) : s_bc (nI (s_mk P c)) = nI (s_cnt P c) := by
  have hl := s_mk_lt P c
  have : 2 ^ c ≤ 2 ^ 16 := Nat.pow_le_pow_right (by decide) h
  rw [s_bc_n (by omega), s_pc_cnt, ← s_cnt_ext (P := P) (c := c) (16 - c), show c + (16 - c) = 16 by omega]
  congr 1
  apply s_cnt_congr
  intro i _
  rw [s_mk_bit]
  by_cases q : i < c <;> by_cases z : P i = true <;> simp [q, z]
theorem s_miss_mk (hi : Nat → Int32) (n : Nat) (ps : Nat → Int32) : ∀ c, c ≤ 30 → s_miss hi n ps c = nI (s_mk (fun i => !decide (s_code hi n (ps i) < n)) c)
  | 0, _ => rfl
  | c + 1, h => by
    unfold s_miss
    rw [s_miss_mk hi n ps c (by omega)]
    by_cases q : s_code hi n (ps c) < n
    · rw [if_pos q, s_mk_f (by simp [q])]
    · rw [if_neg q]
      exact s_mk_t (by omega) (by simp [q])
set_option maxHeartbeats 4000000 in
set_option maxRecDepth 20000 in
theorem c_bitCount {Z : q_Z} {m : q_Mm} {d : Nat} {x : Int32} : q_V (q_g Z) mJ6_bitCount_0f7a4 (d) 0 0 0 [some (.int x)] [] (q_W Z m) (q_P Z fun r m2 => r = some (.int (s_bc x)) ∧ m2 = m) := by
  refine q_iload_n (pc' := 1) dJ6_bitCount_0f7a4_0 rfl rfl ?_
  refine q_iload_n (pc' := 2) dJ6_bitCount_0f7a4_1 rfl rfl ?_
  refine q_iconst (pc' := 3) (v := nI 1) dJ6_bitCount_0f7a4_2 rfl rfl ?_
  refine q_iushr (pc' := 4) dJ6_bitCount_0f7a4_3 rfl rfl ?_
  refine q_ldcw (pc' := 7) dJ6_bitCount_0f7a4_4 kJ6_265 rfl ?_
  refine q_iand (pc' := 8) dJ6_bitCount_0f7a4_7 rfl ?_
  refine q_isub (pc' := 9) dJ6_bitCount_0f7a4_8 rfl ?_
  refine q_istore_n (pc' := 10) (lv' := [_]) dJ6_bitCount_0f7a4_9 (by decide) rfl rfl ?_
  refine q_iload_n (pc' := 11) dJ6_bitCount_0f7a4_10 rfl rfl ?_
  refine q_ldcw (pc' := 14) dJ6_bitCount_0f7a4_11 kJ6_266 rfl ?_
  refine q_iand (pc' := 15) dJ6_bitCount_0f7a4_14 rfl ?_
  refine q_iload_n (pc' := 16) dJ6_bitCount_0f7a4_15 rfl rfl ?_
  refine q_iconst (pc' := 17) (v := nI 2) dJ6_bitCount_0f7a4_16 rfl rfl ?_
  refine q_iushr (pc' := 18) dJ6_bitCount_0f7a4_17 rfl rfl ?_
  refine q_ldcw (pc' := 21) dJ6_bitCount_0f7a4_18 kJ6_266 rfl ?_
  refine q_iand (pc' := 22) dJ6_bitCount_0f7a4_21 rfl ?_
  refine q_iadd (pc' := 23) dJ6_bitCount_0f7a4_22 rfl ?_
  refine q_istore_n (pc' := 24) (lv' := [_]) dJ6_bitCount_0f7a4_23 (by decide) rfl rfl ?_
  refine q_iload_n (pc' := 25) dJ6_bitCount_0f7a4_24 rfl rfl ?_
  refine q_iload_n (pc' := 26) dJ6_bitCount_0f7a4_25 rfl rfl ?_
  refine q_iconst (pc' := 27) (v := nI 4) dJ6_bitCount_0f7a4_26 rfl rfl ?_
  refine q_iushr (pc' := 28) dJ6_bitCount_0f7a4_27 rfl rfl ?_
  refine q_iadd (pc' := 29) dJ6_bitCount_0f7a4_28 rfl ?_
  refine q_ldcw (pc' := 32) dJ6_bitCount_0f7a4_29 kJ6_267 rfl ?_
  refine q_iand (pc' := 33) dJ6_bitCount_0f7a4_32 rfl ?_
  refine q_istore_n (pc' := 34) (lv' := [_]) dJ6_bitCount_0f7a4_33 (by decide) rfl rfl ?_
  refine q_iload_n (pc' := 35) dJ6_bitCount_0f7a4_34 rfl rfl ?_
  refine q_iload_n (pc' := 36) dJ6_bitCount_0f7a4_35 rfl rfl ?_
  refine q_bipush (pc' := 38) (v := nI 8) dJ6_bitCount_0f7a4_36 rfl rfl ?_
  refine q_iushr (pc' := 39) dJ6_bitCount_0f7a4_38 rfl rfl ?_
  refine q_iadd (pc' := 40) dJ6_bitCount_0f7a4_39 rfl ?_
  refine q_istore_n (pc' := 41) (lv' := [_]) dJ6_bitCount_0f7a4_40 (by decide) rfl rfl ?_
  refine q_iload_n (pc' := 42) dJ6_bitCount_0f7a4_41 rfl rfl ?_
  refine q_iload_n (pc' := 43) dJ6_bitCount_0f7a4_42 rfl rfl ?_
  refine q_bipush (pc' := 45) (v := nI 16) dJ6_bitCount_0f7a4_43 rfl rfl ?_
  refine q_iushr (pc' := 46) dJ6_bitCount_0f7a4_45 rfl rfl ?_
  refine q_iadd (pc' := 47) dJ6_bitCount_0f7a4_46 rfl ?_
  refine q_istore_n (pc' := 48) (lv' := [_]) dJ6_bitCount_0f7a4_47 (by decide) rfl rfl ?_
  refine q_iload_n (pc' := 49) dJ6_bitCount_0f7a4_48 rfl rfl ?_
  refine q_bipush (pc' := 51) (v := nI 63) dJ6_bitCount_0f7a4_49 rfl rfl ?_
  refine q_iand (pc' := 52) dJ6_bitCount_0f7a4_51 rfl ?_
  refine q_iret dJ6_bitCount_0f7a4_52 rfl rfl ⟨_, rfl, rfl, rfl⟩
