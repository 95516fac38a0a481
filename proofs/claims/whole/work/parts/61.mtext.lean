/-! ===== the reference: RULES and VALUES of a TEXT ===== -/
theorem z_lowE {k : Nat} (h : k = 1 ∨ k = 4) : (some (Value.int (nI 1)) : Option Value) = some (.int (q_low k)) := by rcases h with rfl | rfl <;> rfl
theorem z_highE {k : Nat} (h : k = 0 ∨ k = 1 ∨ k = 3) : (some (Value.int (nI 16)) : Option Value) = some (.int (q_high k)) := by rcases h with rfl | rfl | rfl <;> rfl
theorem z_usE {k : Nat} (h : k = 1 ∨ k = 4) : (some (Value.int (nI 4)) : Option Value) = some (.int (nI (s_usual k))) := by rcases h with rfl | rfl <;> rfl
set_option maxHeartbeats 4000000 in
set_option maxRecDepth 20000 in
theorem k_lowest {Z : q_Z} {m : q_Mm} {d : Nat} {k : Nat} (hk : k < 5) : q_V (q_g Z) mX11_lowest (d) 0 0 0 [some (.int (nI k))] [] (q_W Z m) (q_P Z fun r m2 => r = some (.int (q_low k)) ∧ m2 = m) := by
  refine q_iload_n (pc' := 1) dX11_lowest_0 rfl rfl ?_
  refine q_if_neN (tgt := 8) (pc' := 4) dX11_lowest_1 (by decide) rfl (by omega) (fun c_1 => ?_) (fun c_1 => ?_)
  rotate_left
  · subst c_1
    refine q_iconst (pc' := 5) (v := nI 2) dX11_lowest_4 rfl rfl ?_
    refine q_goto (pc' := 27) dX11_lowest_5 (by decide) ?_
    refine q_iret dX11_lowest_27 rfl rfl ⟨_, rfl, rfl, rfl⟩
  refine q_iload_n (pc' := 9) dX11_lowest_8 rfl rfl ?_
  refine q_iconst (pc' := 10) (v := nI 3) dX11_lowest_9 rfl rfl ?_
  refine q_icmp_neN (tgt := 17) (pc' := 13) dX11_lowest_10 (by decide) rfl (by omega) (fun c_10 => ?_) (fun c_10 => ?_)
  rotate_left
  · subst c_10
    refine q_iconst (pc' := 14) (v := nI 4) dX11_lowest_13 rfl rfl ?_
    refine q_goto (pc' := 27) dX11_lowest_14 (by decide) ?_
    refine q_iret dX11_lowest_27 rfl rfl ⟨_, rfl, rfl, rfl⟩
  refine q_iload_n (pc' := 18) dX11_lowest_17 rfl rfl ?_
  refine q_iconst (pc' := 19) (v := nI 2) dX11_lowest_18 rfl rfl ?_
  refine q_icmp_neN (tgt := 26) (pc' := 22) dX11_lowest_19 (by decide) rfl (by omega) (fun c_19 => ?_) (fun c_19 => ?_)
  rotate_left
  · subst c_19
    refine q_iconst (pc' := 23) (v := nI 0) dX11_lowest_22 rfl rfl ?_
    refine q_goto (pc' := 27) dX11_lowest_23 (by decide) ?_
    refine q_iret dX11_lowest_27 rfl rfl ⟨_, rfl, rfl, rfl⟩
  refine q_iconst (pc' := 27) (v := nI 1) dX11_lowest_26 rfl rfl ?_
  refine q_iret dX11_lowest_27 rfl rfl ⟨_, rfl, z_lowE (by omega), rfl⟩
set_option maxHeartbeats 4000000 in
set_option maxRecDepth 20000 in
theorem k_highest {Z : q_Z} {m : q_Mm} {d : Nat} {k : Nat} (hk : k < 5) : q_V (q_g Z) mX11_highest (d) 0 0 0 [some (.int (nI k))] [] (q_W Z m) (q_P Z fun r m2 => r = some (.int (q_high k)) ∧ m2 = m) := by
  refine q_iload_n (pc' := 1) dX11_highest_0 rfl rfl ?_
  refine q_iconst (pc' := 2) (v := nI 2) dX11_highest_1 rfl rfl ?_
  refine q_icmp_neN (tgt := 10) (pc' := 5) dX11_highest_2 (by decide) rfl (by omega) (fun c_2 => ?_) (fun c_2 => ?_)
  rotate_left
  · subst c_2
    refine q_bipush (pc' := 7) (v := nI 14) dX11_highest_5 rfl rfl ?_
    refine q_goto (pc' := 22) dX11_highest_7 (by decide) ?_
    refine q_iret dX11_highest_22 rfl rfl ⟨_, rfl, rfl, rfl⟩
  refine q_iload_n (pc' := 11) dX11_highest_10 rfl rfl ?_
  refine q_iconst (pc' := 12) (v := nI 4) dX11_highest_11 rfl rfl ?_
  refine q_icmp_neN (tgt := 20) (pc' := 15) dX11_highest_12 (by decide) rfl (by omega) (fun c_12 => ?_) (fun c_12 => ?_)
  rotate_left
  · subst c_12
    refine q_bipush (pc' := 17) (v := nI 8) dX11_highest_15 rfl rfl ?_
    refine q_goto (pc' := 22) dX11_highest_17 (by decide) ?_
    refine q_iret dX11_highest_22 rfl rfl ⟨_, rfl, rfl, rfl⟩
  refine q_bipush (pc' := 22) (v := nI 16) dX11_highest_20 rfl rfl ?_
  refine q_iret dX11_highest_22 rfl rfl ⟨_, rfl, z_highE (by omega), rfl⟩
set_option maxHeartbeats 4000000 in
set_option maxRecDepth 20000 in
theorem k_usual {Z : q_Z} {m : q_Mm} {d : Nat} {k : Nat} (hk : k < 5) : q_V (q_g Z) mX11_usual (d) 0 0 0 [some (.int (nI k))] [] (q_W Z m) (q_P Z fun r m2 => r = some (.int (nI (s_usual k))) ∧ m2 = m) := by
  refine q_iload_n (pc' := 1) dX11_usual_0 rfl rfl ?_
  refine q_if_neN (tgt := 9) (pc' := 4) dX11_usual_1 (by decide) rfl (by omega) (fun c_1 => ?_) (fun c_1 => ?_)
  rotate_left
  · subst c_1
    refine q_bipush (pc' := 6) (v := nI 8) dX11_usual_4 rfl rfl ?_
    refine q_goto (pc' := 30) dX11_usual_6 (by decide) ?_
    refine q_iret dX11_usual_30 rfl rfl ⟨_, rfl, rfl, rfl⟩
  refine q_iload_n (pc' := 10) dX11_usual_9 rfl rfl ?_
  refine q_iconst (pc' := 11) (v := nI 2) dX11_usual_10 rfl rfl ?_
  refine q_icmp_neN (tgt := 19) (pc' := 14) dX11_usual_11 (by decide) rfl (by omega) (fun c_11 => ?_) (fun c_11 => ?_)
  rotate_left
  · subst c_11
    refine q_bipush (pc' := 16) (v := nI 10) dX11_usual_14 rfl rfl ?_
    refine q_goto (pc' := 30) dX11_usual_16 (by decide) ?_
    refine q_iret dX11_usual_30 rfl rfl ⟨_, rfl, rfl, rfl⟩
  refine q_iload_n (pc' := 20) dX11_usual_19 rfl rfl ?_
  refine q_iconst (pc' := 21) (v := nI 3) dX11_usual_20 rfl rfl ?_
  refine q_icmp_neN (tgt := 29) (pc' := 24) dX11_usual_21 (by decide) rfl (by omega) (fun c_21 => ?_) (fun c_21 => ?_)
  rotate_left
  · subst c_21
    refine q_bipush (pc' := 26) (v := nI 12) dX11_usual_24 rfl rfl ?_
    refine q_goto (pc' := 30) dX11_usual_26 (by decide) ?_
    refine q_iret dX11_usual_30 rfl rfl ⟨_, rfl, rfl, rfl⟩
  refine q_iconst (pc' := 30) (v := nI 4) dX11_usual_29 rfl rfl ?_
  refine q_iret dX11_usual_30 rfl rfl ⟨_, rfl, z_usE (by omega), rfl⟩
def s_rbN (c : Nat) : Nat := if c = 98 then 0 else if c = 109 then 1 else if c = 101 then 2 else if c = 108 then 3 else if c = 100 then 4 else 5
theorem s_rb_N : ∀ c : Fin 256, s_rb c.1 = s_rbN c.1 := by decide +kernel
set_option maxHeartbeats 4000000 in
set_option maxRecDepth 20000 in
theorem k_ruleOf {Z : q_Z} {m : q_Mm} {d : Nat} {B : List Nat} {a : Nat} (hb : ∀ x ∈ B, x < 256) : q_V (q_g Z) mX11_ruleOf (d) 0 0 0 [some (.int (s_hr B a))] [] (q_W Z m) (q_P Z fun r m2 => r = some (.int (if s_rb (s_sg B a) < 5 then nI (s_rb (s_sg B a)) else -1)) ∧ m2 = m) := by
  have e : s_rb (s_sg B a) = s_rbN (s_sg B a) := s_rb_N ⟨s_sg B a, s_sgb hb a⟩
  rw [e]
  unfold s_rbN
  refine q_iload_n (pc' := 1) dX11_ruleOf_0 rfl rfl ?_
  refine q_bipush (pc' := 3) (v := nI 98) dX11_ruleOf_1 rfl rfl ?_
  refine q_icmp_ne (tgt := 10) (pc' := 6) dX11_ruleOf_3 (by decide) rfl (fun c_3 => ?_) (fun c_3 => ?_)
  rotate_left
  · have h := (s_hr_eq hb (by decide) (by decide)).mp c_3
    refine q_iconst (pc' := 7) (v := nI 0) dX11_ruleOf_6 rfl rfl ?_
    refine q_goto (pc' := 51) dX11_ruleOf_7 (by decide) ?_
    refine q_iret dX11_ruleOf_51 rfl rfl ⟨_, rfl, by rw [if_pos h]; rfl, rfl⟩
  have h1 : ¬ s_sg B a = 98 := fun z => c_3 ((s_hr_eq hb (by decide) (by decide)).mpr z)
  rw [if_neg h1]
  refine q_iload_n (pc' := 11) dX11_ruleOf_10 rfl rfl ?_
  refine q_bipush (pc' := 13) (v := nI 109) dX11_ruleOf_11 rfl rfl ?_
  refine q_icmp_ne (tgt := 20) (pc' := 16) dX11_ruleOf_13 (by decide) rfl (fun c_13 => ?_) (fun c_13 => ?_)
  rotate_left
  · have h := (s_hr_eq hb (by decide) (by decide)).mp c_13
    refine q_iconst (pc' := 17) (v := nI 1) dX11_ruleOf_16 rfl rfl ?_
    refine q_goto (pc' := 51) dX11_ruleOf_17 (by decide) ?_
    refine q_iret dX11_ruleOf_51 rfl rfl ⟨_, rfl, by rw [if_pos h]; rfl, rfl⟩
  have h2 : ¬ s_sg B a = 109 := fun z => c_13 ((s_hr_eq hb (by decide) (by decide)).mpr z)
  rw [if_neg h2]
  refine q_iload_n (pc' := 21) dX11_ruleOf_20 rfl rfl ?_
  refine q_bipush (pc' := 23) (v := nI 101) dX11_ruleOf_21 rfl rfl ?_
  refine q_icmp_ne (tgt := 30) (pc' := 26) dX11_ruleOf_23 (by decide) rfl (fun c_23 => ?_) (fun c_23 => ?_)
  rotate_left
  · have h := (s_hr_eq hb (by decide) (by decide)).mp c_23
    refine q_iconst (pc' := 27) (v := nI 2) dX11_ruleOf_26 rfl rfl ?_
    refine q_goto (pc' := 51) dX11_ruleOf_27 (by decide) ?_
    refine q_iret dX11_ruleOf_51 rfl rfl ⟨_, rfl, by rw [if_pos h]; rfl, rfl⟩
  have h3 : ¬ s_sg B a = 101 := fun z => c_23 ((s_hr_eq hb (by decide) (by decide)).mpr z)
  rw [if_neg h3]
  refine q_iload_n (pc' := 31) dX11_ruleOf_30 rfl rfl ?_
  refine q_bipush (pc' := 33) (v := nI 108) dX11_ruleOf_31 rfl rfl ?_
  refine q_icmp_ne (tgt := 40) (pc' := 36) dX11_ruleOf_33 (by decide) rfl (fun c_33 => ?_) (fun c_33 => ?_)
  rotate_left
  · have h := (s_hr_eq hb (by decide) (by decide)).mp c_33
    refine q_iconst (pc' := 37) (v := nI 3) dX11_ruleOf_36 rfl rfl ?_
    refine q_goto (pc' := 51) dX11_ruleOf_37 (by decide) ?_
    refine q_iret dX11_ruleOf_51 rfl rfl ⟨_, rfl, by rw [if_pos h]; rfl, rfl⟩
  have h4 : ¬ s_sg B a = 108 := fun z => c_33 ((s_hr_eq hb (by decide) (by decide)).mpr z)
  rw [if_neg h4]
  refine q_iload_n (pc' := 41) dX11_ruleOf_40 rfl rfl ?_
  refine q_bipush (pc' := 43) (v := nI 100) dX11_ruleOf_41 rfl rfl ?_
  refine q_icmp_ne (tgt := 50) (pc' := 46) dX11_ruleOf_43 (by decide) rfl (fun c_43 => ?_) (fun c_43 => ?_)
  rotate_left
  · have h := (s_hr_eq hb (by decide) (by decide)).mp c_43
    refine q_iconst (pc' := 47) (v := nI 4) dX11_ruleOf_46 rfl rfl ?_
    refine q_goto (pc' := 51) dX11_ruleOf_47 (by decide) ?_
    refine q_iret dX11_ruleOf_51 rfl rfl ⟨_, rfl, by rw [if_pos h]; rfl, rfl⟩
  have h5 : ¬ s_sg B a = 100 := fun z => c_43 ((s_hr_eq hb (by decide) (by decide)).mpr z)
  rw [if_neg h5]
  refine q_iconst (pc' := 51) (v := (-1)) dX11_ruleOf_50 rfl rfl ?_
  refine q_iret dX11_ruleOf_51 rfl rfl ⟨_, rfl, rfl, rfl⟩
/-- digits as one whole number, of a number so far -/
def s_dN (B : List Nat) (a v : Nat) : Nat → Nat
  | 0 => v
  | k + 1 => 10 * s_dN B a v k + (s_sg B (a + k) - 48)
theorem z_lmul (a b : Nat) : lN a * lN b = lN (a * b) := by
  apply s_N_inj
  show ((lN a).toBitVec * (lN b).toBitVec).toNat = (lN (a * b)).toBitVec.toNat
  rw [BitVec.toNat_mul]
  show (a % 2 ^ 64) * (b % 2 ^ 64) % 2 ^ 64 = (a * b) % 2 ^ 64
  rw [← Nat.mul_mod]
theorem z_ladd (a b : Nat) : lN a + lN b = lN (a + b) := by
  apply s_N_inj
  show ((lN a).toBitVec + (lN b).toBitVec).toNat = (lN (a + b)).toBitVec.toNat
  rw [BitVec.toNat_add]
  show (a % 2 ^ 64 + b % 2 ^ 64) % 2 ^ 64 = (a + b) % 2 ^ 64
  rw [← Nat.add_mod]
theorem s_dv_N {B : List Nat} (hb : ∀ x ∈ B, x < 256) {a v : Nat} : ∀ k, (∀ j, j < k → s_dig (s_sg B (a + j)) = true) → s_dv B a (lN v) k = lN (s_dN B a v k)
  | 0, _ => rfl
  | k + 1, h => by
    have h1 := h k (by omega)
    unfold s_dig at h1
    have h1 := of_decide_eq_true h1
    have hc := s_sgb hb (a + k)
    unfold s_dv
    rw [s_dv_N hb k (fun j hj => h j (by omega)), pk_sub h1.1, nI_l (by omega), show (10 : Int64) = lN 10 from rfl, z_lmul, z_ladd]
    rfl
theorem s_de_dig {B : List Nat} {k a : Nat} : ∀ j, j < s_de B k a - a → s_dig (s_sg B (a + j)) = true := fun j hj => by
  have := s_find_lt (p := fun j => !s_dig (s_sg B j)) k a (a + j) (by omega) (by unfold s_de at hj; omega)
  simpa using this
/-- of the digits of a RULE's number -/
theorem s_rv_N {B : List Nat} (hb : ∀ x ∈ B, x < 256) (a : Nat) : s_rv B a = nI (s_dN B a 0 (s_de B 2 a - a)) ∧ s_dN B a 0 (s_de B 2 a - a) < 2 ^ 31 := by
  have hle := s_find_le (fun j => !s_dig (s_sg B j)) 2 a
  have h := s_dv_N hb (v := 0) (s_de B 2 a - a) (s_de_dig (B := B) (k := 2) (a := a))
  have hb2 : ∀ n, n ≤ 2 → s_dN B a 0 n < 100000 := by
    intro n hn
    have h0 := s_sgb hb (a + 0)
    have h1 := s_sgb hb (a + 1)
    have q : n = 0 ∨ n = 1 ∨ n = 2 := by omega
    rcases q with rfl | rfl | rfl
    · show 0 < 100000; decide
    · show 10 * 0 + (s_sg B (a + 0) - 48) < 100000; omega
    · show 10 * (10 * 0 + (s_sg B (a + 0) - 48)) + (s_sg B (a + 1) - 48) < 100000; omega
  have h3 := hb2 (s_de B 2 a - a) (by unfold s_de; omega)
  refine ⟨?_, by omega⟩
  unfold s_rv
  rw [show (0 : Int64) = lN 0 from rfl, h]
  exact z_l2i (by omega)
/-- the reference's reading: its place, what is wrong -/
def Kw (m m2 : q_Mm) (a : Nat) (w : Int32) : Prop := Fr [215] m m2 ∧ Kp 215 [5, 6] m m2 ∧ m2.1 215 5 = nI a ∧ m2.1 215 6 = w
theorem MT.kw {m m2 : q_Mm} {B : List Nat} {a : Nat} {w : Int32} (h : MT m B) (t : Kw m m2 a w) : MT m2 B := h.fr t.1 (t.2.1 4 (by decide)) (by decide)
theorem Kw.tr {m m1 m2 : q_Mm} {a b : Nat} {v w : Int32} (h : Kw m m1 a v) (g : Kw m1 m2 b w) : Kw m m2 b w := ⟨h.1.trans g.1, h.2.1.trans g.2.1, g.2.2⟩
theorem Kw.bad {m m1 : q_Mm} {a : Nat} {v w : Int32} (h : Kw m m1 a v) : Kw m (sI m1 215 6 w) a w := ⟨h.1.I (by decide), kp_I h.2.1 (by decide), h.2.2.1, rfl⟩
theorem Kw.at {m m1 : q_Mm} {a b : Nat} {v : Int32} (h : Kw m m1 a v) : Kw m (sI m1 215 5 (nI b)) b v := ⟨h.1.I (by decide), kp_I h.2.1 (by decide), rfl, h.2.2.2⟩
theorem Ka.kw {m m2 : q_Mm} {a : Nat} {w : Int32} (h : Ka m m2 a) (hw : m.1 215 6 = w) : Kw m m2 a w := ⟨h.1, h.2.1.mono (by decide), h.2.2.2, (h.2.1 6 (by decide)).trans hw⟩
set_option maxHeartbeats 4000000 in
set_option maxRecDepth 20000 in
theorem k_number {Z : q_Z} {m : q_Mm} {d : Nat} {B : List Nat} {a k : Nat} (hT : MT m B) (ha : m.1 215 5 = nI a) (hl : a ≤ 320) (hw : m.1 215 6 = -1) : q_V (q_g Z) mX11_number (d+2) 0 0 0 [some (.ref (q_ad Z 215)), some (.int (q_low k)), some (.int (q_high k)), none] [] (q_W Z m) (q_P Z fun r m2 => ∃ x, r = some (.int x) ∧ Kw m m2 (s_rnAt B k (s_skb B a)) (if s_rnOk B k (s_skb B a) = true then -1 else nI (s_rnAt B k (s_skb B a))) ∧ (s_rnOk B k (s_skb B a) = true → x = s_rv B (s_skb B a))) := by
  have hb := hT.2.1
  have hb2 := hT.2.2.2
  have hsk := s_skb_le hl hb
  refine q_aload_n (pc' := 1) dX11_number_0 rfl rfl ?_
  refine h_callV (pc' := 4) (M' := mX11_ahead) (As := []) dX11_number_1 iX11_ahead lX11_117 rfl rfl rfl rfl (Nat.le_of_ble_eq_true rfl) (Nat.le_of_ble_eq_true rfl) rfl rfl (k_ahead hT ha hl) (fun r m' hq => ?_)
  obtain ⟨rfl, t1⟩ := hq
  have hT1 := hT.ka t1
  have t1 := t1.kw hw
  generalize s_skb B a = b at hsk t1 ⊢
  have hbad : ∀ m1 e, Kw m m1 e (-1) → (if m1.1 215 6 = -1 then nI e else m1.1 215 6) = nI e := fun m1 e t => by rw [t.2.2.2, if_pos rfl]
  have hde2 := s_find_le (fun j => !s_dig (s_sg B j)) 2 b
  have hrv := s_rv_N hb2 b
  obtain ⟨m1, hm1⟩ : ∃ z, z = m' := ⟨_, rfl⟩
  subst hm1
  refine h_callS (pc' := 7) (M' := mX11_isDigit) (As := [_]) dX11_number_4 iX11_isDigit lX11_113 rfl rfl (Nat.le_of_ble_eq_true rfl) (Nat.le_of_ble_eq_true rfl) rfl rfl ((k_dig hb2 b).up (Nat.zero_le _)) (fun r m' hq => ?_)
  obtain ⟨rfl, hmm⟩ := hq
  subst m'
  refine q_if_neB (tgt := 16) (pc' := 10) dX11_number_7 (by decide) rfl (fun c_7 => ?_) (fun c_7 => ?_)
  rotate_left
  · have e1 : s_de B 2 b = b := s_find_t (by rw [c_7]; rfl)
    have e2 : s_dok B 2 b = false := by unfold s_dok; rw [e1, decide_eq_false (by omega)]; rfl
    have e3 : s_rnAt B k b = b := by unfold s_rnAt; rw [if_neg (fun z => by rw [e2] at z; exact absurd z.1 (by decide)), e1]
    have e4 : s_rnOk B k b = false := by unfold s_rnOk; rw [e2]; rfl
    refine q_aload_n (pc' := 11) dX11_number_10 rfl rfl ?_
    refine h_callV (pc' := 14) (M' := mX11_bad) (As := []) dX11_number_11 iX11_bad lX11_120 rfl rfl rfl rfl (Nat.le_of_ble_eq_true rfl) (Nat.le_of_ble_eq_true rfl) rfl rfl ((k_bad t1.2.2.1 rfl).up (Nat.zero_le _)) (fun r m' hq => ?_)
    obtain ⟨rfl, hmm⟩ := hq
    subst m'
    rw [hbad m1 b t1, e3, e4]
    refine q_iload_n (pc' := 15) dX11_number_14 rfl rfl ?_
    exact q_iret dX11_number_15 rfl rfl ⟨_, rfl, _, rfl, t1.bad, fun z => by cases z⟩
  have l1 := s_dig_in c_7
  have hd1 := c_7
  unfold s_dig at hd1
  have hd1 := of_decide_eq_true hd1
  have hc1 := hT.lt b
  have hc2 := hT.lt (b + 1)
  have er1 : s_hr B b = nI (s_sg B b) := if_pos l1
  refine q_aload_n (pc' := 17) dX11_number_16 rfl rfl ?_
  refine h_callV (pc' := 20) (M' := mX11_here) (As := []) dX11_number_17 iX11_here lX11_106 rfl rfl rfl rfl (Nat.le_of_ble_eq_true rfl) (Nat.le_of_ble_eq_true rfl) rfl rfl ((k_here hT1 t1.2.2.1 hsk).up (Nat.zero_le _)) (fun r m' hq => ?_)
  obtain ⟨rfl, hmm⟩ := hq
  subst m'
  rw [er1]
  refine q_bipush (pc' := 22) (v := nI 48) dX11_number_20 rfl rfl ?_
  refine q_isubN (pc' := 23) dX11_number_22 (by omega) rfl ?_
  refine q_istore_n (pc' := 24) (lv' := [_, _, _, _]) dX11_number_23 (by decide) rfl rfl ?_
  refine q_aload_n (pc' := 25) dX11_number_24 rfl rfl ?_
  refine q_dup (pc' := 26) dX11_number_25 rfl rfl ?_
  refine h_getiE (pc' := 29) dX11_number_26 fX11_103 rfl rfl (t1.2.2.1) rfl ?_
  refine q_iconst (pc' := 30) (v := nI 1) dX11_number_29 rfl rfl ?_
  refine q_iaddN (pc' := 31) dX11_number_30 rfl ?_
  refine h_puti (pc' := 34) dX11_number_31 fX11_103 rfl rfl rfl rfl rfl ?_
  refine q_aload_n (pc' := 35) dX11_number_34 rfl rfl ?_
  refine h_callV (pc' := 38) (M' := mX11_here) (As := []) dX11_number_35 iX11_here lX11_106 rfl rfl rfl rfl (Nat.le_of_ble_eq_true rfl) (Nat.le_of_ble_eq_true rfl) rfl rfl ((k_here (hT1.fr ((Fr.rf (S := [215])).I (by decide)) rfl (by decide)) (a := b + 1) rfl (by omega)).up (Nat.zero_le _)) (fun r m' hq => ?_)
  obtain ⟨rfl, hmm⟩ := hq
  subst m'
  have t2 : Kw m (sI m1 215 5 (nI (b + 1))) (b + 1) (-1) := t1.at
  generalize sI m1 215 5 (nI (b + 1)) = m2 at t2
  have rest : ∀ e m3 x, s_de B 2 b = e → b < e → e ≤ 320 → Kw m m3 e (-1) → x = s_rv B b → q_V (q_g Z) mX11_number (d+2) 0 0 67 [some (.ref (q_ad Z 215)), some (.int (q_low k)), some (.int (q_high k)), some (.int x)] [] (q_W Z (m3)) (q_P Z fun r m2 => ∃ x, r = some (.int x) ∧ Kw m m2 (s_rnAt B k b) (if s_rnOk B k b = true then -1 else nI (s_rnAt B k b)) ∧ (s_rnOk B k b = true → x = s_rv B b)) := by
    intro e m3 x he hbe hle t3 hx
    have hT3 := hT.kw t3
    refine q_aload_n (pc' := 68) dX11_number_67 rfl rfl ?_
    refine h_callV (pc' := 71) (M' := mX11_here) (As := []) dX11_number_68 iX11_here lX11_106 rfl rfl rfl rfl (Nat.le_of_ble_eq_true rfl) (Nat.le_of_ble_eq_true rfl) rfl rfl ((k_here hT3 t3.2.2.1 hle).up (Nat.zero_le _)) (fun r m' hq => ?_)
    obtain ⟨rfl, hmm⟩ := hq
    subst m'
    refine h_callS (pc' := 74) (M' := mX11_isDigit) (As := [_]) dX11_number_71 iX11_isDigit lX11_113 rfl rfl (Nat.le_of_ble_eq_true rfl) (Nat.le_of_ble_eq_true rfl) rfl rfl ((k_dig hb2 e).up (Nat.zero_le _)) (fun r m' hq => ?_)
    obtain ⟨rfl, hmm⟩ := hq
    subst m'
    refine q_if_eqB (tgt := 84) (pc' := 77) dX11_number_74 (by decide) rfl (fun c_74 => ?_) (fun c_74 => ?_)
    rotate_left
    · have e2 : s_dok B 2 b = false := by unfold s_dok; rw [he, c_74]; simp
      have e3 : s_rnAt B k b = e := by unfold s_rnAt; rw [if_neg (fun z => by rw [e2] at z; exact absurd z.1 (by decide)), he]
      have e4 : s_rnOk B k b = false := by unfold s_rnOk; rw [e2]; rfl
      refine q_aload_n (pc' := 78) dX11_number_77 rfl rfl ?_
      refine h_callV (pc' := 81) (M' := mX11_bad) (As := []) dX11_number_78 iX11_bad lX11_120 rfl rfl rfl rfl (Nat.le_of_ble_eq_true rfl) (Nat.le_of_ble_eq_true rfl) rfl rfl ((k_bad t3.2.2.1 rfl).up (Nat.zero_le _)) (fun r m' hq => ?_)
      obtain ⟨rfl, hmm⟩ := hq
      subst m'
      rw [hbad m3 e t3, e3, e4]
      refine q_goto (pc' := 107) dX11_number_81 (by decide) ?_
      refine q_iload_n (pc' := 108) dX11_number_107 rfl rfl ?_
      exact q_iret dX11_number_108 rfl rfl ⟨_, rfl, _, rfl, t3.bad, fun z => by cases z⟩
    have e2 : s_dok B 2 b = true := by unfold s_dok; rw [he, c_74, decide_eq_true hbe]; rfl
    refine q_iload_n (pc' := 85) dX11_number_84 rfl rfl ?_
    refine q_iload_n (pc' := 86) dX11_number_85 rfl rfl ?_
    refine q_iload_n (pc' := 87) dX11_number_86 rfl rfl ?_
    refine h_callS (pc' := 90) (M' := mX11_in) (As := [_, _, _]) dX11_number_87 iX11_in lX11_99 rfl rfl (Nat.le_of_ble_eq_true rfl) (Nat.le_of_ble_eq_true rfl) rfl rfl (k_in.up (Nat.zero_le _)) (fun r m' hq => ?_)
    obtain ⟨rfl, hmm⟩ := hq
    subst m'
    rw [show decide ((q_low k).toInt ≤ x.toInt ∧ x.toInt ≤ (q_high k).toInt) = s_isBound k (s_rv B b) by rw [hx]; rfl]
    refine q_if_neB (tgt := 107) (pc' := 93) dX11_number_90 (by decide) rfl (fun c_90 => ?_) (fun c_90 => ?_)
    rotate_left
    · have e3 : s_rnAt B k b = e - 1 := by unfold s_rnAt; rw [if_pos ⟨e2, c_90⟩, he]
      have e4 : s_rnOk B k b = false := by unfold s_rnOk; rw [c_90]; simp
      refine q_aload_n (pc' := 94) dX11_number_93 rfl rfl ?_
      refine q_dup (pc' := 95) dX11_number_94 rfl rfl ?_
      refine h_getiE (pc' := 98) dX11_number_95 fX11_103 rfl rfl (t3.2.2.1) rfl ?_
      refine q_iconst (pc' := 99) (v := nI 1) dX11_number_98 rfl rfl ?_
      refine q_isubN (pc' := 100) dX11_number_99 (by omega) rfl ?_
      refine h_puti (pc' := 103) dX11_number_100 fX11_103 rfl rfl rfl rfl rfl ?_
      have t4 : Kw m (sI m3 215 5 (nI (e - 1))) (e - 1) (-1) := t3.at
      generalize sI m3 215 5 (nI (e - 1)) = m4 at t4
      refine q_aload_n (pc' := 104) dX11_number_103 rfl rfl ?_
      refine h_callV (pc' := 107) (M' := mX11_bad) (As := []) dX11_number_104 iX11_bad lX11_120 rfl rfl rfl rfl (Nat.le_of_ble_eq_true rfl) (Nat.le_of_ble_eq_true rfl) rfl rfl ((k_bad t4.2.2.1 rfl).up (Nat.zero_le _)) (fun r m' hq => ?_)
      obtain ⟨rfl, hmm⟩ := hq
      subst m'
      rw [hbad m4 (e - 1) t4, e3, e4]
      refine q_iload_n (pc' := 108) dX11_number_107 rfl rfl ?_
      exact q_iret dX11_number_108 rfl rfl ⟨_, rfl, _, rfl, t4.bad, fun z => by cases z⟩
    · have e3 : s_rnAt B k b = e := by unfold s_rnAt; rw [if_neg (fun z => by rw [c_90] at z; exact absurd z.2 (by decide)), he]
      have e4 : s_rnOk B k b = true := by unfold s_rnOk; rw [e2, c_90]; rfl
      rw [e3, e4]
      refine q_iload_n (pc' := 108) dX11_number_107 rfl rfl ?_
      exact q_iret dX11_number_108 rfl rfl ⟨_, rfl, _, rfl, t3, fun _ => hx⟩
  refine h_callS (pc' := 41) (M' := mX11_isDigit) (As := [_]) dX11_number_38 iX11_isDigit lX11_113 rfl rfl (Nat.le_of_ble_eq_true rfl) (Nat.le_of_ble_eq_true rfl) rfl rfl ((k_dig hb2 (b + 1)).up (Nat.zero_le _)) (fun r m' hq => ?_)
  obtain ⟨rfl, hmm⟩ := hq
  subst m'
  refine q_if_eqB (tgt := 67) (pc' := 44) dX11_number_41 (by decide) rfl (fun c_41 => ?_) (fun c_41 => ?_)
  · have e1 : s_de B 2 b = b + 1 := (s_find_f (by rw [c_7]; rfl)).trans (s_find_t (by rw [c_41]; rfl))
    refine rest (b + 1) m2 _ e1 (by omega) (by omega) t2 ?_
    rw [hrv.1, e1, show b + 1 - b = 1 by omega]
    exact congrArg nI (by show _ = 10 * 0 + (s_sg B b - 48); omega)
  · have l2 := s_dig_in c_41
    have hd2 := c_41
    unfold s_dig at hd2
    have hd2 := of_decide_eq_true hd2
    have e1 : s_de B 2 b = b + 1 + 1 := (s_find_f (by rw [c_7]; rfl)).trans ((s_find_f (by rw [c_41]; rfl)).trans rfl)
    have er2 : s_hr B (b + 1) = nI (s_sg B (b + 1)) := if_pos l2
    refine q_bipush (pc' := 46) (v := nI 10) dX11_number_44 rfl rfl ?_
    refine q_iload_n (pc' := 47) dX11_number_46 rfl rfl ?_
    refine q_imulN (pc' := 48) dX11_number_47 rfl ?_
    refine q_aload_n (pc' := 49) dX11_number_48 rfl rfl ?_
    refine h_callV (pc' := 52) (M' := mX11_here) (As := []) dX11_number_49 iX11_here lX11_106 rfl rfl rfl rfl (Nat.le_of_ble_eq_true rfl) (Nat.le_of_ble_eq_true rfl) rfl rfl ((k_here (hT.kw t2) t2.2.2.1 (by omega)).up (Nat.zero_le _)) (fun r m' hq => ?_)
    obtain ⟨rfl, hmm⟩ := hq
    subst m'
    rw [er2]
    refine q_iaddN (pc' := 53) dX11_number_52 rfl ?_
    refine q_bipush (pc' := 55) (v := nI 48) dX11_number_53 rfl rfl ?_
    refine q_isubN (pc' := 56) dX11_number_55 (by omega) rfl ?_
    refine q_istore_n (pc' := 57) (lv' := [_, _, _, _]) dX11_number_56 (by decide) rfl rfl ?_
    refine q_aload_n (pc' := 58) dX11_number_57 rfl rfl ?_
    refine q_dup (pc' := 59) dX11_number_58 rfl rfl ?_
    refine h_getiE (pc' := 62) dX11_number_59 fX11_103 rfl rfl (t2.2.2.1) rfl ?_
    refine q_iconst (pc' := 63) (v := nI 1) dX11_number_62 rfl rfl ?_
    refine q_iaddN (pc' := 64) dX11_number_63 rfl ?_
    refine h_puti (pc' := 67) dX11_number_64 fX11_103 rfl rfl rfl rfl rfl ?_
    refine rest (b + 1 + 1) _ _ e1 (by omega) (by omega) t2.at ?_
    rw [hrv.1, e1, show b + 1 + 1 - b = 2 by omega]
    exact congrArg nI (by show _ = 10 * (10 * 0 + (s_sg B b - 48)) + (s_sg B (b + 1) - 48); omega)
/-- RULES told: from the state of given ones on -/
theorem s_cnt_u {gv : Nat → Bool} {k : Nat} (h : gv k = false) : ∀ n, s_cnt (q_u gv k true) n = s_cnt gv n + if k < n then 1 else 0
  | 0 => rfl
  | n + 1 => by
    have ih := s_cnt_u h n
    show s_cnt (q_u gv k true) n + (if q_u gv k true n = true then 1 else 0) = s_cnt gv n + (if gv n = true then 1 else 0) + _
    rw [ih]
    by_cases z : n = k
    · subst z
      rw [q_u_s, h, if_neg (by omega), if_pos rfl, if_neg (by decide), if_pos (by omega)]
    · rw [q_u_n _ _ z]
      by_cases y : k < n
      · have y2 : k < n + 1 := by omega
        rw [if_pos y, if_pos y2]; omega
      · have y2 : ¬ k < n + 1 := by omega
        rw [if_neg y, if_neg y2]; omega
theorem s_mk_u {gv : Nat → Bool} {k : Nat} (h : gv k = false) : ∀ n, s_mk (q_u gv k true) n = s_mk gv n + if k < n then 2 ^ k else 0
  | 0 => rfl
  | n + 1 => by
    have ih := s_mk_u h n
    show s_mk (q_u gv k true) n + (if q_u gv k true n = true then 2 ^ n else 0) = s_mk gv n + (if gv n = true then 2 ^ n else 0) + _
    rw [ih]
    by_cases z : n = k
    · subst z
      rw [q_u_s, h, if_neg (by omega), if_pos rfl, if_neg (by decide), if_pos (by omega)]
    · rw [q_u_n _ _ z]
      by_cases y : k < n
      · have y2 : k < n + 1 := by omega
        rw [if_pos y, if_pos y2]; omega
      · have y2 : ¬ k < n + 1 := by omega
        rw [if_neg y, if_neg y2]; omega
theorem z_orU {gv : Nat → Bool} {k : Nat} (h : gv k = false) (hk : k < 5) : nI (s_mk gv 5) ||| nI 1 <<< (nI k &&& 31) = nI (s_mk (q_u gv k true) 5) := by
  rw [s_mk_u h, if_pos hk]
  have h1 := s_mk_bit gv k 5
  rw [if_neg (fun z => by rw [h] at z; exact absurd z.2 (by decide))] at h1
  have h2 := s_mk_lt gv 5
  generalize s_mk gv 5 = v at h1 h2
  have key : ∀ v : Fin 32, ∀ k : Fin 5, v.1 / 2 ^ k.1 % 2 = 0 → nI v.1 ||| nI 1 <<< (nI k.1 &&& 31) = nI (v.1 + 2 ^ k.1) := by decide +kernel
  exact key ⟨v, h2⟩ ⟨k, hk⟩ h1
set_option maxHeartbeats 4000000 in
set_option maxRecDepth 20000 in
theorem k_readRules {Z : q_Z} {m : q_Mm} {d : Nat} {B : List Nat} {a : Nat} {rl : Nat → Nat} (hT : MT m B) (ha : m.1 215 5 = nI a) (hl : a ≤ 320) (hw : m.1 215 6 = -1) (hr : ∀ i, i < 5 → m.2.2.1 219 i = nI (rl i)) : q_V (q_g Z) mX11_readRules (d+3) 0 0 0 [some (.ref (q_ad Z 215)), none, none] [] (q_W Z m) (q_P Z fun r m2 => r = none ∧ Fr [215, 219] m m2 ∧ Kp 215 [5, 6] m m2 ∧ (s_rul B 6 a (fun _ => false) rl).2.1 ≤ 320 ∧ m2.1 215 5 = nI (s_rul B 6 a (fun _ => false) rl).2.1 ∧ (if (s_rul B 6 a (fun _ => false) rl).1 = true then m2.1 215 6 = -1 ∧ ∀ i, i < 5 → m2.2.2.1 219 i = nI ((s_rul B 6 a (fun _ => false) rl).2.2 i) else m2.1 215 6 = nI (s_rul B 6 a (fun _ => false) rl).2.1 ∨ (m2.1 215 6 = -1 ∧ s_rb (s_sg B (s_rul B 6 a (fun _ => false) rl).2.1) < 5))) := by
  have hb := hT.2.1
  have hb2 := hT.2.2.2
  obtain ⟨R, hR⟩ : ∃ R, s_rul B 6 a (fun _ => false) rl = R := ⟨_, rfl⟩
  rw [hR]
  refine q_iconst (pc' := 1) (v := nI 0) dX11_readRules_0 rfl rfl ?_
  refine q_istore_n (pc' := 2) (lv' := [_, _, _]) dX11_readRules_1 (by decide) rfl rfl ?_
  have hm0 : nI 0 = nI (s_mk (fun _ => false) 5) := by decide
  rw [hm0]
  have stop : ∀ m1 x y, Fr [215, 219] m m1 → Kp 215 [5, 6] m m1 → R.2.1 ≤ 320 → m1.1 215 5 = nI R.2.1 → (if R.1 = true then m1.1 215 6 = -1 ∧ ∀ i, i < 5 → m1.2.2.1 219 i = nI (R.2.2 i) else m1.1 215 6 = nI R.2.1 ∨ (m1.1 215 6 = -1 ∧ s_rb (s_sg B R.2.1) < 5)) → q_V (q_g Z) mX11_readRules (d+3) 0 0 88 [some (.ref (q_ad Z 215)), some (.int x), some (.int y)] [] (q_W Z (m1)) (q_P Z fun r m2 => r = none ∧ Fr [215, 219] m m2 ∧ Kp 215 [5, 6] m m2 ∧ R.2.1 ≤ 320 ∧ m2.1 215 5 = nI R.2.1 ∧ (if R.1 = true then m2.1 215 6 = -1 ∧ ∀ i, i < 5 → m2.2.2.1 219 i = nI (R.2.2 i) else m2.1 215 6 = nI R.2.1 ∨ (m2.1 215 6 = -1 ∧ s_rb (s_sg B R.2.1) < 5))) := by
    intro m1 x y f1 k1 le e5 h
    refine q_vret dX11_readRules_88 rfl ⟨_, rfl, rfl, f1, k1, le, e5, h⟩
  have main : ∀ f b gv rl1 m1, s_cnt gv 5 + f = 6 → b ≤ 320 → Fr [215, 219] m m1 → Kp 215 [5, 6] m m1 → m1.1 215 5 = nI (s_skb B b) → m1.1 215 6 = -1 → (∀ i, i < 5 → m1.2.2.1 219 i = nI (rl1 i)) → s_rul B f b gv rl1 = R → q_V (q_g Z) mX11_readRules (d+3) 0 0 10 [some (.ref (q_ad Z 215)), some (.int (nI (s_mk gv 5))), some (.int (if s_rb (s_sg B (s_skb B b)) < 5 then nI (s_rb (s_sg B (s_skb B b))) else -1))] [] (q_W Z (m1)) (q_P Z fun r m2 => r = none ∧ Fr [215, 219] m m2 ∧ Kp 215 [5, 6] m m2 ∧ R.2.1 ≤ 320 ∧ m2.1 215 5 = nI R.2.1 ∧ (if R.1 = true then m2.1 215 6 = -1 ∧ ∀ i, i < 5 → m2.2.2.1 219 i = nI (R.2.2 i) else m2.1 215 6 = nI R.2.1 ∨ (m2.1 215 6 = -1 ∧ s_rb (s_sg B R.2.1) < 5))) := by
    intro f
    induction f with
    | zero =>
      intro b gv rl1 m1 hc
      have := s_cnt_le gv 5
      omega
    | succ f ih =>
      intro b gv rl1 m1 hc hb1 f1 k1 e5 e6 hr1 hs
      have hsk := s_skb_le hb1 hb
      refine q_aload_n (pc' := 11) dX11_readRules_10 rfl rfl ?_
      refine h_getiE (pc' := 14) dX11_readRules_11 fX11_110 rfl rfl (e6) rfl ?_
      refine q_iconst (pc' := 15) (v := (-1)) dX11_readRules_14 rfl rfl ?_
      refine q_icmp_ne (tgt := 88) (pc' := 18) dX11_readRules_15 (by decide) rfl (fun c_15 => ?_) (fun c_15 => ?_)
      · exact absurd rfl c_15
      obtain ⟨k, hk⟩ : ∃ k, s_rb (s_sg B (s_skb B b)) = k := ⟨_, rfl⟩
      have hk5 := s_rb_le (s_sg B (s_skb B b))
      rw [hk] at hk5 ⊢
      refine q_iload_n (pc' := 19) dX11_readRules_18 rfl rfl ?_
      refine q_iconst (pc' := 20) (v := (-1)) dX11_readRules_19 rfl rfl ?_
      refine q_icmp_eq (tgt := 88) (pc' := 23) dX11_readRules_20 (by decide) rfl (fun c_20 => ?_) (fun c_20 => ?_)
      · have hno : ¬ k < 5 := fun z => by rw [if_pos z] at c_20; exact z_m1n (by omega) c_20
        rw [s_rul_n (by rw [hk]; exact hno)] at hs
        subst hs
        exact stop m1 _ _ f1 k1 hsk e5 (by rw [if_pos rfl]; exact ⟨e6, hr1⟩)
      have hlt : k < 5 := by
        rcases Nat.lt_or_ge k 5 with q | q
        · exact q
        · exact absurd (if_neg (by omega)) c_20
      rw [if_pos hlt]
      have hin := s_rb_in (B := B) (a := s_skb B b) (by rw [hk]; exact hlt)
      refine q_iload_n (pc' := 24) dX11_readRules_23 rfl rfl ?_
      refine q_iload_n (pc' := 25) dX11_readRules_24 rfl rfl ?_
      refine h_callS (pc' := 28) (M' := mX11_has) (As := [_, _]) dX11_readRules_25 iX11_has lX11_127 rfl rfl (Nat.le_of_ble_eq_true rfl) (Nat.le_of_ble_eq_true rfl) rfl rfl ((k_has (P := gv) (c := 5) (i := k) (by decide) (by omega)).up (Nat.zero_le _)) (fun r m' hq => ?_)
      obtain ⟨rfl, hmm⟩ := hq
      subst m'
      rw [decide_eq_true hlt, Bool.true_and]
      refine q_if_neB (tgt := 88) (pc' := 31) dX11_readRules_28 (by decide) rfl (fun c_28 => ?_) (fun c_28 => ?_)
      · rw [s_rul_g hk hlt c_28] at hs
        subst hs
        exact stop m1 _ _ f1 k1 hsk e5 (by rw [if_neg (by simp)]; exact Or.inr ⟨e6, by rw [hk]; exact hlt⟩)
      refine q_iload_n (pc' := 32) dX11_readRules_31 rfl rfl ?_
      refine q_iconst (pc' := 33) (v := nI 1) dX11_readRules_32 rfl rfl ?_
      refine q_iload_n (pc' := 34) dX11_readRules_33 rfl rfl ?_
      refine q_ishl (pc' := 35) dX11_readRules_34 rfl ?_
      refine q_ior (pc' := 36) dX11_readRules_35 rfl ?_
      rw [z_orU c_28 hlt]
      refine q_istore_n (pc' := 37) (lv' := [_, _, _]) dX11_readRules_36 (by decide) rfl rfl ?_
      refine q_aload_n (pc' := 38) dX11_readRules_37 rfl rfl ?_
      refine q_dup (pc' := 39) dX11_readRules_38 rfl rfl ?_
      refine h_getiE (pc' := 42) dX11_readRules_39 fX11_103 rfl rfl (e5) rfl ?_
      refine q_iconst (pc' := 43) (v := nI 1) dX11_readRules_42 rfl rfl ?_
      refine q_iaddN (pc' := 44) dX11_readRules_43 rfl ?_
      refine h_puti (pc' := 47) dX11_readRules_44 fX11_103 rfl rfl rfl rfl rfl ?_
      generalize hm2 : sI m1 215 5 (nI (s_skb B b + 1)) = m2
      have g2 : Fr [215] m1 m2 := hm2 ▸ Fr.rf.I (by decide)
      have k2 : Kp 215 [5] m1 m2 := hm2 ▸ kp_I Kp.rf (by decide)
      have e52 : m2.1 215 5 = nI (s_skb B b + 1) := hm2 ▸ rfl
      have f2 : Fr [215, 219] m m2 := f1.trans (g2.mono (by decide))
      have kk2 : Kp 215 [5, 6] m m2 := k1.trans (k2.mono (by decide))
      have e62 : m2.1 215 6 = -1 := (k2 6 (by decide)).trans e6
      have hT2 := hT.fr f2 (kk2 4 (by decide)) (by decide)
      refine q_aload_n (pc' := 48) dX11_readRules_47 rfl rfl ?_
      refine h_getr (pc' := 51) dX11_readRules_48 fX11_20 rfl rfl rfl ?_
      refine q_iload_n (pc' := 52) dX11_readRules_51 rfl rfl ?_
      refine q_aload_n (pc' := 53) dX11_readRules_52 rfl rfl ?_
      refine q_iload_n (pc' := 54) dX11_readRules_53 rfl rfl ?_
      refine h_callS (pc' := 57) (M' := mX11_lowest) (As := [_]) dX11_readRules_54 iX11_lowest lX11_131 rfl rfl (Nat.le_of_ble_eq_true rfl) (Nat.le_of_ble_eq_true rfl) rfl rfl ((k_lowest hlt).up (Nat.zero_le _)) (fun r m' hq => ?_)
      obtain ⟨rfl, hmm⟩ := hq
      subst m'
      refine q_iload_n (pc' := 58) dX11_readRules_57 rfl rfl ?_
      refine h_callS (pc' := 61) (M' := mX11_highest) (As := [_]) dX11_readRules_58 iX11_highest lX11_134 rfl rfl (Nat.le_of_ble_eq_true rfl) (Nat.le_of_ble_eq_true rfl) rfl rfl ((k_highest hlt).up (Nat.zero_le _)) (fun r m' hq => ?_)
      obtain ⟨rfl, hmm⟩ := hq
      subst m'
      refine h_callV (pc' := 64) (M' := mX11_number) (As := [_, _]) dX11_readRules_61 iX11_number lX11_137 rfl rfl rfl rfl (Nat.le_of_ble_eq_true rfl) (Nat.le_of_ble_eq_true rfl) rfl rfl (k_number (k := k) hT2 e52 (by omega) e62) (fun r m' hq => ?_)
      obtain ⟨x, rfl, t3, hx⟩ := hq
      refine h_iast (pc' := 65) dX11_readRules_64 rfl (rfl) (hlt) (by decide) rfl ?_
      have hsk2 := s_skb_le (B := B) (a := s_skb B b + 1) (by omega) hb
      have hat := s_rnAt_le (B := B) (k := k) hsk2 hb
      have f4 : Fr [215, 219] m (sA m' 219 (q_u (m'.2.2.1 219) k x)) := (f2.trans (t3.1.mono (by decide))).A (by decide)
      have k4 : Kp 215 [5, 6] m (sA m' 219 (q_u (m'.2.2.1 219) k x)) := kk2.trans t3.2.1
      have e54 : (sA m' 219 (q_u (m'.2.2.1 219) k x)).1 215 5 = nI (s_rnAt B k (s_skb B (s_skb B b + 1))) := t3.2.2.1
      have e64 : (sA m' 219 (q_u (m'.2.2.1 219) k x)).1 215 6 = if s_rnOk B k (s_skb B (s_skb B b + 1)) = true then -1 else nI (s_rnAt B k (s_skb B (s_skb B b + 1))) := t3.2.2.2
      have r4 : ∀ i, i < 5 → s_rnOk B k (s_skb B (s_skb B b + 1)) = true → (sA m' 219 (q_u (m'.2.2.1 219) k x)).2.2.1 219 i = nI (q_u rl1 k (s_i (s_rv B (s_skb B (s_skb B b + 1)))) i) := fun i hi ho => by
        show q_u (m'.2.2.1 219) k x i = _
        have hbd : s_isBound k (s_rv B (s_skb B (s_skb B b + 1))) = true := by
          unfold s_rnOk at ho
          rw [Bool.and_eq_true] at ho
          exact ho.2
        by_cases z : i = k
        · rw [z, q_u_s, q_u_s, hx ho]; exact (s_bd hbd).1
        · rw [q_u_n _ _ z, q_u_n _ _ z]
          exact (congrFun (t3.1.a (by decide)) i).trans ((congrFun (g2.a (by decide)) i).trans (hr1 i hi))
      generalize sA m' 219 (q_u (m'.2.2.1 219) k x) = m4 at f4 k4 e54 e64 r4
      have hT4 := hT.fr f4 (k4 4 (by decide)) (by decide)
      refine q_aload_n (pc' := 66) dX11_readRules_65 rfl rfl ?_
      refine h_getiE (pc' := 69) dX11_readRules_66 fX11_110 rfl rfl (e64) rfl ?_
      refine q_iconst (pc' := 70) (v := (-1)) dX11_readRules_69 rfl rfl ?_
      refine q_icmp_ne (tgt := 83) (pc' := 73) dX11_readRules_70 (by decide) rfl (fun c_70 => ?_) (fun c_70 => ?_)
      · have ho : s_rnOk B k (s_skb B (s_skb B b + 1)) = false := by
          cases hq : s_rnOk B k (s_skb B (s_skb B b + 1)) with
          | false => rfl
          | true => rw [if_pos hq] at c_70; exact absurd rfl c_70
        rw [s_rul_o hk hlt c_28 ho] at hs
        rw [if_neg (by rw [ho]; decide)] at e64
        subst hs
        refine q_iconst (pc' := 84) (v := (-1)) dX11_readRules_83 rfl rfl ?_
        refine q_istore_n (pc' := 85) (lv' := [_, _, _]) dX11_readRules_84 (by decide) rfl rfl ?_
        refine q_goto (pc' := 10) dX11_readRules_85 (by decide) ?_
        refine q_aload_n (pc' := 11) dX11_readRules_10 rfl rfl ?_
        refine h_getiE (pc' := 14) dX11_readRules_11 fX11_110 rfl rfl (e64) rfl ?_
        refine q_iconst (pc' := 15) (v := (-1)) dX11_readRules_14 rfl rfl ?_
        refine q_icmp_ne (tgt := 88) (pc' := 18) dX11_readRules_15 (by decide) rfl (fun c_15 => ?_) (fun c_15 => ?_)
        · exact stop m4 _ _ f4 k4 hat e54 (by rw [if_neg (by simp)]; exact Or.inl e64)
        · exact absurd c_15 (z_m1n (by omega))
      · have ho : s_rnOk B k (s_skb B (s_skb B b + 1)) = true := by
          cases hq : s_rnOk B k (s_skb B (s_skb B b + 1)) with
          | true => rfl
          | false => rw [if_neg (by rw [hq]; decide)] at c_70; exact absurd c_70 (z_m1n (by omega))
        rw [s_rul_y hk hlt c_28 ho] at hs
        rw [if_pos ho] at e64
        have r5 := fun i hi => r4 i hi ho
        generalize s_rnAt B k (s_skb B (s_skb B b + 1)) = b5 at hs e54 hat
        refine q_aload_n (pc' := 74) dX11_readRules_73 rfl rfl ?_
        refine h_callV (pc' := 77) (M' := mX11_ahead) (As := []) dX11_readRules_74 iX11_ahead lX11_117 rfl rfl rfl rfl (Nat.le_of_ble_eq_true rfl) (Nat.le_of_ble_eq_true rfl) rfl rfl ((k_ahead (d := d) hT4 e54 hat).up (by omega)) (fun r m' hq => ?_)
        obtain ⟨rfl, t5⟩ := hq
        obtain ⟨m5, hm5⟩ : ∃ z, z = m' := ⟨_, rfl⟩
        subst hm5
        refine h_callS (pc' := 80) (M' := mX11_ruleOf) (As := [_]) dX11_readRules_77 iX11_ruleOf lX11_123 rfl rfl (Nat.le_of_ble_eq_true rfl) (Nat.le_of_ble_eq_true rfl) rfl rfl ((k_ruleOf hb2).up (Nat.zero_le _)) (fun r m' hq => ?_)
        obtain ⟨rfl, hmm⟩ := hq
        subst m'
        refine q_goto (pc' := 84) dX11_readRules_80 (by decide) ?_
        refine q_istore_n (pc' := 85) (lv' := [_, _, _]) dX11_readRules_84 (by decide) rfl rfl ?_
        refine q_goto (pc' := 10) dX11_readRules_85 (by decide) ?_
        refine ih b5 _ _ m5 ?_ hat (f4.trans (t5.1.mono (by decide))) (k4.trans (t5.2.1.mono (by decide))) t5.2.2.2 ((t5.2.1 6 (by decide)).trans e64) (fun i hi => (congrFun (t5.1.a (by decide)) i).trans (r5 i hi)) hs
        rw [s_cnt_u c_28, if_pos hlt]
        omega
  refine q_aload_n (pc' := 3) dX11_readRules_2 rfl rfl ?_
  refine h_callV (pc' := 6) (M' := mX11_ahead) (As := []) dX11_readRules_3 iX11_ahead lX11_117 rfl rfl rfl rfl (Nat.le_of_ble_eq_true rfl) (Nat.le_of_ble_eq_true rfl) rfl rfl ((k_ahead (d := d) hT ha hl).up (by omega)) (fun r m' hq => ?_)
  obtain ⟨rfl, t1⟩ := hq
  obtain ⟨m1, hm1⟩ : ∃ z, z = m' := ⟨_, rfl⟩
  subst hm1
  refine h_callS (pc' := 9) (M' := mX11_ruleOf) (As := [_]) dX11_readRules_6 iX11_ruleOf lX11_123 rfl rfl (Nat.le_of_ble_eq_true rfl) (Nat.le_of_ble_eq_true rfl) rfl rfl ((k_ruleOf hb2).up (Nat.zero_le _)) (fun r m' hq => ?_)
  obtain ⟨rfl, hmm⟩ := hq
  subst m'
  refine q_istore_n (pc' := 10) (lv' := [_, _, _]) dX11_readRules_9 (by decide) rfl rfl ?_
  exact main 6 a _ rl m1 (by decide) hl (t1.1.mono (by decide)) (t1.2.1.mono (by decide)) t1.2.2.2 ((t1.2.1 6 (by decide)).trans hw) (fun i hi => (congrFun (t1.1.a (by decide)) i).trans (hr i hi)) hR
