/-! ===== TextReader: RULES and VALUES ===== -/
theorem Col.lenN {m : q_Mm} {o n k : Nat} {xs : Nat → Int64} {rl : Nat → Nat} {nt : Nat → Int32} (h : Col m o n k xs rl nt) : n ≤ 64 := h.2.2.1
/-- which RULE a letter names; 5: none -/
def s_rb (c : Nat) : Nat := s_find (fun k => decide (q_letters k = nI c)) 5 0
theorem s_rb_le (c : Nat) : s_rb c ≤ 5 := by
  have := s_find_le (fun k => decide (q_letters k = nI c)) 5 0
  unfold s_rb
  omega
set_option maxHeartbeats 4000000 in
set_option maxRecDepth 20000 in
theorem c_ruleBySign {Z : q_Z} {m : q_Mm} {d : Nat} {c : Nat} : q_V (q_g Z) mX9_ruleBySign (d) 0 0 0 [some (.int (nI c)), none] [] (q_W Z m) (q_P Z fun r m2 => r = some (.int (if s_rb c < 5 then nI (s_rb c) else -1)) ∧ m2 = m) := by
  refine q_iconst (pc' := 1) (v := nI 0) dX9_ruleBySign_0 rfl rfl ?_
  refine q_istore_n (pc' := 2) (lv' := [_, _]) dX9_ruleBySign_1 (by decide) rfl rfl ?_
  suffices h : ∀ g k, k + g = 5 → s_find (fun k => decide (q_letters k = nI c)) g k = s_rb c → q_V (q_g Z) mX9_ruleBySign (d) 0 0 2 [some (.int (nI c)), some (.int (nI k))] [] (q_W Z (m)) (q_P Z fun r m2 => r = some (.int (if s_rb c < 5 then nI (s_rb c) else -1)) ∧ m2 = m) from h 5 0 rfl rfl
  intro g
  induction g with
  | zero =>
    intro k hk hs
    have hs : k = s_rb c := hs
    refine q_iload_n (pc' := 3) dX9_ruleBySign_2 rfl rfl ?_
    refine q_iconst (pc' := 4) (v := nI 5) dX9_ruleBySign_3 rfl rfl ?_
    refine q_icmp_geN (tgt := 24) (pc' := 7) dX9_ruleBySign_4 (by decide) rfl (by omega) (fun c_4 => ?_) (fun c_4 => ?_)
    · refine q_iconst (pc' := 25) (v := (-1)) dX9_ruleBySign_24 rfl rfl ?_
      refine q_iret dX9_ruleBySign_25 rfl rfl ⟨_, rfl, by rw [if_neg (by omega)], rfl⟩
    · omega
  | succ g ih =>
    intro k hk hs
    refine q_iload_n (pc' := 3) dX9_ruleBySign_2 rfl rfl ?_
    refine q_iconst (pc' := 4) (v := nI 5) dX9_ruleBySign_3 rfl rfl ?_
    refine q_icmp_geN (tgt := 24) (pc' := 7) dX9_ruleBySign_4 (by decide) rfl (by omega) (fun c_4 => ?_) (fun c_4 => ?_)
    · omega
    refine h_getsN (pc' := 10) dX9_ruleBySign_7 st_3 (by decide) nf_X9_78 rfl ?_
    refine q_iload_n (pc' := 11) dX9_ruleBySign_10 rfl rfl ?_
    refine h_tc (pc' := 12) dX9_ruleBySign_11 ro_3 (rfl) (by omega) rfl ?_
    refine q_iload_n (pc' := 13) dX9_ruleBySign_12 rfl rfl ?_
    refine q_icmp_ne (tgt := 18) (pc' := 16) dX9_ruleBySign_13 (by decide) rfl (fun c_13 => ?_) (fun c_13 => ?_)
    · rw [s_find_f (decide_eq_false c_13)] at hs
      refine q_iincN (pc' := 21) (j := 1) (lv' := [_, _]) dX9_ruleBySign_18 rfl (by decide) rfl rfl ?_
      refine q_goto (pc' := 2) dX9_ruleBySign_21 (by decide) ?_
      exact ih (k + 1) (by omega) hs
    · rw [s_find_t (decide_eq_true c_13)] at hs
      refine q_iload_n (pc' := 17) dX9_ruleBySign_16 rfl rfl ?_
      refine q_iret dX9_ruleBySign_17 rfl rfl ⟨_, rfl, by rw [← hs, if_pos (by omega)], rfl⟩
/-- the number of a RULE: whether it is one within bounds, where the reader stands then, the number -/
def s_rv (B : List Nat) (a : Nat) : Int32 := (s_dv B a 0 (s_de B 2 a - a)).toInt32
def s_rnOk (B : List Nat) (k a : Nat) : Bool := s_dok B 2 a && s_isBound k (s_rv B a)
def s_rnAt (B : List Nat) (k a : Nat) : Nat := if s_dok B 2 a = true ∧ s_isBound k (s_rv B a) = false then s_de B 2 a - 1 else s_de B 2 a
theorem s_bd {k : Nat} {x : Int32} (h : s_isBound k x = true) : x = nI (s_i x) ∧ s_i x ≤ 16 ∧ (q_low k).toInt ≤ (s_i x : Int) ∧ (s_i x : Int) ≤ (q_high k).toInt := by
  unfold s_isBound at h
  have h := of_decide_eq_true h
  have hl : 0 ≤ (q_low k).toInt ∧ (q_high k).toInt ≤ 16 := by
    match k with
    | 0 => decide
    | 1 => decide
    | 2 => decide
    | 3 => decide
    | n + 4 => exact ⟨by show (0 : Int) ≤ (1 : Int32).toInt; decide, by show (8 : Int32).toInt ≤ 16; decide⟩
  have e : (s_i x : Int) = x.toInt := by unfold s_i; omega
  exact ⟨by rw [z_eq, z_n (by omega)]; omega, by omega, by omega, by omega⟩
theorem s_rok_u {rl : Nat → Nat} {k : Nat} {x : Int32} (h : s_rok rl) (hk : k < 5) (hb : s_isBound k x = true) : s_rok (q_u rl k (s_i x)) := by
  obtain ⟨-, -, h1, h2⟩ := s_bd hb
  obtain ⟨a, b, c, d, e⟩ := h
  have q : k = 0 ∨ k = 1 ∨ k = 2 ∨ k = 3 ∨ k = 4 := by omega
  rcases q with rfl | rfl | rfl | rfl | rfl
  · exact ⟨⟨by have : (2 : Int) ≤ (s_i x : Int) := h1; show 2 ≤ s_i x; omega, by have : (s_i x : Int) ≤ 16 := h2; show s_i x ≤ 16; omega⟩, b, c, d, e⟩
  · exact ⟨a, ⟨by have : (1 : Int) ≤ (s_i x : Int) := h1; show 1 ≤ s_i x; omega, by have : (s_i x : Int) ≤ 16 := h2; show s_i x ≤ 16; omega⟩, c, d, e⟩
  · exact ⟨a, b, by have : (s_i x : Int) ≤ 14 := h2; show s_i x ≤ 14; omega, d, e⟩
  · exact ⟨a, b, c, ⟨by have : (4 : Int) ≤ (s_i x : Int) := h1; show 4 ≤ s_i x; omega, by have : (s_i x : Int) ≤ 16 := h2; show s_i x ≤ 16; omega⟩, e⟩
  · exact ⟨a, b, c, d, ⟨by have : (1 : Int) ≤ (s_i x : Int) := h1; show 1 ≤ s_i x; omega, by have : (s_i x : Int) ≤ 8 := h2; show s_i x ≤ 8; omega⟩⟩
theorem col_rule {m : q_Mm} {o n k w : Nat} {x : Int32} {xs : Nat → Int64} {rl : Nat → Nat} {nt : Nat → Int32} (h : Col m o n k xs rl nt) (hw : w < 5) (hb : s_isBound w x = true) : Col (sA m (o + 2) (q_u (m.2.2.1 (o + 2)) w x)) o n k xs (q_u rl w (s_i x)) nt := by
  obtain ⟨a1, a2, a3, a4, a5, a6, a7, a8⟩ := h
  refine ⟨a1, a2, a3, a4, a5, fun i hi => ?_, fun i hi => ?_, s_rok_u a8 hw hb⟩
  · show q_up m.2.2.1 (o + 2) (q_u (m.2.2.1 (o + 2)) w x) (o + 2) i = _
    rw [q_up_s]
    by_cases z : i = w
    · rw [z, q_u_s, q_u_s]; exact (s_bd hb).1
    · rw [q_u_n _ _ z, q_u_n _ _ z]; exact a6 i hi
  · show q_up m.2.2.1 (o + 2) (q_u (m.2.2.1 (o + 2)) w x) (o + 3) i = _
    rw [q_up_n _ _ (by omega)]
    exact a7 i hi
theorem z_m1n {q : Nat} (h : q < 2 ^ 31) : ¬ nI q = -1 := fun e => by
  rw [z_eq, z_n h] at e
  have e : (q : Int) = -1 := e
  omega
theorem s_rnAt_le {B : List Nat} {k a : Nat} (h : a ≤ 320) (hB : B.length ≤ 320) : s_rnAt B k a ≤ 320 := by
  have := s_de_le (B := B) (k := 2) h hB
  unfold s_rnAt
  split <;> omega
set_option maxHeartbeats 4000000 in
set_option maxRecDepth 20000 in
theorem c_ruleNumberIn {Z : q_Z} {m : q_Mm} {d : Nat} {B : List Nat} {a k n : Nat} {xs : Nat → Int64} {rl : Nat → Nat} {nt : Nat → Int32} (hO : Oct m 6 B) (ha : m.1 10 5 = nI a) (hl : a ≤ 320) (hk : k < 5) (hC : Col m 11 n 0 xs rl nt) : q_V (q_g Z) mX9_ruleNumberIn (d+2) 0 0 0 [some (.ref (q_ad Z 10)), some (.int (nI k))] [] (q_W Z m) (q_P Z fun r m2 => r = some (.int (q_b (s_rnOk B k a))) ∧ Fr [10, 13] m m2 ∧ Kp 10 [5] m m2 ∧ m2.1 10 5 = nI (s_rnAt B k a) ∧ (s_rnOk B k a = true → Col m2 11 n 0 xs (q_u rl k (s_i (s_rv B a))) nt)) := by
  have hb := hO.2.1
  have hde := s_de_le (B := B) (k := 2) hl hb
  have hge := s_find_ge (fun j => !s_dig (s_sg B j)) 2 a
  refine q_aload_n (pc' := 1) dX9_ruleNumberIn_0 rfl rfl ?_
  refine q_lconst (pc' := 2) (v := 0) dX9_ruleNumberIn_1 rfl rfl ?_
  refine h_putj (pc' := 5) dX9_ruleNumberIn_2 fX9_82 rfl rfl rfl rfl rfl ?_
  refine q_aload_n (pc' := 6) dX9_ruleNumberIn_5 rfl rfl ?_
  refine q_iconst (pc' := 7) (v := nI 2) dX9_ruleNumberIn_6 rfl rfl ?_
  refine h_callV (pc' := 10) (M' := mX9_digitsIn) (As := [_]) dX9_ruleNumberIn_7 iX9_digitsIn lX9_86 rfl rfl rfl rfl (Nat.le_of_ble_eq_true rfl) (Nat.le_of_ble_eq_true rfl) rfl rfl (c_digitsIn (v := 0) (hO.fr ((Fr.rf (S := [10])).J (by decide)) (by decide) (by decide)) ha hl rfl (by decide)) (fun r m' hq => ?_)
  obtain ⟨rfl, f1, k1, e1, e2⟩ := hq
  have f1 : Fr [10] m m' := (Fr.rf.J (by decide)).trans f1
  have k1 : Kp 10 [5] m m' := k1
  have hC1 := hC.fr f1 (by decide) (by decide) (by decide) (by decide)
  refine q_iconst (pc' := 11) (v := (-1)) dX9_ruleNumberIn_10 rfl rfl ?_
  refine q_icmp_ne (tgt := 16) (pc' := 14) dX9_ruleNumberIn_11 (by decide) rfl (fun c_11 => ?_) (fun c_11 => ?_)
  rotate_left
  · have hno : s_dok B 2 a = false := by
      cases hq : s_dok B 2 a with
      | false => rfl
      | true =>
        rw [if_pos hq] at c_11
        exact absurd c_11 (z_m1n (by omega))
    have hno2 : s_rnOk B k a = false := by unfold s_rnOk; rw [hno]; rfl
    refine q_iconst (pc' := 15) (v := nI 0) dX9_ruleNumberIn_14 rfl rfl ?_
    refine q_iret dX9_ruleNumberIn_15 rfl (by first | exact q_nb0 | exact q_nb1 | exact q_nb _) ⟨_, rfl, by rw [hno2]; rfl, f1.mono (by decide), k1, by rw [e1]; unfold s_rnAt; rw [if_neg (fun z => by rw [hno] at z; exact absurd z.1 (by decide))], fun z => by rw [hno2] at z; cases z⟩
  have hyes : s_dok B 2 a = true := by
    cases hq : s_dok B 2 a with
    | true => rfl
    | false => exact absurd (by rw [hq, if_neg (by decide)]) c_11
  have hlt : a < s_de B 2 a := by
    have h := hyes
    unfold s_dok at h
    rw [Bool.and_eq_true] at h
    exact of_decide_eq_true h.1
  have e3 : (m'.2.1 10 6).toInt32 = s_rv B a := by rw [e2]; rfl
  refine q_iload_n (pc' := 17) dX9_ruleNumberIn_16 rfl rfl ?_
  refine q_aload_n (pc' := 18) dX9_ruleNumberIn_17 rfl rfl ?_
  refine h_getj (pc' := 21) dX9_ruleNumberIn_18 fX9_82 rfl rfl rfl ?_
  refine q_l2i (pc' := 22) dX9_ruleNumberIn_21 rfl ?_
  rw [e3]
  refine h_callSN (pc' := 25) (M' := mX10_isBound) (As := [_, _]) dX9_ruleNumberIn_22 iX10_isBound nm_X9_89 rfl rfl (Nat.le_of_ble_eq_true rfl) (Nat.le_of_ble_eq_true rfl) rfl rfl ((c_isBound hk).up (Nat.zero_le _)) (fun r m' hq => ?_)
  obtain ⟨rfl, hmm⟩ := hq
  subst m'
  refine q_if_neB (tgt := 40) (pc' := 28) dX9_ruleNumberIn_25 (by decide) rfl (fun c_25 => ?_) (fun c_25 => ?_)
  rotate_left
  · have hno2 : s_rnOk B k a = false := by unfold s_rnOk; rw [c_25]; simp
    refine q_aload_n (pc' := 29) dX9_ruleNumberIn_28 rfl rfl ?_
    refine q_dup (pc' := 30) dX9_ruleNumberIn_29 rfl rfl ?_
    refine h_getiE (pc' := 33) dX9_ruleNumberIn_30 fX9_37 rfl rfl (e1) rfl ?_
    refine q_iconst (pc' := 34) (v := nI 1) dX9_ruleNumberIn_33 rfl rfl ?_
    refine q_isubN (pc' := 35) dX9_ruleNumberIn_34 (by omega) rfl ?_
    refine h_puti (pc' := 38) dX9_ruleNumberIn_35 fX9_37 rfl rfl rfl rfl rfl ?_
    refine q_iconst (pc' := 39) (v := nI 0) dX9_ruleNumberIn_38 rfl rfl ?_
    refine q_iret dX9_ruleNumberIn_39 rfl (by first | exact q_nb0 | exact q_nb1 | exact q_nb _) ⟨_, rfl, by rw [hno2]; rfl, (f1.mono (by decide)).I (by decide), kp_I k1 (by decide), by show nI _ = _; unfold s_rnAt; rw [if_pos ⟨hyes, c_25⟩], fun z => by rw [hno2] at z; cases z⟩
  · have hok : s_rnOk B k a = true := by unfold s_rnOk; rw [hyes, c_25]; rfl
    refine q_aload_n (pc' := 41) dX9_ruleNumberIn_40 rfl rfl ?_
    refine h_getr (pc' := 44) dX9_ruleNumberIn_41 fX9_12 rfl rfl rfl ?_
    refine h_getr (pc' := 47) dX9_ruleNumberIn_44 fX9_93 rfl rfl rfl ?_
    refine q_iload_n (pc' := 48) dX9_ruleNumberIn_47 rfl rfl ?_
    refine q_aload_n (pc' := 49) dX9_ruleNumberIn_48 rfl rfl ?_
    refine h_getj (pc' := 52) dX9_ruleNumberIn_49 fX9_82 rfl rfl rfl ?_
    refine q_l2i (pc' := 53) dX9_ruleNumberIn_52 rfl ?_
    rw [e3]
    refine h_iast (pc' := 54) dX9_ruleNumberIn_53 rfl (rfl) (by omega) (by decide) rfl ?_
    refine q_iconst (pc' := 55) (v := nI 1) dX9_ruleNumberIn_54 rfl rfl ?_
    refine q_iret dX9_ruleNumberIn_55 rfl (by first | exact q_nb0 | exact q_nb1 | exact q_nb _) ⟨_, rfl, by rw [hok]; rfl, (f1.mono (by decide)).A (by decide), k1, by show m'.1 10 5 = _; rw [e1]; unfold s_rnAt; rw [if_neg (fun z => by rw [c_25] at z; exact absurd z.2 (by decide))], fun _ => col_rule hC1 hk c_25⟩
theorem z_nb0 : vp_nar .boolean (nI 0) = nI 0 := by decide
/-- ITEMS from a on: whether they are well made, where the reader stands then, the RULES -/
def s_rul (B : List Nat) : Nat → Nat → (Nat → Bool) → (Nat → Nat) → Bool × Nat × (Nat → Nat)
  | 0, a, _, rl => (true, a, rl)
  | f + 1, a, gv, rl =>
    if s_rb (s_sg B (s_skb B a)) < 5 then
      (if gv (s_rb (s_sg B (s_skb B a))) = true then (false, s_skb B a, rl)
      else if s_rnOk B (s_rb (s_sg B (s_skb B a))) (s_skb B (s_skb B a + 1)) = true then s_rul B f (s_rnAt B (s_rb (s_sg B (s_skb B a))) (s_skb B (s_skb B a + 1))) (q_u gv (s_rb (s_sg B (s_skb B a))) true) (q_u rl (s_rb (s_sg B (s_skb B a))) (s_i (s_rv B (s_skb B (s_skb B a + 1)))))
      else (false, s_rnAt B (s_rb (s_sg B (s_skb B a))) (s_skb B (s_skb B a + 1)), rl))
    else (true, s_skb B a, rl)
theorem s_rul_n {B : List Nat} {f a : Nat} {gv : Nat → Bool} {rl : Nat → Nat} (h : ¬ s_rb (s_sg B (s_skb B a)) < 5) : s_rul B (f + 1) a gv rl = (true, s_skb B a, rl) := if_neg h
theorem s_rul_g {B : List Nat} {f a k : Nat} {gv : Nat → Bool} {rl : Nat → Nat} (hk : s_rb (s_sg B (s_skb B a)) = k) (h : k < 5) (g : gv k = true) : s_rul B (f + 1) a gv rl = (false, s_skb B a, rl) := by
  subst hk
  exact (if_pos h).trans (if_pos g)
theorem s_rul_y {B : List Nat} {f a k : Nat} {gv : Nat → Bool} {rl : Nat → Nat} (hk : s_rb (s_sg B (s_skb B a)) = k) (h : k < 5) (g : gv k = false) (o : s_rnOk B k (s_skb B (s_skb B a + 1)) = true) : s_rul B (f + 1) a gv rl = s_rul B f (s_rnAt B k (s_skb B (s_skb B a + 1))) (q_u gv k true) (q_u rl k (s_i (s_rv B (s_skb B (s_skb B a + 1))))) := by
  subst hk
  exact (if_pos h).trans ((if_neg (by rw [g]; decide)).trans (if_pos o))
theorem s_rul_o {B : List Nat} {f a k : Nat} {gv : Nat → Bool} {rl : Nat → Nat} (hk : s_rb (s_sg B (s_skb B a)) = k) (h : k < 5) (g : gv k = false) (o : s_rnOk B k (s_skb B (s_skb B a + 1)) = false) : s_rul B (f + 1) a gv rl = (false, s_rnAt B k (s_skb B (s_skb B a + 1)), rl) := by
  subst hk
  exact (if_pos h).trans ((if_neg (by rw [g]; decide)).trans (if_neg (by rw [o]; decide)))
theorem s_rb_in {B : List Nat} {a : Nat} (h : s_rb (s_sg B a) < 5) : a < B.length := by
  refine s_sg_in (fun e => ?_)
  rw [e] at h
  exact absurd h (by decide)
set_option maxHeartbeats 4000000 in
set_option maxRecDepth 20000 in
theorem c_rulesIn {Z : q_Z} {m : q_Mm} {d : Nat} {B : List Nat} {a n : Nat} {xs : Nat → Int64} {rl : Nat → Nat} {nt : Nat → Int32} (hO : Oct m 6 B) (ha : m.1 10 5 = nI a) (hl : a < B.length) (hC : Col m 11 n 0 xs rl nt) : q_V (q_g Z) mX9_rulesIn (d+3) 0 0 0 [some (.ref (q_ad Z 10)), none, none] [] (q_W Z m) (q_P Z fun r m2 => r = some (.int (q_b (s_rul B 6 (a + 1) (fun _ => false) rl).1)) ∧ Fr [10, 13, 15] m m2 ∧ Kp 10 [4, 5] m m2 ∧ m2.1 10 4 = q_b true ∧ m2.1 10 5 = nI (s_rul B 6 (a + 1) (fun _ => false) rl).2.1 ∧ (s_rul B 6 (a + 1) (fun _ => false) rl).2.1 ≤ 320 ∧ ((s_rul B 6 (a + 1) (fun _ => false) rl).1 = true → Col m2 11 n 0 xs (s_rul B 6 (a + 1) (fun _ => false) rl).2.2 nt)) := by
  have hb := hO.2.1
  generalize hR : s_rul B 6 (a + 1) (fun _ => false) rl = R
  refine q_aload_n (pc' := 1) dX9_rulesIn_0 rfl rfl ?_
  refine q_iconst (pc' := 2) (v := nI 1) dX9_rulesIn_1 rfl rfl ?_
  refine h_puti (pc' := 5) dX9_rulesIn_2 fX9_33 rfl rfl (rfl) rfl rfl ?_
  refine q_aload_n (pc' := 6) dX9_rulesIn_5 rfl rfl ?_
  refine q_dup (pc' := 7) dX9_rulesIn_6 rfl rfl ?_
  refine h_getiE (pc' := 10) dX9_rulesIn_7 fX9_37 rfl rfl (ha) rfl ?_
  refine q_iconst (pc' := 11) (v := nI 1) dX9_rulesIn_10 rfl rfl ?_
  refine q_iaddN (pc' := 12) dX9_rulesIn_11 rfl ?_
  refine h_puti (pc' := 15) dX9_rulesIn_12 fX9_37 rfl rfl rfl rfl rfl ?_
  refine q_iconst (pc' := 16) (v := nI 0) dX9_rulesIn_15 rfl rfl ?_
  refine q_istore_n (pc' := 17) (lv' := [_, _, _]) dX9_rulesIn_16 (by decide) rfl rfl ?_
  have main : ∀ f k a1 gv rl1 w m1, k + f = 6 → a1 ≤ 320 → Fr [10, 13, 15] m m1 → Kp 10 [4, 5] m m1 → m1.1 10 4 = nI 1 → m1.1 10 5 = nI a1 → (∀ i, i < 5 → m1.2.2.1 15 i = q_b (gv i)) → Col m1 11 n 0 xs rl1 nt → s_rul B f a1 gv rl1 = R → q_V (q_g Z) mX9_rulesIn (d+3) 0 0 37 [some (.ref (q_ad Z 10)), some (.int (nI k)), w] [] (q_W Z (m1)) (q_P Z fun r m2 => r = some (.int (q_b R.1)) ∧ Fr [10, 13, 15] m m2 ∧ Kp 10 [4, 5] m m2 ∧ m2.1 10 4 = q_b true ∧ m2.1 10 5 = nI R.2.1 ∧ R.2.1 ≤ 320 ∧ (R.1 = true → Col m2 11 n 0 xs R.2.2 nt)) := by
    intro f
    induction f with
    | zero =>
      intro k a1 gv rl1 w m1 hk ha1 f1 k1 e4 e5 hg hC1 hs
      have hs : (true, a1, rl1) = R := hs
      subst hs
      refine q_iload_n (pc' := 38) dX9_rulesIn_37 rfl rfl ?_
      refine q_iconst (pc' := 39) (v := nI 5) dX9_rulesIn_38 rfl rfl ?_
      refine q_icmp_gtN (tgt := 109) (pc' := 42) dX9_rulesIn_39 (by decide) rfl (by omega) (fun c_39 => ?_) (fun c_39 => ?_)
      · refine q_iconst (pc' := 110) (v := nI 1) dX9_rulesIn_109 rfl rfl ?_
        refine q_iret dX9_rulesIn_110 rfl (by first | exact q_nb0 | exact q_nb1 | exact q_nb _) ⟨_, rfl, rfl, f1, k1, e4, e5, ha1, fun _ => hC1⟩
      · omega
    | succ f ih =>
      intro k a1 gv rl1 w m1 hk ha1 f1 k1 e4 e5 hg hC1 hs
      have hO1 := hO.fr f1 (by decide) (by decide)
      refine q_iload_n (pc' := 38) dX9_rulesIn_37 rfl rfl ?_
      refine q_iconst (pc' := 39) (v := nI 5) dX9_rulesIn_38 rfl rfl ?_
      refine q_icmp_gtN (tgt := 109) (pc' := 42) dX9_rulesIn_39 (by decide) rfl (by omega) (fun c_39 => ?_) (fun c_39 => ?_)
      · omega
      refine q_aload_n (pc' := 43) dX9_rulesIn_42 rfl rfl ?_
      refine h_callV (pc' := 46) (M' := mX9_skipBlanks) (As := []) dX9_rulesIn_43 iX9_skipBlanks lX9_41 rfl rfl rfl rfl (Nat.le_of_ble_eq_true rfl) (Nat.le_of_ble_eq_true rfl) rfl rfl ((c_skip hO1 e5 ha1).up (Nat.zero_le _)) (fun r m' hq => ?_)
      obtain ⟨rfl, t2⟩ := hq
      have hsk := s_skb_le ha1 hb
      have hO2 := hO1.fr t2.1 (by decide) (by decide)
      have f2 : Fr [10, 13, 15] m m' := f1.trans (t2.1.mono (by decide))
      have k2 : Kp 10 [4, 5] m m' := k1.trans (t2.2.1.mono (by decide))
      have e42 : m'.1 10 4 = nI 1 := (t2.2.1 4 (by decide)).trans e4
      have hg2 : ∀ i, i < 5 → m'.2.2.1 15 i = q_b (gv i) := fun i hi => (congrFun (t2.1.a (by decide)) i).trans (hg i hi)
      have hC2 := hC1.fr t2.1 (by decide) (by decide) (by decide) (by decide)
      have e52 := t2.2.2.2
      generalize hb2 : s_skb B a1 = b at hsk e52 t2
      have hrb := s_rb_le (s_sg B b)
      generalize hkk : s_rb (s_sg B b) = kk at hrb
      obtain ⟨m3, hm3⟩ : ∃ z, z = m' := ⟨_, rfl⟩
      subst hm3
      refine q_aload_n (pc' := 47) dX9_rulesIn_46 rfl rfl ?_
      refine h_callV (pc' := 50) (M' := mX9_sign) (As := []) dX9_rulesIn_47 iX9_sign lX9_53 rfl rfl rfl rfl (Nat.le_of_ble_eq_true rfl) (Nat.le_of_ble_eq_true rfl) rfl rfl ((c_sign hO2 e52 hsk).up (Nat.zero_le _)) (fun r m' hq => ?_)
      obtain ⟨rfl, hmm⟩ := hq
      subst m'
      refine h_callS (pc' := 53) (M' := mX9_ruleBySign) (As := [_]) dX9_rulesIn_50 iX9_ruleBySign lX9_70 rfl rfl (Nat.le_of_ble_eq_true rfl) (Nat.le_of_ble_eq_true rfl) rfl rfl (c_ruleBySign.up (Nat.zero_le _)) (fun r m' hq => ?_)
      obtain ⟨rfl, hmm⟩ := hq
      subst m'
      rw [hkk]
      refine q_istore_n (pc' := 54) (lv' := [_, _, _]) dX9_rulesIn_53 (by decide) rfl rfl ?_
      refine q_iload_n (pc' := 55) dX9_rulesIn_54 rfl rfl ?_
      refine q_iconst (pc' := 56) (v := (-1)) dX9_rulesIn_55 rfl rfl ?_
      refine q_icmp_ne (tgt := 61) (pc' := 59) dX9_rulesIn_56 (by decide) rfl (fun c_56 => ?_) (fun c_56 => ?_)
      rotate_left
      · have hno : ¬ kk < 5 := fun z => by
          rw [if_pos z] at c_56
          exact z_m1n (by omega) c_56
        rw [s_rul_n (by rw [hb2, hkk]; exact hno)] at hs
        subst hs
        refine q_iconst (pc' := 60) (v := nI 1) dX9_rulesIn_59 rfl rfl ?_
        refine q_iret dX9_rulesIn_60 rfl (by first | exact q_nb0 | exact q_nb1 | exact q_nb _) ⟨_, rfl, rfl, f2, k2, e42, by rw [hb2]; exact e52, by rw [hb2]; exact hsk, fun _ => hC2⟩
      have hk5 : kk < 5 := by
        rcases Nat.lt_or_ge kk 5 with q | q
        · exact q
        · exact absurd (if_neg (by omega)) c_56
      rw [if_pos hk5]
      have hin : b < B.length := s_rb_in (by rw [hkk]; exact hk5)
      have hkk2 : s_rb (s_sg B (s_skb B a1)) = kk := by rw [hb2]; exact hkk
      refine q_aload_n (pc' := 62) dX9_rulesIn_61 rfl rfl ?_
      refine h_getr (pc' := 65) dX9_rulesIn_62 fX9_18 rfl rfl rfl ?_
      refine q_iload_n (pc' := 66) dX9_rulesIn_65 rfl rfl ?_
      refine h_zaldE (pc' := 67) dX9_rulesIn_66 rfl (rfl) (hk5) (by decide) (hg2 kk hk5) rfl ?_
      refine q_if_eqB (tgt := 72) (pc' := 70) dX9_rulesIn_67 (by decide) rfl (fun c_67 => ?_) (fun c_67 => ?_)
      rotate_left
      · rw [s_rul_g hkk2 hk5 c_67, hb2] at hs
        subst hs
        refine q_iconst (pc' := 71) (v := nI 0) dX9_rulesIn_70 rfl rfl ?_
        refine q_iret dX9_rulesIn_71 rfl (by first | exact q_nb0 | exact q_nb1 | exact q_nb _) ⟨_, rfl, rfl, f2, k2, e42, e52, hsk, fun z => by cases z⟩
      refine q_aload_n (pc' := 73) dX9_rulesIn_72 rfl rfl ?_
      refine h_getr (pc' := 76) dX9_rulesIn_73 fX9_18 rfl rfl rfl ?_
      refine q_iload_n (pc' := 77) dX9_rulesIn_76 rfl rfl ?_
      refine q_iconst (pc' := 78) (v := nI 1) dX9_rulesIn_77 rfl rfl ?_
      refine h_zast (pc' := 79) dX9_rulesIn_78 rfl (rfl) (hk5) (by decide) rfl ?_
      refine q_aload_n (pc' := 80) dX9_rulesIn_79 rfl rfl ?_
      refine q_dup (pc' := 81) dX9_rulesIn_80 rfl rfl ?_
      refine h_getiE (pc' := 84) dX9_rulesIn_81 fX9_37 rfl rfl (e52) rfl ?_
      refine q_iconst (pc' := 85) (v := nI 1) dX9_rulesIn_84 rfl rfl ?_
      refine q_iaddN (pc' := 86) dX9_rulesIn_85 rfl ?_
      refine h_puti (pc' := 89) dX9_rulesIn_86 fX9_37 rfl rfl rfl rfl rfl ?_
      generalize hm4 : sI (sA m3 15 (q_u (m3.2.2.1 15) kk (vp_nar .boolean (nI 1)))) 10 5 (nI (b + 1)) = m4
      have f4 : Fr [10, 13, 15] m m4 := hm4 ▸ (f2.A (by decide)).I (by decide)
      have k4 : Kp 10 [4, 5] m m4 := hm4 ▸ kp_I (m1 := sA m3 15 (q_u (m3.2.2.1 15) kk (vp_nar .boolean (nI 1)))) k2 (by decide)
      have e44 : m4.1 10 4 = nI 1 := hm4 ▸ e42
      have e54 : m4.1 10 5 = nI (b + 1) := hm4 ▸ rfl
      have hg4 : ∀ i, i < 5 → m4.2.2.1 15 i = q_b (q_u gv kk true i) := fun i hi => by
        subst hm4
        show q_u (m3.2.2.1 15) kk (vp_nar .boolean (nI 1)) i = _
        by_cases z : i = kk
        · rw [z, q_u_s, q_u_s, z_nb1]; rfl
        · rw [q_u_n _ _ z, q_u_n _ _ z]; exact hg2 i hi
      have g4 : Fr [10, 15] m3 m4 := hm4 ▸ ((Fr.rf.A (by decide)).I (by decide))
      have hC4 := hC2.fr g4 (by decide) (by decide) (by decide) (by decide)
      have hO4 := hO2.fr g4 (by decide) (by decide)
      refine q_aload_n (pc' := 90) dX9_rulesIn_89 rfl rfl ?_
      refine h_callV (pc' := 93) (M' := mX9_skipBlanks) (As := []) dX9_rulesIn_90 iX9_skipBlanks lX9_41 rfl rfl rfl rfl (Nat.le_of_ble_eq_true rfl) (Nat.le_of_ble_eq_true rfl) rfl rfl ((c_skip hO4 e54 (by omega)).up (Nat.zero_le _)) (fun r m' hq => ?_)
      obtain ⟨rfl, t5⟩ := hq
      have hO5 := hO4.fr t5.1 (by decide) (by decide)
      have f5 : Fr [10, 13, 15] m m' := f4.trans (t5.1.mono (by decide))
      have k5 : Kp 10 [4, 5] m m' := k4.trans (t5.2.1.mono (by decide))
      have e45 : m'.1 10 4 = nI 1 := (t5.2.1 4 (by decide)).trans e44
      have hg5 : ∀ i, i < 5 → m'.2.2.1 15 i = q_b (q_u gv kk true i) := fun i hi => (congrFun (t5.1.a (by decide)) i).trans (hg4 i hi)
      have hC5 := hC4.fr t5.1 (by decide) (by decide) (by decide) (by decide)
      have hs5 := s_skb_le (B := B) (a := b + 1) (by omega) hb
      obtain ⟨m5, hm5⟩ : ∃ z, z = m' := ⟨_, rfl⟩
      subst hm5
      refine q_aload_n (pc' := 94) dX9_rulesIn_93 rfl rfl ?_
      refine q_iload_n (pc' := 95) dX9_rulesIn_94 rfl rfl ?_
      refine h_callV (pc' := 98) (M' := mX9_ruleNumberIn) (As := [_]) dX9_rulesIn_95 iX9_ruleNumberIn lX9_74 rfl rfl rfl rfl (Nat.le_of_ble_eq_true rfl) (Nat.le_of_ble_eq_true rfl) rfl rfl ((c_ruleNumberIn (d := d) hO5 t5.2.2.2 hs5 hk5 hC5).up (Nat.le_refl _)) (fun r m' hq => ?_)
      obtain ⟨rfl, f6, k6, e56, hC6⟩ := hq
      have f7 : Fr [10, 13, 15] m m' := f5.trans (f6.mono (by decide))
      have k7 : Kp 10 [4, 5] m m' := k5.trans (k6.mono (by decide))
      have e47 : m'.1 10 4 = nI 1 := (k6 4 (by decide)).trans e45
      have ha7 := s_rnAt_le (B := B) (k := kk) hs5 hb
      refine q_if_neB (tgt := 103) (pc' := 101) dX9_rulesIn_98 (by decide) rfl (fun c_98 => ?_) (fun c_98 => ?_)
      · rw [s_rul_y hkk2 hk5 c_67 (by rw [hb2]; exact c_98), hb2] at hs
        refine q_iincN (pc' := 106) (j := 1) (lv' := [_, _, _]) dX9_rulesIn_103 rfl (by decide) rfl rfl ?_
        refine q_goto (pc' := 37) dX9_rulesIn_106 (by decide) ?_
        exact ih (k + 1) _ _ _ _ _ (by omega) ha7 f7 k7 e47 e56 (fun i hi => (congrFun (f6.a (by decide)) i).trans (hg5 i hi)) (hC6 c_98) hs
      · rw [s_rul_o hkk2 hk5 c_67 (by rw [hb2]; exact c_98), hb2] at hs
        subst hs
        refine q_iconst (pc' := 102) (v := nI 0) dX9_rulesIn_101 rfl rfl ?_
        refine q_iret dX9_rulesIn_102 rfl (by first | exact q_nb0 | exact q_nb1 | exact q_nb _) ⟨_, rfl, rfl, f7, k7, e47, e56, ha7, fun z => by cases z⟩
  suffices h : ∀ g j m1, j + g = 5 → Fr [10, 15] m m1 → Kp 10 [4, 5] m m1 → m1.1 10 4 = nI 1 → m1.1 10 5 = nI (a + 1) → (∀ i, i < j → m1.2.2.1 15 i = nI 0) → q_V (q_g Z) mX9_rulesIn (d+3) 0 0 17 [some (.ref (q_ad Z 10)), some (.int (nI j)), none] [] (q_W Z (m1)) (q_P Z fun r m2 => r = some (.int (q_b R.1)) ∧ Fr [10, 13, 15] m m2 ∧ Kp 10 [4, 5] m m2 ∧ m2.1 10 4 = q_b true ∧ m2.1 10 5 = nI R.2.1 ∧ R.2.1 ≤ 320 ∧ (R.1 = true → Col m2 11 n 0 xs R.2.2 nt)) from h 5 0 _ rfl ((Fr.rf.I (by decide)).I (by decide)) (kp_I (kp_I Kp.rf (by decide)) (by decide)) rfl rfl (fun i hi => absurd hi (by omega))
  intro g
  induction g with
  | zero =>
    intro j m1 hj f1 k1 e4 e5 hg
    refine q_iload_n (pc' := 18) dX9_rulesIn_17 rfl rfl ?_
    refine q_iconst (pc' := 19) (v := nI 5) dX9_rulesIn_18 rfl rfl ?_
    refine q_icmp_geN (tgt := 35) (pc' := 22) dX9_rulesIn_19 (by decide) rfl (by omega) (fun c_19 => ?_) (fun c_19 => ?_)
    · refine q_iconst (pc' := 36) (v := nI 0) dX9_rulesIn_35 rfl rfl ?_
      refine q_istore_n (pc' := 37) (lv' := [_, _, _]) dX9_rulesIn_36 (by decide) rfl rfl ?_
      exact main 6 0 (a + 1) (fun _ => false) rl _ m1 rfl (by omega) (f1.mono (by decide)) k1 e4 e5 (fun i hi => (hg i (by omega)).trans rfl) (hC.fr f1 (by decide) (by decide) (by decide) (by decide)) hR
    · omega
  | succ g ih =>
    intro j m1 hj f1 k1 e4 e5 hg
    refine q_iload_n (pc' := 18) dX9_rulesIn_17 rfl rfl ?_
    refine q_iconst (pc' := 19) (v := nI 5) dX9_rulesIn_18 rfl rfl ?_
    refine q_icmp_geN (tgt := 35) (pc' := 22) dX9_rulesIn_19 (by decide) rfl (by omega) (fun c_19 => ?_) (fun c_19 => ?_)
    · omega
    refine q_aload_n (pc' := 23) dX9_rulesIn_22 rfl rfl ?_
    refine h_getr (pc' := 26) dX9_rulesIn_23 fX9_18 rfl rfl rfl ?_
    refine q_iload_n (pc' := 27) dX9_rulesIn_26 rfl rfl ?_
    refine q_iconst (pc' := 28) (v := nI 0) dX9_rulesIn_27 rfl rfl ?_
    refine h_zast (pc' := 29) dX9_rulesIn_28 rfl (rfl) (by omega) (by decide) rfl ?_
    refine q_iincN (pc' := 32) (j := 1) (lv' := [_, _, _]) dX9_rulesIn_29 rfl (by decide) rfl rfl ?_
    refine q_goto (pc' := 17) dX9_rulesIn_32 (by decide) ?_
    refine ih (j + 1) _ (by omega) (f1.A (by decide)) k1 e4 e5 (fun i hi => ?_)
    show q_u (m1.2.2.1 15) j (vp_nar .boolean (nI 0)) i = _
    by_cases z : i = j
    · rw [z, q_u_s, z_nb0]
    · rw [q_u_n _ _ z]; exact hg i (by omega)
