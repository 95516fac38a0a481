/-! ===== TextReader: CLAUSES, the TEXT ===== -/
/-- a CLAUSE: whether it is well made, where the reader stands then, whether RULES were told, how many VALUES, VALUES, RULES -/
def s_cls (B : List Nat) (a : Nat) (ru : Bool) (n : Nat) (xs : Nat → Int64) (rl : Nat → Nat) : Bool × Nat × Bool × Nat × (Nat → Int64) × (Nat → Nat) :=
  if s_sg B a = 115 then (if ru = true then (false, a, ru, n, xs, rl) else ((s_rul B 6 (a + 1) (fun _ => false) rl).1, (s_rul B 6 (a + 1) (fun _ => false) rl).2.1, true, n, xs, (s_rul B 6 (a + 1) (fun _ => false) rl).2.2))
  else if n < 40 then ((s_val B a).1, (s_val B a).2.1, ru, n + 1, q_u xs n (s_val B a).2.2, rl) else (false, a, ru, n, xs, rl)
theorem s_cls_n {B : List Nat} {a n : Nat} {ru : Bool} {xs : Nat → Int64} {rl : Nat → Nat} (h : n ≤ 40) : (s_cls B a ru n xs rl).2.2.2.1 ≤ 40 := by
  unfold s_cls
  split
  · split <;> exact h
  · split
    · show n + 1 ≤ 40; omega
    · exact h
set_option maxHeartbeats 4000000 in
set_option maxRecDepth 20000 in
theorem c_clauseIn {Z : q_Z} {m : q_Mm} {d : Nat} {B : List Nat} {a n : Nat} {ru : Bool} {xs : Nat → Int64} {rl : Nat → Nat} {nt : Nat → Int32} (hD : DblOk m) (hO : Oct m 6 B) (ha : m.1 10 5 = nI a) (hl : a ≤ 320) (hru : m.1 10 4 = q_b ru) (hC : Col m 11 n 0 xs rl nt) (hn : n ≤ 40) : q_V (q_g Z) mX9_clauseIn (d+5) 0 0 0 [some (.ref (q_ad Z 10))] [] (q_W Z m) (q_P Z fun r m2 => r = some (.int (q_b (s_cls B a ru n xs rl).1)) ∧ Fr [10, 11, 12, 13, 15] m m2 ∧ m2.1 10 5 = nI (s_cls B a ru n xs rl).2.1 ∧ (s_cls B a ru n xs rl).2.1 ≤ 320 ∧ ((s_cls B a ru n xs rl).1 = true → m2.1 10 4 = q_b (s_cls B a ru n xs rl).2.2.1 ∧ Col m2 11 (s_cls B a ru n xs rl).2.2.2.1 0 (s_cls B a ru n xs rl).2.2.2.2.1 (s_cls B a ru n xs rl).2.2.2.2.2 nt)) := by
  have hb := hO.2.1
  have hc := s_sg_lt hO a
  obtain ⟨R, hR⟩ : ∃ R, s_cls B a ru n xs rl = R := ⟨_, rfl⟩
  have hv := hR.symm
  unfold s_cls at hv
  rw [hR]
  refine q_aload_n (pc' := 1) dX9_clauseIn_0 rfl rfl ?_
  refine h_callV (pc' := 4) (M' := mX9_sign) (As := []) dX9_clauseIn_1 iX9_sign lX9_53 rfl rfl rfl rfl (Nat.le_of_ble_eq_true rfl) (Nat.le_of_ble_eq_true rfl) rfl rfl ((c_sign hO ha hl).up (Nat.zero_le _)) (fun r m' hq => ?_)
  obtain ⟨rfl, hmm⟩ := hq
  subst m'
  refine q_bipush (pc' := 6) (v := nI 115) dX9_clauseIn_4 rfl rfl ?_
  refine q_icmp_neN (tgt := 29) (pc' := 9) dX9_clauseIn_6 (by decide) rfl (by omega) (fun c_6 => ?_) (fun c_6 => ?_)
  rotate_left
  · rw [if_pos c_6] at hv
    have hin := s_sg_in (B := B) (a := a) (by rw [c_6]; decide)
    refine q_aload_n (pc' := 10) dX9_clauseIn_9 rfl rfl ?_
    refine h_getiE (pc' := 13) dX9_clauseIn_10 fX9_33 rfl rfl (hru) rfl ?_
    refine q_if_neB (tgt := 27) (pc' := 16) dX9_clauseIn_13 (by decide) rfl (fun c_13 => ?_) (fun c_13 => ?_)
    · rw [if_pos c_13] at hv
      refine q_iconst (pc' := 28) (v := nI 0) dX9_clauseIn_27 rfl rfl ?_
      refine q_iret dX9_clauseIn_28 rfl (by first | exact q_nb0 | exact q_nb1 | exact q_nb _) ⟨_, rfl, by rw [hv]; rfl, Fr.rf, by rw [hv]; exact ha, by rw [hv]; exact hl, fun z => by rw [hv] at z; cases z⟩
    · rw [if_neg (by rw [c_13]; decide)] at hv
      refine q_aload_n (pc' := 17) dX9_clauseIn_16 rfl rfl ?_
      refine h_callV (pc' := 20) (M' := mX9_rulesIn) (As := []) dX9_clauseIn_17 iX9_rulesIn lX9_61 rfl rfl rfl rfl (Nat.le_of_ble_eq_true rfl) (Nat.le_of_ble_eq_true rfl) rfl rfl ((c_rulesIn (d := d) hO ha hin hC).up (by omega)) (fun r m' hq => ?_)
      obtain ⟨rfl, f1, k1, e4, e5, le5, C1⟩ := hq
      have f1 : Fr [10, 11, 12, 13, 15] m m' := f1.mono (by decide)
      generalize s_rul B 6 (a + 1) (fun _ => false) rl = S at hv e5 le5 C1
      subst hv
      refine q_if_eqB (tgt := 27) (pc' := 23) dX9_clauseIn_20 (by decide) rfl (fun c_20 => ?_) (fun c_20 => ?_)
      · refine q_iconst (pc' := 28) (v := nI 0) dX9_clauseIn_27 rfl rfl ?_
        refine q_iret dX9_clauseIn_28 rfl (by first | exact q_nb0 | exact q_nb1 | exact q_nb _) ⟨_, rfl, by rw [c_20]; rfl, f1, e5, le5, fun z => ⟨e4, C1 z⟩⟩
      · refine q_iconst (pc' := 24) (v := nI 1) dX9_clauseIn_23 rfl rfl ?_
        refine q_goto (pc' := 28) dX9_clauseIn_24 (by decide) ?_
        refine q_iret dX9_clauseIn_28 rfl (by first | exact q_nb0 | exact q_nb1 | exact q_nb _) ⟨_, rfl, by rw [c_20]; rfl, f1, e5, le5, fun z => ⟨e4, C1 z⟩⟩
  rw [if_neg c_6] at hv
  refine q_aload_n (pc' := 30) dX9_clauseIn_29 rfl rfl ?_
  refine h_getr (pc' := 33) dX9_clauseIn_30 fX9_12 rfl rfl rfl ?_
  refine h_getiE (pc' := 36) dX9_clauseIn_33 fX9_64 rfl rfl (hC.1) rfl ?_
  refine q_bipush (pc' := 38) (v := nI 40) dX9_clauseIn_36 rfl rfl ?_
  refine q_icmp_geN (tgt := 52) (pc' := 41) dX9_clauseIn_38 (by decide) rfl (by omega) (fun c_38 => ?_) (fun c_38 => ?_)
  · rw [if_neg (by omega)] at hv
    refine q_iconst (pc' := 53) (v := nI 0) dX9_clauseIn_52 rfl rfl ?_
    refine q_iret dX9_clauseIn_53 rfl (by first | exact q_nb0 | exact q_nb1 | exact q_nb _) ⟨_, rfl, by rw [hv]; rfl, Fr.rf, by rw [hv]; exact ha, by rw [hv]; exact hl, fun z => by rw [hv] at z; cases z⟩
  · rw [if_pos c_38] at hv
    have hvl := s_val_le hl hb
    refine q_aload_n (pc' := 42) dX9_clauseIn_41 rfl rfl ?_
    refine h_callV (pc' := 45) (M' := mX9_valueIn) (As := []) dX9_clauseIn_42 iX9_valueIn lX9_67 rfl rfl rfl rfl (Nat.le_of_ble_eq_true rfl) (Nat.le_of_ble_eq_true rfl) rfl rfl ((c_valueIn (d := d) hD hO ha hl hC (by omega)).up (by omega)) (fun r m' hq => ?_)
    obtain ⟨rfl, f1, k1, e5, C1⟩ := hq
    have f1 : Fr [10, 11, 12, 13, 15] m m' := f1.mono (by decide)
    have e4 : m'.1 10 4 = q_b ru := (k1 4 (by decide)).trans hru
    generalize s_val B a = S at hv e5 hvl C1
    subst hv
    refine q_if_eqB (tgt := 52) (pc' := 48) dX9_clauseIn_45 (by decide) rfl (fun c_45 => ?_) (fun c_45 => ?_)
    · refine q_iconst (pc' := 53) (v := nI 0) dX9_clauseIn_52 rfl rfl ?_
      refine q_iret dX9_clauseIn_53 rfl (by first | exact q_nb0 | exact q_nb1 | exact q_nb _) ⟨_, rfl, by rw [c_45]; rfl, f1, e5, hvl, fun z => ⟨e4, C1 z⟩⟩
    · refine q_iconst (pc' := 49) (v := nI 1) dX9_clauseIn_48 rfl rfl ?_
      refine q_goto (pc' := 53) dX9_clauseIn_49 (by decide) ?_
      refine q_iret dX9_clauseIn_53 rfl (by first | exact q_nb0 | exact q_nb1 | exact q_nb _) ⟨_, rfl, by rw [c_45]; rfl, f1, e5, hvl, fun z => ⟨e4, C1 z⟩⟩
/-- the TEXT from a CLAUSE on: the FAULT, if there is one, how many VALUES, VALUES, RULES -/
def s_tx (B : List Nat) : Nat → Nat → Bool → Nat → (Nat → Int64) → (Nat → Nat) → Option Nat × Nat × (Nat → Int64) × (Nat → Nat)
  | 0, a, _, n, xs, rl => (some a, n, xs, rl)
  | f + 1, a, ru, n, xs, rl =>
    if (s_cls B (s_skb B a) ru n xs rl).1 = true then
      (if B.length ≤ s_skb B (s_cls B (s_skb B a) ru n xs rl).2.1 then (none, (s_cls B (s_skb B a) ru n xs rl).2.2.2)
      else if s_sg B (s_skb B (s_cls B (s_skb B a) ru n xs rl).2.1) = 59 then s_tx B f (s_skb B (s_cls B (s_skb B a) ru n xs rl).2.1 + 1) (s_cls B (s_skb B a) ru n xs rl).2.2.1 (s_cls B (s_skb B a) ru n xs rl).2.2.2.1 (s_cls B (s_skb B a) ru n xs rl).2.2.2.2.1 (s_cls B (s_skb B a) ru n xs rl).2.2.2.2.2
      else (some (s_skb B (s_cls B (s_skb B a) ru n xs rl).2.1), n, xs, rl))
    else (some (s_cls B (s_skb B a) ru n xs rl).2.1, n, xs, rl)
def s_text (B : List Nat) : Option Nat × Nat × (Nat → Int64) × (Nat → Nat) := s_tx B 42 0 false 0 (fun _ => 0) s_usual
def s_on (o : Option Nat) : Int32 := match o with
  | some a => nI a
  | none => -1
set_option maxHeartbeats 4000000 in
set_option maxRecDepth 20000 in
theorem c_readT {Z : q_Z} {m : q_Mm} {d : Nat} {B : List Nat} {nt : Nat → Int32} (hD : DblOk m) (hO : Oct m 6 B) : q_V (q_g Z) mX9_read (d+6) 0 0 0 [some (.ref (q_ad Z 10)), none] [] (q_W Z m) (q_P Z fun r m2 => r = some (.int (s_on (s_text B).1)) ∧ Fr [10, 11, 12, 13, 15] m m2 ∧ (∀ a, (s_text B).1 = some a → a ≤ 320) ∧ ((s_text B).1 = none → Col m2 11 (s_text B).2.1 0 (s_text B).2.2.1 (s_text B).2.2.2 nt ∧ (s_text B).2.1 ≤ 40)) := by
  have hb := hO.2.1
  obtain ⟨R, hR⟩ : ∃ R, s_text B = R := ⟨_, rfl⟩
  rw [hR]
  refine q_aload_n (pc' := 1) dX9_read_0 rfl rfl ?_
  refine h_getr (pc' := 4) dX9_read_1 fX9_12 rfl rfl rfl ?_
  refine h_callV (pc' := 7) (M' := mX2_clear) (As := []) dX9_read_4 iX2_clear lX9_30 rfl rfl rfl rfl (Nat.le_of_ble_eq_true rfl) (Nat.le_of_ble_eq_true rfl) rfl rfl (c_clear (xs := fun _ => 0) (nt := nt)) (fun r m' hq => ?_)
  obtain ⟨rfl, f1, C1⟩ := hq
  refine q_aload_n (pc' := 8) dX9_read_7 rfl rfl ?_
  refine q_iconst (pc' := 9) (v := nI 0) dX9_read_8 rfl rfl ?_
  refine h_puti (pc' := 12) dX9_read_9 fX9_33 rfl rfl (rfl) rfl rfl ?_
  refine q_aload_n (pc' := 13) dX9_read_12 rfl rfl ?_
  refine q_iconst (pc' := 14) (v := nI 0) dX9_read_13 rfl rfl ?_
  refine h_puti (pc' := 17) dX9_read_14 fX9_37 rfl rfl rfl rfl rfl ?_
  refine q_iconst (pc' := 18) (v := nI 0) dX9_read_17 rfl rfl ?_
  refine q_istore_n (pc' := 19) (lv' := [_, _]) dX9_read_18 (by decide) rfl rfl ?_
  suffices h : ∀ f k a ru n xs rl m1, k + f = 42 → a ≤ 320 → n ≤ 40 → Fr [10, 11, 12, 13, 15] m m1 → m1.1 10 5 = nI a → m1.1 10 4 = q_b ru → Col m1 11 n 0 xs rl nt → s_tx B f a ru n xs rl = R → q_V (q_g Z) mX9_read (d+6) 0 0 19 [some (.ref (q_ad Z 10)), some (.int (nI k))] [] (q_W Z (m1)) (q_P Z fun r m2 => r = some (.int (s_on R.1)) ∧ Fr [10, 11, 12, 13, 15] m m2 ∧ (∀ a, R.1 = some a → a ≤ 320) ∧ (R.1 = none → Col m2 11 R.2.1 0 R.2.2.1 R.2.2.2 nt ∧ R.2.1 ≤ 40)) from h 42 0 0 false 0 (fun _ => 0) s_usual _ rfl (by decide) (by decide) (((f1.mono (by decide)).I (by decide)).I (by decide)) rfl rfl (C1.fr (((Fr.rf (S := [10])).I (by decide)).I (by decide)) (by decide) (by decide) (by decide) (by decide)) hR
  intro f
  induction f with
  | zero =>
    intro k a ru n xs rl m1 hk hl hn f1 e5 e4 C1 hs
    have hs : (some a, n, xs, rl) = R := hs
    subst hs
    refine q_iload_n (pc' := 20) dX9_read_19 rfl rfl ?_
    refine q_bipush (pc' := 22) (v := nI 41) dX9_read_20 rfl rfl ?_
    refine q_icmp_gtN (tgt := 91) (pc' := 25) dX9_read_22 (by decide) rfl (by omega) (fun c_22 => ?_) (fun c_22 => ?_)
    · refine q_aload_n (pc' := 92) dX9_read_91 rfl rfl ?_
      refine h_getiE (pc' := 95) dX9_read_92 fX9_37 rfl rfl (e5) rfl ?_
      refine q_iret dX9_read_95 rfl rfl ⟨_, rfl, rfl, f1, fun z hz => by cases hz; exact hl, fun z => by cases z⟩
    · omega
  | succ f ih =>
    intro k a ru n xs rl m1 hk hl hn f1 e5 e4 C1 hs
    unfold s_tx at hs
    have hO1 := hO.fr f1 (by decide) (by decide)
    have hD1 := hD.fr f1 (by decide) (by decide) (by decide) (by decide)
    refine q_iload_n (pc' := 20) dX9_read_19 rfl rfl ?_
    refine q_bipush (pc' := 22) (v := nI 41) dX9_read_20 rfl rfl ?_
    refine q_icmp_gtN (tgt := 91) (pc' := 25) dX9_read_22 (by decide) rfl (by omega) (fun c_22 => ?_) (fun c_22 => ?_)
    · omega
    refine q_aload_n (pc' := 26) dX9_read_25 rfl rfl ?_
    refine h_callV (pc' := 29) (M' := mX9_skipBlanks) (As := []) dX9_read_26 iX9_skipBlanks lX9_41 rfl rfl rfl rfl (Nat.le_of_ble_eq_true rfl) (Nat.le_of_ble_eq_true rfl) rfl rfl ((c_skip hO1 e5 hl).up (Nat.zero_le _)) (fun r m' hq => ?_)
    obtain ⟨rfl, t2⟩ := hq
    have hsk := s_skb_le hl hb
    have hO2 := hO1.fr t2.1 (by decide) (by decide)
    have hD2 := hD1.fr t2.1 (by decide) (by decide) (by decide) (by decide)
    have C2 := C1.fr t2.1 (by decide) (by decide) (by decide) (by decide)
    have f2 : Fr [10, 11, 12, 13, 15] m m' := f1.trans (t2.1.mono (by decide))
    have e42 := (t2.2.1 4 (by decide)).trans e4
    have e52 := t2.2.2.2
    generalize s_skb B a = b at hsk e52 hs
    obtain ⟨m3, hm3⟩ : ∃ z, z = m' := ⟨_, rfl⟩
    subst hm3
    refine q_aload_n (pc' := 30) dX9_read_29 rfl rfl ?_
    refine h_callV (pc' := 33) (M' := mX9_clauseIn) (As := []) dX9_read_30 iX9_clauseIn lX9_44 rfl rfl rfl rfl (Nat.le_of_ble_eq_true rfl) (Nat.le_of_ble_eq_true rfl) rfl rfl (c_clauseIn hD2 hO2 e52 hsk e42 C2 hn) (fun r m' hq => ?_)
    obtain ⟨rfl, f3, e53, le3, C3⟩ := hq
    have f4 : Fr [10, 11, 12, 13, 15] m m' := f2.trans f3
    have hn3 := s_cls_n (B := B) (a := b) (ru := ru) (xs := xs) (rl := rl) hn
    generalize s_cls B b ru n xs rl = S at hs e53 le3 C3 hn3
    refine q_if_neB (tgt := 41) (pc' := 36) dX9_read_33 (by decide) rfl (fun c_33 => ?_) (fun c_33 => ?_)
    rotate_left
    · rw [if_neg (by rw [c_33]; decide)] at hs
      subst hs
      refine q_aload_n (pc' := 37) dX9_read_36 rfl rfl ?_
      refine h_getiE (pc' := 40) dX9_read_37 fX9_37 rfl rfl (e53) rfl ?_
      refine q_iret dX9_read_40 rfl rfl ⟨_, rfl, rfl, f4, fun z hz => by cases hz; exact le3, fun z => by cases z⟩
    rw [if_pos c_33] at hs
    obtain ⟨e44, C4⟩ := C3 c_33
    have hO4 := hO.fr f4 (by decide) (by decide)
    obtain ⟨m5, hm5⟩ : ∃ z, z = m' := ⟨_, rfl⟩
    subst hm5
    refine q_aload_n (pc' := 42) dX9_read_41 rfl rfl ?_
    refine h_callV (pc' := 45) (M' := mX9_skipBlanks) (As := []) dX9_read_42 iX9_skipBlanks lX9_41 rfl rfl rfl rfl (Nat.le_of_ble_eq_true rfl) (Nat.le_of_ble_eq_true rfl) rfl rfl ((c_skip hO4 e53 le3).up (Nat.zero_le _)) (fun r m' hq => ?_)
    obtain ⟨rfl, t5⟩ := hq
    have hsk5 := s_skb_le le3 hb
    have hO5 := hO4.fr t5.1 (by decide) (by decide)
    have C5 := C4.fr t5.1 (by decide) (by decide) (by decide) (by decide)
    have f5 : Fr [10, 11, 12, 13, 15] m m' := f4.trans (t5.1.mono (by decide))
    have e45 := (t5.2.1 4 (by decide)).trans e44
    have e55 := t5.2.2.2
    generalize s_skb B S.2.1 = b5 at hsk5 e55 hs
    refine q_aload_n (pc' := 46) dX9_read_45 rfl rfl ?_
    refine h_getiE (pc' := 49) dX9_read_46 fX9_37 rfl rfl (e55) rfl ?_
    refine q_aload_n (pc' := 50) dX9_read_49 rfl rfl ?_
    refine h_getr (pc' := 53) dX9_read_50 fX9_22 rfl rfl rfl ?_
    refine h_getiE (pc' := 56) dX9_read_53 fX9_48 rfl rfl (hO5.1) rfl ?_
    refine q_icmp_ltN (tgt := 61) (pc' := 59) dX9_read_56 (by decide) rfl (by omega) (fun c_56 => ?_) (fun c_56 => ?_)
    rotate_left
    · rw [if_pos c_56] at hs
      subst hs
      refine q_iconst (pc' := 60) (v := (-1)) dX9_read_59 rfl rfl ?_
      refine q_iret dX9_read_60 rfl rfl ⟨_, rfl, rfl, f5, (fun z hz => by cases hz), fun _ => ⟨C5, hn3⟩⟩
    rw [if_neg (by omega)] at hs
    obtain ⟨m6, hm6⟩ : ∃ z, z = m' := ⟨_, rfl⟩
    subst hm6
    refine q_aload_n (pc' := 62) dX9_read_61 rfl rfl ?_
    refine h_callV (pc' := 65) (M' := mX9_sign) (As := []) dX9_read_62 iX9_sign lX9_53 rfl rfl rfl rfl (Nat.le_of_ble_eq_true rfl) (Nat.le_of_ble_eq_true rfl) rfl rfl ((c_sign hO5 e55 hsk5).up (Nat.zero_le _)) (fun r m' hq => ?_)
    obtain ⟨rfl, hmm⟩ := hq
    subst m'
    have hcb := s_sg_lt hO b5
    refine q_bipush (pc' := 67) (v := nI 59) dX9_read_65 rfl rfl ?_
    refine q_icmp_eqN (tgt := 75) (pc' := 70) dX9_read_67 (by decide) rfl (by omega) (fun c_67 => ?_) (fun c_67 => ?_)
    · rw [if_pos c_67] at hs
      refine q_aload_n (pc' := 76) dX9_read_75 rfl rfl ?_
      refine q_dup (pc' := 77) dX9_read_76 rfl rfl ?_
      refine h_getiE (pc' := 80) dX9_read_77 fX9_37 rfl rfl (e55) rfl ?_
      refine q_iconst (pc' := 81) (v := nI 1) dX9_read_80 rfl rfl ?_
      refine q_iaddN (pc' := 82) dX9_read_81 rfl ?_
      refine h_puti (pc' := 85) dX9_read_82 fX9_37 rfl rfl rfl rfl rfl ?_
      refine q_iincN (pc' := 88) (j := 1) (lv' := [_, _]) dX9_read_85 rfl (by decide) rfl rfl ?_
      refine q_goto (pc' := 19) dX9_read_88 (by decide) ?_
      exact ih (k + 1) _ _ _ _ _ _ (by omega) (by omega) hn3 (f5.I (by decide)) rfl e45 (C5.fr ((Fr.rf (S := [10])).I (by decide)) (by decide) (by decide) (by decide) (by decide)) hs
    · rw [if_neg c_67] at hs
      subst hs
      refine q_aload_n (pc' := 71) dX9_read_70 rfl rfl ?_
      refine h_getiE (pc' := 74) dX9_read_71 fX9_37 rfl rfl (e55) rfl ?_
      refine q_iret dX9_read_74 rfl rfl ⟨_, rfl, rfl, f5, fun z hz => by cases hz; exact hsk5, fun z => by cases z⟩
