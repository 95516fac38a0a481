/-! ===== Parts ===== -/
theorem q_u_s {α : Type} (f : Nat → α) (i : Nat) (x : α) : q_u f i x i = x := by simp [q_u]
theorem q_u_n {α : Type} (f : Nat → α) {i j : Nat} (x : α) (h : j ≠ i) : q_u f i x j = f j := by simp [q_u, h]
def s_often (ps : Nat → Int32) : Nat → Nat → Nat
  | 0 => fun _ => 0
  | c + 1 => q_u (q_u (s_often ps c) c 0) (s_find (fun j => decide (ps j = ps c)) c 0) (q_u (s_often ps c) c 0 (s_find (fun j => decide (ps j = ps c)) c 0) + 1)
theorem s_often_le (ps : Nat → Int32) : ∀ c i, s_often ps c i ≤ c
  | 0, _ => Nat.le_refl _
  | c + 1, i => by
    have h := s_often_le ps c
    unfold s_often q_u
    have a := h i
    have b := h (s_find (fun j => decide (ps j = ps c)) c 0)
    split <;> split <;> omega
theorem s_find_succ (p : Nat → Bool) (g i : Nat) : s_find p (g + 1) i = if p i = true then i else s_find p g (i + 1) := rfl
theorem s_find_le (p : Nat → Bool) : ∀ g i, s_find p g i ≤ i + g
  | 0, i => Nat.le_refl _
  | g + 1, i => by
    unfold s_find
    split
    · omega
    · have := s_find_le p g (i + 1); omega
theorem s_find_congr {p q : Nat → Bool} : ∀ g i, (∀ j, i ≤ j → j < i + g → p j = q j) → s_find p g i = s_find q g i
  | 0, i, _ => rfl
  | g + 1, i, h => by
    unfold s_find
    rw [h i (Nat.le_refl _) (by omega), s_find_congr g (i + 1) (fun j a b => h j (by omega) (by omega))]
/-- which is told most often, the first of several; how often -/
def s_mo (f : Nat → Nat) : Nat → Option Nat × Nat
  | 0 => (none, 0)
  | i + 1 => if (s_mo f i).2 < f i then (some i, f i) else s_mo f i
theorem s_mo_lt (f : Nat → Nat) : ∀ c i, (s_mo f c).1 = some i → i < c
  | 0, i, h => by simp [s_mo] at h
  | c + 1, i, h => by
    unfold s_mo at h
    split at h
    · cases h; omega
    · have := s_mo_lt f c i h; omega
theorem s_mo_bd (f : Nat → Nat) (b : Nat) (hf : ∀ i, f i ≤ b) : ∀ c, (s_mo f c).2 ≤ b
  | 0 => Nat.zero_le _
  | c + 1 => by
    unfold s_mo
    split
    · exact hf c
    · exact s_mo_bd f b hf c
def s_oi : Option Nat → Int32
  | none => -1
  | some i => nI i
/-- the choice of PARTS: how many, what is left of the counts, the PARTS -/
def s_ch (ps : Nat → Int32) (c : Nat) (f : Nat → Nat) : Nat → Nat × (Nat → Nat) × (Nat → Int32)
  | 0 => (0, f, fun _ => 0)
  | j + 1 => match (s_mo (s_ch ps c f j).2.1 c).1 with
    | none => s_ch ps c f j
    | some i => ((s_ch ps c f j).1 + 1, q_u (s_ch ps c f j).2.1 i 0, q_u (s_ch ps c f j).2.2 (s_ch ps c f j).1 (ps i))
theorem s_ch_le (ps : Nat → Int32) (c : Nat) (f : Nat → Nat) : ∀ j, (s_ch ps c f j).1 ≤ j
  | 0 => Nat.le_refl _
  | j + 1 => by
    have := s_ch_le ps c f j
    unfold s_ch
    split
    · omega
    · show _ + 1 ≤ _
      omega
theorem s_ch_bd (ps : Nat → Int32) (c b : Nat) (f : Nat → Nat) (hf : ∀ i, f i ≤ b) : ∀ j i, (s_ch ps c f j).2.1 i ≤ b
  | 0, i => hf i
  | j + 1, i => by
    have := s_ch_bd ps c b f hf j i
    unfold s_ch
    split
    · exact this
    · simp only [q_u]
      split <;> omega
/-- the place of a PART among those told, their number where it is none of them -/
def s_code (hi : Nat → Int32) (n : Nat) (p : Int32) : Nat := s_find (fun j => decide (hi j = p)) n 0
def s_ci (hi : Nat → Int32) (n : Nat) (p : Int32) : Int32 := if s_code hi n p < n then nI (s_code hi n p) else -1
/-- those that have none of the PARTS told, a bit each -/
def s_miss (hi : Nat → Int32) (n : Nat) (ps : Nat → Int32) : Nat → Int32
  | 0 => nI 0
  | i + 1 => if s_code hi n (ps i) < n then s_miss hi n ps i else s_miss hi n ps i ||| (nI 1 <<< (nI i &&& 31))
def PartO (m : q_Mm) (o c : Nat) (ps : Nat → Int32) : Prop := m.1 o 5 = nI c ∧ c ≤ 16 ∧ (∀ i, i < c → m.2.2.1 (o + 2) i = ps i) ∧ (∀ i, i < c → m.2.2.1 (o + 3) i = nI (s_often ps c i))
/-- what is told of a BLOCK's PARTS -/
def PartC (m : q_Mm) (o c most : Nat) (ps : Nat → Int32) : Prop := m.1 o 1 = nI (s_ch ps c (s_often ps c) most).1 ∧ (∀ i, i < (s_ch ps c (s_often ps c) most).1 → m.2.2.1 (o + 1) i = (s_ch ps c (s_often ps c) most).2.2 i) ∧ m.1 o 2 = s_miss (s_ch ps c (s_often ps c) most).2.2 (s_ch ps c (s_often ps c) most).1 ps c
set_option maxHeartbeats 4000000 in
set_option maxRecDepth 20000 in
theorem c_start_199 {Z : q_Z} {m : q_Mm} {d : Nat} {ps : Nat → Int32} : q_V (q_g Z) mX6_start (d) 0 0 0 [some (.ref (q_ad Z 199))] [] (q_W Z m) (q_P Z fun r m2 => r = none ∧ Fr [199] m m2 ∧ PartO m2 199 0 ps) := by
  refine q_aload_n (pc' := 1) dX6_start_0 rfl rfl ?_
  refine q_iconst (pc' := 2) (v := nI 0) dX6_start_1 rfl rfl ?_
  refine h_puti (pc' := 5) dX6_start_2 fX6_21 rfl rfl rfl rfl rfl ?_
  exact q_vret dX6_start_5 rfl ⟨_, rfl, rfl, Fr.rf.I (by decide), ⟨rfl, by decide, fun i h => absurd h (by omega), fun i h => absurd h (by omega)⟩⟩
set_option maxHeartbeats 4000000 in
set_option maxRecDepth 20000 in
theorem c_offer_199 {Z : q_Z} {m : q_Mm} {d : Nat} {c : Nat} {ps : Nat → Int32} {x : Int32} (hO : PartO m 199 c ps) (hc : c < 16) (hx : ps c = x) : q_V (q_g Z) mX6_offer (d) 0 0 0 [some (.ref (q_ad Z 199)), some (.int x), none] [] (q_W Z m) (q_P Z fun r m2 => r = none ∧ Fr [199, 201, 202] m m2 ∧ PartO m2 199 (c + 1) ps) := by
  obtain ⟨h1, h2, h3, h4⟩ := hO
  subst hx
  refine q_aload_n (pc' := 1) dX6_offer_0 rfl rfl ?_
  refine h_getiE (pc' := 4) dX6_offer_1 fX6_21 rfl rfl (h1) rfl ?_
  refine q_bipush (pc' := 6) (v := nI 16) dX6_offer_4 rfl rfl ?_
  refine q_icmp_ltN (tgt := 10) (pc' := 9) dX6_offer_6 (by decide) rfl (by omega) (fun c_6 => ?_) (fun c_6 => ?_)
  rotate_left
  · omega
  refine q_aload_n (pc' := 11) dX6_offer_10 rfl rfl ?_
  refine h_getr (pc' := 14) dX6_offer_11 fX6_15 rfl rfl rfl ?_
  refine q_aload_n (pc' := 15) dX6_offer_14 rfl rfl ?_
  refine h_geti (pc' := 18) dX6_offer_15 fX6_21 rfl rfl rfl ?_
  refine q_iload_n (pc' := 19) dX6_offer_18 rfl rfl ?_
  refine h_iast (pc' := 20) dX6_offer_19 rfl (h1) (by omega) (by decide) rfl ?_
  refine q_aload_n (pc' := 21) dX6_offer_20 rfl rfl ?_
  refine h_getr (pc' := 24) dX6_offer_21 fX6_18 rfl rfl rfl ?_
  refine q_aload_n (pc' := 25) dX6_offer_24 rfl rfl ?_
  refine h_geti (pc' := 28) dX6_offer_25 fX6_21 rfl rfl rfl ?_
  refine q_iconst (pc' := 29) (v := nI 0) dX6_offer_28 rfl rfl ?_
  refine h_iast (pc' := 30) dX6_offer_29 rfl (h1) (by omega) (by decide) rfl ?_
  refine q_iconst (pc' := 31) (v := nI 0) dX6_offer_30 rfl rfl ?_
  refine q_istore_n (pc' := 32) (lv' := [_, _, _]) dX6_offer_31 (by decide) rfl rfl ?_
  generalize hm1 : sA (sA m 201 (q_u (m.2.2.1 201) c (ps c))) 202 (q_u ((sA m 201 (q_u (m.2.2.1 201) c (ps c))).2.2.1 202) c (nI 0)) = m1
  have f1 : Fr [199, 201, 202] m m1 := hm1 ▸ (Fr.rf.A (by decide)).A (by decide)
  have e1 : m1.1 199 5 = nI c := hm1 ▸ h1
  have e2 : ∀ i, i < c + 1 → m1.2.2.1 201 i = ps i := by
    intro i hi
    rw [← hm1]
    show q_u (m.2.2.1 201) c (ps c) i = ps i
    unfold q_u
    split
    · rename_i h; rw [h]
    · exact h3 i (by omega)
  have e3 : ∀ i, i < c + 1 → m1.2.2.1 202 i = nI (q_u (s_often ps c) c 0 i) := by
    intro i hi
    rw [← hm1]
    show q_u (m.2.2.1 202) c (nI 0) i = _
    unfold q_u
    split
    · rfl
    · exact h4 i (by omega)
  suffices h : ∀ g j, j + g = c → s_find (fun j => decide (ps j = ps c)) g j = s_find (fun j => decide (ps j = ps c)) c 0 → q_V (q_g Z) mX6_offer (d) 0 0 32 [some (.ref (q_ad Z 199)), some (.int (ps c)), some (.int (nI j))] [] (q_W Z (m1)) (q_P Z fun r m2 => r = none ∧ Fr [199, 201, 202] m m2 ∧ PartO m2 199 (c + 1) ps) from h c 0 (by omega) rfl
  have fin : ∀ j, j = s_find (fun j => decide (ps j = ps c)) c 0 → j ≤ c → q_V (q_g Z) mX6_offer (d) 0 0 56 [some (.ref (q_ad Z 199)), some (.int (ps c)), some (.int (nI j))] [] (q_W Z (m1)) (q_P Z fun r m2 => r = none ∧ Fr [199, 201, 202] m m2 ∧ PartO m2 199 (c + 1) ps) := by
    intro j hj hjc
    have e4 : ∀ i, i < c + 1 → q_u (m1.2.2.1 202) j (nI (q_u (s_often ps c) c 0 j + 1)) i = nI (s_often ps (c + 1) i) := by
      intro i hi
      show _ = nI (q_u (q_u (s_often ps c) c 0) (s_find (fun j => decide (ps j = ps c)) c 0) (q_u (s_often ps c) c 0 (s_find (fun j => decide (ps j = ps c)) c 0) + 1) i)
      rw [← hj]
      by_cases h : i = j
      · rw [h, q_u_s, q_u_s]
      · rw [q_u_n _ _ h, q_u_n _ _ h]
        exact e3 i hi
    refine q_aload_n (pc' := 57) dX6_offer_56 rfl rfl ?_
    refine h_getr (pc' := 60) dX6_offer_57 fX6_18 rfl rfl rfl ?_
    refine q_iload_n (pc' := 61) dX6_offer_60 rfl rfl ?_
    refine q_dup2_11 (pc' := 62) dX6_offer_61 rfl rfl rfl ?_
    refine h_ialdE (pc' := 63) dX6_offer_62 rfl (rfl) (by omega) (by decide) (e3 j (by omega)) rfl ?_
    refine q_iconst (pc' := 64) (v := nI 1) dX6_offer_63 rfl rfl ?_
    refine q_iaddN (pc' := 65) dX6_offer_64 rfl ?_
    refine h_iast (pc' := 66) dX6_offer_65 rfl (rfl) (by omega) (by decide) rfl ?_
    refine q_aload_n (pc' := 67) dX6_offer_66 rfl rfl ?_
    refine q_dup (pc' := 68) dX6_offer_67 rfl rfl ?_
    refine h_getiE (pc' := 71) dX6_offer_68 fX6_21 rfl rfl (e1) rfl ?_
    refine q_iconst (pc' := 72) (v := nI 1) dX6_offer_71 rfl rfl ?_
    refine q_iaddN (pc' := 73) dX6_offer_72 rfl ?_
    refine h_puti (pc' := 76) dX6_offer_73 fX6_21 rfl rfl rfl rfl rfl ?_
    exact q_vret dX6_offer_76 rfl ⟨_, rfl, rfl, (f1.A (by decide)).I (by decide), ⟨rfl, by omega, fun i hi => e2 i hi, e4⟩⟩
  intro g
  induction g with
  | zero =>
    intro j hj hs
    refine q_iload_n (pc' := 33) dX6_offer_32 rfl rfl ?_
    refine q_aload_n (pc' := 34) dX6_offer_33 rfl rfl ?_
    refine h_getiE (pc' := 37) dX6_offer_34 fX6_21 rfl rfl (e1) rfl ?_
    refine q_icmp_geN (tgt := 56) (pc' := 40) dX6_offer_37 (by decide) rfl (by omega) (fun c_37 => ?_) (fun c_37 => ?_)
    · exact fin j hs (by omega)
    · omega
  | succ g ih =>
    intro j hj hs
    rw [s_find_succ] at hs
    refine q_iload_n (pc' := 33) dX6_offer_32 rfl rfl ?_
    refine q_aload_n (pc' := 34) dX6_offer_33 rfl rfl ?_
    refine h_getiE (pc' := 37) dX6_offer_34 fX6_21 rfl rfl (e1) rfl ?_
    refine q_icmp_geN (tgt := 56) (pc' := 40) dX6_offer_37 (by decide) rfl (by omega) (fun c_37 => ?_) (fun c_37 => ?_)
    · omega
    refine q_aload_n (pc' := 41) dX6_offer_40 rfl rfl ?_
    refine h_getr (pc' := 44) dX6_offer_41 fX6_15 rfl rfl rfl ?_
    refine q_iload_n (pc' := 45) dX6_offer_44 rfl rfl ?_
    refine h_ialdE (pc' := 46) dX6_offer_45 rfl (rfl) (by omega) (by decide) (e2 j (by omega)) rfl ?_
    refine q_iload_n (pc' := 47) dX6_offer_46 rfl rfl ?_
    refine q_icmp_eq (tgt := 56) (pc' := 50) dX6_offer_47 (by decide) rfl (fun c_47 => ?_) (fun c_47 => ?_)
    · rw [if_pos (decide_eq_true c_47)] at hs
      exact fin j hs (by omega)
    · rw [if_neg (by simpa using c_47)] at hs
      refine q_iincN (pc' := 53) (j := 1) (lv' := [_, _, _]) dX6_offer_50 rfl (by decide) rfl rfl ?_
      refine q_goto (pc' := 32) dX6_offer_53 (by decide) ?_
      exact ih (j + 1) (by omega) hs
set_option maxHeartbeats 4000000 in
set_option maxRecDepth 20000 in
theorem c_mostOften_199 {Z : q_Z} {m : q_Mm} {d : Nat} {c : Nat} {f : Nat → Nat} (h1 : m.1 199 5 = nI c) (h2 : c ≤ 16) (h3 : ∀ i, i < c → m.2.2.1 202 i = nI (f i)) (hf : ∀ i, f i ≤ 16) : q_V (q_g Z) mX6_mostOften (d) 0 0 0 [some (.ref (q_ad Z 199)), none, none, none] [] (q_W Z m) (q_P Z fun r m2 => r = some (.int (s_oi (s_mo f c).1)) ∧ m2 = m) := by
  refine q_iconst (pc' := 1) (v := (-1)) dX6_mostOften_0 rfl rfl ?_
  refine q_istore_n (pc' := 2) (lv' := [_, _, _, _]) dX6_mostOften_1 (by decide) rfl rfl ?_
  refine q_iconst (pc' := 3) (v := nI 0) dX6_mostOften_2 rfl rfl ?_
  refine q_istore_n (pc' := 4) (lv' := [_, _, _, _]) dX6_mostOften_3 (by decide) rfl rfl ?_
  refine q_iconst (pc' := 5) (v := nI 0) dX6_mostOften_4 rfl rfl ?_
  refine q_istore_n (pc' := 6) (lv' := [_, _, _, _]) dX6_mostOften_5 (by decide) rfl rfl ?_
  suffices h : ∀ g j, j + g = c → q_V (q_g Z) mX6_mostOften (d) 0 0 6 [some (.ref (q_ad Z 199)), some (.int (s_oi (s_mo f j).1)), some (.int (nI (s_mo f j).2)), some (.int (nI j))] [] (q_W Z (m)) (q_P Z fun r m2 => r = some (.int (s_oi (s_mo f c).1)) ∧ m2 = m) from h c 0 (by omega)
  intro g
  induction g with
  | zero =>
    intro j hj
    obtain rfl : j = c := by omega
    refine q_iload_n (pc' := 7) dX6_mostOften_6 rfl rfl ?_
    refine q_aload_n (pc' := 8) dX6_mostOften_7 rfl rfl ?_
    refine h_getiE (pc' := 11) dX6_mostOften_8 fX6_21 rfl rfl (h1) rfl ?_
    refine q_icmp_geN (tgt := 39) (pc' := 14) dX6_mostOften_11 (by decide) rfl (by omega) (fun c_11 => ?_) (fun c_11 => ?_)
    · refine q_iload_n (pc' := 40) dX6_mostOften_39 rfl rfl ?_
      exact q_iret dX6_mostOften_40 rfl rfl ⟨_, rfl, rfl, rfl⟩
    · omega
  | succ g ih =>
    intro j hj
    have ih := ih (j + 1) (by omega)
    have b1 := hf j
    have b2 := s_mo_bd f 16 hf j
    refine q_iload_n (pc' := 7) dX6_mostOften_6 rfl rfl ?_
    refine q_aload_n (pc' := 8) dX6_mostOften_7 rfl rfl ?_
    refine h_getiE (pc' := 11) dX6_mostOften_8 fX6_21 rfl rfl (h1) rfl ?_
    refine q_icmp_geN (tgt := 39) (pc' := 14) dX6_mostOften_11 (by decide) rfl (by omega) (fun c_11 => ?_) (fun c_11 => ?_)
    · omega
    refine q_aload_n (pc' := 15) dX6_mostOften_14 rfl rfl ?_
    refine h_getr (pc' := 18) dX6_mostOften_15 fX6_18 rfl rfl rfl ?_
    refine q_iload_n (pc' := 19) dX6_mostOften_18 rfl rfl ?_
    refine h_ialdE (pc' := 20) dX6_mostOften_19 rfl (rfl) (by omega) (by decide) (h3 j (by omega)) rfl ?_
    refine q_iload_n (pc' := 21) dX6_mostOften_20 rfl rfl ?_
    refine q_icmp_leN (tgt := 33) (pc' := 24) dX6_mostOften_21 (by decide) rfl (by omega) (fun c_21 => ?_) (fun c_21 => ?_)
    · rw [show s_mo f (j + 1) = s_mo f j by simp [s_mo]; omega] at ih
      refine q_iincN (pc' := 36) (j := 1) (lv' := [_, _, _, _]) dX6_mostOften_33 rfl (by decide) rfl rfl ?_
      refine q_goto (pc' := 6) dX6_mostOften_36 (by decide) ?_
      exact ih
    · rw [show s_mo f (j + 1) = (some j, f j) by simp [s_mo]; omega] at ih
      refine q_aload_n (pc' := 25) dX6_mostOften_24 rfl rfl ?_
      refine h_getr (pc' := 28) dX6_mostOften_25 fX6_18 rfl rfl rfl ?_
      refine q_iload_n (pc' := 29) dX6_mostOften_28 rfl rfl ?_
      refine h_ialdE (pc' := 30) dX6_mostOften_29 rfl (rfl) (by omega) (by decide) (h3 j (by omega)) rfl ?_
      refine q_istore_n (pc' := 31) (lv' := [_, _, _, _]) dX6_mostOften_30 (by decide) rfl rfl ?_
      refine q_iload_n (pc' := 32) dX6_mostOften_31 rfl rfl ?_
      refine q_istore_n (pc' := 33) (lv' := [_, _, _, _]) dX6_mostOften_32 (by decide) rfl rfl ?_
      refine q_iincN (pc' := 36) (j := 1) (lv' := [_, _, _, _]) dX6_mostOften_33 rfl (by decide) rfl rfl ?_
      refine q_goto (pc' := 6) dX6_mostOften_36 (by decide) ?_
      exact ih
set_option maxHeartbeats 4000000 in
set_option maxRecDepth 20000 in
theorem c_codeOf_199 {Z : q_Z} {m : q_Mm} {d : Nat} {n : Nat} {hi : Nat → Int32} {x : Int32} (h1 : m.1 199 1 = nI n) (h2 : n ≤ 8) (h3 : ∀ i, i < n → m.2.2.1 200 i = hi i) : q_V (q_g Z) mX6_codeOf (d) 0 0 0 [some (.ref (q_ad Z 199)), some (.int x), none] [] (q_W Z m) (q_P Z fun r m2 => r = some (.int (s_ci hi n x)) ∧ m2 = m) := by
  refine q_iconst (pc' := 1) (v := nI 0) dX6_codeOf_0 rfl rfl ?_
  refine q_istore_n (pc' := 2) (lv' := [_, _, _]) dX6_codeOf_1 (by decide) rfl rfl ?_
  suffices h : ∀ g j, j + g = n → s_find (fun j => decide (hi j = x)) g j = s_code hi n x → q_V (q_g Z) mX6_codeOf (d) 0 0 2 [some (.ref (q_ad Z 199)), some (.int x), some (.int (nI j))] [] (q_W Z (m)) (q_P Z fun r m2 => r = some (.int (s_ci hi n x)) ∧ m2 = m) from h n 0 (by omega) rfl
  intro g
  induction g with
  | zero =>
    intro j hj hs
    have hs : j = s_code hi n x := hs
    refine q_iload_n (pc' := 3) dX6_codeOf_2 rfl rfl ?_
    refine q_aload_n (pc' := 4) dX6_codeOf_3 rfl rfl ?_
    refine h_getiE (pc' := 7) dX6_codeOf_4 fX6_25 rfl rfl (h1) rfl ?_
    refine q_icmp_geN (tgt := 28) (pc' := 10) dX6_codeOf_7 (by decide) rfl (by omega) (fun c_7 => ?_) (fun c_7 => ?_)
    · refine q_iconst (pc' := 29) (v := (-1)) dX6_codeOf_28 rfl rfl ?_
      exact q_iret dX6_codeOf_29 rfl rfl ⟨_, rfl, by unfold s_ci; rw [if_neg (by omega)], rfl⟩
    · omega
  | succ g ih =>
    intro j hj hs
    unfold s_find at hs
    refine q_iload_n (pc' := 3) dX6_codeOf_2 rfl rfl ?_
    refine q_aload_n (pc' := 4) dX6_codeOf_3 rfl rfl ?_
    refine h_getiE (pc' := 7) dX6_codeOf_4 fX6_25 rfl rfl (h1) rfl ?_
    refine q_icmp_geN (tgt := 28) (pc' := 10) dX6_codeOf_7 (by decide) rfl (by omega) (fun c_7 => ?_) (fun c_7 => ?_)
    · omega
    refine q_aload_n (pc' := 11) dX6_codeOf_10 rfl rfl ?_
    refine h_getr (pc' := 14) dX6_codeOf_11 fX6_9 rfl rfl rfl ?_
    refine q_iload_n (pc' := 15) dX6_codeOf_14 rfl rfl ?_
    refine h_ialdE (pc' := 16) dX6_codeOf_15 rfl (rfl) (by omega) (by decide) (h3 j (by omega)) rfl ?_
    refine q_iload_n (pc' := 17) dX6_codeOf_16 rfl rfl ?_
    refine q_icmp_ne (tgt := 22) (pc' := 20) dX6_codeOf_17 (by decide) rfl (fun c_17 => ?_) (fun c_17 => ?_)
    · rw [if_neg (by simpa using c_17)] at hs
      refine q_iincN (pc' := 25) (j := 1) (lv' := [_, _, _]) dX6_codeOf_22 rfl (by decide) rfl rfl ?_
      refine q_goto (pc' := 2) dX6_codeOf_25 (by decide) ?_
      exact ih (j + 1) (by omega) hs
    · rw [if_pos (decide_eq_true c_17)] at hs
      refine q_iload_n (pc' := 21) dX6_codeOf_20 rfl rfl ?_
      exact q_iret dX6_codeOf_21 rfl rfl ⟨_, rfl, by unfold s_ci; rw [← hs, if_pos (by omega)], rfl⟩
set_option maxHeartbeats 4000000 in
set_option maxRecDepth 20000 in
theorem c_codeBits_199 {Z : q_Z} {m : q_Mm} {d : Nat} {n : Nat} (h1 : m.1 199 1 = nI n) (h2 : 1 ≤ n) : q_V (q_g Z) mX6_codeBits (d+1) 0 0 0 [some (.ref (q_ad Z 199))] [] (q_W Z m) (q_P Z fun r m2 => r = some (.int (nI (s_bl (nI (n - 1)).toInt64))) ∧ m2 = m) := by
  refine q_aload_n (pc' := 1) dX6_codeBits_0 rfl rfl ?_
  refine h_getiE (pc' := 4) dX6_codeBits_1 fX6_25 rfl rfl (h1) rfl ?_
  refine q_iconst (pc' := 5) (v := nI 1) dX6_codeBits_4 rfl rfl ?_
  refine q_isubN (pc' := 6) dX6_codeBits_5 (by omega) rfl ?_
  refine q_i2l (pc' := 7) dX6_codeBits_6 rfl ?_
  refine h_callSN (pc' := 10) (M' := mX10_bitLength) (As := [_]) dX6_codeBits_7 iX10_bitLength nm_X6_39 rfl rfl (Nat.le_of_ble_eq_true rfl) (Nat.le_of_ble_eq_true rfl) rfl rfl (c_bitLength) (fun r m' hq => ?_)
  obtain ⟨rfl, rfl⟩ := hq
  exact q_iret dX6_codeBits_10 rfl rfl ⟨_, rfl, rfl, rfl⟩
set_option maxHeartbeats 4000000 in
set_option maxRecDepth 20000 in
theorem c_choose_199 {Z : q_Z} {m : q_Mm} {d : Nat} {c most : Nat} {ps : Nat → Int32} (hO : PartO m 199 c ps) (hm : most ≤ 8) : q_V (q_g Z) mX6_choose (d+1) 0 0 0 [some (.ref (q_ad Z 199)), some (.int (nI most)), none, none] [] (q_W Z m) (q_P Z fun r m2 => r = none ∧ Fr [199, 200, 202] m m2 ∧ PartC m2 199 c most ps) := by
  obtain ⟨h1, h2, h3, h4⟩ := hO
  generalize hS : s_ch ps c (s_often ps c) = S
  have hSl : ∀ j, (S j).1 ≤ j := fun j => hS ▸ s_ch_le ps c _ j
  have hSb : ∀ j i, (S j).2.1 i ≤ 16 := fun j i => hS ▸ s_ch_bd ps c 16 _ (fun i => Nat.le_trans (s_often_le ps c i) h2) j i
  refine q_aload_n (pc' := 1) dX6_choose_0 rfl rfl ?_
  refine q_iconst (pc' := 2) (v := nI 0) dX6_choose_1 rfl rfl ?_
  refine h_puti (pc' := 5) dX6_choose_2 fX6_25 rfl rfl rfl rfl rfl ?_
  refine q_iconst (pc' := 6) (v := nI 0) dX6_choose_5 rfl rfl ?_
  refine q_istore_n (pc' := 7) (lv' := [_, _, _, _]) dX6_choose_6 (by decide) rfl rfl ?_
  suffices h : ∀ g j (m1 : q_Mm), j + g = most → Fr [199, 200, 202] m m1 → m1.1 199 1 = nI (S j).1 → m1.1 199 5 = nI c → (∀ i, i < c → m1.2.2.1 202 i = nI ((S j).2.1 i)) → (∀ i, i < (S j).1 → m1.2.2.1 200 i = (S j).2.2 i) → ∀ w, q_V (q_g Z) mX6_choose (d+1) 0 0 7 [some (.ref (q_ad Z 199)), some (.int (nI most)), some (.int (nI j)), w] [] (q_W Z (m1)) (q_P Z fun r m2 => r = none ∧ Fr [199, 200, 202] m m2 ∧ PartC m2 199 c most ps) from h most 0 (sI m 199 1 (nI 0)) (by omega) (Fr.rf.I (by decide)) (by rw [← hS]; rfl) h1 (fun i hi => by rw [← hS]; exact h4 i hi) (fun i hi => by rw [← hS] at hi; exact absurd hi (Nat.not_lt_zero _)) _
  intro g
  induction g with
  | zero =>
    intro j m1 hj f1 a1 a5 a3 a2 w
    obtain rfl : most = j := by omega
    have hcn := hSl most
    refine q_iload_n (pc' := 8) dX6_choose_7 rfl rfl ?_
    refine q_iload_n (pc' := 9) dX6_choose_8 rfl rfl ?_
    refine q_icmp_geN (tgt := 60) (pc' := 12) dX6_choose_9 (by decide) rfl (by omega) (fun c_9 => ?_) (fun c_9 => ?_)
    rotate_left
    · omega
    refine q_aload_n (pc' := 61) dX6_choose_60 rfl rfl ?_
    refine q_iconst (pc' := 62) (v := nI 0) dX6_choose_61 rfl rfl ?_
    refine h_puti (pc' := 65) dX6_choose_62 fX6_32 rfl rfl rfl rfl rfl ?_
    refine q_iconst (pc' := 66) (v := nI 0) dX6_choose_65 rfl rfl ?_
    refine q_istore_n (pc' := 67) (lv' := [_, _, _, _]) dX6_choose_66 (by decide) rfl rfl ?_
    suffices h : ∀ g i (m2 : q_Mm), i + g = c → Fr [199] m1 m2 → m2.1 199 1 = nI (S most).1 → m2.1 199 5 = nI c → m2.1 199 2 = s_miss (S most).2.2 (S most).1 ps i → q_V (q_g Z) mX6_choose (d+1) 0 0 67 [some (.ref (q_ad Z 199)), some (.int (nI most)), some (.int (nI i)), w] [] (q_W Z (m2)) (q_P Z fun r m2 => r = none ∧ Fr [199, 200, 202] m m2 ∧ PartC m2 199 c most ps) from h c 0 (sI m1 199 2 (nI 0)) (by omega) (Fr.rf.I (by decide)) a1 a5 rfl
    intro g
    induction g with
    | zero =>
      intro i m2 hi f2 b1 b5 b2
      obtain rfl : i = c := by omega
      refine q_iload_n (pc' := 68) dX6_choose_67 rfl rfl ?_
      refine q_aload_n (pc' := 69) dX6_choose_68 rfl rfl ?_
      refine h_getiE (pc' := 72) dX6_choose_69 fX6_21 rfl rfl (b5) rfl ?_
      refine q_icmp_geN (tgt := 107) (pc' := 75) dX6_choose_72 (by decide) rfl (by omega) (fun c_72 => ?_) (fun c_72 => ?_)
      · exact q_vret dX6_choose_107 rfl ⟨_, rfl, rfl, f1.trans (f2.mono (by decide)), ⟨by rw [hS]; exact b1, by rw [hS]; exact fun i hi => (congrFun (f2.a (by decide)) i).trans (a2 i hi), by rw [hS]; exact b2⟩⟩
      · omega
    | succ g ih =>
      intro i m2 hi f2 b1 b5 b2
      refine q_iload_n (pc' := 68) dX6_choose_67 rfl rfl ?_
      refine q_aload_n (pc' := 69) dX6_choose_68 rfl rfl ?_
      refine h_getiE (pc' := 72) dX6_choose_69 fX6_21 rfl rfl (b5) rfl ?_
      refine q_icmp_geN (tgt := 107) (pc' := 75) dX6_choose_72 (by decide) rfl (by omega) (fun c_72 => ?_) (fun c_72 => ?_)
      · omega
      have e2 : m2.2.2.1 201 i = ps i := by rw [f2.a (by decide), f1.a (by decide)]; exact h3 i (by omega)
      have e1 : ∀ k, k < (S most).1 → m2.2.2.1 200 k = (S most).2.2 k := fun k hk => (congrFun (f2.a (by decide)) k).trans (a2 k hk)
      refine q_aload_n (pc' := 76) dX6_choose_75 rfl rfl ?_
      refine q_aload_n (pc' := 77) dX6_choose_76 rfl rfl ?_
      refine h_getr (pc' := 80) dX6_choose_77 fX6_15 rfl rfl rfl ?_
      refine q_iload_n (pc' := 81) dX6_choose_80 rfl rfl ?_
      refine h_ialdE (pc' := 82) dX6_choose_81 rfl (rfl) (by omega) (by decide) (e2) rfl ?_
      refine h_callV (pc' := 85) (M' := mX6_codeOf) (As := [_]) dX6_choose_82 iX6_codeOf lX6_35 rfl rfl rfl rfl (Nat.le_of_ble_eq_true rfl) (Nat.le_of_ble_eq_true rfl) rfl rfl (c_codeOf_199 b1 (by omega) e1) (fun r m' hq => ?_)
      obtain ⟨rfl, rfl⟩ := hq
      have hz : ¬ nI (s_code (S most).2.2 (S most).1 (ps i)) = -1 := by
        have := s_find_le (fun k => decide ((S most).2.2 k = ps i)) (S most).1 0
        rw [z_eq, z_n (by unfold s_code; omega)]
        show ¬ (s_code (S most).2.2 (S most).1 (ps i) : Int) = -1
        omega
      refine q_iconst (pc' := 86) (v := (-1)) dX6_choose_85 rfl rfl ?_
      refine q_icmp_ne (tgt := 101) (pc' := 89) dX6_choose_86 (by decide) rfl (fun c_86 => ?_) (fun c_86 => ?_)
      · have hlt : s_code (S most).2.2 (S most).1 (ps i) < (S most).1 := by
          rcases Nat.lt_or_ge (s_code (S most).2.2 (S most).1 (ps i)) (S most).1 with q | q
          · exact q
          · exact absurd (by unfold s_ci; rw [if_neg (by omega)]) c_86
        refine q_iincN (pc' := 104) (j := 1) (lv' := [_, _, _, _]) dX6_choose_101 rfl (by decide) rfl rfl ?_
        refine q_goto (pc' := 67) dX6_choose_104 (by decide) ?_
        exact ih (i + 1) m' (by omega) f2 b1 b5 (by rw [b2]; simp [s_miss, hlt])
      · have hlt : ¬ s_code (S most).2.2 (S most).1 (ps i) < (S most).1 := fun q => hz (by unfold s_ci at c_86; rwa [if_pos q] at c_86)
        refine q_aload_n (pc' := 90) dX6_choose_89 rfl rfl ?_
        refine q_dup (pc' := 91) dX6_choose_90 rfl rfl ?_
        refine h_getiE (pc' := 94) dX6_choose_91 fX6_32 rfl rfl (b2) rfl ?_
        refine q_iconst (pc' := 95) (v := nI 1) dX6_choose_94 rfl rfl ?_
        refine q_iload_n (pc' := 96) dX6_choose_95 rfl rfl ?_
        refine q_ishl (pc' := 97) dX6_choose_96 rfl ?_
        refine q_ior (pc' := 98) dX6_choose_97 rfl ?_
        refine h_puti (pc' := 101) dX6_choose_98 fX6_32 rfl rfl rfl rfl rfl ?_
        refine q_iincN (pc' := 104) (j := 1) (lv' := [_, _, _, _]) dX6_choose_101 rfl (by decide) rfl rfl ?_
        refine q_goto (pc' := 67) dX6_choose_104 (by decide) ?_
        refine ih (i + 1) _ (by omega) (f2.I (by decide)) ?_ ?_ ?_
        · exact b1
        · exact b5
        · simp [s_miss, hlt]; rfl
  | succ g ih =>
    intro j m1 hj f1 a1 a5 a3 a2 w
    have hcn := hSl j
    refine q_iload_n (pc' := 8) dX6_choose_7 rfl rfl ?_
    refine q_iload_n (pc' := 9) dX6_choose_8 rfl rfl ?_
    refine q_icmp_geN (tgt := 60) (pc' := 12) dX6_choose_9 (by decide) rfl (by omega) (fun c_9 => ?_) (fun c_9 => ?_)
    · omega
    refine q_aload_n (pc' := 13) dX6_choose_12 rfl rfl ?_
    refine h_callV (pc' := 16) (M' := mX6_mostOften) (As := []) dX6_choose_13 iX6_mostOften lX6_28 rfl rfl rfl rfl (Nat.le_of_ble_eq_true rfl) (Nat.le_of_ble_eq_true rfl) rfl rfl (c_mostOften_199 a5 h2 a3 (hSb j)) (fun r m' hq => ?_)
    obtain ⟨rfl, rfl⟩ := hq
    have hstep : S (j + 1) = match (s_mo (S j).2.1 c).1 with
      | none => S j
      | some i => ((S j).1 + 1, q_u (S j).2.1 i 0, q_u (S j).2.2 (S j).1 (ps i)) := by rw [← hS]; rfl
    cases hmo : (s_mo (S j).2.1 c).1 with
    | none =>
      rw [hmo] at hstep
      refine q_istore_n (pc' := 17) (lv' := [_, _, _, _]) dX6_choose_16 (by decide) rfl rfl ?_
      refine q_iload_n (pc' := 18) dX6_choose_17 rfl rfl ?_
      refine q_iconst (pc' := 19) (v := (-1)) dX6_choose_18 rfl rfl ?_
      refine q_icmp_eq (tgt := 54) (pc' := 22) dX6_choose_19 (by decide) rfl (fun c_19 => ?_) (fun c_19 => ?_)
      · refine q_iincN (pc' := 57) (j := 1) (lv' := [_, _, _, _]) dX6_choose_54 rfl (by decide) rfl rfl ?_
        refine q_goto (pc' := 7) dX6_choose_57 (by decide) ?_
        exact ih (j + 1) m' (by omega) f1 (by rw [hstep]; exact a1) a5 (by rw [hstep]; exact a3) (by rw [hstep]; exact a2) _
      · exact absurd rfl c_19
    | some i =>
      rw [hmo] at hstep
      have hi := s_mo_lt _ _ _ hmo
      have e2 : m'.2.2.1 201 i = ps i := by rw [f1.a (by decide)]; exact h3 i hi
      refine q_istore_n (pc' := 17) (lv' := [_, _, _, _]) dX6_choose_16 (by decide) rfl rfl ?_
      refine q_iload_n (pc' := 18) dX6_choose_17 rfl rfl ?_
      refine q_iconst (pc' := 19) (v := (-1)) dX6_choose_18 rfl rfl ?_
      refine q_icmp_eq (tgt := 54) (pc' := 22) dX6_choose_19 (by decide) rfl (fun c_19 => ?_) (fun c_19 => ?_)
      · exact absurd c_19 (by rw [z_eq]; show ¬ (nI i).toInt = -1; rw [z_n (by omega)]; omega)
      refine q_aload_n (pc' := 23) dX6_choose_22 rfl rfl ?_
      refine h_getr (pc' := 26) dX6_choose_23 fX6_9 rfl rfl rfl ?_
      refine q_aload_n (pc' := 27) dX6_choose_26 rfl rfl ?_
      refine h_getiE (pc' := 30) dX6_choose_27 fX6_25 rfl rfl (a1) rfl ?_
      refine q_aload_n (pc' := 31) dX6_choose_30 rfl rfl ?_
      refine h_getr (pc' := 34) dX6_choose_31 fX6_15 rfl rfl rfl ?_
      refine q_iload_n (pc' := 35) dX6_choose_34 rfl rfl ?_
      refine h_ialdE (pc' := 36) dX6_choose_35 rfl (rfl) (by omega) (by decide) (e2) rfl ?_
      refine h_iast (pc' := 37) dX6_choose_36 rfl (rfl) (by omega) (by decide) rfl ?_
      refine q_aload_n (pc' := 38) dX6_choose_37 rfl rfl ?_
      refine q_dup (pc' := 39) dX6_choose_38 rfl rfl ?_
      refine h_getiE (pc' := 42) dX6_choose_39 fX6_25 rfl rfl (a1) rfl ?_
      refine q_iconst (pc' := 43) (v := nI 1) dX6_choose_42 rfl rfl ?_
      refine q_iaddN (pc' := 44) dX6_choose_43 rfl ?_
      refine h_puti (pc' := 47) dX6_choose_44 fX6_25 rfl rfl rfl rfl rfl ?_
      refine q_aload_n (pc' := 48) dX6_choose_47 rfl rfl ?_
      refine h_getr (pc' := 51) dX6_choose_48 fX6_18 rfl rfl rfl ?_
      refine q_iload_n (pc' := 52) dX6_choose_51 rfl rfl ?_
      refine q_iconst (pc' := 53) (v := nI 0) dX6_choose_52 rfl rfl ?_
      refine h_iast (pc' := 54) dX6_choose_53 rfl (rfl) (by omega) (by decide) rfl ?_
      refine q_iincN (pc' := 57) (j := 1) (lv' := [_, _, _, _]) dX6_choose_54 rfl (by decide) rfl rfl ?_
      refine q_goto (pc' := 7) dX6_choose_57 (by decide) ?_
      refine ih (j + 1) _ (by omega) (((f1.A (by decide)).I (by decide)).A (by decide)) ?_ ?_ ?_ ?_ _
      · rw [hstep]; rfl
      · exact a5
      · rw [hstep]
        intro k hk
        show q_u (m'.2.2.1 202) i (nI 0) k = nI (q_u (S j).2.1 i 0 k)
        by_cases h : k = i
        · rw [h, q_u_s, q_u_s]
        · rw [q_u_n _ _ h, q_u_n _ _ h]; exact a3 k hk
      · rw [hstep]
        intro k hk
        have hk : k < (S j).1 + 1 := hk
        show q_u (m'.2.2.1 200) (S j).1 (ps i) k = q_u (S j).2.2 (S j).1 (ps i) k
        by_cases h : k = (S j).1
        · rw [h, q_u_s, q_u_s]
        · rw [q_u_n _ _ h, q_u_n _ _ h]; exact a2 k (by omega)
set_option maxHeartbeats 4000000 in
set_option maxRecDepth 20000 in
theorem c_start_208 {Z : q_Z} {m : q_Mm} {d : Nat} {ps : Nat → Int32} : q_V (q_g Z) mX6_start (d) 0 0 0 [some (.ref (q_ad Z 208))] [] (q_W Z m) (q_P Z fun r m2 => r = none ∧ Fr [208] m m2 ∧ PartO m2 208 0 ps) := by
  refine q_aload_n (pc' := 1) dX6_start_0 rfl rfl ?_
  refine q_iconst (pc' := 2) (v := nI 0) dX6_start_1 rfl rfl ?_
  refine h_puti (pc' := 5) dX6_start_2 fX6_21 rfl rfl rfl rfl rfl ?_
  exact q_vret dX6_start_5 rfl ⟨_, rfl, rfl, Fr.rf.I (by decide), ⟨rfl, by decide, fun i h => absurd h (by omega), fun i h => absurd h (by omega)⟩⟩
set_option maxHeartbeats 4000000 in
set_option maxRecDepth 20000 in
theorem c_offer_208 {Z : q_Z} {m : q_Mm} {d : Nat} {c : Nat} {ps : Nat → Int32} {x : Int32} (hO : PartO m 208 c ps) (hc : c < 16) (hx : ps c = x) : q_V (q_g Z) mX6_offer (d) 0 0 0 [some (.ref (q_ad Z 208)), some (.int x), none] [] (q_W Z m) (q_P Z fun r m2 => r = none ∧ Fr [208, 210, 211] m m2 ∧ PartO m2 208 (c + 1) ps) := by
  obtain ⟨h1, h2, h3, h4⟩ := hO
  subst hx
  refine q_aload_n (pc' := 1) dX6_offer_0 rfl rfl ?_
  refine h_getiE (pc' := 4) dX6_offer_1 fX6_21 rfl rfl (h1) rfl ?_
  refine q_bipush (pc' := 6) (v := nI 16) dX6_offer_4 rfl rfl ?_
  refine q_icmp_ltN (tgt := 10) (pc' := 9) dX6_offer_6 (by decide) rfl (by omega) (fun c_6 => ?_) (fun c_6 => ?_)
  rotate_left
  · omega
  refine q_aload_n (pc' := 11) dX6_offer_10 rfl rfl ?_
  refine h_getr (pc' := 14) dX6_offer_11 fX6_15 rfl rfl rfl ?_
  refine q_aload_n (pc' := 15) dX6_offer_14 rfl rfl ?_
  refine h_geti (pc' := 18) dX6_offer_15 fX6_21 rfl rfl rfl ?_
  refine q_iload_n (pc' := 19) dX6_offer_18 rfl rfl ?_
  refine h_iast (pc' := 20) dX6_offer_19 rfl (h1) (by omega) (by decide) rfl ?_
  refine q_aload_n (pc' := 21) dX6_offer_20 rfl rfl ?_
  refine h_getr (pc' := 24) dX6_offer_21 fX6_18 rfl rfl rfl ?_
  refine q_aload_n (pc' := 25) dX6_offer_24 rfl rfl ?_
  refine h_geti (pc' := 28) dX6_offer_25 fX6_21 rfl rfl rfl ?_
  refine q_iconst (pc' := 29) (v := nI 0) dX6_offer_28 rfl rfl ?_
  refine h_iast (pc' := 30) dX6_offer_29 rfl (h1) (by omega) (by decide) rfl ?_
  refine q_iconst (pc' := 31) (v := nI 0) dX6_offer_30 rfl rfl ?_
  refine q_istore_n (pc' := 32) (lv' := [_, _, _]) dX6_offer_31 (by decide) rfl rfl ?_
  generalize hm1 : sA (sA m 210 (q_u (m.2.2.1 210) c (ps c))) 211 (q_u ((sA m 210 (q_u (m.2.2.1 210) c (ps c))).2.2.1 211) c (nI 0)) = m1
  have f1 : Fr [208, 210, 211] m m1 := hm1 ▸ (Fr.rf.A (by decide)).A (by decide)
  have e1 : m1.1 208 5 = nI c := hm1 ▸ h1
  have e2 : ∀ i, i < c + 1 → m1.2.2.1 210 i = ps i := by
    intro i hi
    rw [← hm1]
    show q_u (m.2.2.1 210) c (ps c) i = ps i
    unfold q_u
    split
    · rename_i h; rw [h]
    · exact h3 i (by omega)
  have e3 : ∀ i, i < c + 1 → m1.2.2.1 211 i = nI (q_u (s_often ps c) c 0 i) := by
    intro i hi
    rw [← hm1]
    show q_u (m.2.2.1 211) c (nI 0) i = _
    unfold q_u
    split
    · rfl
    · exact h4 i (by omega)
  suffices h : ∀ g j, j + g = c → s_find (fun j => decide (ps j = ps c)) g j = s_find (fun j => decide (ps j = ps c)) c 0 → q_V (q_g Z) mX6_offer (d) 0 0 32 [some (.ref (q_ad Z 208)), some (.int (ps c)), some (.int (nI j))] [] (q_W Z (m1)) (q_P Z fun r m2 => r = none ∧ Fr [208, 210, 211] m m2 ∧ PartO m2 208 (c + 1) ps) from h c 0 (by omega) rfl
  have fin : ∀ j, j = s_find (fun j => decide (ps j = ps c)) c 0 → j ≤ c → q_V (q_g Z) mX6_offer (d) 0 0 56 [some (.ref (q_ad Z 208)), some (.int (ps c)), some (.int (nI j))] [] (q_W Z (m1)) (q_P Z fun r m2 => r = none ∧ Fr [208, 210, 211] m m2 ∧ PartO m2 208 (c + 1) ps) := by
    intro j hj hjc
    have e4 : ∀ i, i < c + 1 → q_u (m1.2.2.1 211) j (nI (q_u (s_often ps c) c 0 j + 1)) i = nI (s_often ps (c + 1) i) := by
      intro i hi
      show _ = nI (q_u (q_u (s_often ps c) c 0) (s_find (fun j => decide (ps j = ps c)) c 0) (q_u (s_often ps c) c 0 (s_find (fun j => decide (ps j = ps c)) c 0) + 1) i)
      rw [← hj]
      by_cases h : i = j
      · rw [h, q_u_s, q_u_s]
      · rw [q_u_n _ _ h, q_u_n _ _ h]
        exact e3 i hi
    refine q_aload_n (pc' := 57) dX6_offer_56 rfl rfl ?_
    refine h_getr (pc' := 60) dX6_offer_57 fX6_18 rfl rfl rfl ?_
    refine q_iload_n (pc' := 61) dX6_offer_60 rfl rfl ?_
    refine q_dup2_11 (pc' := 62) dX6_offer_61 rfl rfl rfl ?_
    refine h_ialdE (pc' := 63) dX6_offer_62 rfl (rfl) (by omega) (by decide) (e3 j (by omega)) rfl ?_
    refine q_iconst (pc' := 64) (v := nI 1) dX6_offer_63 rfl rfl ?_
    refine q_iaddN (pc' := 65) dX6_offer_64 rfl ?_
    refine h_iast (pc' := 66) dX6_offer_65 rfl (rfl) (by omega) (by decide) rfl ?_
    refine q_aload_n (pc' := 67) dX6_offer_66 rfl rfl ?_
    refine q_dup (pc' := 68) dX6_offer_67 rfl rfl ?_
    refine h_getiE (pc' := 71) dX6_offer_68 fX6_21 rfl rfl (e1) rfl ?_
    refine q_iconst (pc' := 72) (v := nI 1) dX6_offer_71 rfl rfl ?_
    refine q_iaddN (pc' := 73) dX6_offer_72 rfl ?_
    refine h_puti (pc' := 76) dX6_offer_73 fX6_21 rfl rfl rfl rfl rfl ?_
    exact q_vret dX6_offer_76 rfl ⟨_, rfl, rfl, (f1.A (by decide)).I (by decide), ⟨rfl, by omega, fun i hi => e2 i hi, e4⟩⟩
  intro g
  induction g with
  | zero =>
    intro j hj hs
    refine q_iload_n (pc' := 33) dX6_offer_32 rfl rfl ?_
    refine q_aload_n (pc' := 34) dX6_offer_33 rfl rfl ?_
    refine h_getiE (pc' := 37) dX6_offer_34 fX6_21 rfl rfl (e1) rfl ?_
    refine q_icmp_geN (tgt := 56) (pc' := 40) dX6_offer_37 (by decide) rfl (by omega) (fun c_37 => ?_) (fun c_37 => ?_)
    · exact fin j hs (by omega)
    · omega
  | succ g ih =>
    intro j hj hs
    rw [s_find_succ] at hs
    refine q_iload_n (pc' := 33) dX6_offer_32 rfl rfl ?_
    refine q_aload_n (pc' := 34) dX6_offer_33 rfl rfl ?_
    refine h_getiE (pc' := 37) dX6_offer_34 fX6_21 rfl rfl (e1) rfl ?_
    refine q_icmp_geN (tgt := 56) (pc' := 40) dX6_offer_37 (by decide) rfl (by omega) (fun c_37 => ?_) (fun c_37 => ?_)
    · omega
    refine q_aload_n (pc' := 41) dX6_offer_40 rfl rfl ?_
    refine h_getr (pc' := 44) dX6_offer_41 fX6_15 rfl rfl rfl ?_
    refine q_iload_n (pc' := 45) dX6_offer_44 rfl rfl ?_
    refine h_ialdE (pc' := 46) dX6_offer_45 rfl (rfl) (by omega) (by decide) (e2 j (by omega)) rfl ?_
    refine q_iload_n (pc' := 47) dX6_offer_46 rfl rfl ?_
    refine q_icmp_eq (tgt := 56) (pc' := 50) dX6_offer_47 (by decide) rfl (fun c_47 => ?_) (fun c_47 => ?_)
    · rw [if_pos (decide_eq_true c_47)] at hs
      exact fin j hs (by omega)
    · rw [if_neg (by simpa using c_47)] at hs
      refine q_iincN (pc' := 53) (j := 1) (lv' := [_, _, _]) dX6_offer_50 rfl (by decide) rfl rfl ?_
      refine q_goto (pc' := 32) dX6_offer_53 (by decide) ?_
      exact ih (j + 1) (by omega) hs
set_option maxHeartbeats 4000000 in
set_option maxRecDepth 20000 in
theorem c_mostOften_208 {Z : q_Z} {m : q_Mm} {d : Nat} {c : Nat} {f : Nat → Nat} (h1 : m.1 208 5 = nI c) (h2 : c ≤ 16) (h3 : ∀ i, i < c → m.2.2.1 211 i = nI (f i)) (hf : ∀ i, f i ≤ 16) : q_V (q_g Z) mX6_mostOften (d) 0 0 0 [some (.ref (q_ad Z 208)), none, none, none] [] (q_W Z m) (q_P Z fun r m2 => r = some (.int (s_oi (s_mo f c).1)) ∧ m2 = m) := by
  refine q_iconst (pc' := 1) (v := (-1)) dX6_mostOften_0 rfl rfl ?_
  refine q_istore_n (pc' := 2) (lv' := [_, _, _, _]) dX6_mostOften_1 (by decide) rfl rfl ?_
  refine q_iconst (pc' := 3) (v := nI 0) dX6_mostOften_2 rfl rfl ?_
  refine q_istore_n (pc' := 4) (lv' := [_, _, _, _]) dX6_mostOften_3 (by decide) rfl rfl ?_
  refine q_iconst (pc' := 5) (v := nI 0) dX6_mostOften_4 rfl rfl ?_
  refine q_istore_n (pc' := 6) (lv' := [_, _, _, _]) dX6_mostOften_5 (by decide) rfl rfl ?_
  suffices h : ∀ g j, j + g = c → q_V (q_g Z) mX6_mostOften (d) 0 0 6 [some (.ref (q_ad Z 208)), some (.int (s_oi (s_mo f j).1)), some (.int (nI (s_mo f j).2)), some (.int (nI j))] [] (q_W Z (m)) (q_P Z fun r m2 => r = some (.int (s_oi (s_mo f c).1)) ∧ m2 = m) from h c 0 (by omega)
  intro g
  induction g with
  | zero =>
    intro j hj
    obtain rfl : j = c := by omega
    refine q_iload_n (pc' := 7) dX6_mostOften_6 rfl rfl ?_
    refine q_aload_n (pc' := 8) dX6_mostOften_7 rfl rfl ?_
    refine h_getiE (pc' := 11) dX6_mostOften_8 fX6_21 rfl rfl (h1) rfl ?_
    refine q_icmp_geN (tgt := 39) (pc' := 14) dX6_mostOften_11 (by decide) rfl (by omega) (fun c_11 => ?_) (fun c_11 => ?_)
    · refine q_iload_n (pc' := 40) dX6_mostOften_39 rfl rfl ?_
      exact q_iret dX6_mostOften_40 rfl rfl ⟨_, rfl, rfl, rfl⟩
    · omega
  | succ g ih =>
    intro j hj
    have ih := ih (j + 1) (by omega)
    have b1 := hf j
    have b2 := s_mo_bd f 16 hf j
    refine q_iload_n (pc' := 7) dX6_mostOften_6 rfl rfl ?_
    refine q_aload_n (pc' := 8) dX6_mostOften_7 rfl rfl ?_
    refine h_getiE (pc' := 11) dX6_mostOften_8 fX6_21 rfl rfl (h1) rfl ?_
    refine q_icmp_geN (tgt := 39) (pc' := 14) dX6_mostOften_11 (by decide) rfl (by omega) (fun c_11 => ?_) (fun c_11 => ?_)
    · omega
    refine q_aload_n (pc' := 15) dX6_mostOften_14 rfl rfl ?_
    refine h_getr (pc' := 18) dX6_mostOften_15 fX6_18 rfl rfl rfl ?_
    refine q_iload_n (pc' := 19) dX6_mostOften_18 rfl rfl ?_
    refine h_ialdE (pc' := 20) dX6_mostOften_19 rfl (rfl) (by omega) (by decide) (h3 j (by omega)) rfl ?_
    refine q_iload_n (pc' := 21) dX6_mostOften_20 rfl rfl ?_
    refine q_icmp_leN (tgt := 33) (pc' := 24) dX6_mostOften_21 (by decide) rfl (by omega) (fun c_21 => ?_) (fun c_21 => ?_)
    · rw [show s_mo f (j + 1) = s_mo f j by simp [s_mo]; omega] at ih
      refine q_iincN (pc' := 36) (j := 1) (lv' := [_, _, _, _]) dX6_mostOften_33 rfl (by decide) rfl rfl ?_
      refine q_goto (pc' := 6) dX6_mostOften_36 (by decide) ?_
      exact ih
    · rw [show s_mo f (j + 1) = (some j, f j) by simp [s_mo]; omega] at ih
      refine q_aload_n (pc' := 25) dX6_mostOften_24 rfl rfl ?_
      refine h_getr (pc' := 28) dX6_mostOften_25 fX6_18 rfl rfl rfl ?_
      refine q_iload_n (pc' := 29) dX6_mostOften_28 rfl rfl ?_
      refine h_ialdE (pc' := 30) dX6_mostOften_29 rfl (rfl) (by omega) (by decide) (h3 j (by omega)) rfl ?_
      refine q_istore_n (pc' := 31) (lv' := [_, _, _, _]) dX6_mostOften_30 (by decide) rfl rfl ?_
      refine q_iload_n (pc' := 32) dX6_mostOften_31 rfl rfl ?_
      refine q_istore_n (pc' := 33) (lv' := [_, _, _, _]) dX6_mostOften_32 (by decide) rfl rfl ?_
      refine q_iincN (pc' := 36) (j := 1) (lv' := [_, _, _, _]) dX6_mostOften_33 rfl (by decide) rfl rfl ?_
      refine q_goto (pc' := 6) dX6_mostOften_36 (by decide) ?_
      exact ih
set_option maxHeartbeats 4000000 in
set_option maxRecDepth 20000 in
theorem c_codeOf_208 {Z : q_Z} {m : q_Mm} {d : Nat} {n : Nat} {hi : Nat → Int32} {x : Int32} (h1 : m.1 208 1 = nI n) (h2 : n ≤ 8) (h3 : ∀ i, i < n → m.2.2.1 209 i = hi i) : q_V (q_g Z) mX6_codeOf (d) 0 0 0 [some (.ref (q_ad Z 208)), some (.int x), none] [] (q_W Z m) (q_P Z fun r m2 => r = some (.int (s_ci hi n x)) ∧ m2 = m) := by
  refine q_iconst (pc' := 1) (v := nI 0) dX6_codeOf_0 rfl rfl ?_
  refine q_istore_n (pc' := 2) (lv' := [_, _, _]) dX6_codeOf_1 (by decide) rfl rfl ?_
  suffices h : ∀ g j, j + g = n → s_find (fun j => decide (hi j = x)) g j = s_code hi n x → q_V (q_g Z) mX6_codeOf (d) 0 0 2 [some (.ref (q_ad Z 208)), some (.int x), some (.int (nI j))] [] (q_W Z (m)) (q_P Z fun r m2 => r = some (.int (s_ci hi n x)) ∧ m2 = m) from h n 0 (by omega) rfl
  intro g
  induction g with
  | zero =>
    intro j hj hs
    have hs : j = s_code hi n x := hs
    refine q_iload_n (pc' := 3) dX6_codeOf_2 rfl rfl ?_
    refine q_aload_n (pc' := 4) dX6_codeOf_3 rfl rfl ?_
    refine h_getiE (pc' := 7) dX6_codeOf_4 fX6_25 rfl rfl (h1) rfl ?_
    refine q_icmp_geN (tgt := 28) (pc' := 10) dX6_codeOf_7 (by decide) rfl (by omega) (fun c_7 => ?_) (fun c_7 => ?_)
    · refine q_iconst (pc' := 29) (v := (-1)) dX6_codeOf_28 rfl rfl ?_
      exact q_iret dX6_codeOf_29 rfl rfl ⟨_, rfl, by unfold s_ci; rw [if_neg (by omega)], rfl⟩
    · omega
  | succ g ih =>
    intro j hj hs
    unfold s_find at hs
    refine q_iload_n (pc' := 3) dX6_codeOf_2 rfl rfl ?_
    refine q_aload_n (pc' := 4) dX6_codeOf_3 rfl rfl ?_
    refine h_getiE (pc' := 7) dX6_codeOf_4 fX6_25 rfl rfl (h1) rfl ?_
    refine q_icmp_geN (tgt := 28) (pc' := 10) dX6_codeOf_7 (by decide) rfl (by omega) (fun c_7 => ?_) (fun c_7 => ?_)
    · omega
    refine q_aload_n (pc' := 11) dX6_codeOf_10 rfl rfl ?_
    refine h_getr (pc' := 14) dX6_codeOf_11 fX6_9 rfl rfl rfl ?_
    refine q_iload_n (pc' := 15) dX6_codeOf_14 rfl rfl ?_
    refine h_ialdE (pc' := 16) dX6_codeOf_15 rfl (rfl) (by omega) (by decide) (h3 j (by omega)) rfl ?_
    refine q_iload_n (pc' := 17) dX6_codeOf_16 rfl rfl ?_
    refine q_icmp_ne (tgt := 22) (pc' := 20) dX6_codeOf_17 (by decide) rfl (fun c_17 => ?_) (fun c_17 => ?_)
    · rw [if_neg (by simpa using c_17)] at hs
      refine q_iincN (pc' := 25) (j := 1) (lv' := [_, _, _]) dX6_codeOf_22 rfl (by decide) rfl rfl ?_
      refine q_goto (pc' := 2) dX6_codeOf_25 (by decide) ?_
      exact ih (j + 1) (by omega) hs
    · rw [if_pos (decide_eq_true c_17)] at hs
      refine q_iload_n (pc' := 21) dX6_codeOf_20 rfl rfl ?_
      exact q_iret dX6_codeOf_21 rfl rfl ⟨_, rfl, by unfold s_ci; rw [← hs, if_pos (by omega)], rfl⟩
set_option maxHeartbeats 4000000 in
set_option maxRecDepth 20000 in
theorem c_codeBits_208 {Z : q_Z} {m : q_Mm} {d : Nat} {n : Nat} (h1 : m.1 208 1 = nI n) (h2 : 1 ≤ n) : q_V (q_g Z) mX6_codeBits (d+1) 0 0 0 [some (.ref (q_ad Z 208))] [] (q_W Z m) (q_P Z fun r m2 => r = some (.int (nI (s_bl (nI (n - 1)).toInt64))) ∧ m2 = m) := by
  refine q_aload_n (pc' := 1) dX6_codeBits_0 rfl rfl ?_
  refine h_getiE (pc' := 4) dX6_codeBits_1 fX6_25 rfl rfl (h1) rfl ?_
  refine q_iconst (pc' := 5) (v := nI 1) dX6_codeBits_4 rfl rfl ?_
  refine q_isubN (pc' := 6) dX6_codeBits_5 (by omega) rfl ?_
  refine q_i2l (pc' := 7) dX6_codeBits_6 rfl ?_
  refine h_callSN (pc' := 10) (M' := mX10_bitLength) (As := [_]) dX6_codeBits_7 iX10_bitLength nm_X6_39 rfl rfl (Nat.le_of_ble_eq_true rfl) (Nat.le_of_ble_eq_true rfl) rfl rfl (c_bitLength) (fun r m' hq => ?_)
  obtain ⟨rfl, rfl⟩ := hq
  exact q_iret dX6_codeBits_10 rfl rfl ⟨_, rfl, rfl, rfl⟩
set_option maxHeartbeats 4000000 in
set_option maxRecDepth 20000 in
theorem c_choose_208 {Z : q_Z} {m : q_Mm} {d : Nat} {c most : Nat} {ps : Nat → Int32} (hO : PartO m 208 c ps) (hm : most ≤ 8) : q_V (q_g Z) mX6_choose (d+1) 0 0 0 [some (.ref (q_ad Z 208)), some (.int (nI most)), none, none] [] (q_W Z m) (q_P Z fun r m2 => r = none ∧ Fr [208, 209, 211] m m2 ∧ PartC m2 208 c most ps) := by
  obtain ⟨h1, h2, h3, h4⟩ := hO
  generalize hS : s_ch ps c (s_often ps c) = S
  have hSl : ∀ j, (S j).1 ≤ j := fun j => hS ▸ s_ch_le ps c _ j
  have hSb : ∀ j i, (S j).2.1 i ≤ 16 := fun j i => hS ▸ s_ch_bd ps c 16 _ (fun i => Nat.le_trans (s_often_le ps c i) h2) j i
  refine q_aload_n (pc' := 1) dX6_choose_0 rfl rfl ?_
  refine q_iconst (pc' := 2) (v := nI 0) dX6_choose_1 rfl rfl ?_
  refine h_puti (pc' := 5) dX6_choose_2 fX6_25 rfl rfl rfl rfl rfl ?_
  refine q_iconst (pc' := 6) (v := nI 0) dX6_choose_5 rfl rfl ?_
  refine q_istore_n (pc' := 7) (lv' := [_, _, _, _]) dX6_choose_6 (by decide) rfl rfl ?_
  suffices h : ∀ g j (m1 : q_Mm), j + g = most → Fr [208, 209, 211] m m1 → m1.1 208 1 = nI (S j).1 → m1.1 208 5 = nI c → (∀ i, i < c → m1.2.2.1 211 i = nI ((S j).2.1 i)) → (∀ i, i < (S j).1 → m1.2.2.1 209 i = (S j).2.2 i) → ∀ w, q_V (q_g Z) mX6_choose (d+1) 0 0 7 [some (.ref (q_ad Z 208)), some (.int (nI most)), some (.int (nI j)), w] [] (q_W Z (m1)) (q_P Z fun r m2 => r = none ∧ Fr [208, 209, 211] m m2 ∧ PartC m2 208 c most ps) from h most 0 (sI m 208 1 (nI 0)) (by omega) (Fr.rf.I (by decide)) (by rw [← hS]; rfl) h1 (fun i hi => by rw [← hS]; exact h4 i hi) (fun i hi => by rw [← hS] at hi; exact absurd hi (Nat.not_lt_zero _)) _
  intro g
  induction g with
  | zero =>
    intro j m1 hj f1 a1 a5 a3 a2 w
    obtain rfl : most = j := by omega
    have hcn := hSl most
    refine q_iload_n (pc' := 8) dX6_choose_7 rfl rfl ?_
    refine q_iload_n (pc' := 9) dX6_choose_8 rfl rfl ?_
    refine q_icmp_geN (tgt := 60) (pc' := 12) dX6_choose_9 (by decide) rfl (by omega) (fun c_9 => ?_) (fun c_9 => ?_)
    rotate_left
    · omega
    refine q_aload_n (pc' := 61) dX6_choose_60 rfl rfl ?_
    refine q_iconst (pc' := 62) (v := nI 0) dX6_choose_61 rfl rfl ?_
    refine h_puti (pc' := 65) dX6_choose_62 fX6_32 rfl rfl rfl rfl rfl ?_
    refine q_iconst (pc' := 66) (v := nI 0) dX6_choose_65 rfl rfl ?_
    refine q_istore_n (pc' := 67) (lv' := [_, _, _, _]) dX6_choose_66 (by decide) rfl rfl ?_
    suffices h : ∀ g i (m2 : q_Mm), i + g = c → Fr [208] m1 m2 → m2.1 208 1 = nI (S most).1 → m2.1 208 5 = nI c → m2.1 208 2 = s_miss (S most).2.2 (S most).1 ps i → q_V (q_g Z) mX6_choose (d+1) 0 0 67 [some (.ref (q_ad Z 208)), some (.int (nI most)), some (.int (nI i)), w] [] (q_W Z (m2)) (q_P Z fun r m2 => r = none ∧ Fr [208, 209, 211] m m2 ∧ PartC m2 208 c most ps) from h c 0 (sI m1 208 2 (nI 0)) (by omega) (Fr.rf.I (by decide)) a1 a5 rfl
    intro g
    induction g with
    | zero =>
      intro i m2 hi f2 b1 b5 b2
      obtain rfl : i = c := by omega
      refine q_iload_n (pc' := 68) dX6_choose_67 rfl rfl ?_
      refine q_aload_n (pc' := 69) dX6_choose_68 rfl rfl ?_
      refine h_getiE (pc' := 72) dX6_choose_69 fX6_21 rfl rfl (b5) rfl ?_
      refine q_icmp_geN (tgt := 107) (pc' := 75) dX6_choose_72 (by decide) rfl (by omega) (fun c_72 => ?_) (fun c_72 => ?_)
      · exact q_vret dX6_choose_107 rfl ⟨_, rfl, rfl, f1.trans (f2.mono (by decide)), ⟨by rw [hS]; exact b1, by rw [hS]; exact fun i hi => (congrFun (f2.a (by decide)) i).trans (a2 i hi), by rw [hS]; exact b2⟩⟩
      · omega
    | succ g ih =>
      intro i m2 hi f2 b1 b5 b2
      refine q_iload_n (pc' := 68) dX6_choose_67 rfl rfl ?_
      refine q_aload_n (pc' := 69) dX6_choose_68 rfl rfl ?_
      refine h_getiE (pc' := 72) dX6_choose_69 fX6_21 rfl rfl (b5) rfl ?_
      refine q_icmp_geN (tgt := 107) (pc' := 75) dX6_choose_72 (by decide) rfl (by omega) (fun c_72 => ?_) (fun c_72 => ?_)
      · omega
      have e2 : m2.2.2.1 210 i = ps i := by rw [f2.a (by decide), f1.a (by decide)]; exact h3 i (by omega)
      have e1 : ∀ k, k < (S most).1 → m2.2.2.1 209 k = (S most).2.2 k := fun k hk => (congrFun (f2.a (by decide)) k).trans (a2 k hk)
      refine q_aload_n (pc' := 76) dX6_choose_75 rfl rfl ?_
      refine q_aload_n (pc' := 77) dX6_choose_76 rfl rfl ?_
      refine h_getr (pc' := 80) dX6_choose_77 fX6_15 rfl rfl rfl ?_
      refine q_iload_n (pc' := 81) dX6_choose_80 rfl rfl ?_
      refine h_ialdE (pc' := 82) dX6_choose_81 rfl (rfl) (by omega) (by decide) (e2) rfl ?_
      refine h_callV (pc' := 85) (M' := mX6_codeOf) (As := [_]) dX6_choose_82 iX6_codeOf lX6_35 rfl rfl rfl rfl (Nat.le_of_ble_eq_true rfl) (Nat.le_of_ble_eq_true rfl) rfl rfl (c_codeOf_208 b1 (by omega) e1) (fun r m' hq => ?_)
      obtain ⟨rfl, rfl⟩ := hq
      have hz : ¬ nI (s_code (S most).2.2 (S most).1 (ps i)) = -1 := by
        have := s_find_le (fun k => decide ((S most).2.2 k = ps i)) (S most).1 0
        rw [z_eq, z_n (by unfold s_code; omega)]
        show ¬ (s_code (S most).2.2 (S most).1 (ps i) : Int) = -1
        omega
      refine q_iconst (pc' := 86) (v := (-1)) dX6_choose_85 rfl rfl ?_
      refine q_icmp_ne (tgt := 101) (pc' := 89) dX6_choose_86 (by decide) rfl (fun c_86 => ?_) (fun c_86 => ?_)
      · have hlt : s_code (S most).2.2 (S most).1 (ps i) < (S most).1 := by
          rcases Nat.lt_or_ge (s_code (S most).2.2 (S most).1 (ps i)) (S most).1 with q | q
          · exact q
          · exact absurd (by unfold s_ci; rw [if_neg (by omega)]) c_86
        refine q_iincN (pc' := 104) (j := 1) (lv' := [_, _, _, _]) dX6_choose_101 rfl (by decide) rfl rfl ?_
        refine q_goto (pc' := 67) dX6_choose_104 (by decide) ?_
        exact ih (i + 1) m' (by omega) f2 b1 b5 (by rw [b2]; simp [s_miss, hlt])
      · have hlt : ¬ s_code (S most).2.2 (S most).1 (ps i) < (S most).1 := fun q => hz (by unfold s_ci at c_86; rwa [if_pos q] at c_86)
        refine q_aload_n (pc' := 90) dX6_choose_89 rfl rfl ?_
        refine q_dup (pc' := 91) dX6_choose_90 rfl rfl ?_
        refine h_getiE (pc' := 94) dX6_choose_91 fX6_32 rfl rfl (b2) rfl ?_
        refine q_iconst (pc' := 95) (v := nI 1) dX6_choose_94 rfl rfl ?_
        refine q_iload_n (pc' := 96) dX6_choose_95 rfl rfl ?_
        refine q_ishl (pc' := 97) dX6_choose_96 rfl ?_
        refine q_ior (pc' := 98) dX6_choose_97 rfl ?_
        refine h_puti (pc' := 101) dX6_choose_98 fX6_32 rfl rfl rfl rfl rfl ?_
        refine q_iincN (pc' := 104) (j := 1) (lv' := [_, _, _, _]) dX6_choose_101 rfl (by decide) rfl rfl ?_
        refine q_goto (pc' := 67) dX6_choose_104 (by decide) ?_
        refine ih (i + 1) _ (by omega) (f2.I (by decide)) ?_ ?_ ?_
        · exact b1
        · exact b5
        · simp [s_miss, hlt]; rfl
  | succ g ih =>
    intro j m1 hj f1 a1 a5 a3 a2 w
    have hcn := hSl j
    refine q_iload_n (pc' := 8) dX6_choose_7 rfl rfl ?_
    refine q_iload_n (pc' := 9) dX6_choose_8 rfl rfl ?_
    refine q_icmp_geN (tgt := 60) (pc' := 12) dX6_choose_9 (by decide) rfl (by omega) (fun c_9 => ?_) (fun c_9 => ?_)
    · omega
    refine q_aload_n (pc' := 13) dX6_choose_12 rfl rfl ?_
    refine h_callV (pc' := 16) (M' := mX6_mostOften) (As := []) dX6_choose_13 iX6_mostOften lX6_28 rfl rfl rfl rfl (Nat.le_of_ble_eq_true rfl) (Nat.le_of_ble_eq_true rfl) rfl rfl (c_mostOften_208 a5 h2 a3 (hSb j)) (fun r m' hq => ?_)
    obtain ⟨rfl, rfl⟩ := hq
    have hstep : S (j + 1) = match (s_mo (S j).2.1 c).1 with
      | none => S j
      | some i => ((S j).1 + 1, q_u (S j).2.1 i 0, q_u (S j).2.2 (S j).1 (ps i)) := by rw [← hS]; rfl
    cases hmo : (s_mo (S j).2.1 c).1 with
    | none =>
      rw [hmo] at hstep
      refine q_istore_n (pc' := 17) (lv' := [_, _, _, _]) dX6_choose_16 (by decide) rfl rfl ?_
      refine q_iload_n (pc' := 18) dX6_choose_17 rfl rfl ?_
      refine q_iconst (pc' := 19) (v := (-1)) dX6_choose_18 rfl rfl ?_
      refine q_icmp_eq (tgt := 54) (pc' := 22) dX6_choose_19 (by decide) rfl (fun c_19 => ?_) (fun c_19 => ?_)
      · refine q_iincN (pc' := 57) (j := 1) (lv' := [_, _, _, _]) dX6_choose_54 rfl (by decide) rfl rfl ?_
        refine q_goto (pc' := 7) dX6_choose_57 (by decide) ?_
        exact ih (j + 1) m' (by omega) f1 (by rw [hstep]; exact a1) a5 (by rw [hstep]; exact a3) (by rw [hstep]; exact a2) _
      · exact absurd rfl c_19
    | some i =>
      rw [hmo] at hstep
      have hi := s_mo_lt _ _ _ hmo
      have e2 : m'.2.2.1 210 i = ps i := by rw [f1.a (by decide)]; exact h3 i hi
      refine q_istore_n (pc' := 17) (lv' := [_, _, _, _]) dX6_choose_16 (by decide) rfl rfl ?_
      refine q_iload_n (pc' := 18) dX6_choose_17 rfl rfl ?_
      refine q_iconst (pc' := 19) (v := (-1)) dX6_choose_18 rfl rfl ?_
      refine q_icmp_eq (tgt := 54) (pc' := 22) dX6_choose_19 (by decide) rfl (fun c_19 => ?_) (fun c_19 => ?_)
      · exact absurd c_19 (by rw [z_eq]; show ¬ (nI i).toInt = -1; rw [z_n (by omega)]; omega)
      refine q_aload_n (pc' := 23) dX6_choose_22 rfl rfl ?_
      refine h_getr (pc' := 26) dX6_choose_23 fX6_9 rfl rfl rfl ?_
      refine q_aload_n (pc' := 27) dX6_choose_26 rfl rfl ?_
      refine h_getiE (pc' := 30) dX6_choose_27 fX6_25 rfl rfl (a1) rfl ?_
      refine q_aload_n (pc' := 31) dX6_choose_30 rfl rfl ?_
      refine h_getr (pc' := 34) dX6_choose_31 fX6_15 rfl rfl rfl ?_
      refine q_iload_n (pc' := 35) dX6_choose_34 rfl rfl ?_
      refine h_ialdE (pc' := 36) dX6_choose_35 rfl (rfl) (by omega) (by decide) (e2) rfl ?_
      refine h_iast (pc' := 37) dX6_choose_36 rfl (rfl) (by omega) (by decide) rfl ?_
      refine q_aload_n (pc' := 38) dX6_choose_37 rfl rfl ?_
      refine q_dup (pc' := 39) dX6_choose_38 rfl rfl ?_
      refine h_getiE (pc' := 42) dX6_choose_39 fX6_25 rfl rfl (a1) rfl ?_
      refine q_iconst (pc' := 43) (v := nI 1) dX6_choose_42 rfl rfl ?_
      refine q_iaddN (pc' := 44) dX6_choose_43 rfl ?_
      refine h_puti (pc' := 47) dX6_choose_44 fX6_25 rfl rfl rfl rfl rfl ?_
      refine q_aload_n (pc' := 48) dX6_choose_47 rfl rfl ?_
      refine h_getr (pc' := 51) dX6_choose_48 fX6_18 rfl rfl rfl ?_
      refine q_iload_n (pc' := 52) dX6_choose_51 rfl rfl ?_
      refine q_iconst (pc' := 53) (v := nI 0) dX6_choose_52 rfl rfl ?_
      refine h_iast (pc' := 54) dX6_choose_53 rfl (rfl) (by omega) (by decide) rfl ?_
      refine q_iincN (pc' := 57) (j := 1) (lv' := [_, _, _, _]) dX6_choose_54 rfl (by decide) rfl rfl ?_
      refine q_goto (pc' := 7) dX6_choose_57 (by decide) ?_
      refine ih (j + 1) _ (by omega) (((f1.A (by decide)).I (by decide)).A (by decide)) ?_ ?_ ?_ ?_ _
      · rw [hstep]; rfl
      · exact a5
      · rw [hstep]
        intro k hk
        show q_u (m'.2.2.1 211) i (nI 0) k = nI (q_u (S j).2.1 i 0 k)
        by_cases h : k = i
        · rw [h, q_u_s, q_u_s]
        · rw [q_u_n _ _ h, q_u_n _ _ h]; exact a3 k hk
      · rw [hstep]
        intro k hk
        have hk : k < (S j).1 + 1 := hk
        show q_u (m'.2.2.1 209) (S j).1 (ps i) k = q_u (S j).2.2 (S j).1 (ps i) k
        by_cases h : k = (S j).1
        · rw [h, q_u_s, q_u_s]
        · rw [q_u_n _ _ h, q_u_n _ _ h]; exact a2 k (by omega)
