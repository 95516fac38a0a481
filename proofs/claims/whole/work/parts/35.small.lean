/-! ===== GuisePack, its own small methods; Column's notes ===== -/
def s_has (t : Bool) (n : Nat) (x : Int32) : Bool := t && decide (0 ≤ x.toInt ∧ x.toInt < (n : Int))
set_option maxHeartbeats 4000000 in
set_option maxRecDepth 20000 in
theorem c_hasPlace {Z : q_Z} {m : q_Mm} {d : Nat} {n k : Nat} {t : Bool} {x : Int32} {rl : Nat → Nat} {xs : Nat → Int64} {nt : Nat → Int32} (hC : Col m 19 n k xs rl nt) (ht : m.1 0 14 = q_b t) : q_V (q_g Z) mX10_hasPlace (d) 0 0 0 [some (.ref (q_ad Z 0)), some (.int x)] [] (q_W Z m) (q_P Z fun r m2 => r = some (.int (q_b (s_has t n x))) ∧ m2 = m) := by
  have hn := hC.2.2.1
  refine q_aload_n (pc' := 1) dX10_hasPlace_0 rfl rfl ?_
  refine h_getiE (pc' := 4) dX10_hasPlace_1 fX10_122 rfl rfl (ht) rfl ?_
  refine q_if_eqB (tgt := 26) (pc' := 7) dX10_hasPlace_4 (by decide) rfl (fun c_4 => ?_) (fun c_4 => ?_)
  · refine q_iconst (pc' := 27) (v := nI 0) dX10_hasPlace_26 rfl rfl ?_
    refine q_iret dX10_hasPlace_27 rfl (by first | exact q_nb0 | exact q_nb1 | exact q_nb _) ⟨_, rfl, by rw [show s_has t n x = false by unfold s_has; rw [c_4]; rfl]; rfl, rfl⟩
  rw [show s_has t n x = decide (0 ≤ x.toInt ∧ x.toInt < (n : Int)) by unfold s_has; rw [c_4]; rfl]
  refine q_iload_n (pc' := 8) dX10_hasPlace_7 rfl rfl ?_
  refine q_if_lt (tgt := 26) (pc' := 11) dX10_hasPlace_8 (by decide) rfl (fun c_8 => ?_) (fun c_8 => ?_)
  · rw [z_lt, z_0] at c_8
    refine q_iconst (pc' := 27) (v := nI 0) dX10_hasPlace_26 rfl rfl ?_
    refine q_iret dX10_hasPlace_27 rfl (by first | exact q_nb0 | exact q_nb1 | exact q_nb _) ⟨_, rfl, z_f (by omega), rfl⟩
  rw [z_lt, z_0] at c_8
  refine q_iload_n (pc' := 12) dX10_hasPlace_11 rfl rfl ?_
  refine q_aload_n (pc' := 13) dX10_hasPlace_12 rfl rfl ?_
  refine h_getr (pc' := 16) dX10_hasPlace_13 fX10_45 rfl rfl rfl ?_
  refine h_getiE (pc' := 19) dX10_hasPlace_16 fX10_128 rfl rfl (hC.1) rfl ?_
  refine q_icmp_ge (tgt := 26) (pc' := 22) dX10_hasPlace_19 (by decide) rfl (fun c_19 => ?_) (fun c_19 => ?_)
  · rw [z_le, z_n (by omega)] at c_19
    refine q_iconst (pc' := 27) (v := nI 0) dX10_hasPlace_26 rfl rfl ?_
    refine q_iret dX10_hasPlace_27 rfl (by first | exact q_nb0 | exact q_nb1 | exact q_nb _) ⟨_, rfl, z_f (by omega), rfl⟩
  · rw [z_le, z_n (by omega)] at c_19
    refine q_iconst (pc' := 23) (v := nI 1) dX10_hasPlace_22 rfl rfl ?_
    refine q_goto (pc' := 27) dX10_hasPlace_23 (by decide) ?_
    refine q_iret dX10_hasPlace_27 rfl (by first | exact q_nb0 | exact q_nb1 | exact q_nb _) ⟨_, rfl, z_t (by omega), rfl⟩
set_option maxHeartbeats 4000000 in
set_option maxRecDepth 20000 in
theorem c_hasBlock {Z : q_Z} {m : q_Mm} {d : Nat} {n k : Nat} {t : Bool} {x : Int32} {rl : Nat → Nat} {xs : Nat → Int64} {nt : Nat → Int32} (hC : Col m 19 n k xs rl nt) (ht : m.1 0 14 = q_b t) : q_V (q_g Z) mX10_hasBlock (d+2) 0 0 0 [some (.ref (q_ad Z 0)), some (.int x)] [] (q_W Z m) (q_P Z fun r m2 => r = some (.int (q_b (s_has t (s_nb n rl) x))) ∧ m2 = m) := by
  have hnb := s_nb_le hC.2.2.2.2.2.2.2 hC.2.2.1
  refine q_aload_n (pc' := 1) dX10_hasBlock_0 rfl rfl ?_
  refine h_getiE (pc' := 4) dX10_hasBlock_1 fX10_122 rfl rfl (ht) rfl ?_
  refine q_if_eqB (tgt := 26) (pc' := 7) dX10_hasBlock_4 (by decide) rfl (fun c_4 => ?_) (fun c_4 => ?_)
  · refine q_iconst (pc' := 27) (v := nI 0) dX10_hasBlock_26 rfl rfl ?_
    refine q_iret dX10_hasBlock_27 rfl (by first | exact q_nb0 | exact q_nb1 | exact q_nb _) ⟨_, rfl, by rw [show s_has t (s_nb n rl) x = false by unfold s_has; rw [c_4]; rfl]; rfl, rfl⟩
  rw [show s_has t (s_nb n rl) x = decide (0 ≤ x.toInt ∧ x.toInt < ((s_nb n rl : Nat) : Int)) by unfold s_has; rw [c_4]; rfl]
  refine q_iload_n (pc' := 8) dX10_hasBlock_7 rfl rfl ?_
  refine q_if_lt (tgt := 26) (pc' := 11) dX10_hasBlock_8 (by decide) rfl (fun c_8 => ?_) (fun c_8 => ?_)
  · rw [z_lt, z_0] at c_8
    refine q_iconst (pc' := 27) (v := nI 0) dX10_hasBlock_26 rfl rfl ?_
    refine q_iret dX10_hasBlock_27 rfl (by first | exact q_nb0 | exact q_nb1 | exact q_nb _) ⟨_, rfl, z_f (by omega), rfl⟩
  rw [z_lt, z_0] at c_8
  refine q_iload_n (pc' := 12) dX10_hasBlock_11 rfl rfl ?_
  refine q_aload_n (pc' := 13) dX10_hasBlock_12 rfl rfl ?_
  refine h_getr (pc' := 16) dX10_hasBlock_13 fX10_45 rfl rfl rfl ?_
  refine h_callV (pc' := 19) (M' := mX2_blocks) (As := []) dX10_hasBlock_16 iX2_blocks lX10_381 rfl rfl rfl rfl (Nat.le_of_ble_eq_true rfl) (Nat.le_of_ble_eq_true rfl) rfl rfl (c_blocks hC) (fun r m' hq => ?_)
  obtain ⟨rfl, hmm⟩ := hq
  subst m'
  rw [show (n + rl 0 - 1) / rl 0 = s_nb n rl from rfl]
  refine q_icmp_ge (tgt := 26) (pc' := 22) dX10_hasBlock_19 (by decide) rfl (fun c_19 => ?_) (fun c_19 => ?_)
  · rw [z_le, z_n (by omega)] at c_19
    refine q_iconst (pc' := 27) (v := nI 0) dX10_hasBlock_26 rfl rfl ?_
    refine q_iret dX10_hasBlock_27 rfl (by first | exact q_nb0 | exact q_nb1 | exact q_nb _) ⟨_, rfl, z_f (by omega), rfl⟩
  · rw [z_le, z_n (by omega)] at c_19
    refine q_iconst (pc' := 23) (v := nI 1) dX10_hasBlock_22 rfl rfl ?_
    refine q_goto (pc' := 27) dX10_hasBlock_23 (by decide) ?_
    refine q_iret dX10_hasBlock_27 rfl (by first | exact q_nb0 | exact q_nb1 | exact q_nb _) ⟨_, rfl, z_t (by omega), rfl⟩
set_option maxHeartbeats 4000000 in
set_option maxRecDepth 20000 in
theorem c_refuse {Z : q_Z} {m : q_Mm} {d : Nat} {w : Nat} (hw : w < 5) : q_V (q_g Z) mX10_refuse (d) 0 0 0 [some (.ref (q_ad Z 0)), some (.int (nI w))] [] (q_W Z m) (q_P Z fun r m2 => r = some (.int (-1)) ∧ m2 = sA m 213 (q_u (m.2.2.1 213) w (m.2.2.1 213 w + nI 1))) := by
  refine q_aload_n (pc' := 1) dX10_refuse_0 rfl rfl ?_
  refine h_getr (pc' := 4) dX10_refuse_1 fX10_89 rfl rfl rfl ?_
  refine q_iload_n (pc' := 5) dX10_refuse_4 rfl rfl ?_
  refine q_dup2_11 (pc' := 6) dX10_refuse_5 rfl rfl rfl ?_
  refine h_iald (pc' := 7) dX10_refuse_6 rfl (rfl) (by omega) (by decide) rfl ?_
  refine q_iconst (pc' := 8) (v := nI 1) dX10_refuse_7 rfl rfl ?_
  refine q_iadd (pc' := 9) dX10_refuse_8 rfl ?_
  refine h_iast (pc' := 10) dX10_refuse_9 rfl (rfl) (by omega) (by decide) rfl ?_
  refine q_iconst (pc' := 11) (v := (-1)) dX10_refuse_10 rfl rfl ?_
  refine q_iret dX10_refuse_11 rfl rfl ⟨_, rfl, rfl, rfl⟩
/-- the notes with one more, sixty of the latest -/
def s_nk (k : Nat) : Nat := if k = 60 then 59 else k
def s_nt (k : Nat) (nt : Nat → Int32) (a b c : Int32) (j : Nat) : Int32 := if j = 3 * s_nk k then a else if j = 3 * s_nk k + 1 then b else if j = 3 * s_nk k + 2 then c else if k = 60 then nt (j + 3) else nt j
set_option maxHeartbeats 4000000 in
set_option maxRecDepth 20000 in
theorem c_note {Z : q_Z} {m : q_Mm} {d : Nat} {n k : Nat} {a b : Int32} {rl : Nat → Nat} {xs : Nat → Int64} {nt : Nat → Int32} (hC : Col m 19 n k xs rl nt) : q_V (q_g Z) mX2_note (d+1) 0 0 0 [some (.ref (q_ad Z 19)), some (.int a), some (.int b)] [] (q_W Z m) (q_P Z fun r m2 => r = none ∧ Fr [19, 22] m m2 ∧ Col m2 19 n (s_nk k + 1) xs rl (s_nt k nt a b (nI n))) := by
  obtain ⟨hn, hk, hn6, hk6, hx, hr, hnt, hok⟩ := hC
  have fin : ∀ (m1 : q_Mm), Fr [19, 22] m m1 → m1.1 19 3 = nI n → m1.1 19 4 = nI (s_nk k) → (∀ i, i < 3 * s_nk k → m1.2.2.1 22 i = if k = 60 then nt (i + 3) else nt i) → q_V (q_g Z) mX2_note (d+1) 0 0 35 [some (.ref (q_ad Z 19)), some (.int a), some (.int b)] [] (q_W Z (m1)) (q_P Z fun r m2 => r = none ∧ Fr [19, 22] m m2 ∧ Col m2 19 n (s_nk k + 1) xs rl (s_nt k nt a b (nI n))) := by
    intro m1 f1 e3 e4 e5
    have hk9 : s_nk k ≤ 59 := by unfold s_nk; split <;> omega
    refine q_aload_n (pc' := 36) dX2_note_35 rfl rfl ?_
    refine h_getr (pc' := 39) dX2_note_36 fX2_19 rfl rfl rfl ?_
    refine q_iconst (pc' := 40) (v := nI 3) dX2_note_39 rfl rfl ?_
    refine q_aload_n (pc' := 41) dX2_note_40 rfl rfl ?_
    refine h_getiE (pc' := 44) dX2_note_41 fX2_29 rfl rfl (e4) rfl ?_
    refine q_imulN (pc' := 45) dX2_note_44 rfl ?_
    refine q_iload_n (pc' := 46) dX2_note_45 rfl rfl ?_
    refine h_iast (pc' := 47) dX2_note_46 rfl (rfl) (by omega) (by decide) rfl ?_
    refine q_aload_n (pc' := 48) dX2_note_47 rfl rfl ?_
    refine h_getr (pc' := 51) dX2_note_48 fX2_19 rfl rfl rfl ?_
    refine q_iconst (pc' := 52) (v := nI 3) dX2_note_51 rfl rfl ?_
    refine q_aload_n (pc' := 53) dX2_note_52 rfl rfl ?_
    refine h_getiE (pc' := 56) dX2_note_53 fX2_29 rfl rfl (e4) rfl ?_
    refine q_imulN (pc' := 57) dX2_note_56 rfl ?_
    refine q_iconst (pc' := 58) (v := nI 1) dX2_note_57 rfl rfl ?_
    refine q_iaddN (pc' := 59) dX2_note_58 rfl ?_
    refine q_iload_n (pc' := 60) dX2_note_59 rfl rfl ?_
    refine h_iast (pc' := 61) dX2_note_60 rfl (rfl) (by omega) (by decide) rfl ?_
    refine q_aload_n (pc' := 62) dX2_note_61 rfl rfl ?_
    refine h_getr (pc' := 65) dX2_note_62 fX2_19 rfl rfl rfl ?_
    refine q_iconst (pc' := 66) (v := nI 3) dX2_note_65 rfl rfl ?_
    refine q_aload_n (pc' := 67) dX2_note_66 rfl rfl ?_
    refine h_getiE (pc' := 70) dX2_note_67 fX2_29 rfl rfl (e4) rfl ?_
    refine q_imulN (pc' := 71) dX2_note_70 rfl ?_
    refine q_iconst (pc' := 72) (v := nI 2) dX2_note_71 rfl rfl ?_
    refine q_iaddN (pc' := 73) dX2_note_72 rfl ?_
    refine q_aload_n (pc' := 74) dX2_note_73 rfl rfl ?_
    refine h_getiE (pc' := 77) dX2_note_74 fX2_25 rfl rfl (e3) rfl ?_
    refine h_iast (pc' := 78) dX2_note_77 rfl (rfl) (by omega) (by decide) rfl ?_
    refine q_aload_n (pc' := 79) dX2_note_78 rfl rfl ?_
    refine q_dup (pc' := 80) dX2_note_79 rfl rfl ?_
    refine h_getiE (pc' := 83) dX2_note_80 fX2_29 rfl rfl (e4) rfl ?_
    refine q_iconst (pc' := 84) (v := nI 1) dX2_note_83 rfl rfl ?_
    refine q_iaddN (pc' := 85) dX2_note_84 rfl ?_
    refine h_puti (pc' := 88) dX2_note_85 fX2_29 rfl rfl rfl rfl rfl ?_
    refine q_vret dX2_note_88 rfl ⟨_, rfl, rfl, (((f1.A (by decide)).A (by decide)).A (by decide)).I (by decide), ⟨e3, rfl, hn6, by omega, fun i hi => (congrFun (f1.l (by decide)) i).trans (hx i hi), fun i hi => (congrFun (f1.a (by decide)) i).trans (hr i hi), fun i hi => ?_, hok⟩⟩
    show q_u (q_u (q_u (m1.2.2.1 22) (3 * s_nk k) a) (3 * s_nk k + 1) b) (3 * s_nk k + 2) (nI n) i = s_nt k nt a b (nI n) i
    unfold s_nt
    by_cases z2 : i = 3 * s_nk k + 2
    · rw [z2, q_u_s, if_neg (by omega), if_neg (by omega), if_pos rfl]
    · rw [q_u_n _ _ z2]
      by_cases z1 : i = 3 * s_nk k + 1
      · rw [z1, q_u_s, if_neg (by omega), if_pos rfl]
      · rw [q_u_n _ _ z1]
        by_cases z0 : i = 3 * s_nk k
        · rw [z0, q_u_s, if_pos rfl]
        · rw [q_u_n _ _ z0, if_neg z0, if_neg z1, if_neg z2]
          exact e5 i (by omega)
  refine q_aload_n (pc' := 1) dX2_note_0 rfl rfl ?_
  refine h_getiE (pc' := 4) dX2_note_1 fX2_29 rfl rfl (hk) rfl ?_
  refine q_bipush (pc' := 6) (v := nI 60) dX2_note_4 rfl rfl ?_
  refine q_icmp_neN (tgt := 35) (pc' := 9) dX2_note_6 (by decide) rfl (by omega) (fun c_6 => ?_) (fun c_6 => ?_)
  · exact fin m Fr.rf hn (by unfold s_nk; rw [if_neg c_6]; exact hk) (fun i hi => by rw [if_neg c_6]; unfold s_nk at hi; rw [if_neg c_6] at hi; exact hnt i hi)
  · have hk5 : s_nk k = 59 := by unfold s_nk; rw [if_pos c_6]
    refine q_aload_n (pc' := 10) dX2_note_9 rfl rfl ?_
    refine h_getr (pc' := 13) dX2_note_10 fX2_19 rfl rfl rfl ?_
    refine q_iconst (pc' := 14) (v := nI 3) dX2_note_13 rfl rfl ?_
    refine q_aload_n (pc' := 15) dX2_note_14 rfl rfl ?_
    refine h_getr (pc' := 18) dX2_note_15 fX2_19 rfl rfl rfl ?_
    refine q_iconst (pc' := 19) (v := nI 0) dX2_note_18 rfl rfl ?_
    refine q_sipush (pc' := 22) (v := nI 177) dX2_note_19 rfl rfl ?_
    refine h_copyi (pc' := 25) dX2_note_22 lX2_35 cp_n cp_s cp_i rfl rfl (rfl) (rfl) (rfl) (by omega) (by omega) (by decide) (Nat.le_of_ble_eq_true rfl) rfl ?_
    refine q_aload_n (pc' := 26) dX2_note_25 rfl rfl ?_
    refine q_dup (pc' := 27) dX2_note_26 rfl rfl ?_
    refine h_getiE (pc' := 30) dX2_note_27 fX2_29 rfl rfl ((show _ = nI k from hk)) rfl ?_
    refine q_iconst (pc' := 31) (v := nI 1) dX2_note_30 rfl rfl ?_
    refine q_isubN (pc' := 32) dX2_note_31 (by omega) rfl ?_
    refine h_puti (pc' := 35) dX2_note_32 fX2_29 rfl rfl rfl rfl rfl ?_
    refine fin _ ((Fr.rf.A (by decide)).I (by decide)) hn (by rw [hk5, show 59 = k - 1 by omega]; rfl) (fun i hi => ?_)
    rw [if_pos c_6]
    show va_cpy (m.2.2.1 22) (m.2.2.1 22) 3 0 177 i = nt (i + 3)
    rw [cpy_in _ _ (Nat.zero_le _) (by omega)]
    rw [Nat.sub_zero, Nat.add_comm]
    exact hnt (i + 3) (by omega)
set_option maxHeartbeats 4000000 in
set_option maxRecDepth 20000 in
theorem c_done {Z : q_Z} {m : q_Mm} {d : Nat} {n k : Nat} {a b c : Int32} {rl : Nat → Nat} {xs : Nat → Int64} {nt : Nat → Int32} (hC : Col m 19 n k xs rl nt) : q_V (q_g Z) mX10_done (d+2) 0 0 0 [some (.ref (q_ad Z 0)), some (.int a), some (.int b), some (.int c)] [] (q_W Z m) (q_P Z fun r m2 => r = some (.int c) ∧ Fr [0, 19, 22] m m2 ∧ Kp 0 [16] m m2 ∧ m2.1 0 16 = q_b true ∧ Col m2 19 n (s_nk k + 1) xs rl (s_nt k nt a b (nI n))) := by
  refine q_aload_n (pc' := 1) dX10_done_0 rfl rfl ?_
  refine h_getr (pc' := 4) dX10_done_1 fX10_45 rfl rfl rfl ?_
  refine q_iload_n (pc' := 5) dX10_done_4 rfl rfl ?_
  refine q_iload_n (pc' := 6) dX10_done_5 rfl rfl ?_
  refine h_callV (pc' := 9) (M' := mX2_note) (As := [_, _]) dX10_done_6 iX2_note lX10_378 rfl rfl rfl rfl (Nat.le_of_ble_eq_true rfl) (Nat.le_of_ble_eq_true rfl) rfl rfl (c_note hC) (fun r m' hq => ?_)
  obtain ⟨rfl, f1, C1⟩ := hq
  refine q_aload_n (pc' := 10) dX10_done_9 rfl rfl ?_
  refine q_iconst (pc' := 11) (v := nI 1) dX10_done_10 rfl rfl ?_
  refine h_puti (pc' := 14) dX10_done_11 fX10_125 rfl rfl (rfl) rfl rfl ?_
  refine q_iload_n (pc' := 15) dX10_done_14 rfl rfl ?_
  refine q_iret dX10_done_15 rfl rfl ⟨_, rfl, rfl, (f1.mono (by decide)).I (by decide), (Kp.fr f1 (by decide)).trans ?_, rfl, C1⟩
  intro j hj
  exact q_u_n _ _ (by simpa using hj)
set_option maxHeartbeats 4000000 in
set_option maxRecDepth 20000 in
theorem c_noteAt {Z : q_Z} {m : q_Mm} {d : Nat} {n k bk w : Nat} {rl : Nat → Nat} {xs : Nat → Int64} {nt : Nat → Int32} (hC : Col m 19 n k xs rl nt) (hb : bk < k) (hw : w < 3) : q_V (q_g Z) mX2_noteAt (d) 0 0 0 [some (.ref (q_ad Z 19)), some (.int (nI bk)), some (.int (nI w))] [] (q_W Z m) (q_P Z fun r m2 => r = some (.int (nt (3 * (k - 1 - bk) + w))) ∧ m2 = m) := by
  have hk6 := hC.2.2.2.1
  refine q_aload_n (pc' := 1) dX2_noteAt_0 rfl rfl ?_
  refine h_getr (pc' := 4) dX2_noteAt_1 fX2_19 rfl rfl rfl ?_
  refine q_iconst (pc' := 5) (v := nI 3) dX2_noteAt_4 rfl rfl ?_
  refine q_aload_n (pc' := 6) dX2_noteAt_5 rfl rfl ?_
  refine h_getiE (pc' := 9) dX2_noteAt_6 fX2_29 rfl rfl (hC.2.1) rfl ?_
  refine q_iconst (pc' := 10) (v := nI 1) dX2_noteAt_9 rfl rfl ?_
  refine q_isubN (pc' := 11) dX2_noteAt_10 (by omega) rfl ?_
  refine q_iload_n (pc' := 12) dX2_noteAt_11 rfl rfl ?_
  refine q_isubN (pc' := 13) dX2_noteAt_12 (by omega) rfl ?_
  refine q_imulN (pc' := 14) dX2_noteAt_13 rfl ?_
  refine q_iload_n (pc' := 15) dX2_noteAt_14 rfl rfl ?_
  refine q_iaddN (pc' := 16) dX2_noteAt_15 rfl ?_
  refine h_ialdE (pc' := 17) dX2_noteAt_16 rfl (rfl) (by omega) (by decide) (hC.2.2.2.2.2.2.1 _ (by omega)) rfl ?_
  refine q_iret dX2_noteAt_17 rfl rfl ⟨_, rfl, rfl, rfl⟩
