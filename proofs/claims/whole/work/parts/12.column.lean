/-! ===== Column ===== -/
def ColS (o : Nat) : Prop := q_shs[o]? = some (.inl (2, [(2, o + 1), (2, o + 2), (2, o + 3), (0, 0), (0, 0)])) ∧ q_shs[o + 1]? = some (.inr (1, 64)) ∧ q_shs[o + 2]? = some (.inr (0, 5)) ∧ q_shs[o + 3]? = some (.inr (0, 180))
theorem cs_past : ∀ i, i < 40 → ColS (29 + 4 * i)
  | 0, _ => ⟨rfl, rfl, rfl, rfl⟩
  | 1, _ => ⟨rfl, rfl, rfl, rfl⟩
  | 2, _ => ⟨rfl, rfl, rfl, rfl⟩
  | 3, _ => ⟨rfl, rfl, rfl, rfl⟩
  | 4, _ => ⟨rfl, rfl, rfl, rfl⟩
  | 5, _ => ⟨rfl, rfl, rfl, rfl⟩
  | 6, _ => ⟨rfl, rfl, rfl, rfl⟩
  | 7, _ => ⟨rfl, rfl, rfl, rfl⟩
  | 8, _ => ⟨rfl, rfl, rfl, rfl⟩
  | 9, _ => ⟨rfl, rfl, rfl, rfl⟩
  | 10, _ => ⟨rfl, rfl, rfl, rfl⟩
  | 11, _ => ⟨rfl, rfl, rfl, rfl⟩
  | 12, _ => ⟨rfl, rfl, rfl, rfl⟩
  | 13, _ => ⟨rfl, rfl, rfl, rfl⟩
  | 14, _ => ⟨rfl, rfl, rfl, rfl⟩
  | 15, _ => ⟨rfl, rfl, rfl, rfl⟩
  | 16, _ => ⟨rfl, rfl, rfl, rfl⟩
  | 17, _ => ⟨rfl, rfl, rfl, rfl⟩
  | 18, _ => ⟨rfl, rfl, rfl, rfl⟩
  | 19, _ => ⟨rfl, rfl, rfl, rfl⟩
  | 20, _ => ⟨rfl, rfl, rfl, rfl⟩
  | 21, _ => ⟨rfl, rfl, rfl, rfl⟩
  | 22, _ => ⟨rfl, rfl, rfl, rfl⟩
  | 23, _ => ⟨rfl, rfl, rfl, rfl⟩
  | 24, _ => ⟨rfl, rfl, rfl, rfl⟩
  | 25, _ => ⟨rfl, rfl, rfl, rfl⟩
  | 26, _ => ⟨rfl, rfl, rfl, rfl⟩
  | 27, _ => ⟨rfl, rfl, rfl, rfl⟩
  | 28, _ => ⟨rfl, rfl, rfl, rfl⟩
  | 29, _ => ⟨rfl, rfl, rfl, rfl⟩
  | 30, _ => ⟨rfl, rfl, rfl, rfl⟩
  | 31, _ => ⟨rfl, rfl, rfl, rfl⟩
  | 32, _ => ⟨rfl, rfl, rfl, rfl⟩
  | 33, _ => ⟨rfl, rfl, rfl, rfl⟩
  | 34, _ => ⟨rfl, rfl, rfl, rfl⟩
  | 35, _ => ⟨rfl, rfl, rfl, rfl⟩
  | 36, _ => ⟨rfl, rfl, rfl, rfl⟩
  | 37, _ => ⟨rfl, rfl, rfl, rfl⟩
  | 38, _ => ⟨rfl, rfl, rfl, rfl⟩
  | 39, _ => ⟨rfl, rfl, rfl, rfl⟩
  | n + 40, h => absurd h (by omega)
theorem cs_11 : ColS 11 := ⟨rfl, rfl, rfl, rfl⟩
theorem cs_19 : ColS 19 := ⟨rfl, rfl, rfl, rfl⟩
theorem cs_23 : ColS 23 := ⟨rfl, rfl, rfl, rfl⟩
theorem cpy_in {α : Type} (f g : Nat → α) {sp dp n j : Nat} (h : dp ≤ j) (h2 : j < dp + n) : va_cpy f g sp dp n j = f (sp + (j - dp)) := pk_cpy_in h h2
theorem cpy_out {α : Type} (f g : Nat → α) {sp dp n j : Nat} (h : j < dp ∨ dp + n ≤ j) : va_cpy f g sp dp n j = g j := pk_cpy_out h
set_option maxHeartbeats 4000000 in
set_option maxRecDepth 20000 in
theorem c_become {Z : q_Z} {m : q_Mm} {d : Nat} {o q n k : Nat} {xs : Nat → Int64} {rl : Nat → Nat} {nt : Nat → Int32} (so : ColS o) (sq : ColS q) (hoq : q + 3 < o ∨ o + 3 < q) (hC : Col m q n k xs rl nt) : q_V (q_g Z) mX2_become (d+1) 0 0 0 [some (.ref (q_ad Z o)), some (.ref (q_ad Z q))] [] (q_W Z m) (q_P Z fun r m2 => r = none ∧ Fr [o, o + 1, o + 2, o + 3] m m2 ∧ Col m2 o n k xs rl nt) := by
  obtain ⟨hn, hk, hn6, hk6, hx, hr, hnt, hok⟩ := hC
  refine q_aload_n (pc' := 1) dX2_become_0 rfl rfl ?_
  refine q_aload_n (pc' := 2) dX2_become_1 rfl rfl ?_
  refine h_geti (pc' := 5) dX2_become_2 fX2_25 (sq.1) rfl rfl ?_
  refine h_puti (pc' := 8) dX2_become_5 fX2_25 (so.1) rfl rfl rfl rfl ?_
  refine q_aload_n (pc' := 9) dX2_become_8 rfl rfl ?_
  refine q_aload_n (pc' := 10) dX2_become_9 rfl rfl ?_
  refine h_geti (pc' := 13) dX2_become_10 fX2_29 (sq.1) rfl rfl ?_
  refine h_puti (pc' := 16) dX2_become_13 fX2_29 (so.1) rfl rfl rfl rfl ?_
  refine q_aload_n (pc' := 17) dX2_become_16 rfl rfl ?_
  refine h_getr (pc' := 20) dX2_become_17 fX2_9 (sq.1) rfl rfl ?_
  refine q_iconst (pc' := 21) (v := nI 0) dX2_become_20 rfl rfl ?_
  refine q_aload_n (pc' := 22) dX2_become_21 rfl rfl ?_
  refine h_getr (pc' := 25) dX2_become_22 fX2_9 (so.1) rfl rfl ?_
  refine q_iconst (pc' := 26) (v := nI 0) dX2_become_25 rfl rfl ?_
  refine q_aload_n (pc' := 27) dX2_become_26 rfl rfl ?_
  refine h_geti (pc' := 30) dX2_become_27 fX2_25 (sq.1) rfl rfl ?_
  refine h_copyl (pc' := 33) dX2_become_30 lX2_35 cp_n cp_s cp_i (sq.2.1) (so.2.1) (rfl) (rfl) ((by show (sI _ _ _ _).1 q 3 = nI n; simp only [sI, q_up, q_u]; rw [if_neg (by omega), if_neg (by omega)]; exact hn)) (by omega) (by omega) (by decide) (Nat.le_of_ble_eq_true rfl) rfl ?_
  refine q_aload_n (pc' := 34) dX2_become_33 rfl rfl ?_
  refine h_getr (pc' := 37) dX2_become_34 fX2_15 (sq.1) rfl rfl ?_
  refine q_iconst (pc' := 38) (v := nI 0) dX2_become_37 rfl rfl ?_
  refine q_aload_n (pc' := 39) dX2_become_38 rfl rfl ?_
  refine h_getr (pc' := 42) dX2_become_39 fX2_15 (so.1) rfl rfl ?_
  refine q_iconst (pc' := 43) (v := nI 0) dX2_become_42 rfl rfl ?_
  refine q_iconst (pc' := 44) (v := nI 5) dX2_become_43 rfl rfl ?_
  refine h_copyi (pc' := 47) dX2_become_44 lX2_35 cp_n cp_s cp_i (sq.2.2.1) (so.2.2.1) (rfl) (rfl) (rfl) (by omega) (by omega) (by decide) (Nat.le_of_ble_eq_true rfl) rfl ?_
  refine q_aload_n (pc' := 48) dX2_become_47 rfl rfl ?_
  refine h_getr (pc' := 51) dX2_become_48 fX2_19 (sq.1) rfl rfl ?_
  refine q_iconst (pc' := 52) (v := nI 0) dX2_become_51 rfl rfl ?_
  refine q_aload_n (pc' := 53) dX2_become_52 rfl rfl ?_
  refine h_getr (pc' := 56) dX2_become_53 fX2_19 (so.1) rfl rfl ?_
  refine q_iconst (pc' := 57) (v := nI 0) dX2_become_56 rfl rfl ?_
  refine q_iconst (pc' := 58) (v := nI 3) dX2_become_57 rfl rfl ?_
  refine q_aload_n (pc' := 59) dX2_become_58 rfl rfl ?_
  refine h_geti (pc' := 62) dX2_become_59 fX2_29 (sq.1) rfl rfl ?_
  refine q_imul (pc' := 63) dX2_become_62 rfl ?_
  refine h_copyi (pc' := 66) dX2_become_63 lX2_35 cp_n cp_s cp_i (sq.2.2.2) (so.2.2.2) (rfl) (rfl) ((by show nI 3 * (sA (sL (sI (sI _ _ _ _) _ _ _) _ _) _ _).1 q 4 = nI (3 * k); simp only [sI, sA, sL, q_up, q_u]; rw [if_neg (by omega), if_neg (by omega), hk, pk_mul])) (by omega) (by omega) (by decide) (Nat.le_of_ble_eq_true rfl) rfl ?_
  have q1 : q ≠ o := by omega
  have e1 : q + 1 ≠ o + 1 := by omega
  have e2 : q + 2 ≠ o + 2 := by omega
  have e3 : q + 3 ≠ o + 2 := by omega
  have e4 : o + 2 ≠ o + 3 := by omega
  refine q_vret dX2_become_66 rfl ⟨_, rfl, rfl, (((((Fr.rf.I (by simp)).I (by simp)).L (by simp)).A (by simp)).A (by simp)), ⟨by simp [sI, sA, sL, q_up, q_u, q1, hn], by simp [sI, sA, sL, q_up, q_u, q1, hk], hn6, hk6, fun i hi => by simp only [sI, sA, sL, q_up, if_true]; rw [cpy_in _ _ (Nat.zero_le _) (by omega)]; simpa using hx i hi, fun i hi => by simp only [sI, sA, sL, q_up, if_true, if_neg e4]; rw [cpy_in _ _ (Nat.zero_le _) (by omega)]; simpa using hr i hi, fun i hi => by simp only [sI, sA, sL, q_up, if_true, if_neg e3]; rw [cpy_in _ _ (Nat.zero_le _) (by omega)]; simpa using hnt i hi, hok⟩⟩
set_option maxHeartbeats 4000000 in
set_option maxRecDepth 20000 in
theorem c_colAppend_11 {Z : q_Z} {m : q_Mm} {d : Nat} {n k : Nat} {xs : Nat → Int64} {rl : Nat → Nat} {nt : Nat → Int32} {v : Int64} (hC : Col m 11 n k xs rl nt) (hn6 : n < 64) : q_V (q_g Z) mX2_append (d) 0 0 0 [some (.ref (q_ad Z 11)), some (.long v), none] [] (q_W Z m) (q_P Z fun r m2 => r = none ∧ Fr [11, 12] m m2 ∧ Col m2 11 (n + 1) k (q_u xs n v) rl nt) := by
  obtain ⟨hn, hk, -, hk6, hx, hr, hnt, hok⟩ := hC
  refine q_aload_n (pc' := 1) dX2_append_0 rfl rfl ?_
  refine h_getiE (pc' := 4) dX2_append_1 fX2_25 rfl rfl (hn) rfl ?_
  refine q_bipush (pc' := 6) (v := nI 64) dX2_append_4 rfl rfl ?_
  refine q_icmp_geN (tgt := 29) (pc' := 9) dX2_append_6 (by decide) rfl (by omega) (fun c_6 => ?_) (fun c_6 => ?_)
  · omega
  refine q_aload_n (pc' := 10) dX2_append_9 rfl rfl ?_
  refine h_getr (pc' := 13) dX2_append_10 fX2_9 rfl rfl rfl ?_
  refine q_aload_n (pc' := 14) dX2_append_13 rfl rfl ?_
  refine h_getiE (pc' := 17) dX2_append_14 fX2_25 rfl rfl (hn) rfl ?_
  refine q_lload_n (pc' := 18) dX2_append_17 rfl rfl ?_
  refine h_last (pc' := 19) dX2_append_18 rfl (rfl) (by omega) (by decide) rfl ?_
  refine q_aload_n (pc' := 20) dX2_append_19 rfl rfl ?_
  refine q_dup (pc' := 21) dX2_append_20 rfl rfl ?_
  refine h_getiE (pc' := 24) dX2_append_21 fX2_25 rfl rfl (hn) rfl ?_
  refine q_iconst (pc' := 25) (v := nI 1) dX2_append_24 rfl rfl ?_
  refine q_iaddN (pc' := 26) dX2_append_25 rfl ?_
  refine h_puti (pc' := 29) dX2_append_26 fX2_25 rfl rfl rfl rfl rfl ?_
  refine q_vret dX2_append_29 rfl ⟨_, rfl, rfl, (Fr.rf.L (by decide)).I (by decide), ⟨rfl, hk, by omega, hk6, fun i hi => by simp only [sI, sL, q_up, if_true, q_u]; split; rfl; exact hx i (by omega), hr, hnt, hok⟩⟩
set_option maxHeartbeats 4000000 in
set_option maxRecDepth 20000 in
theorem c_colAppend_19 {Z : q_Z} {m : q_Mm} {d : Nat} {n k : Nat} {xs : Nat → Int64} {rl : Nat → Nat} {nt : Nat → Int32} {v : Int64} (hC : Col m 19 n k xs rl nt) (hn6 : n < 64) : q_V (q_g Z) mX2_append (d) 0 0 0 [some (.ref (q_ad Z 19)), some (.long v), none] [] (q_W Z m) (q_P Z fun r m2 => r = none ∧ Fr [19, 20] m m2 ∧ Col m2 19 (n + 1) k (q_u xs n v) rl nt) := by
  obtain ⟨hn, hk, -, hk6, hx, hr, hnt, hok⟩ := hC
  refine q_aload_n (pc' := 1) dX2_append_0 rfl rfl ?_
  refine h_getiE (pc' := 4) dX2_append_1 fX2_25 rfl rfl (hn) rfl ?_
  refine q_bipush (pc' := 6) (v := nI 64) dX2_append_4 rfl rfl ?_
  refine q_icmp_geN (tgt := 29) (pc' := 9) dX2_append_6 (by decide) rfl (by omega) (fun c_6 => ?_) (fun c_6 => ?_)
  · omega
  refine q_aload_n (pc' := 10) dX2_append_9 rfl rfl ?_
  refine h_getr (pc' := 13) dX2_append_10 fX2_9 rfl rfl rfl ?_
  refine q_aload_n (pc' := 14) dX2_append_13 rfl rfl ?_
  refine h_getiE (pc' := 17) dX2_append_14 fX2_25 rfl rfl (hn) rfl ?_
  refine q_lload_n (pc' := 18) dX2_append_17 rfl rfl ?_
  refine h_last (pc' := 19) dX2_append_18 rfl (rfl) (by omega) (by decide) rfl ?_
  refine q_aload_n (pc' := 20) dX2_append_19 rfl rfl ?_
  refine q_dup (pc' := 21) dX2_append_20 rfl rfl ?_
  refine h_getiE (pc' := 24) dX2_append_21 fX2_25 rfl rfl (hn) rfl ?_
  refine q_iconst (pc' := 25) (v := nI 1) dX2_append_24 rfl rfl ?_
  refine q_iaddN (pc' := 26) dX2_append_25 rfl ?_
  refine h_puti (pc' := 29) dX2_append_26 fX2_25 rfl rfl rfl rfl rfl ?_
  refine q_vret dX2_append_29 rfl ⟨_, rfl, rfl, (Fr.rf.L (by decide)).I (by decide), ⟨rfl, hk, by omega, hk6, fun i hi => by simp only [sI, sL, q_up, if_true, q_u]; split; rfl; exact hx i (by omega), hr, hnt, hok⟩⟩
set_option maxHeartbeats 4000000 in
set_option maxRecDepth 20000 in
theorem c_blocks {Z : q_Z} {m : q_Mm} {d : Nat} {n k : Nat} {xs : Nat → Int64} {rl : Nat → Nat} {nt : Nat → Int32} (hC : Col m 19 n k xs rl nt) : q_V (q_g Z) mX2_blocks (d+1) 0 0 0 [some (.ref (q_ad Z 19))] [] (q_W Z m) (q_P Z fun r m2 => r = some (.int (nI ((n + rl 0 - 1) / rl 0))) ∧ m2 = m) := by
  obtain ⟨hn, hk, hn6, hk6, hx, hr, hnt, hok⟩ := hC
  have h0 := hok.1
  refine q_aload_n (pc' := 1) dX2_blocks_0 rfl rfl ?_
  refine h_getiE (pc' := 4) dX2_blocks_1 fX2_25 rfl rfl (hn) rfl ?_
  refine q_aload_n (pc' := 5) dX2_blocks_4 rfl rfl ?_
  refine h_getr (pc' := 8) dX2_blocks_5 fX2_15 rfl rfl rfl ?_
  refine q_iconst (pc' := 9) (v := nI 0) dX2_blocks_8 rfl rfl ?_
  refine h_ialdE (pc' := 10) dX2_blocks_9 rfl (rfl) (by omega) (by decide) (hr 0 (by decide)) rfl ?_
  refine h_callSN (pc' := 13) (M' := mX10_blocksFor) (As := [_, _]) dX2_blocks_10 iX10_blocksFor nm_X2_41 rfl rfl (Nat.le_of_ble_eq_true rfl) (Nat.le_of_ble_eq_true rfl) rfl rfl (c_blocksFor hn6 ⟨by omega, by omega⟩) (fun r m' hq => ?_)
  obtain ⟨rfl, rfl⟩ := hq
  refine q_iret dX2_blocks_13 rfl rfl ⟨_, rfl, rfl, rfl⟩
def s_first (xs : Nat → Int64) (i : Nat) : Nat := s_find (fun j => decide (xs j = xs i)) i 0
set_option maxHeartbeats 4000000 in
set_option maxRecDepth 20000 in
theorem c_firstLike {Z : q_Z} {m : q_Mm} {d : Nat} {n k i : Nat} {xs : Nat → Int64} {rl : Nat → Nat} {nt : Nat → Int32} (hC : Col m 19 n k xs rl nt) (hi : i < n) : q_V (q_g Z) mX2_firstLike (d) 0 0 0 [some (.ref (q_ad Z 19)), some (.int (nI i)), none] [] (q_W Z m) (q_P Z fun r m2 => r = some (.int (nI (s_first xs i))) ∧ m2 = m) := by
  obtain ⟨hn, hk, hn6, hk6, hx, hr, hnt, hok⟩ := hC
  refine q_iconst (pc' := 1) (v := nI 0) dX2_firstLike_0 rfl rfl ?_
  refine q_istore_n (pc' := 2) (lv' := [_, _, _]) dX2_firstLike_1 (by decide) rfl rfl ?_
  suffices h : ∀ g j, j + g = i → s_find (fun j => decide (xs j = xs i)) g j = s_first xs i → q_V (q_g Z) mX2_firstLike (d) 0 0 2 [some (.ref (q_ad Z 19)), some (.int (nI i)), some (.int (nI j))] [] (q_W Z (m)) (q_P Z fun r m2 => r = some (.int (nI (s_first xs i))) ∧ m2 = m) from h i 0 (by omega) rfl
  intro g
  induction g with
  | zero =>
    intro j hj hs
    refine q_iload_n (pc' := 3) dX2_firstLike_2 rfl rfl ?_
    refine q_iload_n (pc' := 4) dX2_firstLike_3 rfl rfl ?_
    refine q_icmp_geN (tgt := 31) (pc' := 7) dX2_firstLike_4 (by decide) rfl (by omega) (fun c_4 => ?_) (fun c_4 => ?_)
    · refine q_iload_n (pc' := 32) dX2_firstLike_31 rfl rfl ?_
      refine q_iret dX2_firstLike_32 rfl rfl ⟨_, rfl, by rw [← hs, ← hj]; rfl, rfl⟩
    · omega
  | succ g ih =>
    intro j hj hs
    unfold s_find at hs
    refine q_iload_n (pc' := 3) dX2_firstLike_2 rfl rfl ?_
    refine q_iload_n (pc' := 4) dX2_firstLike_3 rfl rfl ?_
    refine q_icmp_geN (tgt := 31) (pc' := 7) dX2_firstLike_4 (by decide) rfl (by omega) (fun c_4 => ?_) (fun c_4 => ?_)
    · omega
    refine q_aload_n (pc' := 8) dX2_firstLike_7 rfl rfl ?_
    refine h_getr (pc' := 11) dX2_firstLike_8 fX2_9 rfl rfl rfl ?_
    refine q_iload_n (pc' := 12) dX2_firstLike_11 rfl rfl ?_
    refine h_laldE (pc' := 13) dX2_firstLike_12 rfl (rfl) (by omega) (by decide) (hx j (by omega)) rfl ?_
    refine q_aload_n (pc' := 14) dX2_firstLike_13 rfl rfl ?_
    refine h_getr (pc' := 17) dX2_firstLike_14 fX2_9 rfl rfl rfl ?_
    refine q_iload_n (pc' := 18) dX2_firstLike_17 rfl rfl ?_
    refine h_laldE (pc' := 19) dX2_firstLike_18 rfl (rfl) (by omega) (by decide) (hx i (by omega)) rfl ?_
    refine q_lcmp (pc' := 20) dX2_firstLike_19 rfl ?_
    refine q_if_neL (tgt := 25) (pc' := 23) dX2_firstLike_20 (by decide) rfl (fun c_20 => ?_) (fun c_20 => ?_)
    · rw [if_neg (by simpa using c_20)] at hs
      refine q_iincN (pc' := 28) (j := 1) (lv' := [_, _, _]) dX2_firstLike_25 rfl (by decide) rfl rfl ?_
      refine q_goto (pc' := 2) dX2_firstLike_28 (by decide) ?_
      exact ih (j + 1) (by omega) hs
    · rw [if_pos (decide_eq_true c_20)] at hs
      refine q_iload_n (pc' := 24) dX2_firstLike_23 rfl rfl ?_
      refine q_iret dX2_firstLike_24 rfl rfl ⟨_, rfl, by rw [← hs], rfl⟩
set_option maxHeartbeats 4000000 in
set_option maxRecDepth 20000 in
theorem c_countLike {Z : q_Z} {m : q_Mm} {d : Nat} {n k i : Nat} {xs : Nat → Int64} {rl : Nat → Nat} {nt : Nat → Int32} (hC : Col m 19 n k xs rl nt) (hi : i < n) : q_V (q_g Z) mX2_countLike (d) 0 0 0 [some (.ref (q_ad Z 19)), some (.int (nI i)), none, none] [] (q_W Z m) (q_P Z fun r m2 => r = some (.int (nI (s_cnt (fun j => decide (xs j = xs i)) n))) ∧ m2 = m) := by
  obtain ⟨hn, hk, hn6, hk6, hx, hr, hnt, hok⟩ := hC
  refine q_iconst (pc' := 1) (v := nI 0) dX2_countLike_0 rfl rfl ?_
  refine q_istore_n (pc' := 2) (lv' := [_, _, _, _]) dX2_countLike_1 (by decide) rfl rfl ?_
  refine q_iconst (pc' := 3) (v := nI 0) dX2_countLike_2 rfl rfl ?_
  refine q_istore_n (pc' := 4) (lv' := [_, _, _, _]) dX2_countLike_3 (by decide) rfl rfl ?_
  suffices h : ∀ g j, j + g = n → q_V (q_g Z) mX2_countLike (d) 0 0 4 [some (.ref (q_ad Z 19)), some (.int (nI i)), some (.int (nI (s_cnt (fun j => decide (xs j = xs i)) j))), some (.int (nI j))] [] (q_W Z (m)) (q_P Z fun r m2 => r = some (.int (nI (s_cnt (fun j => decide (xs j = xs i)) n))) ∧ m2 = m) from h n 0 (by omega)
  intro g
  induction g with
  | zero =>
    intro j hj
    obtain rfl : j = n := by omega
    refine q_iload_n (pc' := 5) dX2_countLike_4 rfl rfl ?_
    refine q_aload_n (pc' := 6) dX2_countLike_5 rfl rfl ?_
    refine h_getiE (pc' := 9) dX2_countLike_6 fX2_25 rfl rfl (hn) rfl ?_
    refine q_icmp_geN (tgt := 37) (pc' := 12) dX2_countLike_9 (by decide) rfl (by omega) (fun c_9 => ?_) (fun c_9 => ?_)
    · refine q_iload_n (pc' := 38) dX2_countLike_37 rfl rfl ?_
      refine q_iret dX2_countLike_38 rfl rfl ⟨_, rfl, rfl, rfl⟩
    · omega
  | succ g ih =>
    intro j hj
    have ih := ih (j + 1) (by omega)
    refine q_iload_n (pc' := 5) dX2_countLike_4 rfl rfl ?_
    refine q_aload_n (pc' := 6) dX2_countLike_5 rfl rfl ?_
    refine h_getiE (pc' := 9) dX2_countLike_6 fX2_25 rfl rfl (hn) rfl ?_
    refine q_icmp_geN (tgt := 37) (pc' := 12) dX2_countLike_9 (by decide) rfl (by omega) (fun c_9 => ?_) (fun c_9 => ?_)
    · omega
    refine q_aload_n (pc' := 13) dX2_countLike_12 rfl rfl ?_
    refine h_getr (pc' := 16) dX2_countLike_13 fX2_9 rfl rfl rfl ?_
    refine q_iload_n (pc' := 17) dX2_countLike_16 rfl rfl ?_
    refine h_laldE (pc' := 18) dX2_countLike_17 rfl (rfl) (by omega) (by decide) (hx j (by omega)) rfl ?_
    refine q_aload_n (pc' := 19) dX2_countLike_18 rfl rfl ?_
    refine h_getr (pc' := 22) dX2_countLike_19 fX2_9 rfl rfl rfl ?_
    refine q_iload_n (pc' := 23) dX2_countLike_22 rfl rfl ?_
    refine h_laldE (pc' := 24) dX2_countLike_23 rfl (rfl) (by omega) (by decide) (hx i (by omega)) rfl ?_
    refine q_lcmp (pc' := 25) dX2_countLike_24 rfl ?_
    refine q_if_neL (tgt := 31) (pc' := 28) dX2_countLike_25 (by decide) rfl (fun c_25 => ?_) (fun c_25 => ?_)
    · rw [s_cnt_f (by simpa using c_25)] at ih
      refine q_iincN (pc' := 34) (j := 1) (lv' := [_, _, _, _]) dX2_countLike_31 rfl (by decide) rfl rfl ?_
      refine q_goto (pc' := 4) dX2_countLike_34 (by decide) ?_
      exact ih
    · rw [s_cnt_t (by simpa using c_25)] at ih
      refine q_iincN (pc' := 31) (j := 1) (lv' := [_, _, _, _]) dX2_countLike_28 rfl (by decide) rfl rfl ?_
      refine q_iincN (pc' := 34) (j := 1) (lv' := [_, _, _, _]) dX2_countLike_31 rfl (by decide) rfl rfl ?_
      refine q_goto (pc' := 4) dX2_countLike_34 (by decide) ?_
      exact ih
def s_runs (xs : Nat → Int64) (j : Nat) : Bool := decide (j = 0) || !decide (xs j = xs (j - 1))
set_option maxHeartbeats 4000000 in
set_option maxRecDepth 20000 in
theorem c_runs {Z : q_Z} {m : q_Mm} {d : Nat} {n k : Nat} {xs : Nat → Int64} {rl : Nat → Nat} {nt : Nat → Int32} (hC : Col m 19 n k xs rl nt) : q_V (q_g Z) mX2_runs (d) 0 0 0 [some (.ref (q_ad Z 19)), none, none] [] (q_W Z m) (q_P Z fun r m2 => r = some (.int (nI (s_cnt (s_runs xs) n))) ∧ m2 = m) := by
  obtain ⟨hn, hk, hn6, hk6, hx, hr, hnt, hok⟩ := hC
  refine q_iconst (pc' := 1) (v := nI 0) dX2_runs_0 rfl rfl ?_
  refine q_istore_n (pc' := 2) (lv' := [_, _, _]) dX2_runs_1 (by decide) rfl rfl ?_
  refine q_iconst (pc' := 3) (v := nI 0) dX2_runs_2 rfl rfl ?_
  refine q_istore_n (pc' := 4) (lv' := [_, _, _]) dX2_runs_3 (by decide) rfl rfl ?_
  suffices h : ∀ g j, j + g = n → q_V (q_g Z) mX2_runs (d) 0 0 4 [some (.ref (q_ad Z 19)), some (.int (nI (s_cnt (s_runs xs) j))), some (.int (nI j))] [] (q_W Z (m)) (q_P Z fun r m2 => r = some (.int (nI (s_cnt (s_runs xs) n))) ∧ m2 = m) from h n 0 (by omega)
  intro g
  induction g with
  | zero =>
    intro j hj
    obtain rfl : j = n := by omega
    refine q_iload_n (pc' := 5) dX2_runs_4 rfl rfl ?_
    refine q_aload_n (pc' := 6) dX2_runs_5 rfl rfl ?_
    refine h_getiE (pc' := 9) dX2_runs_6 fX2_25 rfl rfl (hn) rfl ?_
    refine q_icmp_geN (tgt := 43) (pc' := 12) dX2_runs_9 (by decide) rfl (by omega) (fun c_9 => ?_) (fun c_9 => ?_)
    · refine q_iload_n (pc' := 44) dX2_runs_43 rfl rfl ?_
      refine q_iret dX2_runs_44 rfl rfl ⟨_, rfl, rfl, rfl⟩
    · omega
  | succ g ih =>
    intro j hj
    have ih := ih (j + 1) (by omega)
    refine q_iload_n (pc' := 5) dX2_runs_4 rfl rfl ?_
    refine q_aload_n (pc' := 6) dX2_runs_5 rfl rfl ?_
    refine h_getiE (pc' := 9) dX2_runs_6 fX2_25 rfl rfl (hn) rfl ?_
    refine q_icmp_geN (tgt := 43) (pc' := 12) dX2_runs_9 (by decide) rfl (by omega) (fun c_9 => ?_) (fun c_9 => ?_)
    · omega
    refine q_iload_n (pc' := 13) dX2_runs_12 rfl rfl ?_
    refine q_if_eqN (tgt := 34) (pc' := 16) dX2_runs_13 (by decide) rfl (by omega) (fun c_13 => ?_) (fun c_13 => ?_)
    · rw [s_cnt_t (by simp [s_runs, c_13])] at ih
      refine q_iincN (pc' := 37) (j := 1) (lv' := [_, _, _]) dX2_runs_34 rfl (by decide) rfl rfl ?_
      refine q_iincN (pc' := 40) (j := 1) (lv' := [_, _, _]) dX2_runs_37 rfl (by decide) rfl rfl ?_
      refine q_goto (pc' := 4) dX2_runs_40 (by decide) ?_
      exact ih
    refine q_aload_n (pc' := 17) dX2_runs_16 rfl rfl ?_
    refine h_getr (pc' := 20) dX2_runs_17 fX2_9 rfl rfl rfl ?_
    refine q_iload_n (pc' := 21) dX2_runs_20 rfl rfl ?_
    refine h_laldE (pc' := 22) dX2_runs_21 rfl (rfl) (by omega) (by decide) (hx j (by omega)) rfl ?_
    refine q_aload_n (pc' := 23) dX2_runs_22 rfl rfl ?_
    refine h_getr (pc' := 26) dX2_runs_23 fX2_9 rfl rfl rfl ?_
    refine q_iload_n (pc' := 27) dX2_runs_26 rfl rfl ?_
    refine q_iconst (pc' := 28) (v := nI 1) dX2_runs_27 rfl rfl ?_
    refine q_isubN (pc' := 29) dX2_runs_28 (by omega) rfl ?_
    refine h_laldE (pc' := 30) dX2_runs_29 rfl (rfl) (by omega) (by decide) (hx (j - 1) (by omega)) rfl ?_
    refine q_lcmp (pc' := 31) dX2_runs_30 rfl ?_
    refine q_if_eqL (tgt := 37) (pc' := 34) dX2_runs_31 (by decide) rfl (fun c_31 => ?_) (fun c_31 => ?_)
    · rw [s_cnt_f (by simp [s_runs, c_31]; omega)] at ih
      refine q_iincN (pc' := 40) (j := 1) (lv' := [_, _, _]) dX2_runs_37 rfl (by decide) rfl rfl ?_
      refine q_goto (pc' := 4) dX2_runs_40 (by decide) ?_
      exact ih
    · rw [s_cnt_t (by simp [s_runs, c_31])] at ih
      refine q_iincN (pc' := 37) (j := 1) (lv' := [_, _, _]) dX2_runs_34 rfl (by decide) rfl rfl ?_
      refine q_iincN (pc' := 40) (j := 1) (lv' := [_, _, _]) dX2_runs_37 rfl (by decide) rfl rfl ?_
      refine q_goto (pc' := 4) dX2_runs_40 (by decide) ?_
      exact ih
set_option maxHeartbeats 4000000 in
set_option maxRecDepth 20000 in
theorem c_finites {Z : q_Z} {m : q_Mm} {d : Nat} {n k : Nat} {xs : Nat → Int64} {rl : Nat → Nat} {nt : Nat → Int32} (hC : Col m 19 n k xs rl nt) : q_V (q_g Z) mX2_finites (d+1) 0 0 0 [some (.ref (q_ad Z 19)), none, none] [] (q_W Z m) (q_P Z fun r m2 => r = some (.int (nI (s_cnt (fun j => s_fin (xs j)) n))) ∧ m2 = m) := by
  obtain ⟨hn, hk, hn6, hk6, hx, hr, hnt, hok⟩ := hC
  refine q_iconst (pc' := 1) (v := nI 0) dX2_finites_0 rfl rfl ?_
  refine q_istore_n (pc' := 2) (lv' := [_, _, _]) dX2_finites_1 (by decide) rfl rfl ?_
  refine q_iconst (pc' := 3) (v := nI 0) dX2_finites_2 rfl rfl ?_
  refine q_istore_n (pc' := 4) (lv' := [_, _, _]) dX2_finites_3 (by decide) rfl rfl ?_
  suffices h : ∀ g j, j + g = n → q_V (q_g Z) mX2_finites (d+1) 0 0 4 [some (.ref (q_ad Z 19)), some (.int (nI (s_cnt (fun j => s_fin (xs j)) j))), some (.int (nI j))] [] (q_W Z (m)) (q_P Z fun r m2 => r = some (.int (nI (s_cnt (fun j => s_fin (xs j)) n))) ∧ m2 = m) from h n 0 (by omega)
  intro g
  induction g with
  | zero =>
    intro j hj
    obtain rfl : j = n := by omega
    refine q_iload_n (pc' := 5) dX2_finites_4 rfl rfl ?_
    refine q_aload_n (pc' := 6) dX2_finites_5 rfl rfl ?_
    refine h_getiE (pc' := 9) dX2_finites_6 fX2_25 rfl rfl (hn) rfl ?_
    refine q_icmp_geN (tgt := 38) (pc' := 12) dX2_finites_9 (by decide) rfl (by omega) (fun c_9 => ?_) (fun c_9 => ?_)
    · refine q_iload_n (pc' := 39) dX2_finites_38 rfl rfl ?_
      refine q_iret dX2_finites_39 rfl rfl ⟨_, rfl, rfl, rfl⟩
    · omega
  | succ g ih =>
    intro j hj
    have ih := ih (j + 1) (by omega)
    refine q_iload_n (pc' := 5) dX2_finites_4 rfl rfl ?_
    refine q_aload_n (pc' := 6) dX2_finites_5 rfl rfl ?_
    refine h_getiE (pc' := 9) dX2_finites_6 fX2_25 rfl rfl (hn) rfl ?_
    refine q_icmp_geN (tgt := 38) (pc' := 12) dX2_finites_9 (by decide) rfl (by omega) (fun c_9 => ?_) (fun c_9 => ?_)
    · omega
    refine q_iload_n (pc' := 13) dX2_finites_12 rfl rfl ?_
    refine q_aload_n (pc' := 14) dX2_finites_13 rfl rfl ?_
    refine h_getr (pc' := 17) dX2_finites_14 fX2_9 rfl rfl rfl ?_
    refine q_iload_n (pc' := 18) dX2_finites_17 rfl rfl ?_
    refine h_laldE (pc' := 19) dX2_finites_18 rfl (rfl) (by omega) (by decide) (hx j (by omega)) rfl ?_
    refine h_callSN (pc' := 22) (M' := mX10_isFinite) (As := [_]) dX2_finites_19 iX10_isFinite nm_X2_53 rfl rfl (Nat.le_of_ble_eq_true rfl) (Nat.le_of_ble_eq_true rfl) rfl rfl (c_isFinite) (fun r m' hq => ?_)
    obtain ⟨rfl, rfl⟩ := hq
    refine q_if_eqB (tgt := 29) (pc' := 25) dX2_finites_22 (by decide) rfl (fun c_22 => ?_) (fun c_22 => ?_)
    · rw [s_cnt_f c_22] at ih
      refine q_iconst (pc' := 30) (v := nI 0) dX2_finites_29 rfl rfl ?_
      refine q_iaddN (pc' := 31) dX2_finites_30 rfl ?_
      refine q_istore_n (pc' := 32) (lv' := [_, _, _]) dX2_finites_31 (by decide) rfl rfl ?_
      refine q_iincN (pc' := 35) (j := 1) (lv' := [_, _, _]) dX2_finites_32 rfl (by decide) rfl rfl ?_
      refine q_goto (pc' := 4) dX2_finites_35 (by decide) ?_
      exact ih
    · rw [s_cnt_t c_22] at ih
      refine q_iconst (pc' := 26) (v := nI 1) dX2_finites_25 rfl rfl ?_
      refine q_goto (pc' := 30) dX2_finites_26 (by decide) ?_
      refine q_iaddN (pc' := 31) dX2_finites_30 rfl ?_
      refine q_istore_n (pc' := 32) (lv' := [_, _, _]) dX2_finites_31 (by decide) rfl rfl ?_
      refine q_iincN (pc' := 35) (j := 1) (lv' := [_, _, _]) dX2_finites_32 rfl (by decide) rfl rfl ?_
      refine q_goto (pc' := 4) dX2_finites_35 (by decide) ?_
      exact ih
set_option maxHeartbeats 4000000 in
set_option maxRecDepth 20000 in
theorem c_missing {Z : q_Z} {m : q_Mm} {d : Nat} {n k : Nat} {xs : Nat → Int64} {rl : Nat → Nat} {nt : Nat → Int32} (hC : Col m 19 n k xs rl nt) : q_V (q_g Z) mX2_missing (d+2) 0 0 0 [some (.ref (q_ad Z 19)), none, none] [] (q_W Z m) (q_P Z fun r m2 => r = some (.int (nI (s_cnt (fun j => s_mis (xs j)) n))) ∧ m2 = m) := by
  obtain ⟨hn, hk, hn6, hk6, hx, hr, hnt, hok⟩ := hC
  refine q_iconst (pc' := 1) (v := nI 0) dX2_missing_0 rfl rfl ?_
  refine q_istore_n (pc' := 2) (lv' := [_, _, _]) dX2_missing_1 (by decide) rfl rfl ?_
  refine q_iconst (pc' := 3) (v := nI 0) dX2_missing_2 rfl rfl ?_
  refine q_istore_n (pc' := 4) (lv' := [_, _, _]) dX2_missing_3 (by decide) rfl rfl ?_
  suffices h : ∀ g j, j + g = n → q_V (q_g Z) mX2_missing (d+2) 0 0 4 [some (.ref (q_ad Z 19)), some (.int (nI (s_cnt (fun j => s_mis (xs j)) j))), some (.int (nI j))] [] (q_W Z (m)) (q_P Z fun r m2 => r = some (.int (nI (s_cnt (fun j => s_mis (xs j)) n))) ∧ m2 = m) from h n 0 (by omega)
  intro g
  induction g with
  | zero =>
    intro j hj
    obtain rfl : j = n := by omega
    refine q_iload_n (pc' := 5) dX2_missing_4 rfl rfl ?_
    refine q_aload_n (pc' := 6) dX2_missing_5 rfl rfl ?_
    refine h_getiE (pc' := 9) dX2_missing_6 fX2_25 rfl rfl (hn) rfl ?_
    refine q_icmp_geN (tgt := 38) (pc' := 12) dX2_missing_9 (by decide) rfl (by omega) (fun c_9 => ?_) (fun c_9 => ?_)
    · refine q_iload_n (pc' := 39) dX2_missing_38 rfl rfl ?_
      refine q_iret dX2_missing_39 rfl rfl ⟨_, rfl, rfl, rfl⟩
    · omega
  | succ g ih =>
    intro j hj
    have ih := ih (j + 1) (by omega)
    refine q_iload_n (pc' := 5) dX2_missing_4 rfl rfl ?_
    refine q_aload_n (pc' := 6) dX2_missing_5 rfl rfl ?_
    refine h_getiE (pc' := 9) dX2_missing_6 fX2_25 rfl rfl (hn) rfl ?_
    refine q_icmp_geN (tgt := 38) (pc' := 12) dX2_missing_9 (by decide) rfl (by omega) (fun c_9 => ?_) (fun c_9 => ?_)
    · omega
    refine q_iload_n (pc' := 13) dX2_missing_12 rfl rfl ?_
    refine q_aload_n (pc' := 14) dX2_missing_13 rfl rfl ?_
    refine h_getr (pc' := 17) dX2_missing_14 fX2_9 rfl rfl rfl ?_
    refine q_iload_n (pc' := 18) dX2_missing_17 rfl rfl ?_
    refine h_laldE (pc' := 19) dX2_missing_18 rfl (rfl) (by omega) (by decide) (hx j (by omega)) rfl ?_
    refine h_callSN (pc' := 22) (M' := mX10_isMissing) (As := [_]) dX2_missing_19 iX10_isMissing nm_X2_49 rfl rfl (Nat.le_of_ble_eq_true rfl) (Nat.le_of_ble_eq_true rfl) rfl rfl (c_isMissing) (fun r m' hq => ?_)
    obtain ⟨rfl, rfl⟩ := hq
    refine q_if_eqB (tgt := 29) (pc' := 25) dX2_missing_22 (by decide) rfl (fun c_22 => ?_) (fun c_22 => ?_)
    · rw [s_cnt_f c_22] at ih
      refine q_iconst (pc' := 30) (v := nI 0) dX2_missing_29 rfl rfl ?_
      refine q_iaddN (pc' := 31) dX2_missing_30 rfl ?_
      refine q_istore_n (pc' := 32) (lv' := [_, _, _]) dX2_missing_31 (by decide) rfl rfl ?_
      refine q_iincN (pc' := 35) (j := 1) (lv' := [_, _, _]) dX2_missing_32 rfl (by decide) rfl rfl ?_
      refine q_goto (pc' := 4) dX2_missing_35 (by decide) ?_
      exact ih
    · rw [s_cnt_t c_22] at ih
      refine q_iconst (pc' := 26) (v := nI 1) dX2_missing_25 rfl rfl ?_
      refine q_goto (pc' := 30) dX2_missing_26 (by decide) ?_
      refine q_iaddN (pc' := 31) dX2_missing_30 rfl ?_
      refine q_istore_n (pc' := 32) (lv' := [_, _, _]) dX2_missing_31 (by decide) rfl rfl ?_
      refine q_iincN (pc' := 35) (j := 1) (lv' := [_, _, _]) dX2_missing_32 rfl (by decide) rfl rfl ?_
      refine q_goto (pc' := 4) dX2_missing_35 (by decide) ?_
      exact ih
set_option maxHeartbeats 4000000 in
set_option maxRecDepth 20000 in
theorem c_minusZeros {Z : q_Z} {m : q_Mm} {d : Nat} {n k : Nat} {xs : Nat → Int64} {rl : Nat → Nat} {nt : Nat → Int32} (hC : Col m 19 n k xs rl nt) : q_V (q_g Z) mX2_minusZeros (d) 0 0 0 [some (.ref (q_ad Z 19)), none, none] [] (q_W Z m) (q_P Z fun r m2 => r = some (.int (nI (s_cnt (fun j => decide (xs j = s_minus)) n))) ∧ m2 = m) := by
  obtain ⟨hn, hk, hn6, hk6, hx, hr, hnt, hok⟩ := hC
  refine q_iconst (pc' := 1) (v := nI 0) dX2_minusZeros_0 rfl rfl ?_
  refine q_istore_n (pc' := 2) (lv' := [_, _, _]) dX2_minusZeros_1 (by decide) rfl rfl ?_
  refine q_iconst (pc' := 3) (v := nI 0) dX2_minusZeros_2 rfl rfl ?_
  refine q_istore_n (pc' := 4) (lv' := [_, _, _]) dX2_minusZeros_3 (by decide) rfl rfl ?_
  suffices h : ∀ g j, j + g = n → q_V (q_g Z) mX2_minusZeros (d) 0 0 4 [some (.ref (q_ad Z 19)), some (.int (nI (s_cnt (fun j => decide (xs j = s_minus)) j))), some (.int (nI j))] [] (q_W Z (m)) (q_P Z fun r m2 => r = some (.int (nI (s_cnt (fun j => decide (xs j = s_minus)) n))) ∧ m2 = m) from h n 0 (by omega)
  intro g
  induction g with
  | zero =>
    intro j hj
    obtain rfl : j = n := by omega
    refine q_iload_n (pc' := 5) dX2_minusZeros_4 rfl rfl ?_
    refine q_aload_n (pc' := 6) dX2_minusZeros_5 rfl rfl ?_
    refine h_getiE (pc' := 9) dX2_minusZeros_6 fX2_25 rfl rfl (hn) rfl ?_
    refine q_icmp_geN (tgt := 39) (pc' := 12) dX2_minusZeros_9 (by decide) rfl (by omega) (fun c_9 => ?_) (fun c_9 => ?_)
    · refine q_iload_n (pc' := 40) dX2_minusZeros_39 rfl rfl ?_
      refine q_iret dX2_minusZeros_40 rfl rfl ⟨_, rfl, rfl, rfl⟩
    · omega
  | succ g ih =>
    intro j hj
    have ih := ih (j + 1) (by omega)
    refine q_iload_n (pc' := 5) dX2_minusZeros_4 rfl rfl ?_
    refine q_aload_n (pc' := 6) dX2_minusZeros_5 rfl rfl ?_
    refine h_getiE (pc' := 9) dX2_minusZeros_6 fX2_25 rfl rfl (hn) rfl ?_
    refine q_icmp_geN (tgt := 39) (pc' := 12) dX2_minusZeros_9 (by decide) rfl (by omega) (fun c_9 => ?_) (fun c_9 => ?_)
    · omega
    refine q_iload_n (pc' := 13) dX2_minusZeros_12 rfl rfl ?_
    refine q_aload_n (pc' := 14) dX2_minusZeros_13 rfl rfl ?_
    refine h_getr (pc' := 17) dX2_minusZeros_14 fX2_9 rfl rfl rfl ?_
    refine q_iload_n (pc' := 18) dX2_minusZeros_17 rfl rfl ?_
    refine h_laldE (pc' := 19) dX2_minusZeros_18 rfl (rfl) (by omega) (by decide) (hx j (by omega)) rfl ?_
    refine q_ldc2 (pc' := 22) dX2_minusZeros_19 kX2_56 rfl ?_
    refine q_lcmp (pc' := 23) dX2_minusZeros_22 rfl ?_
    refine q_if_neL (tgt := 30) (pc' := 26) dX2_minusZeros_23 (by decide) rfl (fun c_23 => ?_) (fun c_23 => ?_)
    · rw [s_cnt_f (decide_eq_false c_23)] at ih
      refine q_iconst (pc' := 31) (v := nI 0) dX2_minusZeros_30 rfl rfl ?_
      refine q_iaddN (pc' := 32) dX2_minusZeros_31 rfl ?_
      refine q_istore_n (pc' := 33) (lv' := [_, _, _]) dX2_minusZeros_32 (by decide) rfl rfl ?_
      refine q_iincN (pc' := 36) (j := 1) (lv' := [_, _, _]) dX2_minusZeros_33 rfl (by decide) rfl rfl ?_
      refine q_goto (pc' := 4) dX2_minusZeros_36 (by decide) ?_
      exact ih
    · rw [s_cnt_t (decide_eq_true c_23)] at ih
      refine q_iconst (pc' := 27) (v := nI 1) dX2_minusZeros_26 rfl rfl ?_
      refine q_goto (pc' := 31) dX2_minusZeros_27 (by decide) ?_
      refine q_iaddN (pc' := 32) dX2_minusZeros_31 rfl ?_
      refine q_istore_n (pc' := 33) (lv' := [_, _, _]) dX2_minusZeros_32 (by decide) rfl rfl ?_
      refine q_iincN (pc' := 36) (j := 1) (lv' := [_, _, _]) dX2_minusZeros_33 rfl (by decide) rfl rfl ?_
      refine q_goto (pc' := 4) dX2_minusZeros_36 (by decide) ?_
      exact ih
