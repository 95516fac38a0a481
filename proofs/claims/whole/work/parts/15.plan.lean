/-! ===== Plan, its small methods ===== -/
/-- what is told of a PLAN: n VALUES ys, their R by each PAIR ws, the RULES r -/
def Pl (m : q_Mm) (b n : Nat) (r : Nat → Nat) (ys : Nat → Int64) (ws : Nat → Nat → Int64) : Prop :=
  m.1 b 4 = nI n ∧ n ≤ 64 ∧ (∀ i, i < 5 → m.2.2.1 (b + 1) i = nI (r i)) ∧ s_rok r ∧ ∀ i, i < n → ∃ k, k < 64 ∧ m.2.2.1 (b + 2) i = nI k ∧ m.2.2.2.1 20 k = ys i ∧ ∀ p, p < 120 → m.2.2.2.1 193 (k * 120 + p) = ws i p
theorem Pl.fr {S : List Nat} {m m2 : q_Mm} {b n : Nat} {r : Nat → Nat} {ys : Nat → Int64} {ws : Nat → Nat → Int64} (h : Pl m b n r ys ws) (f : Fr S m m2) (h0 : m2.1 b 4 = m.1 b 4) (h1 : b + 1 ∉ S) (h2 : b + 2 ∉ S) (h3 : 20 ∉ S) (h4 : 193 ∉ S) : Pl m2 b n r ys ws := by
  obtain ⟨a1, a2, a3, a4, a5⟩ := h
  refine ⟨h0.trans a1, a2, fun i hi => (congrFun (f.a h1) i).trans (a3 i hi), a4, fun i hi => ?_⟩
  obtain ⟨k, k1, k2, k3, k4⟩ := a5 i hi
  exact ⟨k, k1, (congrFun (f.a h2) i).trans k2, (congrFun (f.l h3) k).trans k3, fun p hp => (congrFun (f.l h4) _).trans (k4 p hp)⟩
def s_nb (n : Nat) (r : Nat → Nat) : Nat := (n + r 0 - 1) / r 0
def s_sz (n : Nat) (r : Nat → Nat) (b : Nat) : Nat := if n - b * r 0 < r 0 then n - b * r 0 else r 0
theorem s_nb_in {n b : Nat} {r : Nat → Nat} (hr : s_rok r) (h : b < s_nb n r) : b * r 0 < n ∧ 1 ≤ s_sz n r b ∧ s_sz n r b ≤ r 0 ∧ b * r 0 + s_sz n r b ≤ n := by
  have h0 := hr.1
  unfold s_nb at h
  have h1 : (b + 1) * r 0 ≤ n + r 0 - 1 := (Nat.le_div_iff_mul_le (by omega)).mp h
  rw [Nat.add_mul, Nat.one_mul] at h1
  unfold s_sz
  split <;> omega
theorem s_nb_le {n : Nat} {r : Nat → Nat} (hr : s_rok r) (hn : n ≤ 64) : s_nb n r ≤ 64 := by
  have h0 := hr.1
  unfold s_nb
  rcases Nat.eq_zero_or_pos n with q | q
  · subst q
    rw [Nat.div_eq_of_lt (by omega)]; omega
  · refine Nat.le_trans (Nat.div_le_div_left (c := 2) h0.1 (by decide)) ?_
    omega
def s_no : Int64 := -9223372036854775808
def s_ms (g : Nat → Int64) : Nat → Int64 × Int64 × Nat
  | 0 => (0, 0, 0)
  | i + 1 => if g i = s_no then s_ms g i else (if (s_ms g i).2.2 = 0 then g i else if g i < (s_ms g i).1 then g i else (s_ms g i).1, if (s_ms g i).2.2 = 0 then g i else if g i < (s_ms g i).2.1 then (s_ms g i).2.1 else g i, (s_ms g i).2.2 + 1)
theorem s_ms_le (g : Nat → Int64) : ∀ i, (s_ms g i).2.2 ≤ i
  | 0 => Nat.le_refl _
  | i + 1 => by
    have := s_ms_le g i
    unfold s_ms
    split
    · omega
    · show _ + 1 ≤ _
      omega
theorem s_ms_congr {g h : Nat → Int64} : ∀ c, (∀ i, i < c → g i = h i) → s_ms g c = s_ms h c
  | 0, _ => rfl
  | c + 1, e => by
    unfold s_ms
    rw [e c (Nat.lt_succ_self c), s_ms_congr c (fun i hi => e i (by omega))]
def s_mc (v : Nat) (q : Int64 × Int64 × Nat) : Nat := 15 + (v * s_bl (q.2.1 - q.1) + 7) / 8 + 9 * (v - q.2.2)
theorem s_bl_le (v : Int64) : s_bl v ≤ 64 := by have := s_find_le (fun k => decide ((v.toUInt64 >>> ((nI k).toInt64.toUInt64 &&& Int64.toUInt64 63)).toInt64 = 0)) 64 0; unfold s_bl; omega
theorem s_mc_le (v : Nat) (q : Int64 × Int64 × Nat) (h : v ≤ 16) : s_mc v q ≤ 1000 := by
  have h1 := s_bl_le (q.2.1 - q.1)
  have h2 : v * s_bl (q.2.1 - q.1) ≤ 16 * 64 := Nat.mul_le_mul h h1
  unfold s_mc
  omega
/-- how many of a BLOCK's VALUES are sampled -/
def s_sn (n : Nat) (r : Nat → Nat) (b : Nat) : Nat := if s_sz n r b < r 1 then s_sz n r b else r 1
def s_sc (n : Nat) (r : Nat → Nat) (ws : Nat → Nat → Int64) (b p : Nat) : Nat := s_mc (s_sn n r b) (s_ms (fun i => ws (b * r 0 + i * s_sz n r b / s_sn n r b) p) (s_sn n r b))
def s_dm (n : Nat) (r : Nat → Nat) (ws : Nat → Nat → Int64) (b p : Nat) : Int64 × Int64 × Nat := s_ms (fun i => ws (b * r 0 + i) p) (s_sz n r b)
def s_dc (n : Nat) (r : Nat → Nat) (ws : Nat → Nat → Int64) (b p : Nat) : Nat := s_mc (s_sz n r b) (s_dm n r ws b p)
def s_sum (f : Nat → Nat) : Nat → Nat
  | 0 => 0
  | k + 1 => s_sum f k + f k
theorem s_sum_le {f : Nat → Nat} {c : Nat} : ∀ k, (∀ i, i < k → f i ≤ c) → s_sum f k ≤ k * c
  | 0, _ => by simp [s_sum]
  | k + 1, h => by
    have h1 := s_sum_le k (fun i hi => h i (by omega))
    have h2 := h k (Nat.lt_succ_self k)
    unfold s_sum
    rw [Nat.add_mul, Nat.one_mul]
    omega
def s_score (n : Nat) (r : Nat → Nat) (ws : Nat → Nat → Int64) (p : Nat) : Nat := s_sum (fun b => s_sc n r ws b p) (s_nb n r)
def s_part (y : Int64) (h : Nat) : Int32 := (y.toUInt64 >>> ((nI (64 - h)).toInt64.toUInt64 &&& Int64.toUInt64 63)).toInt64.toInt32
def Ms (m : q_Mm) (b : Nat) (q : Int64 × Int64 × Nat) : Prop := m.2.1 b 9 = q.1 ∧ m.2.1 b 10 = q.2.1 ∧ m.1 b 11 = nI q.2.2
/-- only these of an object's ints have changed -/
def Kp (b : Nat) (J : List Nat) (m m2 : q_Mm) : Prop := ∀ j, j ∉ J → m2.1 b j = m.1 b j
theorem Kp.rf {b : Nat} {J : List Nat} {m : q_Mm} : Kp b J m m := fun _ _ => rfl
theorem Kp.trans {b : Nat} {J : List Nat} {m m1 m2 : q_Mm} (h1 : Kp b J m m1) (h2 : Kp b J m1 m2) : Kp b J m m2 := fun j hj => (h2 j hj).trans (h1 j hj)
theorem Kp.mono {b : Nat} {J J' : List Nat} {m m2 : q_Mm} (h : Kp b J m m2) (hs : ∀ p ∈ J, p ∈ J') : Kp b J' m m2 := fun p hp => h p (fun q => hp (hs p q))
theorem Kp.fr {b : Nat} {S J : List Nat} {m m2 : q_Mm} (h : Fr S m m2) (hb : b ∉ S) : Kp b J m m2 := fun j _ => congrFun (h.i hb) j
set_option maxHeartbeats 4000000 in
set_option maxRecDepth 20000 in
theorem c_at {Z : q_Z} {m : q_Mm} {d : Nat} {k p : Nat} (hk : k < 64) (hp : p < 120) : q_V (q_g Z) mX4_at (d) 0 0 0 [some (.ref (q_ad Z 189)), some (.int (nI k)), some (.int (nI p))] [] (q_W Z m) (q_P Z fun r m2 => r = some (.long (m.2.2.2.1 193 (k * 120 + p))) ∧ m2 = m) := by
  refine q_aload_n (pc' := 1) dX4_at_0 rfl rfl ?_
  refine h_getr (pc' := 4) dX4_at_1 fX4_23 rfl rfl rfl ?_
  refine q_iload_n (pc' := 5) dX4_at_4 rfl rfl ?_
  refine q_bipush (pc' := 7) (v := nI 120) dX4_at_5 rfl rfl ?_
  refine q_imulN (pc' := 8) dX4_at_7 rfl ?_
  refine q_iload_n (pc' := 9) dX4_at_8 rfl rfl ?_
  refine q_iaddN (pc' := 10) dX4_at_9 rfl ?_
  refine h_lald (pc' := 11) dX4_at_10 rfl (rfl) (by omega) (by decide) rfl ?_
  refine q_lret dX4_at_11 rfl ⟨_, rfl, rfl, rfl⟩
set_option maxHeartbeats 4000000 in
set_option maxRecDepth 20000 in
theorem c_code {Z : q_Z} {m : q_Mm} {d : Nat} {p : Nat} (hp : p < 120) : q_V (q_g Z) mX4_code (d) 0 0 0 [some (.ref (q_ad Z 189)), some (.int (nI p))] [] (q_W Z m) (q_P Z fun r m2 => r = some (.int (m.2.2.1 190 p)) ∧ m2 = m) := by
  refine q_aload_n (pc' := 1) dX4_code_0 rfl rfl ?_
  refine h_getr (pc' := 4) dX4_code_1 fX4_9 rfl rfl rfl ?_
  refine q_iload_n (pc' := 5) dX4_code_4 rfl rfl ?_
  refine h_iald (pc' := 6) dX4_code_5 rfl (rfl) (by omega) (by decide) rfl ?_
  refine q_iret dX4_code_6 rfl rfl ⟨_, rfl, rfl, rfl⟩
set_option maxHeartbeats 4000000 in
set_option maxRecDepth 20000 in
theorem c_plBlocks_194 {Z : q_Z} {m : q_Mm} {d : Nat} {n : Nat} {rl : Nat → Nat} {ys : Nat → Int64} {ws : Nat → Nat → Int64} (hP : Pl m 194 n rl ys ws) : q_V (q_g Z) mX8_blocks (d+1) 0 0 0 [some (.ref (q_ad Z 194))] [] (q_W Z m) (q_P Z fun r m2 => r = some (.int (nI (s_nb n rl))) ∧ m2 = m) := by
  obtain ⟨h1, h2, h3, h4, h5⟩ := hP
  have h0 := h4.1
  refine q_aload_n (pc' := 1) dX8_blocks_0 rfl rfl ?_
  refine h_getiE (pc' := 4) dX8_blocks_1 fX8_55 rfl rfl (h1) rfl ?_
  refine q_aload_n (pc' := 5) dX8_blocks_4 rfl rfl ?_
  refine h_getr (pc' := 8) dX8_blocks_5 fX8_9 rfl rfl rfl ?_
  refine q_iconst (pc' := 9) (v := nI 0) dX8_blocks_8 rfl rfl ?_
  refine h_ialdE (pc' := 10) dX8_blocks_9 rfl (rfl) (by omega) (by decide) (h3 0 (by decide)) rfl ?_
  refine h_callSN (pc' := 13) (M' := mX10_blocksFor) (As := [_, _]) dX8_blocks_10 iX10_blocksFor nm_X8_56 rfl rfl (Nat.le_of_ble_eq_true rfl) (Nat.le_of_ble_eq_true rfl) rfl rfl (c_blocksFor h2 ⟨by omega, by omega⟩) (fun r m' hq => ?_)
  obtain ⟨rfl, rfl⟩ := hq
  refine q_iret dX8_blocks_13 rfl rfl ⟨_, rfl, rfl, rfl⟩
set_option maxHeartbeats 4000000 in
set_option maxRecDepth 20000 in
theorem c_blockAt_194 {Z : q_Z} {m : q_Mm} {d : Nat} {n i : Nat} {rl : Nat → Nat} {ys : Nat → Int64} {ws : Nat → Nat → Int64} (hP : Pl m 194 n rl ys ws) (hi : i < 64) : q_V (q_g Z) mX8_blockAt (d) 0 0 0 [some (.ref (q_ad Z 194)), some (.int (nI i))] [] (q_W Z m) (q_P Z fun r m2 => r = some (.int (nI (i / rl 0))) ∧ m2 = m) := by
  obtain ⟨h1, h2, h3, h4, h5⟩ := hP
  have h0 := h4.1
  refine q_aload_n (pc' := 1) dX8_blockAt_0 rfl rfl ?_
  refine h_getr (pc' := 4) dX8_blockAt_1 fX8_9 rfl rfl rfl ?_
  refine q_iconst (pc' := 5) (v := nI 0) dX8_blockAt_4 rfl rfl ?_
  refine h_ialdE (pc' := 6) dX8_blockAt_5 rfl (rfl) (by omega) (by decide) (h3 0 (by decide)) rfl ?_
  refine q_if_leN (tgt := 20) (pc' := 9) dX8_blockAt_6 (by decide) rfl (by omega) (fun c_6 => ?_) (fun c_6 => ?_)
  · omega
  refine q_iload_n (pc' := 10) dX8_blockAt_9 rfl rfl ?_
  refine q_aload_n (pc' := 11) dX8_blockAt_10 rfl rfl ?_
  refine h_getr (pc' := 14) dX8_blockAt_11 fX8_9 rfl rfl rfl ?_
  refine q_iconst (pc' := 15) (v := nI 0) dX8_blockAt_14 rfl rfl ?_
  refine h_ialdE (pc' := 16) dX8_blockAt_15 rfl (rfl) (by omega) (by decide) (h3 0 (by decide)) rfl ?_
  refine q_idivN (pc' := 17) dX8_blockAt_16 (by omega) rfl ?_
  refine q_goto (pc' := 21) dX8_blockAt_17 (by decide) ?_
  refine q_iret dX8_blockAt_21 rfl rfl ⟨_, rfl, rfl, rfl⟩
set_option maxHeartbeats 4000000 in
set_option maxRecDepth 20000 in
theorem c_startOf_194 {Z : q_Z} {m : q_Mm} {d : Nat} {n i : Nat} {rl : Nat → Nat} {ys : Nat → Int64} {ws : Nat → Nat → Int64} (hP : Pl m 194 n rl ys ws) : q_V (q_g Z) mX8_startOf (d) 0 0 0 [some (.ref (q_ad Z 194)), some (.int (nI i))] [] (q_W Z m) (q_P Z fun r m2 => r = some (.int (nI (i * rl 0))) ∧ m2 = m) := by
  obtain ⟨h1, h2, h3, h4, h5⟩ := hP
  refine q_iload_n (pc' := 1) dX8_startOf_0 rfl rfl ?_
  refine q_aload_n (pc' := 2) dX8_startOf_1 rfl rfl ?_
  refine h_getr (pc' := 5) dX8_startOf_2 fX8_9 rfl rfl rfl ?_
  refine q_iconst (pc' := 6) (v := nI 0) dX8_startOf_5 rfl rfl ?_
  refine h_ialdE (pc' := 7) dX8_startOf_6 rfl (rfl) (by omega) (by decide) (h3 0 (by decide)) rfl ?_
  refine q_imulN (pc' := 8) dX8_startOf_7 rfl ?_
  refine q_iret dX8_startOf_8 rfl rfl ⟨_, rfl, rfl, rfl⟩
set_option maxHeartbeats 4000000 in
set_option maxRecDepth 20000 in
theorem c_sizeOf_194 {Z : q_Z} {m : q_Mm} {d : Nat} {n i : Nat} {rl : Nat → Nat} {ys : Nat → Int64} {ws : Nat → Nat → Int64} (hP : Pl m 194 n rl ys ws) (hi : i < s_nb n rl) : q_V (q_g Z) mX8_sizeOf (d+1) 0 0 0 [some (.ref (q_ad Z 194)), some (.int (nI i)), none] [] (q_W Z m) (q_P Z fun r m2 => r = some (.int (nI (s_sz n rl i))) ∧ m2 = m) := by
  have hz := s_nb_in hP.2.2.2.1 hi
  have h0 := hP.2.2.2.1.1
  refine q_aload_n (pc' := 1) dX8_sizeOf_0 rfl rfl ?_
  refine h_getiE (pc' := 4) dX8_sizeOf_1 fX8_55 rfl rfl (hP.1) rfl ?_
  refine q_aload_n (pc' := 5) dX8_sizeOf_4 rfl rfl ?_
  refine q_iload_n (pc' := 6) dX8_sizeOf_5 rfl rfl ?_
  refine h_callV (pc' := 9) (M' := mX8_startOf) (As := [_]) dX8_sizeOf_6 iX8_startOf lX8_60 rfl rfl rfl rfl (Nat.le_of_ble_eq_true rfl) (Nat.le_of_ble_eq_true rfl) rfl rfl (c_startOf_194 hP) (fun r m' hq => ?_)
  obtain ⟨rfl, rfl⟩ := hq
  obtain ⟨h1, h2, h3, h4, h5⟩ := hP
  refine q_isubN (pc' := 10) dX8_sizeOf_9 (by omega) rfl ?_
  refine q_istore_n (pc' := 11) (lv' := [_, _, _]) dX8_sizeOf_10 (by decide) rfl rfl ?_
  refine q_iload_n (pc' := 12) dX8_sizeOf_11 rfl rfl ?_
  refine q_aload_n (pc' := 13) dX8_sizeOf_12 rfl rfl ?_
  refine h_getr (pc' := 16) dX8_sizeOf_13 fX8_9 rfl rfl rfl ?_
  refine q_iconst (pc' := 17) (v := nI 0) dX8_sizeOf_16 rfl rfl ?_
  refine h_ialdE (pc' := 18) dX8_sizeOf_17 rfl (rfl) (by omega) (by decide) (h3 0 (by decide)) rfl ?_
  refine q_icmp_geN (tgt := 25) (pc' := 21) dX8_sizeOf_18 (by decide) rfl (by omega) (fun c_18 => ?_) (fun c_18 => ?_)
  · rw [show s_sz n rl i = rl 0 by unfold s_sz; rw [if_neg (by omega)]]
    refine q_aload_n (pc' := 26) dX8_sizeOf_25 rfl rfl ?_
    refine h_getr (pc' := 29) dX8_sizeOf_26 fX8_9 rfl rfl rfl ?_
    refine q_iconst (pc' := 30) (v := nI 0) dX8_sizeOf_29 rfl rfl ?_
    refine h_ialdE (pc' := 31) dX8_sizeOf_30 rfl (rfl) (by omega) (by decide) (h3 0 (by decide)) rfl ?_
    refine q_iret dX8_sizeOf_31 rfl rfl ⟨_, rfl, rfl, rfl⟩
  · rw [show s_sz n rl i = n - i * rl 0 by unfold s_sz; rw [if_pos (by omega)]]
    refine q_iload_n (pc' := 22) dX8_sizeOf_21 rfl rfl ?_
    refine q_goto (pc' := 31) dX8_sizeOf_22 (by decide) ?_
    refine q_iret dX8_sizeOf_31 rfl rfl ⟨_, rfl, rfl, rfl⟩
set_option maxHeartbeats 4000000 in
set_option maxRecDepth 20000 in
theorem c_bitsAt_194 {Z : q_Z} {m : q_Mm} {d : Nat} {n i : Nat} {rl : Nat → Nat} {ys : Nat → Int64} {ws : Nat → Nat → Int64} (hP : Pl m 194 n rl ys ws) (hi : i < n) : q_V (q_g Z) mX8_bitsAt (d) 0 0 0 [some (.ref (q_ad Z 194)), some (.int (nI i))] [] (q_W Z m) (q_P Z fun r m2 => r = some (.long (ys i)) ∧ m2 = m) := by
  obtain ⟨h1, h2, h3, h4, h5⟩ := hP
  obtain ⟨k, k1, k2, k3, k4⟩ := h5 i hi
  refine q_aload_n (pc' := 1) dX8_bitsAt_0 rfl rfl ?_
  refine h_getr (pc' := 4) dX8_bitsAt_1 fX8_35 rfl rfl rfl ?_
  refine h_getr (pc' := 7) dX8_bitsAt_4 fX8_64 rfl rfl rfl ?_
  refine q_aload_n (pc' := 8) dX8_bitsAt_7 rfl rfl ?_
  refine h_getr (pc' := 11) dX8_bitsAt_8 fX8_15 rfl rfl rfl ?_
  refine q_iload_n (pc' := 12) dX8_bitsAt_11 rfl rfl ?_
  refine h_ialdE (pc' := 13) dX8_bitsAt_12 rfl (rfl) (by omega) (by decide) (k2) rfl ?_
  refine h_laldE (pc' := 14) dX8_bitsAt_13 rfl (rfl) (by omega) (by decide) (k3) rfl ?_
  refine q_lret dX8_bitsAt_14 rfl ⟨_, rfl, rfl, rfl⟩
set_option maxHeartbeats 4000000 in
set_option maxRecDepth 20000 in
theorem c_partAt_194 {Z : q_Z} {m : q_Mm} {d : Nat} {n i : Nat} {rl : Nat → Nat} {ys : Nat → Int64} {ws : Nat → Nat → Int64} (hP : Pl m 194 n rl ys ws) (hi : i < n) : q_V (q_g Z) mX8_partAt (d+1) 0 0 0 [some (.ref (q_ad Z 194)), some (.int (nI i))] [] (q_W Z m) (q_P Z fun r m2 => r = some (.int (s_part (ys i) (rl 3))) ∧ m2 = m) := by
  refine q_aload_n (pc' := 1) dX8_partAt_0 rfl rfl ?_
  refine q_iload_n (pc' := 2) dX8_partAt_1 rfl rfl ?_
  refine h_callV (pc' := 5) (M' := mX8_bitsAt) (As := [_]) dX8_partAt_2 iX8_bitsAt lX8_68 rfl rfl rfl rfl (Nat.le_of_ble_eq_true rfl) (Nat.le_of_ble_eq_true rfl) rfl rfl (c_bitsAt_194 hP hi) (fun r m' hq => ?_)
  obtain ⟨rfl, rfl⟩ := hq
  obtain ⟨h1, h2, h3, h4, h5⟩ := hP
  have h0 := h4.2.2.2.1
  refine q_bipush (pc' := 7) (v := nI 64) dX8_partAt_5 rfl rfl ?_
  refine q_aload_n (pc' := 8) dX8_partAt_7 rfl rfl ?_
  refine h_getr (pc' := 11) dX8_partAt_8 fX8_9 rfl rfl rfl ?_
  refine q_iconst (pc' := 12) (v := nI 3) dX8_partAt_11 rfl rfl ?_
  refine h_ialdE (pc' := 13) dX8_partAt_12 rfl (rfl) (by omega) (by decide) (h3 3 (by decide)) rfl ?_
  refine q_isubN (pc' := 14) dX8_partAt_13 (by omega) rfl ?_
  refine q_lushr (pc' := 15) dX8_partAt_14 rfl rfl ?_
  refine q_l2i (pc' := 16) dX8_partAt_15 rfl ?_
  refine q_iret dX8_partAt_16 rfl rfl ⟨_, rfl, rfl, rfl⟩
set_option maxHeartbeats 4000000 in
set_option maxRecDepth 20000 in
theorem c_wholeAt_194 {Z : q_Z} {m : q_Mm} {d : Nat} {n i p : Nat} {rl : Nat → Nat} {ys : Nat → Int64} {ws : Nat → Nat → Int64} (hP : Pl m 194 n rl ys ws) (hi : i < n) (hp : p < 120) : q_V (q_g Z) mX8_wholeAt (d+1) 0 0 0 [some (.ref (q_ad Z 194)), some (.int (nI i)), some (.int (nI p))] [] (q_W Z m) (q_P Z fun r m2 => r = some (.long (ws i p)) ∧ m2 = m) := by
  obtain ⟨h1, h2, h3, h4, h5⟩ := hP
  obtain ⟨k, k1, k2, k3, k4⟩ := h5 i hi
  refine q_aload_n (pc' := 1) dX8_wholeAt_0 rfl rfl ?_
  refine h_getr (pc' := 4) dX8_wholeAt_1 fX8_31 rfl rfl rfl ?_
  refine q_aload_n (pc' := 5) dX8_wholeAt_4 rfl rfl ?_
  refine h_getr (pc' := 8) dX8_wholeAt_5 fX8_15 rfl rfl rfl ?_
  refine q_iload_n (pc' := 9) dX8_wholeAt_8 rfl rfl ?_
  refine h_ialdE (pc' := 10) dX8_wholeAt_9 rfl (rfl) (by omega) (by decide) (k2) rfl ?_
  refine q_iload_n (pc' := 11) dX8_wholeAt_10 rfl rfl ?_
  refine h_callV (pc' := 14) (M' := mX4_at) (As := [_, _]) dX8_wholeAt_11 iX4_at lX8_72 rfl rfl rfl rfl (Nat.le_of_ble_eq_true rfl) (Nat.le_of_ble_eq_true rfl) rfl rfl (c_at k1 hp) (fun r m' hq => ?_)
  obtain ⟨rfl, rfl⟩ := hq
  refine q_lret dX8_wholeAt_14 rfl ⟨_, rfl, by rw [k4 p hp], rfl⟩
set_option maxHeartbeats 4000000 in
set_option maxRecDepth 20000 in
theorem c_pairs_194 {Z : q_Z} {m : q_Mm} {d : Nat} {n : Nat} {rl : Nat → Nat} {ys : Nat → Int64} {ws : Nat → Nat → Int64} (hP : Pl m 194 n rl ys ws) : q_V (q_g Z) mX8_pairs (d+1) 0 0 0 [some (.ref (q_ad Z 194))] [] (q_W Z m) (q_P Z fun r m2 => r = some (.int (nI (s_pn (rl 2 + 1) 0))) ∧ m2 = m) := by
  obtain ⟨h1, h2, h3, h4, h5⟩ := hP
  have h0 := h4.2.2.1
  refine q_aload_n (pc' := 1) dX8_pairs_0 rfl rfl ?_
  refine h_getr (pc' := 4) dX8_pairs_1 fX8_9 rfl rfl rfl ?_
  refine q_iconst (pc' := 5) (v := nI 2) dX8_pairs_4 rfl rfl ?_
  refine h_ialdE (pc' := 6) dX8_pairs_5 rfl (rfl) (by omega) (by decide) (h3 2 (by decide)) rfl ?_
  refine q_iconst (pc' := 7) (v := nI 1) dX8_pairs_6 rfl rfl ?_
  refine q_iaddN (pc' := 8) dX8_pairs_7 rfl ?_
  refine q_iconst (pc' := 9) (v := nI 0) dX8_pairs_8 rfl rfl ?_
  refine h_callSN (pc' := 12) (M' := mX10_pairNumber) (As := [_, _]) dX8_pairs_9 iX10_pairNumber nm_X8_78 rfl rfl (Nat.le_of_ble_eq_true rfl) (Nat.le_of_ble_eq_true rfl) rfl rfl (c_pairNumber (by omega)) (fun r m' hq => ?_)
  obtain ⟨rfl, rfl⟩ := hq
  refine q_iret dX8_pairs_12 rfl rfl ⟨_, rfl, rfl, rfl⟩
set_option maxHeartbeats 4000000 in
set_option maxRecDepth 20000 in
theorem c_measure_194 {Z : q_Z} {m : q_Mm} {d : Nat} {n i all s p : Nat} {rl : Nat → Nat} {ys : Nat → Int64} {ws : Nat → Nat → Int64} (hP : Pl m 194 n rl ys ws) (hall : i * rl 0 + all ≤ n) (hs : 1 ≤ s ∧ s ≤ all) (hp : p < 120) : q_V (q_g Z) mX8_measure (d+1) 0 0 0 [some (.ref (q_ad Z 194)), some (.int (nI i)), some (.int (nI all)), some (.int (nI s)), some (.int (nI p)), none, none, none, none] [] (q_W Z m) (q_P Z fun r m2 => r = none ∧ Fr [194] m m2 ∧ Kp 194 [11] m m2 ∧ Ms m2 194 (s_ms (fun j => ws (i * rl 0 + j * all / s) p) s)) := by
  have hn := hP.2.1
  refine q_aload_n (pc' := 1) dX8_measure_0 rfl rfl ?_
  refine q_iload_n (pc' := 2) dX8_measure_1 rfl rfl ?_
  refine h_callV (pc' := 5) (M' := mX8_startOf) (As := [_]) dX8_measure_2 iX8_startOf lX8_60 rfl rfl rfl rfl (Nat.le_of_ble_eq_true rfl) (Nat.le_of_ble_eq_true rfl) rfl rfl (c_startOf_194 hP) (fun r m' hq => ?_)
  obtain ⟨rfl, rfl⟩ := hq
  refine q_istore (pc' := 7) (lv' := [_, _, _, _, _, _, _, _, _]) dX8_measure_5 (by decide) rfl rfl ?_
  refine q_aload_n (pc' := 8) dX8_measure_7 rfl rfl ?_
  refine q_lconst (pc' := 9) (v := 0) dX8_measure_8 rfl rfl ?_
  refine h_putj (pc' := 12) dX8_measure_9 fX8_119 rfl rfl rfl rfl rfl ?_
  refine q_aload_n (pc' := 13) dX8_measure_12 rfl rfl ?_
  refine q_lconst (pc' := 14) (v := 0) dX8_measure_13 rfl rfl ?_
  refine h_putj (pc' := 17) dX8_measure_14 fX8_123 rfl rfl rfl rfl rfl ?_
  refine q_aload_n (pc' := 18) dX8_measure_17 rfl rfl ?_
  refine q_iconst (pc' := 19) (v := nI 0) dX8_measure_18 rfl rfl ?_
  refine h_puti (pc' := 22) dX8_measure_19 fX8_126 rfl rfl rfl rfl rfl ?_
  refine q_iconst (pc' := 23) (v := nI 0) dX8_measure_22 rfl rfl ?_
  refine q_istore (pc' := 25) (lv' := [_, _, _, _, _, _, _, _, _]) dX8_measure_23 (by decide) rfl rfl ?_
  generalize hg : (fun j => ws (i * rl 0 + j * all / s) p) = g
  suffices h : ∀ c j (m1 : q_Mm) w, j + c = s → Fr [194] m' m1 → Kp 194 [11] m' m1 → Ms m1 194 (s_ms g j) → q_V (q_g Z) mX8_measure (d + 1) 0 0 25 [some (.ref (q_ad Z 194)), some (.int (nI i)), some (.int (nI all)), some (.int (nI s)), some (.int (nI p)), some (.int (nI (i * rl 0))), some (.int (nI j)), w, none] [] (q_W Z m1) (q_P Z fun r m2 => r = none ∧ Fr [194] m' m2 ∧ Kp 194 [11] m' m2 ∧ Ms m2 194 (s_ms g s)) from by
    refine h s 0 _ _ (by omega) (((Fr.rf.J (by decide)).J (by decide)).I (by decide)) ?_ ⟨rfl, rfl, rfl⟩
    intro j hj
    show q_u (m'.1 194) 11 (nI 0) j = _
    exact q_u_n _ _ (by simpa using hj)
  intro c
  induction c with
  | zero =>
    intro j m1 w hj f1 k1 q1
    obtain rfl : s = j := by omega
    refine q_iload (pc' := 27) dX8_measure_25 rfl rfl ?_
    refine q_iload_n (pc' := 28) dX8_measure_27 rfl rfl ?_
    refine q_icmp_geN (tgt := 136) (pc' := 31) dX8_measure_28 (by decide) rfl (by omega) (fun c_28 => ?_) (fun c_28 => ?_)
    · refine q_vret dX8_measure_136 rfl ⟨_, rfl, rfl, f1, k1, q1⟩
    · omega
  | succ c ih =>
    intro j m1 w hj f1 k1 q1
    have hd1 : j * all / s < all := by rw [Nat.div_lt_iff_lt_mul (by omega), Nat.mul_comm all s]; exact Nat.mul_lt_mul_of_pos_right (by omega) (by omega)
    have hd2 : j * all ≤ 64 * 64 := Nat.mul_le_mul (by omega) (by omega)
    have hP1 : Pl m1 194 n rl ys ws := hP.fr f1 (k1 4 (by decide)) (by decide) (by decide) (by decide) (by decide)
    obtain ⟨k, e1, e2, e3, e4⟩ := hP1.2.2.2.2 (i * rl 0 + j * all / s) (by omega)
    have e5 : m1.2.2.2.1 193 (k * 120 + p) = g j := by rw [← hg]; exact e4 p hp
    have hfl := s_ms_le g j
    refine q_iload (pc' := 27) dX8_measure_25 rfl rfl ?_
    refine q_iload_n (pc' := 28) dX8_measure_27 rfl rfl ?_
    refine q_icmp_geN (tgt := 136) (pc' := 31) dX8_measure_28 (by decide) rfl (by omega) (fun c_28 => ?_) (fun c_28 => ?_)
    · omega
    refine q_aload_n (pc' := 32) dX8_measure_31 rfl rfl ?_
    refine h_getr (pc' := 35) dX8_measure_32 fX8_31 rfl rfl rfl ?_
    refine h_getr (pc' := 38) dX8_measure_35 fX8_129 rfl rfl rfl ?_
    refine q_aload_n (pc' := 39) dX8_measure_38 rfl rfl ?_
    refine h_getr (pc' := 42) dX8_measure_39 fX8_15 rfl rfl rfl ?_
    refine q_iload (pc' := 44) dX8_measure_42 rfl rfl ?_
    refine q_iload (pc' := 46) dX8_measure_44 rfl rfl ?_
    refine q_iload_n (pc' := 47) dX8_measure_46 rfl rfl ?_
    refine q_imulN (pc' := 48) dX8_measure_47 rfl ?_
    refine q_iload_n (pc' := 49) dX8_measure_48 rfl rfl ?_
    refine q_idivN (pc' := 50) dX8_measure_49 (by omega) rfl ?_
    refine q_iaddN (pc' := 51) dX8_measure_50 rfl ?_
    refine h_ialdE (pc' := 52) dX8_measure_51 rfl (rfl) (by omega) (by decide) (e2) rfl ?_
    refine q_bipush (pc' := 54) (v := nI 120) dX8_measure_52 rfl rfl ?_
    refine q_imulN (pc' := 55) dX8_measure_54 rfl ?_
    refine q_iload (pc' := 57) dX8_measure_55 rfl rfl ?_
    refine q_iaddN (pc' := 58) dX8_measure_57 rfl ?_
    refine h_laldE (pc' := 59) dX8_measure_58 rfl (rfl) (by omega) (by decide) (e5) rfl ?_
    refine q_lstore (pc' := 61) (lv' := [_, _, _, _, _, _, _, _, _]) dX8_measure_59 (by decide) rfl rfl ?_
    refine q_lload (pc' := 63) dX8_measure_61 rfl rfl ?_
    refine q_ldc2 (pc' := 66) dX8_measure_63 kX8_132 rfl ?_
    refine q_lcmp (pc' := 67) dX8_measure_66 rfl ?_
    refine q_if_eqL (tgt := 130) (pc' := 70) dX8_measure_67 (by decide) rfl (fun c_67 => ?_) (fun c_67 => ?_)
    · have hst : s_ms g (j + 1) = s_ms g j := by
        show (if g j = s_no then _ else _) = _
        rw [if_pos (show g j = s_no from c_67)]
      refine q_iincN (pc' := 133) (j := 1) (lv' := [_, _, _, _, _, _, _, _, _]) dX8_measure_130 rfl (by decide) rfl rfl ?_
      refine q_goto (pc' := 25) dX8_measure_133 (by decide) ?_
      exact ih (j + 1) m1 _ (by omega) f1 k1 (by rw [hst]; exact q1)
    · have hst : s_ms g (j + 1) = (if (s_ms g j).2.2 = 0 then g j else if g j < (s_ms g j).1 then g j else (s_ms g j).1, if (s_ms g j).2.2 = 0 then g j else if g j < (s_ms g j).2.1 then (s_ms g j).2.1 else g j, (s_ms g j).2.2 + 1) := by
        show (if g j = s_no then _ else _) = _
        rw [if_neg (show ¬ g j = s_no from c_67)]
      have fin : ∀ x y : Int64, x = (s_ms g (j + 1)).1 → y = (s_ms g (j + 1)).2.1 → q_V (q_g Z) mX8_measure (d + 1) 0 0 120 [some (.ref (q_ad Z 194)), some (.int (nI i)), some (.int (nI all)), some (.int (nI s)), some (.int (nI p)), some (.int (nI (i * rl 0))), some (.int (nI j)), some (.long (g j)), none] [] (q_W Z (sJ (sJ m1 194 9 x) 194 10 y)) (q_P Z fun r m2 => r = none ∧ Fr [194] m' m2 ∧ Kp 194 [11] m' m2 ∧ Ms m2 194 (s_ms g s)) := by
        intro x y hx hy
        refine q_aload_n (pc' := 121) dX8_measure_120 rfl rfl ?_
        refine q_dup (pc' := 122) dX8_measure_121 rfl rfl ?_
        refine h_getiE (pc' := 125) dX8_measure_122 fX8_126 rfl rfl (q1.2.2) rfl ?_
        refine q_iconst (pc' := 126) (v := nI 1) dX8_measure_125 rfl rfl ?_
        refine q_iaddN (pc' := 127) dX8_measure_126 rfl ?_
        refine h_puti (pc' := 130) dX8_measure_127 fX8_126 rfl rfl rfl rfl rfl ?_
        refine q_iincN (pc' := 133) (j := 1) (lv' := [_, _, _, _, _, _, _, _, _]) dX8_measure_130 rfl (by decide) rfl rfl ?_
        refine q_goto (pc' := 25) dX8_measure_133 (by decide) ?_
        refine ih (j + 1) _ _ (by omega) (((f1.J (by decide)).J (by decide)).I (by decide)) ?_ ?_
        · refine k1.trans fun j hj => ?_
          show q_u (m1.1 194) 11 _ j = _
          exact q_u_n _ _ (by simpa using hj)
        · exact ⟨hx, hy, by rw [hst]; rfl⟩
      rcases Nat.eq_zero_or_pos (s_ms g j).2.2 with hz | hz
      · rw [if_pos hz, if_pos hz] at hst
        refine q_aload_n (pc' := 71) dX8_measure_70 rfl rfl ?_
        refine q_aload_n (pc' := 72) dX8_measure_71 rfl rfl ?_
        refine h_getiE (pc' := 75) dX8_measure_72 fX8_126 rfl rfl (q1.2.2) rfl ?_
        refine q_if_neN (tgt := 83) (pc' := 78) dX8_measure_75 (by decide) rfl (by omega) (fun c_75 => ?_) (fun c_75 => ?_)
        · omega
        refine q_lload (pc' := 80) dX8_measure_78 rfl rfl ?_
        refine q_goto (pc' := 92) dX8_measure_80 (by decide) ?_
        refine h_putj (pc' := 95) dX8_measure_92 fX8_119 rfl rfl rfl rfl rfl ?_
        refine q_aload_n (pc' := 96) dX8_measure_95 rfl rfl ?_
        refine q_aload_n (pc' := 97) dX8_measure_96 rfl rfl ?_
        refine h_getiE (pc' := 100) dX8_measure_97 fX8_126 rfl rfl (q1.2.2) rfl ?_
        refine q_if_neN (tgt := 108) (pc' := 103) dX8_measure_100 (by decide) rfl (by omega) (fun c_100 => ?_) (fun c_100 => ?_)
        · omega
        refine q_lload (pc' := 105) dX8_measure_103 rfl rfl ?_
        refine q_goto (pc' := 117) dX8_measure_105 (by decide) ?_
        refine h_putj (pc' := 120) dX8_measure_117 fX8_123 rfl rfl rfl rfl rfl ?_
        exact fin _ _ (by rw [hst]) (by rw [hst])
      · have hz2 : ¬ (s_ms g j).2.2 = 0 := by omega
        rw [if_neg hz2, if_neg hz2] at hst
        refine q_aload_n (pc' := 71) dX8_measure_70 rfl rfl ?_
        refine q_aload_n (pc' := 72) dX8_measure_71 rfl rfl ?_
        refine h_getiE (pc' := 75) dX8_measure_72 fX8_126 rfl rfl (q1.2.2) rfl ?_
        refine q_if_neN (tgt := 83) (pc' := 78) dX8_measure_75 (by decide) rfl (by omega) (fun c_75 => ?_) (fun c_75 => ?_)
        · refine q_aload_n (pc' := 84) dX8_measure_83 rfl rfl ?_
          refine h_getjE (pc' := 87) dX8_measure_84 fX8_119 rfl rfl (q1.1) rfl ?_
          refine q_lload (pc' := 89) dX8_measure_87 rfl rfl ?_
          refine q_mminl (pc' := 92) dX8_measure_89 lX8_134 mminl_s mz_i mminl_c (Nat.le_of_ble_eq_true rfl) rfl ?_
          refine h_putj (pc' := 95) dX8_measure_92 fX8_119 rfl rfl rfl rfl rfl ?_
          refine q_aload_n (pc' := 96) dX8_measure_95 rfl rfl ?_
          refine q_aload_n (pc' := 97) dX8_measure_96 rfl rfl ?_
          refine h_getiE (pc' := 100) dX8_measure_97 fX8_126 rfl rfl (q1.2.2) rfl ?_
          refine q_if_neN (tgt := 108) (pc' := 103) dX8_measure_100 (by decide) rfl (by omega) (fun c_100 => ?_) (fun c_100 => ?_)
          · refine q_aload_n (pc' := 109) dX8_measure_108 rfl rfl ?_
            refine h_getjE (pc' := 112) dX8_measure_109 fX8_123 rfl rfl (q1.2.1) rfl ?_
            refine q_lload (pc' := 114) dX8_measure_112 rfl rfl ?_
            refine q_mmaxl (pc' := 117) dX8_measure_114 lX8_137 mmaxl_s mz_i mmaxl_c (Nat.le_of_ble_eq_true rfl) rfl ?_
            refine h_putj (pc' := 120) dX8_measure_117 fX8_123 rfl rfl rfl rfl rfl ?_
            exact fin _ _ (by rw [hst]) (by rw [hst])
          · omega
        · omega
set_option maxHeartbeats 4000000 in
set_option maxRecDepth 20000 in
theorem c_plBlocks_203 {Z : q_Z} {m : q_Mm} {d : Nat} {n : Nat} {rl : Nat → Nat} {ys : Nat → Int64} {ws : Nat → Nat → Int64} (hP : Pl m 203 n rl ys ws) : q_V (q_g Z) mX8_blocks (d+1) 0 0 0 [some (.ref (q_ad Z 203))] [] (q_W Z m) (q_P Z fun r m2 => r = some (.int (nI (s_nb n rl))) ∧ m2 = m) := by
  obtain ⟨h1, h2, h3, h4, h5⟩ := hP
  have h0 := h4.1
  refine q_aload_n (pc' := 1) dX8_blocks_0 rfl rfl ?_
  refine h_getiE (pc' := 4) dX8_blocks_1 fX8_55 rfl rfl (h1) rfl ?_
  refine q_aload_n (pc' := 5) dX8_blocks_4 rfl rfl ?_
  refine h_getr (pc' := 8) dX8_blocks_5 fX8_9 rfl rfl rfl ?_
  refine q_iconst (pc' := 9) (v := nI 0) dX8_blocks_8 rfl rfl ?_
  refine h_ialdE (pc' := 10) dX8_blocks_9 rfl (rfl) (by omega) (by decide) (h3 0 (by decide)) rfl ?_
  refine h_callSN (pc' := 13) (M' := mX10_blocksFor) (As := [_, _]) dX8_blocks_10 iX10_blocksFor nm_X8_56 rfl rfl (Nat.le_of_ble_eq_true rfl) (Nat.le_of_ble_eq_true rfl) rfl rfl (c_blocksFor h2 ⟨by omega, by omega⟩) (fun r m' hq => ?_)
  obtain ⟨rfl, rfl⟩ := hq
  refine q_iret dX8_blocks_13 rfl rfl ⟨_, rfl, rfl, rfl⟩
set_option maxHeartbeats 4000000 in
set_option maxRecDepth 20000 in
theorem c_blockAt_203 {Z : q_Z} {m : q_Mm} {d : Nat} {n i : Nat} {rl : Nat → Nat} {ys : Nat → Int64} {ws : Nat → Nat → Int64} (hP : Pl m 203 n rl ys ws) (hi : i < 64) : q_V (q_g Z) mX8_blockAt (d) 0 0 0 [some (.ref (q_ad Z 203)), some (.int (nI i))] [] (q_W Z m) (q_P Z fun r m2 => r = some (.int (nI (i / rl 0))) ∧ m2 = m) := by
  obtain ⟨h1, h2, h3, h4, h5⟩ := hP
  have h0 := h4.1
  refine q_aload_n (pc' := 1) dX8_blockAt_0 rfl rfl ?_
  refine h_getr (pc' := 4) dX8_blockAt_1 fX8_9 rfl rfl rfl ?_
  refine q_iconst (pc' := 5) (v := nI 0) dX8_blockAt_4 rfl rfl ?_
  refine h_ialdE (pc' := 6) dX8_blockAt_5 rfl (rfl) (by omega) (by decide) (h3 0 (by decide)) rfl ?_
  refine q_if_leN (tgt := 20) (pc' := 9) dX8_blockAt_6 (by decide) rfl (by omega) (fun c_6 => ?_) (fun c_6 => ?_)
  · omega
  refine q_iload_n (pc' := 10) dX8_blockAt_9 rfl rfl ?_
  refine q_aload_n (pc' := 11) dX8_blockAt_10 rfl rfl ?_
  refine h_getr (pc' := 14) dX8_blockAt_11 fX8_9 rfl rfl rfl ?_
  refine q_iconst (pc' := 15) (v := nI 0) dX8_blockAt_14 rfl rfl ?_
  refine h_ialdE (pc' := 16) dX8_blockAt_15 rfl (rfl) (by omega) (by decide) (h3 0 (by decide)) rfl ?_
  refine q_idivN (pc' := 17) dX8_blockAt_16 (by omega) rfl ?_
  refine q_goto (pc' := 21) dX8_blockAt_17 (by decide) ?_
  refine q_iret dX8_blockAt_21 rfl rfl ⟨_, rfl, rfl, rfl⟩
set_option maxHeartbeats 4000000 in
set_option maxRecDepth 20000 in
theorem c_startOf_203 {Z : q_Z} {m : q_Mm} {d : Nat} {n i : Nat} {rl : Nat → Nat} {ys : Nat → Int64} {ws : Nat → Nat → Int64} (hP : Pl m 203 n rl ys ws) : q_V (q_g Z) mX8_startOf (d) 0 0 0 [some (.ref (q_ad Z 203)), some (.int (nI i))] [] (q_W Z m) (q_P Z fun r m2 => r = some (.int (nI (i * rl 0))) ∧ m2 = m) := by
  obtain ⟨h1, h2, h3, h4, h5⟩ := hP
  refine q_iload_n (pc' := 1) dX8_startOf_0 rfl rfl ?_
  refine q_aload_n (pc' := 2) dX8_startOf_1 rfl rfl ?_
  refine h_getr (pc' := 5) dX8_startOf_2 fX8_9 rfl rfl rfl ?_
  refine q_iconst (pc' := 6) (v := nI 0) dX8_startOf_5 rfl rfl ?_
  refine h_ialdE (pc' := 7) dX8_startOf_6 rfl (rfl) (by omega) (by decide) (h3 0 (by decide)) rfl ?_
  refine q_imulN (pc' := 8) dX8_startOf_7 rfl ?_
  refine q_iret dX8_startOf_8 rfl rfl ⟨_, rfl, rfl, rfl⟩
set_option maxHeartbeats 4000000 in
set_option maxRecDepth 20000 in
theorem c_sizeOf_203 {Z : q_Z} {m : q_Mm} {d : Nat} {n i : Nat} {rl : Nat → Nat} {ys : Nat → Int64} {ws : Nat → Nat → Int64} (hP : Pl m 203 n rl ys ws) (hi : i < s_nb n rl) : q_V (q_g Z) mX8_sizeOf (d+1) 0 0 0 [some (.ref (q_ad Z 203)), some (.int (nI i)), none] [] (q_W Z m) (q_P Z fun r m2 => r = some (.int (nI (s_sz n rl i))) ∧ m2 = m) := by
  have hz := s_nb_in hP.2.2.2.1 hi
  have h0 := hP.2.2.2.1.1
  refine q_aload_n (pc' := 1) dX8_sizeOf_0 rfl rfl ?_
  refine h_getiE (pc' := 4) dX8_sizeOf_1 fX8_55 rfl rfl (hP.1) rfl ?_
  refine q_aload_n (pc' := 5) dX8_sizeOf_4 rfl rfl ?_
  refine q_iload_n (pc' := 6) dX8_sizeOf_5 rfl rfl ?_
  refine h_callV (pc' := 9) (M' := mX8_startOf) (As := [_]) dX8_sizeOf_6 iX8_startOf lX8_60 rfl rfl rfl rfl (Nat.le_of_ble_eq_true rfl) (Nat.le_of_ble_eq_true rfl) rfl rfl (c_startOf_203 hP) (fun r m' hq => ?_)
  obtain ⟨rfl, rfl⟩ := hq
  obtain ⟨h1, h2, h3, h4, h5⟩ := hP
  refine q_isubN (pc' := 10) dX8_sizeOf_9 (by omega) rfl ?_
  refine q_istore_n (pc' := 11) (lv' := [_, _, _]) dX8_sizeOf_10 (by decide) rfl rfl ?_
  refine q_iload_n (pc' := 12) dX8_sizeOf_11 rfl rfl ?_
  refine q_aload_n (pc' := 13) dX8_sizeOf_12 rfl rfl ?_
  refine h_getr (pc' := 16) dX8_sizeOf_13 fX8_9 rfl rfl rfl ?_
  refine q_iconst (pc' := 17) (v := nI 0) dX8_sizeOf_16 rfl rfl ?_
  refine h_ialdE (pc' := 18) dX8_sizeOf_17 rfl (rfl) (by omega) (by decide) (h3 0 (by decide)) rfl ?_
  refine q_icmp_geN (tgt := 25) (pc' := 21) dX8_sizeOf_18 (by decide) rfl (by omega) (fun c_18 => ?_) (fun c_18 => ?_)
  · rw [show s_sz n rl i = rl 0 by unfold s_sz; rw [if_neg (by omega)]]
    refine q_aload_n (pc' := 26) dX8_sizeOf_25 rfl rfl ?_
    refine h_getr (pc' := 29) dX8_sizeOf_26 fX8_9 rfl rfl rfl ?_
    refine q_iconst (pc' := 30) (v := nI 0) dX8_sizeOf_29 rfl rfl ?_
    refine h_ialdE (pc' := 31) dX8_sizeOf_30 rfl (rfl) (by omega) (by decide) (h3 0 (by decide)) rfl ?_
    refine q_iret dX8_sizeOf_31 rfl rfl ⟨_, rfl, rfl, rfl⟩
  · rw [show s_sz n rl i = n - i * rl 0 by unfold s_sz; rw [if_pos (by omega)]]
    refine q_iload_n (pc' := 22) dX8_sizeOf_21 rfl rfl ?_
    refine q_goto (pc' := 31) dX8_sizeOf_22 (by decide) ?_
    refine q_iret dX8_sizeOf_31 rfl rfl ⟨_, rfl, rfl, rfl⟩
set_option maxHeartbeats 4000000 in
set_option maxRecDepth 20000 in
theorem c_bitsAt_203 {Z : q_Z} {m : q_Mm} {d : Nat} {n i : Nat} {rl : Nat → Nat} {ys : Nat → Int64} {ws : Nat → Nat → Int64} (hP : Pl m 203 n rl ys ws) (hi : i < n) : q_V (q_g Z) mX8_bitsAt (d) 0 0 0 [some (.ref (q_ad Z 203)), some (.int (nI i))] [] (q_W Z m) (q_P Z fun r m2 => r = some (.long (ys i)) ∧ m2 = m) := by
  obtain ⟨h1, h2, h3, h4, h5⟩ := hP
  obtain ⟨k, k1, k2, k3, k4⟩ := h5 i hi
  refine q_aload_n (pc' := 1) dX8_bitsAt_0 rfl rfl ?_
  refine h_getr (pc' := 4) dX8_bitsAt_1 fX8_35 rfl rfl rfl ?_
  refine h_getr (pc' := 7) dX8_bitsAt_4 fX8_64 rfl rfl rfl ?_
  refine q_aload_n (pc' := 8) dX8_bitsAt_7 rfl rfl ?_
  refine h_getr (pc' := 11) dX8_bitsAt_8 fX8_15 rfl rfl rfl ?_
  refine q_iload_n (pc' := 12) dX8_bitsAt_11 rfl rfl ?_
  refine h_ialdE (pc' := 13) dX8_bitsAt_12 rfl (rfl) (by omega) (by decide) (k2) rfl ?_
  refine h_laldE (pc' := 14) dX8_bitsAt_13 rfl (rfl) (by omega) (by decide) (k3) rfl ?_
  refine q_lret dX8_bitsAt_14 rfl ⟨_, rfl, rfl, rfl⟩
set_option maxHeartbeats 4000000 in
set_option maxRecDepth 20000 in
theorem c_partAt_203 {Z : q_Z} {m : q_Mm} {d : Nat} {n i : Nat} {rl : Nat → Nat} {ys : Nat → Int64} {ws : Nat → Nat → Int64} (hP : Pl m 203 n rl ys ws) (hi : i < n) : q_V (q_g Z) mX8_partAt (d+1) 0 0 0 [some (.ref (q_ad Z 203)), some (.int (nI i))] [] (q_W Z m) (q_P Z fun r m2 => r = some (.int (s_part (ys i) (rl 3))) ∧ m2 = m) := by
  refine q_aload_n (pc' := 1) dX8_partAt_0 rfl rfl ?_
  refine q_iload_n (pc' := 2) dX8_partAt_1 rfl rfl ?_
  refine h_callV (pc' := 5) (M' := mX8_bitsAt) (As := [_]) dX8_partAt_2 iX8_bitsAt lX8_68 rfl rfl rfl rfl (Nat.le_of_ble_eq_true rfl) (Nat.le_of_ble_eq_true rfl) rfl rfl (c_bitsAt_203 hP hi) (fun r m' hq => ?_)
  obtain ⟨rfl, rfl⟩ := hq
  obtain ⟨h1, h2, h3, h4, h5⟩ := hP
  have h0 := h4.2.2.2.1
  refine q_bipush (pc' := 7) (v := nI 64) dX8_partAt_5 rfl rfl ?_
  refine q_aload_n (pc' := 8) dX8_partAt_7 rfl rfl ?_
  refine h_getr (pc' := 11) dX8_partAt_8 fX8_9 rfl rfl rfl ?_
  refine q_iconst (pc' := 12) (v := nI 3) dX8_partAt_11 rfl rfl ?_
  refine h_ialdE (pc' := 13) dX8_partAt_12 rfl (rfl) (by omega) (by decide) (h3 3 (by decide)) rfl ?_
  refine q_isubN (pc' := 14) dX8_partAt_13 (by omega) rfl ?_
  refine q_lushr (pc' := 15) dX8_partAt_14 rfl rfl ?_
  refine q_l2i (pc' := 16) dX8_partAt_15 rfl ?_
  refine q_iret dX8_partAt_16 rfl rfl ⟨_, rfl, rfl, rfl⟩
set_option maxHeartbeats 4000000 in
set_option maxRecDepth 20000 in
theorem c_wholeAt_203 {Z : q_Z} {m : q_Mm} {d : Nat} {n i p : Nat} {rl : Nat → Nat} {ys : Nat → Int64} {ws : Nat → Nat → Int64} (hP : Pl m 203 n rl ys ws) (hi : i < n) (hp : p < 120) : q_V (q_g Z) mX8_wholeAt (d+1) 0 0 0 [some (.ref (q_ad Z 203)), some (.int (nI i)), some (.int (nI p))] [] (q_W Z m) (q_P Z fun r m2 => r = some (.long (ws i p)) ∧ m2 = m) := by
  obtain ⟨h1, h2, h3, h4, h5⟩ := hP
  obtain ⟨k, k1, k2, k3, k4⟩ := h5 i hi
  refine q_aload_n (pc' := 1) dX8_wholeAt_0 rfl rfl ?_
  refine h_getr (pc' := 4) dX8_wholeAt_1 fX8_31 rfl rfl rfl ?_
  refine q_aload_n (pc' := 5) dX8_wholeAt_4 rfl rfl ?_
  refine h_getr (pc' := 8) dX8_wholeAt_5 fX8_15 rfl rfl rfl ?_
  refine q_iload_n (pc' := 9) dX8_wholeAt_8 rfl rfl ?_
  refine h_ialdE (pc' := 10) dX8_wholeAt_9 rfl (rfl) (by omega) (by decide) (k2) rfl ?_
  refine q_iload_n (pc' := 11) dX8_wholeAt_10 rfl rfl ?_
  refine h_callV (pc' := 14) (M' := mX4_at) (As := [_, _]) dX8_wholeAt_11 iX4_at lX8_72 rfl rfl rfl rfl (Nat.le_of_ble_eq_true rfl) (Nat.le_of_ble_eq_true rfl) rfl rfl (c_at k1 hp) (fun r m' hq => ?_)
  obtain ⟨rfl, rfl⟩ := hq
  refine q_lret dX8_wholeAt_14 rfl ⟨_, rfl, by rw [k4 p hp], rfl⟩
set_option maxHeartbeats 4000000 in
set_option maxRecDepth 20000 in
theorem c_pairs_203 {Z : q_Z} {m : q_Mm} {d : Nat} {n : Nat} {rl : Nat → Nat} {ys : Nat → Int64} {ws : Nat → Nat → Int64} (hP : Pl m 203 n rl ys ws) : q_V (q_g Z) mX8_pairs (d+1) 0 0 0 [some (.ref (q_ad Z 203))] [] (q_W Z m) (q_P Z fun r m2 => r = some (.int (nI (s_pn (rl 2 + 1) 0))) ∧ m2 = m) := by
  obtain ⟨h1, h2, h3, h4, h5⟩ := hP
  have h0 := h4.2.2.1
  refine q_aload_n (pc' := 1) dX8_pairs_0 rfl rfl ?_
  refine h_getr (pc' := 4) dX8_pairs_1 fX8_9 rfl rfl rfl ?_
  refine q_iconst (pc' := 5) (v := nI 2) dX8_pairs_4 rfl rfl ?_
  refine h_ialdE (pc' := 6) dX8_pairs_5 rfl (rfl) (by omega) (by decide) (h3 2 (by decide)) rfl ?_
  refine q_iconst (pc' := 7) (v := nI 1) dX8_pairs_6 rfl rfl ?_
  refine q_iaddN (pc' := 8) dX8_pairs_7 rfl ?_
  refine q_iconst (pc' := 9) (v := nI 0) dX8_pairs_8 rfl rfl ?_
  refine h_callSN (pc' := 12) (M' := mX10_pairNumber) (As := [_, _]) dX8_pairs_9 iX10_pairNumber nm_X8_78 rfl rfl (Nat.le_of_ble_eq_true rfl) (Nat.le_of_ble_eq_true rfl) rfl rfl (c_pairNumber (by omega)) (fun r m' hq => ?_)
  obtain ⟨rfl, rfl⟩ := hq
  refine q_iret dX8_pairs_12 rfl rfl ⟨_, rfl, rfl, rfl⟩
set_option maxHeartbeats 4000000 in
set_option maxRecDepth 20000 in
theorem c_measure_203 {Z : q_Z} {m : q_Mm} {d : Nat} {n i all s p : Nat} {rl : Nat → Nat} {ys : Nat → Int64} {ws : Nat → Nat → Int64} (hP : Pl m 203 n rl ys ws) (hall : i * rl 0 + all ≤ n) (hs : 1 ≤ s ∧ s ≤ all) (hp : p < 120) : q_V (q_g Z) mX8_measure (d+1) 0 0 0 [some (.ref (q_ad Z 203)), some (.int (nI i)), some (.int (nI all)), some (.int (nI s)), some (.int (nI p)), none, none, none, none] [] (q_W Z m) (q_P Z fun r m2 => r = none ∧ Fr [203] m m2 ∧ Kp 203 [11] m m2 ∧ Ms m2 203 (s_ms (fun j => ws (i * rl 0 + j * all / s) p) s)) := by
  have hn := hP.2.1
  refine q_aload_n (pc' := 1) dX8_measure_0 rfl rfl ?_
  refine q_iload_n (pc' := 2) dX8_measure_1 rfl rfl ?_
  refine h_callV (pc' := 5) (M' := mX8_startOf) (As := [_]) dX8_measure_2 iX8_startOf lX8_60 rfl rfl rfl rfl (Nat.le_of_ble_eq_true rfl) (Nat.le_of_ble_eq_true rfl) rfl rfl (c_startOf_203 hP) (fun r m' hq => ?_)
  obtain ⟨rfl, rfl⟩ := hq
  refine q_istore (pc' := 7) (lv' := [_, _, _, _, _, _, _, _, _]) dX8_measure_5 (by decide) rfl rfl ?_
  refine q_aload_n (pc' := 8) dX8_measure_7 rfl rfl ?_
  refine q_lconst (pc' := 9) (v := 0) dX8_measure_8 rfl rfl ?_
  refine h_putj (pc' := 12) dX8_measure_9 fX8_119 rfl rfl rfl rfl rfl ?_
  refine q_aload_n (pc' := 13) dX8_measure_12 rfl rfl ?_
  refine q_lconst (pc' := 14) (v := 0) dX8_measure_13 rfl rfl ?_
  refine h_putj (pc' := 17) dX8_measure_14 fX8_123 rfl rfl rfl rfl rfl ?_
  refine q_aload_n (pc' := 18) dX8_measure_17 rfl rfl ?_
  refine q_iconst (pc' := 19) (v := nI 0) dX8_measure_18 rfl rfl ?_
  refine h_puti (pc' := 22) dX8_measure_19 fX8_126 rfl rfl rfl rfl rfl ?_
  refine q_iconst (pc' := 23) (v := nI 0) dX8_measure_22 rfl rfl ?_
  refine q_istore (pc' := 25) (lv' := [_, _, _, _, _, _, _, _, _]) dX8_measure_23 (by decide) rfl rfl ?_
  generalize hg : (fun j => ws (i * rl 0 + j * all / s) p) = g
  suffices h : ∀ c j (m1 : q_Mm) w, j + c = s → Fr [203] m' m1 → Kp 203 [11] m' m1 → Ms m1 203 (s_ms g j) → q_V (q_g Z) mX8_measure (d + 1) 0 0 25 [some (.ref (q_ad Z 203)), some (.int (nI i)), some (.int (nI all)), some (.int (nI s)), some (.int (nI p)), some (.int (nI (i * rl 0))), some (.int (nI j)), w, none] [] (q_W Z m1) (q_P Z fun r m2 => r = none ∧ Fr [203] m' m2 ∧ Kp 203 [11] m' m2 ∧ Ms m2 203 (s_ms g s)) from by
    refine h s 0 _ _ (by omega) (((Fr.rf.J (by decide)).J (by decide)).I (by decide)) ?_ ⟨rfl, rfl, rfl⟩
    intro j hj
    show q_u (m'.1 203) 11 (nI 0) j = _
    exact q_u_n _ _ (by simpa using hj)
  intro c
  induction c with
  | zero =>
    intro j m1 w hj f1 k1 q1
    obtain rfl : s = j := by omega
    refine q_iload (pc' := 27) dX8_measure_25 rfl rfl ?_
    refine q_iload_n (pc' := 28) dX8_measure_27 rfl rfl ?_
    refine q_icmp_geN (tgt := 136) (pc' := 31) dX8_measure_28 (by decide) rfl (by omega) (fun c_28 => ?_) (fun c_28 => ?_)
    · refine q_vret dX8_measure_136 rfl ⟨_, rfl, rfl, f1, k1, q1⟩
    · omega
  | succ c ih =>
    intro j m1 w hj f1 k1 q1
    have hd1 : j * all / s < all := by rw [Nat.div_lt_iff_lt_mul (by omega), Nat.mul_comm all s]; exact Nat.mul_lt_mul_of_pos_right (by omega) (by omega)
    have hd2 : j * all ≤ 64 * 64 := Nat.mul_le_mul (by omega) (by omega)
    have hP1 : Pl m1 203 n rl ys ws := hP.fr f1 (k1 4 (by decide)) (by decide) (by decide) (by decide) (by decide)
    obtain ⟨k, e1, e2, e3, e4⟩ := hP1.2.2.2.2 (i * rl 0 + j * all / s) (by omega)
    have e5 : m1.2.2.2.1 193 (k * 120 + p) = g j := by rw [← hg]; exact e4 p hp
    have hfl := s_ms_le g j
    refine q_iload (pc' := 27) dX8_measure_25 rfl rfl ?_
    refine q_iload_n (pc' := 28) dX8_measure_27 rfl rfl ?_
    refine q_icmp_geN (tgt := 136) (pc' := 31) dX8_measure_28 (by decide) rfl (by omega) (fun c_28 => ?_) (fun c_28 => ?_)
    · omega
    refine q_aload_n (pc' := 32) dX8_measure_31 rfl rfl ?_
    refine h_getr (pc' := 35) dX8_measure_32 fX8_31 rfl rfl rfl ?_
    refine h_getr (pc' := 38) dX8_measure_35 fX8_129 rfl rfl rfl ?_
    refine q_aload_n (pc' := 39) dX8_measure_38 rfl rfl ?_
    refine h_getr (pc' := 42) dX8_measure_39 fX8_15 rfl rfl rfl ?_
    refine q_iload (pc' := 44) dX8_measure_42 rfl rfl ?_
    refine q_iload (pc' := 46) dX8_measure_44 rfl rfl ?_
    refine q_iload_n (pc' := 47) dX8_measure_46 rfl rfl ?_
    refine q_imulN (pc' := 48) dX8_measure_47 rfl ?_
    refine q_iload_n (pc' := 49) dX8_measure_48 rfl rfl ?_
    refine q_idivN (pc' := 50) dX8_measure_49 (by omega) rfl ?_
    refine q_iaddN (pc' := 51) dX8_measure_50 rfl ?_
    refine h_ialdE (pc' := 52) dX8_measure_51 rfl (rfl) (by omega) (by decide) (e2) rfl ?_
    refine q_bipush (pc' := 54) (v := nI 120) dX8_measure_52 rfl rfl ?_
    refine q_imulN (pc' := 55) dX8_measure_54 rfl ?_
    refine q_iload (pc' := 57) dX8_measure_55 rfl rfl ?_
    refine q_iaddN (pc' := 58) dX8_measure_57 rfl ?_
    refine h_laldE (pc' := 59) dX8_measure_58 rfl (rfl) (by omega) (by decide) (e5) rfl ?_
    refine q_lstore (pc' := 61) (lv' := [_, _, _, _, _, _, _, _, _]) dX8_measure_59 (by decide) rfl rfl ?_
    refine q_lload (pc' := 63) dX8_measure_61 rfl rfl ?_
    refine q_ldc2 (pc' := 66) dX8_measure_63 kX8_132 rfl ?_
    refine q_lcmp (pc' := 67) dX8_measure_66 rfl ?_
    refine q_if_eqL (tgt := 130) (pc' := 70) dX8_measure_67 (by decide) rfl (fun c_67 => ?_) (fun c_67 => ?_)
    · have hst : s_ms g (j + 1) = s_ms g j := by
        show (if g j = s_no then _ else _) = _
        rw [if_pos (show g j = s_no from c_67)]
      refine q_iincN (pc' := 133) (j := 1) (lv' := [_, _, _, _, _, _, _, _, _]) dX8_measure_130 rfl (by decide) rfl rfl ?_
      refine q_goto (pc' := 25) dX8_measure_133 (by decide) ?_
      exact ih (j + 1) m1 _ (by omega) f1 k1 (by rw [hst]; exact q1)
    · have hst : s_ms g (j + 1) = (if (s_ms g j).2.2 = 0 then g j else if g j < (s_ms g j).1 then g j else (s_ms g j).1, if (s_ms g j).2.2 = 0 then g j else if g j < (s_ms g j).2.1 then (s_ms g j).2.1 else g j, (s_ms g j).2.2 + 1) := by
        show (if g j = s_no then _ else _) = _
        rw [if_neg (show ¬ g j = s_no from c_67)]
      have fin : ∀ x y : Int64, x = (s_ms g (j + 1)).1 → y = (s_ms g (j + 1)).2.1 → q_V (q_g Z) mX8_measure (d + 1) 0 0 120 [some (.ref (q_ad Z 203)), some (.int (nI i)), some (.int (nI all)), some (.int (nI s)), some (.int (nI p)), some (.int (nI (i * rl 0))), some (.int (nI j)), some (.long (g j)), none] [] (q_W Z (sJ (sJ m1 203 9 x) 203 10 y)) (q_P Z fun r m2 => r = none ∧ Fr [203] m' m2 ∧ Kp 203 [11] m' m2 ∧ Ms m2 203 (s_ms g s)) := by
        intro x y hx hy
        refine q_aload_n (pc' := 121) dX8_measure_120 rfl rfl ?_
        refine q_dup (pc' := 122) dX8_measure_121 rfl rfl ?_
        refine h_getiE (pc' := 125) dX8_measure_122 fX8_126 rfl rfl (q1.2.2) rfl ?_
        refine q_iconst (pc' := 126) (v := nI 1) dX8_measure_125 rfl rfl ?_
        refine q_iaddN (pc' := 127) dX8_measure_126 rfl ?_
        refine h_puti (pc' := 130) dX8_measure_127 fX8_126 rfl rfl rfl rfl rfl ?_
        refine q_iincN (pc' := 133) (j := 1) (lv' := [_, _, _, _, _, _, _, _, _]) dX8_measure_130 rfl (by decide) rfl rfl ?_
        refine q_goto (pc' := 25) dX8_measure_133 (by decide) ?_
        refine ih (j + 1) _ _ (by omega) (((f1.J (by decide)).J (by decide)).I (by decide)) ?_ ?_
        · refine k1.trans fun j hj => ?_
          show q_u (m1.1 203) 11 _ j = _
          exact q_u_n _ _ (by simpa using hj)
        · exact ⟨hx, hy, by rw [hst]; rfl⟩
      rcases Nat.eq_zero_or_pos (s_ms g j).2.2 with hz | hz
      · rw [if_pos hz, if_pos hz] at hst
        refine q_aload_n (pc' := 71) dX8_measure_70 rfl rfl ?_
        refine q_aload_n (pc' := 72) dX8_measure_71 rfl rfl ?_
        refine h_getiE (pc' := 75) dX8_measure_72 fX8_126 rfl rfl (q1.2.2) rfl ?_
        refine q_if_neN (tgt := 83) (pc' := 78) dX8_measure_75 (by decide) rfl (by omega) (fun c_75 => ?_) (fun c_75 => ?_)
        · omega
        refine q_lload (pc' := 80) dX8_measure_78 rfl rfl ?_
        refine q_goto (pc' := 92) dX8_measure_80 (by decide) ?_
        refine h_putj (pc' := 95) dX8_measure_92 fX8_119 rfl rfl rfl rfl rfl ?_
        refine q_aload_n (pc' := 96) dX8_measure_95 rfl rfl ?_
        refine q_aload_n (pc' := 97) dX8_measure_96 rfl rfl ?_
        refine h_getiE (pc' := 100) dX8_measure_97 fX8_126 rfl rfl (q1.2.2) rfl ?_
        refine q_if_neN (tgt := 108) (pc' := 103) dX8_measure_100 (by decide) rfl (by omega) (fun c_100 => ?_) (fun c_100 => ?_)
        · omega
        refine q_lload (pc' := 105) dX8_measure_103 rfl rfl ?_
        refine q_goto (pc' := 117) dX8_measure_105 (by decide) ?_
        refine h_putj (pc' := 120) dX8_measure_117 fX8_123 rfl rfl rfl rfl rfl ?_
        exact fin _ _ (by rw [hst]) (by rw [hst])
      · have hz2 : ¬ (s_ms g j).2.2 = 0 := by omega
        rw [if_neg hz2, if_neg hz2] at hst
        refine q_aload_n (pc' := 71) dX8_measure_70 rfl rfl ?_
        refine q_aload_n (pc' := 72) dX8_measure_71 rfl rfl ?_
        refine h_getiE (pc' := 75) dX8_measure_72 fX8_126 rfl rfl (q1.2.2) rfl ?_
        refine q_if_neN (tgt := 83) (pc' := 78) dX8_measure_75 (by decide) rfl (by omega) (fun c_75 => ?_) (fun c_75 => ?_)
        · refine q_aload_n (pc' := 84) dX8_measure_83 rfl rfl ?_
          refine h_getjE (pc' := 87) dX8_measure_84 fX8_119 rfl rfl (q1.1) rfl ?_
          refine q_lload (pc' := 89) dX8_measure_87 rfl rfl ?_
          refine q_mminl (pc' := 92) dX8_measure_89 lX8_134 mminl_s mz_i mminl_c (Nat.le_of_ble_eq_true rfl) rfl ?_
          refine h_putj (pc' := 95) dX8_measure_92 fX8_119 rfl rfl rfl rfl rfl ?_
          refine q_aload_n (pc' := 96) dX8_measure_95 rfl rfl ?_
          refine q_aload_n (pc' := 97) dX8_measure_96 rfl rfl ?_
          refine h_getiE (pc' := 100) dX8_measure_97 fX8_126 rfl rfl (q1.2.2) rfl ?_
          refine q_if_neN (tgt := 108) (pc' := 103) dX8_measure_100 (by decide) rfl (by omega) (fun c_100 => ?_) (fun c_100 => ?_)
          · refine q_aload_n (pc' := 109) dX8_measure_108 rfl rfl ?_
            refine h_getjE (pc' := 112) dX8_measure_109 fX8_123 rfl rfl (q1.2.1) rfl ?_
            refine q_lload (pc' := 114) dX8_measure_112 rfl rfl ?_
            refine q_mmaxl (pc' := 117) dX8_measure_114 lX8_137 mmaxl_s mz_i mmaxl_c (Nat.le_of_ble_eq_true rfl) rfl ?_
            refine h_putj (pc' := 120) dX8_measure_117 fX8_123 rfl rfl rfl rfl rfl ?_
            exact fin _ _ (by rw [hst]) (by rw [hst])
          · omega
        · omega
