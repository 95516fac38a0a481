/-! ===== Octets ===== -/
/-- CHECK of n bytes -/
def s_chk (f : Nat → Int32) : Nat → Int32
  | 0 => nI 7
  | k + 1 => (nI 31 * s_chk f k + f k) - (nI 31 * s_chk f k + f k) / nI 251 * nI 251
set_option maxHeartbeats 4000000 in
set_option maxRecDepth 20000 in
theorem c_append_6 {Z : q_Z} {m : q_Mm} {n : Nat} {x : Int32} (hn : m.1 6 1 = nI n) (hle : n ≤ 320) : q_V (q_g Z) mX5_append 0 0 0 0 [some (.ref (q_ad Z 6)), some (.int x)] [] (q_W Z m) (q_P Z fun r m2 => r = none ∧ m2 = if n < 320 then sI (sA m 7 (q_u (m.2.2.1 7) n (x &&& nI 255))) 6 1 (nI (n + 1)) else m) := by
  refine q_aload_n (pc' := 1) dX5_append_0 rfl rfl ?_
  refine h_getiE (pc' := 4) dX5_append_1 fX5_15 rfl rfl (hn) rfl ?_
  refine q_sipush (pc' := 7) (v := nI 320) dX5_append_4 rfl rfl ?_
  refine q_icmp_geN (tgt := 34) (pc' := 10) dX5_append_7 (by decide) rfl (by omega) (fun c_7 => ?_) (fun c_7 => ?_)
  · rw [if_neg (Nat.not_lt.mpr c_7)]
    exact q_vret dX5_append_34 rfl ⟨_, rfl, rfl, rfl⟩
  · rw [if_pos c_7]
    refine q_aload_n (pc' := 11) dX5_append_10 rfl rfl ?_
    refine h_getr (pc' := 14) dX5_append_11 fX5_9 rfl rfl rfl ?_
    refine q_aload_n (pc' := 15) dX5_append_14 rfl rfl ?_
    refine h_getiE (pc' := 18) dX5_append_15 fX5_15 rfl rfl (hn) rfl ?_
    refine q_iload_n (pc' := 19) dX5_append_18 rfl rfl ?_
    refine q_sipush (pc' := 22) (v := nI 255) dX5_append_19 rfl rfl ?_
    refine q_iand (pc' := 23) dX5_append_22 rfl ?_
    refine h_iast (pc' := 24) dX5_append_23 rfl (rfl) (by omega) (by decide) rfl ?_
    refine q_aload_n (pc' := 25) dX5_append_24 rfl rfl ?_
    refine q_dup (pc' := 26) dX5_append_25 rfl rfl ?_
    refine h_getiE (pc' := 29) dX5_append_26 fX5_15 rfl rfl (hn) rfl ?_
    refine q_iconst (pc' := 30) (v := nI 1) dX5_append_29 rfl rfl ?_
    refine q_iaddN (pc' := 31) dX5_append_30 rfl ?_
    refine h_puti (pc' := 34) dX5_append_31 fX5_15 rfl rfl rfl rfl rfl ?_
    exact q_vret dX5_append_34 rfl ⟨_, rfl, rfl, rfl⟩
set_option maxHeartbeats 4000000 in
set_option maxRecDepth 20000 in
theorem c_checkAt_6 {Z : q_Z} {m : q_Mm} {n p : Nat} (hn : m.1 6 1 = nI n) (hle : n ≤ 320) (hpn : p ≤ n) : q_V (q_g Z) mX5_checkAt 0 0 0 0 [some (.ref (q_ad Z 6)), some (.int (nI p)), none, none] [] (q_W Z m) (q_P Z fun r m2 => r = some (.int (s_chk (m.2.2.1 7) p)) ∧ m2 = m) := by
  refine q_bipush (pc' := 2) (v := nI 7) dX5_checkAt_0 rfl rfl ?_
  refine q_istore_n (pc' := 3) (lv' := [_, _, _, _]) dX5_checkAt_2 (by decide) rfl rfl ?_
  refine q_iconst (pc' := 4) (v := nI 0) dX5_checkAt_3 rfl rfl ?_
  refine q_istore_n (pc' := 5) (lv' := [_, _, _, _]) dX5_checkAt_4 (by decide) rfl rfl ?_
  suffices h : ∀ k i, i + k = p → q_V (q_g Z) mX5_checkAt 0 0 0 5 [some (.ref (q_ad Z 6)), some (.int (nI p)), some (.int (s_chk (m.2.2.1 7) i)), some (.int (nI i))] [] (q_W Z m) (q_P Z fun r m2 => r = some (.int (s_chk (m.2.2.1 7) p)) ∧ m2 = m) from h p 0 (by omega)
  intro k
  induction k with
  | zero =>
    intro i hi
    obtain rfl : i = p := by omega
    refine q_iload_n (pc' := 6) dX5_checkAt_5 rfl rfl ?_
    refine q_iload_n (pc' := 7) dX5_checkAt_6 rfl rfl ?_
    refine q_icmp_geN (tgt := 40) (pc' := 10) dX5_checkAt_7 (by decide) rfl (by omega) (fun c_7 => ?_) (fun c_7 => ?_)
    · refine q_iload_n (pc' := 41) dX5_checkAt_40 rfl rfl ?_
      exact q_iret dX5_checkAt_41 rfl rfl ⟨_, rfl, rfl, rfl⟩
    · omega
  | succ k ih =>
    intro i hi
    refine q_iload_n (pc' := 6) dX5_checkAt_5 rfl rfl ?_
    refine q_iload_n (pc' := 7) dX5_checkAt_6 rfl rfl ?_
    refine q_icmp_geN (tgt := 40) (pc' := 10) dX5_checkAt_7 (by decide) rfl (by omega) (fun c_7 => ?_) (fun c_7 => ?_)
    · omega
    refine q_iload_n (pc' := 11) dX5_checkAt_10 rfl rfl ?_
    refine q_aload_n (pc' := 12) dX5_checkAt_11 rfl rfl ?_
    refine h_getiE (pc' := 15) dX5_checkAt_12 fX5_15 rfl rfl (hn) rfl ?_
    refine q_icmp_geN (tgt := 40) (pc' := 18) dX5_checkAt_15 (by decide) rfl (by omega) (fun c_15 => ?_) (fun c_15 => ?_)
    · omega
    refine q_bipush (pc' := 20) (v := nI 31) dX5_checkAt_18 rfl rfl ?_
    refine q_iload_n (pc' := 21) dX5_checkAt_20 rfl rfl ?_
    refine q_imul (pc' := 22) dX5_checkAt_21 rfl ?_
    refine q_aload_n (pc' := 23) dX5_checkAt_22 rfl rfl ?_
    refine h_getr (pc' := 26) dX5_checkAt_23 fX5_9 rfl rfl rfl ?_
    refine q_iload_n (pc' := 27) dX5_checkAt_26 rfl rfl ?_
    refine h_iald (pc' := 28) dX5_checkAt_27 rfl (rfl) (by omega) (by decide) rfl ?_
    refine q_iadd (pc' := 29) dX5_checkAt_28 rfl ?_
    refine q_sipush (pc' := 32) (v := nI 251) dX5_checkAt_29 rfl rfl ?_
    refine q_irem (pc' := 33) dX5_checkAt_32 (by decide) rfl ?_
    refine q_istore_n (pc' := 34) (lv' := [_, _, _, _]) dX5_checkAt_33 (by decide) rfl rfl ?_
    refine q_iincN (pc' := 37) (j := 1) (lv' := [_, _, _, _]) dX5_checkAt_34 rfl (by decide) rfl rfl ?_
    refine q_goto (pc' := 5) dX5_checkAt_37 (by decide) ?_
    exact ih (i + 1) (by omega)
set_option maxHeartbeats 4000000 in
set_option maxRecDepth 20000 in
theorem c_append_8 {Z : q_Z} {m : q_Mm} {n : Nat} {x : Int32} (hn : m.1 8 1 = nI n) (hle : n ≤ 320) : q_V (q_g Z) mX5_append 0 0 0 0 [some (.ref (q_ad Z 8)), some (.int x)] [] (q_W Z m) (q_P Z fun r m2 => r = none ∧ m2 = if n < 320 then sI (sA m 9 (q_u (m.2.2.1 9) n (x &&& nI 255))) 8 1 (nI (n + 1)) else m) := by
  refine q_aload_n (pc' := 1) dX5_append_0 rfl rfl ?_
  refine h_getiE (pc' := 4) dX5_append_1 fX5_15 rfl rfl (hn) rfl ?_
  refine q_sipush (pc' := 7) (v := nI 320) dX5_append_4 rfl rfl ?_
  refine q_icmp_geN (tgt := 34) (pc' := 10) dX5_append_7 (by decide) rfl (by omega) (fun c_7 => ?_) (fun c_7 => ?_)
  · rw [if_neg (Nat.not_lt.mpr c_7)]
    exact q_vret dX5_append_34 rfl ⟨_, rfl, rfl, rfl⟩
  · rw [if_pos c_7]
    refine q_aload_n (pc' := 11) dX5_append_10 rfl rfl ?_
    refine h_getr (pc' := 14) dX5_append_11 fX5_9 rfl rfl rfl ?_
    refine q_aload_n (pc' := 15) dX5_append_14 rfl rfl ?_
    refine h_getiE (pc' := 18) dX5_append_15 fX5_15 rfl rfl (hn) rfl ?_
    refine q_iload_n (pc' := 19) dX5_append_18 rfl rfl ?_
    refine q_sipush (pc' := 22) (v := nI 255) dX5_append_19 rfl rfl ?_
    refine q_iand (pc' := 23) dX5_append_22 rfl ?_
    refine h_iast (pc' := 24) dX5_append_23 rfl (rfl) (by omega) (by decide) rfl ?_
    refine q_aload_n (pc' := 25) dX5_append_24 rfl rfl ?_
    refine q_dup (pc' := 26) dX5_append_25 rfl rfl ?_
    refine h_getiE (pc' := 29) dX5_append_26 fX5_15 rfl rfl (hn) rfl ?_
    refine q_iconst (pc' := 30) (v := nI 1) dX5_append_29 rfl rfl ?_
    refine q_iaddN (pc' := 31) dX5_append_30 rfl ?_
    refine h_puti (pc' := 34) dX5_append_31 fX5_15 rfl rfl rfl rfl rfl ?_
    exact q_vret dX5_append_34 rfl ⟨_, rfl, rfl, rfl⟩
set_option maxHeartbeats 4000000 in
set_option maxRecDepth 20000 in
theorem c_checkAt_8 {Z : q_Z} {m : q_Mm} {n p : Nat} (hn : m.1 8 1 = nI n) (hle : n ≤ 320) (hpn : p ≤ n) : q_V (q_g Z) mX5_checkAt 0 0 0 0 [some (.ref (q_ad Z 8)), some (.int (nI p)), none, none] [] (q_W Z m) (q_P Z fun r m2 => r = some (.int (s_chk (m.2.2.1 9) p)) ∧ m2 = m) := by
  refine q_bipush (pc' := 2) (v := nI 7) dX5_checkAt_0 rfl rfl ?_
  refine q_istore_n (pc' := 3) (lv' := [_, _, _, _]) dX5_checkAt_2 (by decide) rfl rfl ?_
  refine q_iconst (pc' := 4) (v := nI 0) dX5_checkAt_3 rfl rfl ?_
  refine q_istore_n (pc' := 5) (lv' := [_, _, _, _]) dX5_checkAt_4 (by decide) rfl rfl ?_
  suffices h : ∀ k i, i + k = p → q_V (q_g Z) mX5_checkAt 0 0 0 5 [some (.ref (q_ad Z 8)), some (.int (nI p)), some (.int (s_chk (m.2.2.1 9) i)), some (.int (nI i))] [] (q_W Z m) (q_P Z fun r m2 => r = some (.int (s_chk (m.2.2.1 9) p)) ∧ m2 = m) from h p 0 (by omega)
  intro k
  induction k with
  | zero =>
    intro i hi
    obtain rfl : i = p := by omega
    refine q_iload_n (pc' := 6) dX5_checkAt_5 rfl rfl ?_
    refine q_iload_n (pc' := 7) dX5_checkAt_6 rfl rfl ?_
    refine q_icmp_geN (tgt := 40) (pc' := 10) dX5_checkAt_7 (by decide) rfl (by omega) (fun c_7 => ?_) (fun c_7 => ?_)
    · refine q_iload_n (pc' := 41) dX5_checkAt_40 rfl rfl ?_
      exact q_iret dX5_checkAt_41 rfl rfl ⟨_, rfl, rfl, rfl⟩
    · omega
  | succ k ih =>
    intro i hi
    refine q_iload_n (pc' := 6) dX5_checkAt_5 rfl rfl ?_
    refine q_iload_n (pc' := 7) dX5_checkAt_6 rfl rfl ?_
    refine q_icmp_geN (tgt := 40) (pc' := 10) dX5_checkAt_7 (by decide) rfl (by omega) (fun c_7 => ?_) (fun c_7 => ?_)
    · omega
    refine q_iload_n (pc' := 11) dX5_checkAt_10 rfl rfl ?_
    refine q_aload_n (pc' := 12) dX5_checkAt_11 rfl rfl ?_
    refine h_getiE (pc' := 15) dX5_checkAt_12 fX5_15 rfl rfl (hn) rfl ?_
    refine q_icmp_geN (tgt := 40) (pc' := 18) dX5_checkAt_15 (by decide) rfl (by omega) (fun c_15 => ?_) (fun c_15 => ?_)
    · omega
    refine q_bipush (pc' := 20) (v := nI 31) dX5_checkAt_18 rfl rfl ?_
    refine q_iload_n (pc' := 21) dX5_checkAt_20 rfl rfl ?_
    refine q_imul (pc' := 22) dX5_checkAt_21 rfl ?_
    refine q_aload_n (pc' := 23) dX5_checkAt_22 rfl rfl ?_
    refine h_getr (pc' := 26) dX5_checkAt_23 fX5_9 rfl rfl rfl ?_
    refine q_iload_n (pc' := 27) dX5_checkAt_26 rfl rfl ?_
    refine h_iald (pc' := 28) dX5_checkAt_27 rfl (rfl) (by omega) (by decide) rfl ?_
    refine q_iadd (pc' := 29) dX5_checkAt_28 rfl ?_
    refine q_sipush (pc' := 32) (v := nI 251) dX5_checkAt_29 rfl rfl ?_
    refine q_irem (pc' := 33) dX5_checkAt_32 (by decide) rfl ?_
    refine q_istore_n (pc' := 34) (lv' := [_, _, _, _]) dX5_checkAt_33 (by decide) rfl rfl ?_
    refine q_iincN (pc' := 37) (j := 1) (lv' := [_, _, _, _]) dX5_checkAt_34 rfl (by decide) rfl rfl ?_
    refine q_goto (pc' := 5) dX5_checkAt_37 (by decide) ?_
    exact ih (i + 1) (by omega)
