/-! ===== constructors: leaves ===== -/
abbrev B_oct (Z : q_Z) (a q : Nat) : va_W := [(a, .inr (5, [.ref q, .int 0])), (q, .inl (Z.2.2.1 0, 320, .inl (fun _ => 0)))]
set_option maxHeartbeats 4000000 in
set_option maxRecDepth 20000 in
theorem n_oct {Z : q_Z} {d : Nat} {ws0 : va_W} {a : Nat} : q_V (q_g Z) mX5_init (d+1) 1 320 0 [some (.ref a)] [] (ws0 ++ ([(a, .inr (5, [.null, .int 0]))])) (fun r ws => r = none ∧ ∃ B, (∃ q, B = B_oct Z a q) ∧ ws = ws0 ++ B) := by
  refine q_aload_n (pc' := 1) dX5_init_0 rfl rfl ?_
  refine q_oinit (pc' := 4) dX5_init_1 loX5_3 (Nat.le_of_ble_eq_true rfl) rfl ?_
  refine q_aload_n (pc' := 5) dX5_init_4 rfl rfl ?_
  refine q_sipush (pc' := 8) (v := nI 320) dX5_init_5 rfl rfl ?_
  refine n_newi (N := 320) (t := 0) (pc' := 10) dX5_init_8 rfl rfl (by decide) (fun _ => rfl) rfl (fun q8 => ?_)
  refine n_putF (n := 0) (pc' := 13) dX5_init_10 fX5_9 rfl ⟨_, _, rfl⟩ rfl rfl rfl (Nat.le_of_ble_eq_true rfl) rfl rfl ?_
  refine q_vret dX5_init_13 rfl ⟨rfl, _, ⟨q8, rfl⟩, rfl⟩
/-! BlockWriter -/
set_option maxHeartbeats 4000000 in
set_option maxRecDepth 20000 in
theorem n_bwr {Z : q_Z} {d : Nat} {ws0 : va_W} {a o : Nat} : q_V (q_g Z) mX1_init (d+1) 0 0 0 [some (.ref a), some (.ref o)] [] (ws0 ++ ([(a, .inr (1, [.null, .int 0, .int 0]))])) (fun r ws => r = none ∧ ∃ B, (B = [(a, .inr (1, [.ref o, .int 0, .int 0]))]) ∧ ws = ws0 ++ B) := by
  refine q_aload_n (pc' := 1) dX1_init_0 rfl rfl ?_
  refine q_oinit (pc' := 4) dX1_init_1 loX1_3 (Nat.le_of_ble_eq_true rfl) rfl ?_
  refine q_aload_n (pc' := 5) dX1_init_4 rfl rfl ?_
  refine q_aload_n (pc' := 6) dX1_init_5 rfl rfl ?_
  refine n_putF (n := 0) (pc' := 9) dX1_init_6 fX1_9 rfl ⟨_, _, rfl⟩ rfl rfl rfl (Nat.le_of_ble_eq_true rfl) rfl rfl ?_
  refine q_vret dX1_init_9 rfl ⟨rfl, _, rfl, rfl⟩
abbrev B_par (Z : q_Z) (a q1 q2 q3 : Nat) : va_W := [(a, .inr (6, [.ref q1, .int 0, .int 0, .ref q2, .ref q3, .int 0])), (q1, .inl (Z.2.2.1 0, 8, .inl (fun _ => 0))), (q2, .inl (Z.2.2.1 0, 16, .inl (fun _ => 0))), (q3, .inl (Z.2.2.1 0, 16, .inl (fun _ => 0)))]
set_option maxHeartbeats 4000000 in
set_option maxRecDepth 20000 in
theorem n_par {Z : q_Z} {d : Nat} {ws0 : va_W} {a : Nat} : q_V (q_g Z) mX6_init (d+1) 3 40 0 [some (.ref a)] [] (ws0 ++ ([(a, .inr (6, [.null, .int 0, .int 0, .null, .null, .int 0]))])) (fun r ws => r = none ∧ ∃ B, (∃ q1 q2 q3, B = B_par Z a q1 q2 q3) ∧ ws = ws0 ++ B) := by
  refine q_aload_n (pc' := 1) dX6_init_0 rfl rfl ?_
  refine q_oinit (pc' := 4) dX6_init_1 loX6_3 (Nat.le_of_ble_eq_true rfl) rfl ?_
  refine q_aload_n (pc' := 5) dX6_init_4 rfl rfl ?_
  refine q_bipush (pc' := 7) (v := nI 8) dX6_init_5 rfl rfl ?_
  refine n_newi (N := 8) (t := 0) (pc' := 9) dX6_init_7 rfl rfl (by decide) (fun _ => rfl) rfl (fun q7 => ?_)
  refine n_putF (n := 0) (pc' := 12) dX6_init_9 fX6_9 rfl ⟨_, _, rfl⟩ rfl rfl rfl (Nat.le_of_ble_eq_true rfl) rfl rfl ?_
  refine q_aload_n (pc' := 13) dX6_init_12 rfl rfl ?_
  refine q_bipush (pc' := 15) (v := nI 16) dX6_init_13 rfl rfl ?_
  refine n_newi (N := 16) (t := 0) (pc' := 17) dX6_init_15 rfl rfl (by decide) (fun _ => rfl) rfl (fun q15 => ?_)
  refine n_putF (n := 0) (pc' := 20) dX6_init_17 fX6_15 rfl ⟨_, _, rfl⟩ rfl rfl rfl (Nat.le_of_ble_eq_true rfl) rfl rfl ?_
  refine q_aload_n (pc' := 21) dX6_init_20 rfl rfl ?_
  refine q_bipush (pc' := 23) (v := nI 16) dX6_init_21 rfl rfl ?_
  refine n_newi (N := 16) (t := 0) (pc' := 25) dX6_init_23 rfl rfl (by decide) (fun _ => rfl) rfl (fun q23 => ?_)
  refine n_putF (n := 0) (pc' := 28) dX6_init_25 fX6_18 rfl ⟨_, _, rfl⟩ rfl rfl rfl (Nat.le_of_ble_eq_true rfl) rfl rfl ?_
  refine q_vret dX6_init_28 rfl ⟨rfl, _, ⟨q7, q15, q23, rfl⟩, rfl⟩
abbrev B_brd (Z : q_Z) (a t u q1 q2 : Nat) : va_W := [(a, .inr (0, [.ref t, .ref u, .ref q1, .int 0, .ref q2, .int 0, .int 0, .long 0])), (q1, .inl (Z.2.2.1 1, 16, .inr (.inl (fun _ => 0)))), (q2, .inl (Z.2.2.1 0, 8, .inl (fun _ => 0)))]
set_option maxHeartbeats 4000000 in
set_option maxRecDepth 20000 in
theorem n_brd {Z : q_Z} {d : Nat} {ws0 : va_W} {a t u : Nat} : q_V (q_g Z) mX0_init (d+1) 2 24 0 [some (.ref a), some (.ref t), some (.ref u)] [] (ws0 ++ ([(a, .inr (0, [.null, .null, .null, .int 0, .null, .int 0, .int 0, .long 0]))])) (fun r ws => r = none ∧ ∃ B, (∃ q1 q2, B = B_brd Z a t u q1 q2) ∧ ws = ws0 ++ B) := by
  refine q_aload_n (pc' := 1) dX0_init_0 rfl rfl ?_
  refine q_oinit (pc' := 4) dX0_init_1 loX0_3 (Nat.le_of_ble_eq_true rfl) rfl ?_
  refine q_aload_n (pc' := 5) dX0_init_4 rfl rfl ?_
  refine q_bipush (pc' := 7) (v := nI 16) dX0_init_5 rfl rfl ?_
  refine n_newl (N := 16) (t := 1) (pc' := 9) dX0_init_7 rfl rfl (by decide) (fun _ => rfl) rfl (fun q7 => ?_)
  refine n_putF (n := 0) (pc' := 12) dX0_init_9 fX0_9 rfl ⟨_, _, rfl⟩ rfl rfl rfl (Nat.le_of_ble_eq_true rfl) rfl rfl ?_
  refine q_aload_n (pc' := 13) dX0_init_12 rfl rfl ?_
  refine q_bipush (pc' := 15) (v := nI 8) dX0_init_13 rfl rfl ?_
  refine n_newi (N := 8) (t := 0) (pc' := 17) dX0_init_15 rfl rfl (by decide) (fun _ => rfl) rfl (fun q15 => ?_)
  refine n_putF (n := 0) (pc' := 20) dX0_init_17 fX0_15 rfl ⟨_, _, rfl⟩ rfl rfl rfl (Nat.le_of_ble_eq_true rfl) rfl rfl ?_
  refine q_aload_n (pc' := 21) dX0_init_20 rfl rfl ?_
  refine q_aload_n (pc' := 22) dX0_init_21 rfl rfl ?_
  refine n_putF (n := 0) (pc' := 25) dX0_init_22 fX0_19 rfl ⟨_, _, rfl⟩ rfl rfl rfl (Nat.le_of_ble_eq_true rfl) rfl rfl ?_
  refine q_aload_n (pc' := 26) dX0_init_25 rfl rfl ?_
  refine q_aload_n (pc' := 27) dX0_init_26 rfl rfl ?_
  refine n_putF (n := 0) (pc' := 30) dX0_init_27 fX0_23 rfl ⟨_, _, rfl⟩ rfl rfl rfl (Nat.le_of_ble_eq_true rfl) rfl rfl ?_
  refine q_vret dX0_init_30 rfl ⟨rfl, _, ⟨q7, q15, rfl⟩, rfl⟩
def s_ru : Nat → Int32 := va_cpy q_usual (fun _ => 0) 0 0 5
theorem s_ru_is {i : Nat} (h : i < 5) : s_ru i = nI (s_usual i) := by
  show va_cpy q_usual _ 0 0 5 i = _
  rw [cpy_in _ _ (Nat.zero_le _) (by omega), Nat.zero_add, Nat.sub_zero, s_usual_q]
abbrev B_col (Z : q_Z) (a q1 q2 q3 : Nat) : va_W := [(a, .inr (2, [.ref q1, .ref q2, .ref q3, .int 0, .int 0])), (q1, .inl (Z.2.2.1 1, 64, .inr (.inl (fun _ => 0)))), (q2, .inl (Z.2.2.1 0, 5, .inl s_ru)), (q3, .inl (Z.2.2.1 0, 180, .inl (fun _ => 0)))]
abbrev B_col0 (Z : q_Z) (a q1 q2 q3 : Nat) : va_W := [(a, .inr (2, [.ref q1, .ref q2, .ref q3, .int 0, .int 0])), (q1, .inl (Z.2.2.1 1, 64, .inr (.inl (fun _ => 0)))), (q2, .inl (Z.2.2.1 0, 5, .inl (fun _ => 0))), (q3, .inl (Z.2.2.1 0, 180, .inl (fun _ => 0)))]
set_option maxHeartbeats 4000000 in
set_option maxRecDepth 20000 in
theorem n_clear {Z : q_Z} {d : Nat} {ws0 : va_W} {a q1 q2 q3 : Nat} : q_V (q_g Z) mX2_clear (d+1) 0 0 0 [some (.ref a)] [] (ws0 ++ (B_col0 Z a q1 q2 q3)) (fun r ws => r = none ∧ ∃ B, (B = B_col Z a q1 q2 q3) ∧ ws = ws0 ++ B) := by
  refine q_aload_n (pc' := 1) dX2_clear_0 rfl rfl ?_
  refine q_iconst (pc' := 2) (v := nI 0) dX2_clear_1 rfl rfl ?_
  refine n_put (n := 0) (pc' := 5) dX2_clear_2 fX2_25 rfl rfl rfl (Nat.le_of_ble_eq_true rfl) rfl rfl ?_
  refine q_aload_n (pc' := 6) dX2_clear_5 rfl rfl ?_
  refine q_iconst (pc' := 7) (v := nI 0) dX2_clear_6 rfl rfl ?_
  refine n_put (n := 0) (pc' := 10) dX2_clear_7 fX2_29 rfl rfl rfl (Nat.le_of_ble_eq_true rfl) rfl rfl ?_
  refine q_getsN (pc' := 13) dX2_clear_10 st_2 rfl nf_X2_32 rfl ?_
  refine q_iconst (pc' := 14) (v := nI 0) dX2_clear_13 rfl rfl ?_
  refine q_aload_n (pc' := 15) dX2_clear_14 rfl rfl ?_
  refine n_get (n := 0) (pc' := 18) dX2_clear_15 fX2_15 rfl rfl rfl ?_
  refine q_iconst (pc' := 19) (v := nI 0) dX2_clear_18 rfl rfl ?_
  refine q_iconst (pc' := 20) (v := nI 5) dX2_clear_19 rfl rfl ?_
  refine q_copyT (G := q_g Z) (k1 := ws0.length + 2) (t := 0) (pc' := 23) dX2_clear_20 lX2_35 cp_n cp_s cp_i ro_2 (w_at rfl) rfl (by decide) (Nat.le_refl _) (by decide) (Nat.le_of_ble_eq_true rfl) rfl ?_
  rw [w_set]
  refine q_vret dX2_clear_23 rfl ⟨rfl, _, rfl, rfl⟩
theorem n_callV {G : q_G} {M M' : q_M} {d mc ms pc pc' : Nat} {lv : List (Option Value)} {st : List Value} {ws0 L : va_W} {post : Option Value → va_W → Prop} {idx n k a ci : Nat} {fs : List Value} {T : u_T} {N : Nat} {As st0 : List Value} {P : va_W → Prop} (hd : decode M.2.2.1 pc = .ok (.invokevirtual idx, 3)) (hM : q_I M' n) (hlk : Cond.methodLink M.1 idx M'.2.1 ∈ tbg) (hst : st0 = As.reverse ++ .ref a :: st) (hw : L[k]? = some (a, .inr (ci, fs))) (hci : vwCl[ci]? = some (M'.1, T, N)) (hn : As.length = n) (hlen : (lg_sl (.ref a :: As)).length ≤ M'.2.2.2.1) (hr : q_cat st ≤ 8) (hp : pc + 3 = pc')
    (hV : q_V G M' d 0 0 0 (q_args M'.2.2.2.1 (.ref a :: As)) [] (ws0 ++ L) (fun r ws => r = none ∧ ∃ B, P B ∧ ws = ws0 ++ B)) (kk : ∀ B, P B → q_V G M (d + 1) mc ms pc' lv st (ws0 ++ B) post) : q_V G M (d + 1) mc ms pc lv st0 (ws0 ++ L) post := by
  have e1 : mc = 0 + mc := (Nat.zero_add _).symm
  have e2 : ms = 0 + ms := (Nat.zero_add _).symm
  rw [e1, e2]
  refine q_callV hd hM hlk hst (w_at hw) hci hn hlen hr hp hV (fun r ws' h => ?_)
  obtain ⟨rfl, B, hB, rfl⟩ := h
  exact kk B hB
set_option maxHeartbeats 4000000 in
set_option maxRecDepth 20000 in
theorem n_col {Z : q_Z} {d : Nat} {ws0 : va_W} {a : Nat} : q_V (q_g Z) mX2_init (d+2) 3 249 0 [some (.ref a)] [] (ws0 ++ ([(a, .inr (2, [.null, .null, .null, .int 0, .int 0]))])) (fun r ws => r = none ∧ ∃ B, (∃ q1 q2 q3, B = B_col Z a q1 q2 q3) ∧ ws = ws0 ++ B) := by
  refine q_aload_n (pc' := 1) dX2_init_0 rfl rfl ?_
  refine q_oinit (pc' := 4) dX2_init_1 loX2_3 (Nat.le_of_ble_eq_true rfl) rfl ?_
  refine q_aload_n (pc' := 5) dX2_init_4 rfl rfl ?_
  refine q_bipush (pc' := 7) (v := nI 64) dX2_init_5 rfl rfl ?_
  refine n_newl (N := 64) (t := 1) (pc' := 9) dX2_init_7 rfl rfl (by decide) (fun _ => rfl) rfl (fun q7 => ?_)
  refine n_putF (n := 0) (pc' := 12) dX2_init_9 fX2_9 rfl ⟨_, _, rfl⟩ rfl rfl rfl (Nat.le_of_ble_eq_true rfl) rfl rfl ?_
  refine q_aload_n (pc' := 13) dX2_init_12 rfl rfl ?_
  refine q_iconst (pc' := 14) (v := nI 5) dX2_init_13 rfl rfl ?_
  refine n_newi (N := 5) (t := 0) (pc' := 16) dX2_init_14 rfl rfl (by decide) (fun _ => rfl) rfl (fun q14 => ?_)
  refine n_putF (n := 0) (pc' := 19) dX2_init_16 fX2_15 rfl ⟨_, _, rfl⟩ rfl rfl rfl (Nat.le_of_ble_eq_true rfl) rfl rfl ?_
  refine q_aload_n (pc' := 20) dX2_init_19 rfl rfl ?_
  refine q_sipush (pc' := 23) (v := nI 180) dX2_init_20 rfl rfl ?_
  refine n_newi (N := 180) (t := 0) (pc' := 25) dX2_init_23 rfl rfl (by decide) (fun _ => rfl) rfl (fun q23 => ?_)
  refine n_putF (n := 0) (pc' := 28) dX2_init_25 fX2_19 rfl ⟨_, _, rfl⟩ rfl rfl rfl (Nat.le_of_ble_eq_true rfl) rfl rfl ?_
  refine q_aload_n (pc' := 29) dX2_init_28 rfl rfl ?_
  refine n_callV (k := 0) (pc' := 32) (M' := mX2_clear) (As := []) dX2_init_29 iX2_clear lX2_22 rfl rfl rfl rfl (Nat.le_of_ble_eq_true rfl) (Nat.le_of_ble_eq_true rfl) rfl (n_clear (a := a) (q1 := q7) (q2 := q14) (q3 := q23)) (fun B hB => ?_)
  subst hB
  refine q_vret dX2_init_32 rfl ⟨rfl, _, ⟨q7, q14, q23, rfl⟩, rfl⟩
