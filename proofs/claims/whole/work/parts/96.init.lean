/-! ===== constructors: TextReader, Plan, Past, Fits, Doubles ===== -/
abbrev B_trd (Z : q_Z) (a t u q1 c1 c2 c3 q2 : Nat) : va_W := (a, .inr (9, [.ref t, .ref u, .ref q1, .ref q2, .int 0, .int 0, .long 0])) :: (B_col Z q1 c1 c2 c3 ++ [(q2, .inl (Z.2.2.1 3, 5, .inl (fun _ => 0)))])
set_option maxHeartbeats 4000000 in
set_option maxRecDepth 20000 in
theorem n_trd {Z : q_Z} {d : Nat} {ws0 : va_W} {a t u : Nat} : q_V (q_g Z) mX9_init (d+3) 5 259 0 [some (.ref a), some (.ref t), some (.ref u)] [] (ws0 ++ ([(a, .inr (9, [.null, .null, .null, .null, .int 0, .int 0, .long 0]))])) (fun r ws => r = none ∧ ∃ B, (∃ q1 c1 c2 c3 q2, B = B_trd Z a t u q1 c1 c2 c3 q2) ∧ ws = ws0 ++ B) := by
  refine q_aload_n (pc' := 1) dX9_init_0 rfl rfl ?_
  refine q_oinit (pc' := 4) dX9_init_1 loX9_3 (Nat.le_of_ble_eq_true rfl) rfl ?_
  refine q_aload_n (pc' := 5) dX9_init_4 rfl rfl ?_
  refine n_new (pc' := 8) (ci := 2) (C := RX2) (T := TX2) (N := 5) (ty := tyX2) dX9_init_5 clX9_9 iwX2 tyX2_ok izX2 itX2 rfl rfl (fun _ => rfl) rfl (fun q5 => ?_)
  refine q_dup (pc' := 9) dX9_init_8 rfl rfl ?_
  refine n_callI (mc1 := 3) (ms1 := 249) (pc' := 12) (M' := mX2_init) (As := []) dX9_init_9 iX2_init lX9_11 rfl rfl (Nat.le_of_ble_eq_true rfl) (Nat.le_of_ble_eq_true rfl) rfl rfl (n_col) (fun B hB => ?_)
  obtain ⟨c1, c2, c3, rfl⟩ := hB
  refine n_putF (n := 0) (pc' := 15) dX9_init_12 fX9_12 rfl ⟨_, _, rfl⟩ rfl rfl rfl (Nat.le_of_ble_eq_true rfl) rfl rfl ?_
  refine q_aload_n (pc' := 16) dX9_init_15 rfl rfl ?_
  refine q_iconst (pc' := 17) (v := nI 5) dX9_init_16 rfl rfl ?_
  refine n_newz (N := 5) (t := 3) (pc' := 19) dX9_init_17 rfl rfl (by decide) (fun _ => rfl) rfl (fun q17 => ?_)
  refine n_putF (n := 0) (pc' := 22) dX9_init_19 fX9_18 rfl ⟨_, _, rfl⟩ rfl rfl rfl (Nat.le_of_ble_eq_true rfl) rfl rfl ?_
  refine q_aload_n (pc' := 23) dX9_init_22 rfl rfl ?_
  refine q_aload_n (pc' := 24) dX9_init_23 rfl rfl ?_
  refine n_putF (n := 0) (pc' := 27) dX9_init_24 fX9_22 rfl ⟨_, _, rfl⟩ rfl rfl rfl (Nat.le_of_ble_eq_true rfl) rfl rfl ?_
  refine q_aload_n (pc' := 28) dX9_init_27 rfl rfl ?_
  refine q_aload_n (pc' := 29) dX9_init_28 rfl rfl ?_
  refine n_putF (n := 0) (pc' := 32) dX9_init_29 fX9_26 rfl ⟨_, _, rfl⟩ rfl rfl rfl (Nat.le_of_ble_eq_true rfl) rfl rfl ?_
  refine q_vret dX9_init_32 rfl ⟨rfl, _, ⟨q5, c1, c2, c3, q17, rfl⟩, rfl⟩
theorem w_lq {ws0 L : va_W} {n : Nat} {x : Nat × va_E} (h : ws0[n]? = some x) : (ws0 ++ L)[n]? = some x := by
  rw [List.getElem?_append_left (List.getElem?_eq_some_iff.mp h).1]
  exact h
def s_rx : Nat → Int32 := va_cpy s_ru (fun _ => 0) 0 0 5
theorem s_rx_is {i : Nat} (h : i < 5) : s_rx i = nI (s_usual i) := by
  show va_cpy s_ru _ 0 0 5 i = _
  rw [cpy_in _ _ (Nat.zero_le _) (by omega), Nat.zero_add, Nat.sub_zero, s_ru_is h]
abbrev B_pln (Z : q_Z) (a f o q1 q2 q3 q4 q5 p1 p2 p3 : Nat) (r : Nat → Int32) : va_W := (a, .inr (8, [.ref f, .ref o, .ref q1, .ref q2, .int 0, .ref q3, .ref q4, .int 0, .ref q5, .long 0, .long 0, .int 0, .int 0, .int 0, .int 0, .int 0])) :: (q1, .inl (Z.2.2.1 0, 5, .inl r)) :: (q2, .inl (Z.2.2.1 0, 64, .inl (fun _ => 0))) :: (q3, .inl (Z.2.2.1 0, 5, .inl (fun _ => 0))) :: (q4, .inl (Z.2.2.1 0, 5, .inl (fun _ => 0))) :: B_par Z q5 p1 p2 p3
set_option maxHeartbeats 4000000 in
set_option maxRecDepth 20000 in
theorem n_lay {Z : q_Z} {d : Nat} {ws0 : va_W} {a f o q1 q2 q3 q4 q5 p1 p2 p3 ic ir b rr nt : Nat} (hc : ws0[ic]? = some (o, .inr (2, [.ref b, .ref rr, .ref nt, .int 0, .int 0]))) (hr : ws0[ir]? = some (rr, .inl (Z.2.2.1 0, 5, .inl s_ru))) : q_V (q_g Z) mX8_lay (d+1) 0 0 0 [some (.ref a), none] [] (ws0 ++ (B_pln Z a f o q1 q2 q3 q4 q5 p1 p2 p3 (fun _ => 0))) (fun r ws => r = none ∧ ∃ B, (B = B_pln Z a f o q1 q2 q3 q4 q5 p1 p2 p3 s_rx) ∧ ws = ws0 ++ B) := by
  refine q_aload_n (pc' := 1) dX8_lay_0 rfl rfl ?_
  refine n_get (n := 0) (pc' := 4) dX8_lay_1 fX8_35 rfl rfl rfl ?_
  refine q_get (pc' := 7) dX8_lay_4 fX8_42 (w_lq hc) rfl rfl ?_
  refine q_iconst (pc' := 8) (v := nI 0) dX8_lay_7 rfl rfl ?_
  refine q_aload_n (pc' := 9) dX8_lay_8 rfl rfl ?_
  refine n_get (n := 0) (pc' := 12) dX8_lay_9 fX8_9 rfl rfl rfl ?_
  refine q_iconst (pc' := 13) (v := nI 0) dX8_lay_12 rfl rfl ?_
  refine q_iconst (pc' := 14) (v := nI 5) dX8_lay_13 rfl rfl ?_
  refine q_copyi (G := q_g Z) (k0 := ir) (k1 := ws0.length + 1) (t := 0) (pc' := 17) dX8_lay_14 lX8_45 cp_n cp_s cp_i (w_lq hr) (w_at rfl) rfl (by decide) (by decide) (by decide) (by decide) (by decide) (Nat.le_of_ble_eq_true rfl) rfl ?_
  rw [w_set]
  refine q_aload_n (pc' := 18) dX8_lay_17 rfl rfl ?_
  refine q_aload_n (pc' := 19) dX8_lay_18 rfl rfl ?_
  refine n_get (n := 0) (pc' := 22) dX8_lay_19 fX8_35 rfl rfl rfl ?_
  refine q_get (pc' := 25) dX8_lay_22 fX8_51 (w_lq hc) rfl rfl ?_
  refine n_put (n := 0) (pc' := 28) dX8_lay_25 fX8_55 rfl rfl rfl (Nat.le_of_ble_eq_true rfl) rfl rfl ?_
  refine q_iconst (pc' := 29) (v := nI 0) dX8_lay_28 rfl rfl ?_
  refine q_istore_n (pc' := 30) (lv' := [_, _]) dX8_lay_29 (by decide) rfl rfl ?_
  refine q_iload_n (pc' := 31) dX8_lay_30 rfl rfl ?_
  refine q_aload_n (pc' := 32) dX8_lay_31 rfl rfl ?_
  refine n_get (n := 0) (pc' := 35) dX8_lay_32 fX8_55 rfl rfl rfl ?_
  refine q_icmp_ge (tgt := 51) (pc' := 38) dX8_lay_35 (by decide) rfl (fun c_35 => ?_) (fun c_35 => ?_)
  · refine q_vret dX8_lay_51 rfl ⟨rfl, _, rfl, rfl⟩
  · exact absurd (by decide) c_35
set_option maxHeartbeats 4000000 in
set_option maxRecDepth 20000 in
theorem n_pln {Z : q_Z} {d : Nat} {ws0 : va_W} {a f o ic ir b rr nt : Nat} (hc : ws0[ic]? = some (o, .inr (2, [.ref b, .ref rr, .ref nt, .int 0, .int 0]))) (hr : ws0[ir]? = some (rr, .inl (Z.2.2.1 0, 5, .inl s_ru))) : q_V (q_g Z) mX8_init (d+2) 8 125 0 [some (.ref a), some (.ref f), some (.ref o)] [] (ws0 ++ ([(a, .inr (8, [.null, .null, .null, .null, .int 0, .null, .null, .int 0, .null, .long 0, .long 0, .int 0, .int 0, .int 0, .int 0, .int 0]))])) (fun r ws => r = none ∧ ∃ B, (∃ q1 q2 q3 q4 q5 p1 p2 p3, B = B_pln Z a f o q1 q2 q3 q4 q5 p1 p2 p3 s_rx) ∧ ws = ws0 ++ B) := by
  refine q_aload_n (pc' := 1) dX8_init_0 rfl rfl ?_
  refine q_oinit (pc' := 4) dX8_init_1 loX8_3 (Nat.le_of_ble_eq_true rfl) rfl ?_
  refine q_aload_n (pc' := 5) dX8_init_4 rfl rfl ?_
  refine q_iconst (pc' := 6) (v := nI 5) dX8_init_5 rfl rfl ?_
  refine n_newi (N := 5) (t := 0) (pc' := 8) dX8_init_6 rfl rfl (by decide) (fun _ => rfl) rfl (fun q6 => ?_)
  refine n_putF (n := 0) (pc' := 11) dX8_init_8 fX8_9 rfl ⟨_, _, rfl⟩ rfl rfl rfl (Nat.le_of_ble_eq_true rfl) rfl rfl ?_
  refine q_aload_n (pc' := 12) dX8_init_11 rfl rfl ?_
  refine q_bipush (pc' := 14) (v := nI 64) dX8_init_12 rfl rfl ?_
  refine n_newi (N := 64) (t := 0) (pc' := 16) dX8_init_14 rfl rfl (by decide) (fun _ => rfl) rfl (fun q14 => ?_)
  refine n_putF (n := 0) (pc' := 19) dX8_init_16 fX8_15 rfl ⟨_, _, rfl⟩ rfl rfl rfl (Nat.le_of_ble_eq_true rfl) rfl rfl ?_
  refine q_aload_n (pc' := 20) dX8_init_19 rfl rfl ?_
  refine q_iconst (pc' := 21) (v := nI 5) dX8_init_20 rfl rfl ?_
  refine n_newi (N := 5) (t := 0) (pc' := 23) dX8_init_21 rfl rfl (by decide) (fun _ => rfl) rfl (fun q21 => ?_)
  refine n_putF (n := 0) (pc' := 26) dX8_init_23 fX8_18 rfl ⟨_, _, rfl⟩ rfl rfl rfl (Nat.le_of_ble_eq_true rfl) rfl rfl ?_
  refine q_aload_n (pc' := 27) dX8_init_26 rfl rfl ?_
  refine q_iconst (pc' := 28) (v := nI 5) dX8_init_27 rfl rfl ?_
  refine n_newi (N := 5) (t := 0) (pc' := 30) dX8_init_28 rfl rfl (by decide) (fun _ => rfl) rfl (fun q28 => ?_)
  refine n_putF (n := 0) (pc' := 33) dX8_init_30 fX8_21 rfl ⟨_, _, rfl⟩ rfl rfl rfl (Nat.le_of_ble_eq_true rfl) rfl rfl ?_
  refine q_aload_n (pc' := 34) dX8_init_33 rfl rfl ?_
  refine n_new (pc' := 37) (ci := 6) (C := RX6) (T := TX6) (N := 6) (ty := tyX6) dX8_init_34 clX8_24 iwX6 tyX6_ok izX6 itX6 rfl rfl (fun _ => rfl) rfl (fun q34 => ?_)
  refine q_dup (pc' := 38) dX8_init_37 rfl rfl ?_
  refine n_callI (mc1 := 3) (ms1 := 40) (pc' := 41) (M' := mX6_init) (As := []) dX8_init_38 iX6_init lX8_26 rfl rfl (Nat.le_of_ble_eq_true rfl) (Nat.le_of_ble_eq_true rfl) rfl rfl (n_par) (fun B hB => ?_)
  obtain ⟨p1, p2, p3, rfl⟩ := hB
  refine n_putF (n := 0) (pc' := 44) dX8_init_41 fX8_27 rfl ⟨_, _, rfl⟩ rfl rfl rfl (Nat.le_of_ble_eq_true rfl) rfl rfl ?_
  refine q_aload_n (pc' := 45) dX8_init_44 rfl rfl ?_
  refine q_aload_n (pc' := 46) dX8_init_45 rfl rfl ?_
  refine n_putF (n := 0) (pc' := 49) dX8_init_46 fX8_31 rfl ⟨_, _, rfl⟩ rfl rfl rfl (Nat.le_of_ble_eq_true rfl) rfl rfl ?_
  refine q_aload_n (pc' := 50) dX8_init_49 rfl rfl ?_
  refine q_aload_n (pc' := 51) dX8_init_50 rfl rfl ?_
  refine n_putF (n := 0) (pc' := 54) dX8_init_51 fX8_35 rfl ⟨_, _, rfl⟩ rfl rfl rfl (Nat.le_of_ble_eq_true rfl) rfl rfl ?_
  refine q_aload_n (pc' := 55) dX8_init_54 rfl rfl ?_
  refine n_callV (k := 0) (pc' := 58) (M' := mX8_lay) (As := []) dX8_init_55 iX8_lay lX8_39 rfl rfl rfl rfl (Nat.le_of_ble_eq_true rfl) (Nat.le_of_ble_eq_true rfl) rfl (n_lay (a := a) (f := f) (o := o) (q1 := q6) (q2 := q14) (q3 := q21) (q4 := q28) (q5 := q34) (p1 := p1) (p2 := p2) (p3 := p3) hc hr) (fun B hB => ?_)
  subst hB
  refine q_vret dX8_init_58 rfl ⟨rfl, _, ⟨q6, q14, q21, q28, q34, p1, p2, p3, rfl⟩, rfl⟩
def B_cols (Z : q_Z) (ad : Nat → Nat) : Nat → va_W
  | 0 => []
  | i + 1 => B_cols Z ad i ++ B_col Z (ad (4 * i)) (ad (4 * i + 1)) (ad (4 * i + 2)) (ad (4 * i + 3))
theorem B_cols_len {Z : q_Z} {ad : Nat → Nat} : ∀ i, (B_cols Z ad i).length = 4 * i
  | 0 => rfl
  | i + 1 => by
    show (B_cols Z ad i ++ B_col Z _ _ _ _).length = _
    rw [List.length_append, B_cols_len i]
    show 4 * i + 4 = _
    omega
theorem B_cols_ext {Z : q_Z} {ad ad' : Nat → Nat} : ∀ i, (∀ j, j < 4 * i → ad j = ad' j) → B_cols Z ad i = B_cols Z ad' i
  | 0, _ => rfl
  | i + 1, h => by
    show B_cols Z ad i ++ _ = B_cols Z ad' i ++ _
    rw [B_cols_ext i (fun j hj => h j (by omega)), h (4 * i) (by omega), h (4 * i + 1) (by omega), h (4 * i + 2) (by omega), h (4 * i + 3) (by omega)]
theorem arr_congr {cA : ClassId} {n : Nat} {f g : Nat → Value} (h : ∀ j, j < n → f j = g j) : arrV cA n f = arrV cA n g := by
  unfold arrV
  congr 1
  exact congrArg Array.ofFn (funext fun j => h j.1 j.2)
/-- a cell told in other words -/
theorem q_same {G : q_G} {M : q_M} {d mc ms pc k a : Nat} {lv : List (Option Value)} {st : List Value} {ws : va_W} {post : Option Value → va_W → Prop} {e e2 : va_E} (hw : ws[k]? = some (a, e)) (he : ∀ H : Heap, va_at G.2.1 vwCl (a, e) H → va_at G.2.1 vwCl (a, e2) H) (kk : q_V G M d mc ms pc lv st (ws.set k (a, e2)) post) : q_V G M d mc ms pc lv st ws post := by
  intro p e9 s m args below meth c R H locs cl0 sl0 d0 A Q X ls hl
  refine kk (X.to ?_ (X.2.2.2.2.1.set hw) X.2.2.2.2.2.1) ls hl
  intro j q hj
  by_cases z : j = k
  · subst z
    have hlt := (List.getElem?_eq_some_iff.mp hw).1
    rw [List.getElem?_set_self hlt] at hj
    cases hj
    exact he H (X.2.2.2.1 j _ hw)
  · rw [List.getElem?_set_ne (Ne.symm z)] at hj
    exact X.2.2.2.1 j q hj
def s_ad4 (ad : Nat → Nat) (i a b c e : Nat) : Nat → Nat := fun p => if p = 4 * i then a else if p = 4 * i + 1 then b else if p = 4 * i + 2 then c else if p = 4 * i + 3 then e else ad p
set_option maxHeartbeats 4000000 in
set_option maxRecDepth 20000 in
theorem n_past {Z : q_Z} {d : Nat} {ws0 : va_W} {a : Nat} : q_V (q_g Z) mX7_init (d+3) 161 10200 0 [some (.ref a), none] [] (ws0 ++ ([(a, .inr (7, [.null, .int 0, .int 0]))])) (fun r ws => r = none ∧ ∃ B, (∃ q1 ad, B = (a, .inr (7, [.ref q1, .int 0, .int 0])) :: (q1, .inl (Z.2.2.1 4, 40, .inr (.inr (.inr (.inr (fun i => some (ad (4 * i)))))))) :: B_cols Z ad 40) ∧ ws = ws0 ++ B) := by
  refine q_aload_n (pc' := 1) dX7_init_0 rfl rfl ?_
  refine q_oinit (pc' := 4) dX7_init_1 loX7_3 (Nat.le_of_ble_eq_true rfl) rfl ?_
  refine q_aload_n (pc' := 5) dX7_init_4 rfl rfl ?_
  refine q_bipush (pc' := 7) (v := nI 40) dX7_init_5 rfl rfl ?_
  refine q_newq (N := 40) (t := 4) (pc' := 10) dX7_init_7 clX7_9 rfl rfl rfl (by decide) rfl (fun q7 => ?_)
  rw [List.append_assoc]
  refine n_putF (n := 0) (pc' := 13) dX7_init_10 fX7_11 rfl ⟨_, _, rfl⟩ rfl rfl rfl (Nat.le_of_ble_eq_true rfl) rfl rfl ?_
  refine q_iconst (pc' := 14) (v := nI 0) dX7_init_13 rfl rfl ?_
  refine q_istore_n (pc' := 15) (lv' := [_, _]) dX7_init_14 (by decide) rfl rfl ?_
  suffices h : ∀ g i (ad : Nat → Nat) (f : Nat → Option Nat), i + g = 40 → (∀ j, j < i → f j = some (ad (4 * j))) → q_V (q_g Z) mX7_init (d + 3) (4 * g) (254 * g) 15 [some (.ref a), some (.int (nI i))] [] (ws0 ++ ((a, .inr (7, [.ref q7, .int 0, .int 0])) :: (q7, .inl (Z.2.2.1 4, 40, .inr (.inr (.inr (.inr f))))) :: B_cols Z ad i)) (fun r ws => r = none ∧ ∃ B, (∃ q1 ad, B = (a, .inr (7, [.ref q1, .int 0, .int 0])) :: (q1, .inl (Z.2.2.1 4, 40, .inr (.inr (.inr (.inr (fun i => some (ad (4 * i)))))))) :: B_cols Z ad 40) ∧ ws = ws0 ++ B) from h 40 0 (fun _ => 0) _ rfl (fun j hj => absurd hj (Nat.not_lt_zero j))
  intro g
  induction g with
  | zero =>
    intro i ad f hi hf
    have hi : i = 40 := hi
    subst hi
    refine q_iload_n (pc' := 16) dX7_init_15 rfl rfl ?_
    refine q_bipush (pc' := 18) (v := nI 40) dX7_init_16 rfl rfl ?_
    refine q_icmp_geN (tgt := 40) (pc' := 21) dX7_init_18 (by decide) rfl (by omega) (fun c_18 => ?_) (fun c_18 => ?_)
    rotate_left
    · omega
    refine q_same (k := ws0.length + 1) (w_at rfl) (e2 := .inl (Z.2.2.1 4, 40, .inr (.inr (.inr (.inr (fun i => some (ad (4 * i)))))))) (fun H hH => ?_) ?_
    · have hH : H[q7]? = some (arrV (Z.2.2.1 4) 40 (fun j => va_rf (f j))) := hH
      show H[q7]? = some (arrV (Z.2.2.1 4) 40 (fun j => va_rf (some (ad (4 * j)))))
      rw [hH, arr_congr (fun j hj => by rw [hf j hj])]
    rw [w_set]
    exact q_vret dX7_init_40 rfl ⟨rfl, _, ⟨q7, ad, rfl⟩, rfl⟩
  | succ g ih =>
    intro i ad f hi hf
    rw [show 4 * (g + 1) = 4 * g + 3 + 1 by omega, show 254 * (g + 1) = 254 * g + 249 + 5 by omega]
    refine q_iload_n (pc' := 16) dX7_init_15 rfl rfl ?_
    refine q_bipush (pc' := 18) (v := nI 40) dX7_init_16 rfl rfl ?_
    refine q_icmp_geN (tgt := 40) (pc' := 21) dX7_init_18 (by decide) rfl (by omega) (fun c_18 => ?_) (fun c_18 => ?_)
    · omega
    refine q_aload_n (pc' := 22) dX7_init_21 rfl rfl ?_
    refine n_get (n := 0) (pc' := 25) dX7_init_22 fX7_11 rfl rfl rfl ?_
    refine q_iload_n (pc' := 26) dX7_init_25 rfl rfl ?_
    refine n_new (pc' := 29) (ci := 2) (C := RX2) (T := TX2) (N := 5) (ty := tyX2) dX7_init_26 clX7_9 iwX2 tyX2_ok izX2 itX2 rfl rfl (fun _ => rfl) rfl (fun q26 => ?_)
    refine q_dup (pc' := 30) dX7_init_29 rfl rfl ?_
    refine n_callI (mc1 := 3) (ms1 := 249) (pc' := 33) (M' := mX2_init) (As := []) dX7_init_30 iX2_init lX7_17 rfl rfl (Nat.le_of_ble_eq_true rfl) (Nat.le_of_ble_eq_true rfl) rfl rfl (n_col) (fun B hB => ?_)
    obtain ⟨c1, c2, c3, rfl⟩ := hB
    have hlen := B_cols_len (Z := Z) (ad := ad) i
    have e1 : B_cols Z (s_ad4 ad i q26 c1 c2 c3) (i + 1) = B_cols Z ad i ++ B_col Z q26 c1 c2 c3 := by
      have e2 : B_cols Z (s_ad4 ad i q26 c1 c2 c3) i = B_cols Z ad i := B_cols_ext i (fun j hj => by
        unfold s_ad4
        rw [if_neg (by omega), if_neg (by omega), if_neg (by omega), if_neg (by omega)])
      show B_cols Z (s_ad4 ad i q26 c1 c2 c3) i ++ _ = _
      rw [e2]
      unfold s_ad4
      rw [if_pos rfl, if_neg (by omega), if_pos rfl, if_neg (by omega), if_neg (by omega), if_pos rfl, if_neg (by omega), if_neg (by omega), if_neg (by omega), if_pos rfl]
    have e3 : ((a, .inr (7, [.ref q7, .int 0, .int 0])) :: (q7, .inl (Z.2.2.1 4, 40, .inr (.inr (.inr (.inr f))))) :: B_cols Z ad i : va_W) ++ B_col Z q26 c1 c2 c3 = (a, .inr (7, [.ref q7, .int 0, .int 0])) :: (q7, .inl (Z.2.2.1 4, 40, .inr (.inr (.inr (.inr f))))) :: B_cols Z (s_ad4 ad i q26 c1 c2 c3) (i + 1) := by
      rw [e1]
      rfl
    rw [e3]
    have e4 : ((a, .inr (7, [.ref q7, .int 0, .int 0])) :: (q7, .inl (Z.2.2.1 4, 40, .inr (.inr (.inr (.inr f))))) :: B_cols Z (s_ad4 ad i q26 c1 c2 c3) (i + 1) : va_W)[2 + 4 * i]? = some (q26, .inr (2, [.ref c1, .ref c2, .ref c3, .int 0, .int 0])) := by
      rw [e1, show 2 + 4 * i = 4 * i + 1 + 1 by omega, List.getElem?_cons_succ, List.getElem?_cons_succ, List.getElem?_append_right (by omega), hlen, Nat.sub_self]
      rfl
    refine q_aast (G := q_g Z) (k := ws0.length + 1) (kv := ws0.length + (2 + 4 * i)) (t := 4) (pc' := 34) dX7_init_33 (w_at rfl) rfl (w_at e4) rfl (vp_in_nI (by omega) (by omega)) rfl ?_
    rw [nI_clamp (by omega), w_set]
    refine q_iincN (pc' := 37) (j := 1) (lv' := [_, _]) dX7_init_34 rfl (by decide) rfl rfl ?_
    refine q_goto (pc' := 15) dX7_init_37 (by decide) ?_
    refine ih (i + 1) (s_ad4 ad i q26 c1 c2 c3) _ (by omega) (fun j hj => ?_)
    show (if j = i then some q26 else f j) = some (s_ad4 ad i q26 c1 c2 c3 (4 * j))
    unfold s_ad4
    by_cases z : j = i
    · rw [if_pos z, z, if_pos rfl]
    · rw [if_neg z, if_neg (by omega), if_neg (by omega), if_neg (by omega), if_neg (by omega), hf j (by omega)]
theorem s_cd_pn0 : ∀ e f : Fin 15, f.1 ≤ e.1 → s_cd (s_pn e.1 f.1) = 16 * e.1 + f.1 := by decide +kernel
theorem s_cd_pn {e f : Nat} (he : e < 15) (hf : f ≤ e) : s_cd (s_pn e f) = 16 * e + f := s_cd_pn0 ⟨e, he⟩ ⟨f, by omega⟩ hf
theorem s_pn_r {e : Nat} : s_pn (e + 1) 0 = s_pn e (e + 1) := by
  unfold s_pn
  rw [show (e + 1) * (e + 1 + 1) = e * (e + 1) + 2 * (e + 1) by rw [Nat.mul_comm (e + 1) (e + 1 + 1), show e + 1 + 1 = e + 2 from rfl, Nat.add_mul]]
  omega
abbrev B_fits (Z : q_Z) (a u q1 q2 q3 q4 : Nat) (f : Nat → Int32) : va_W := [(a, .inr (4, [.ref u, .ref q1, .ref q2, .ref q3, .ref q4])), (q1, .inl (Z.2.2.1 0, 120, .inl f)), (q2, .inl (Z.2.2.1 3, 64, .inl (fun _ => 0))), (q3, .inl (Z.2.2.1 1, 64, .inr (.inl (fun _ => 0)))), (q4, .inl (Z.2.2.1 1, 7680, .inr (.inl (fun _ => 0))))]
set_option maxHeartbeats 4000000 in
set_option maxRecDepth 20000 in
theorem n_fits {Z : q_Z} {d : Nat} {ws0 : va_W} {a u : Nat} : q_V (q_g Z) mX4_init (d+1) 4 7928 0 [some (.ref a), some (.ref u), none, none, none] [] (ws0 ++ ([(a, .inr (4, [.null, .null, .null, .null, .null]))])) (fun r ws => r = none ∧ ∃ B, (∃ q1 q2 q3 q4 f, (∀ p, p < 120 → f p = nI (s_cd p)) ∧ B = B_fits Z a u q1 q2 q3 q4 f) ∧ ws = ws0 ++ B) := by
  refine q_aload_n (pc' := 1) dX4_init_0 rfl rfl ?_
  refine q_oinit (pc' := 4) dX4_init_1 loX4_3 (Nat.le_of_ble_eq_true rfl) rfl ?_
  refine q_aload_n (pc' := 5) dX4_init_4 rfl rfl ?_
  refine q_bipush (pc' := 7) (v := nI 120) dX4_init_5 rfl rfl ?_
  refine n_newi (N := 120) (t := 0) (pc' := 9) dX4_init_7 rfl rfl (by decide) (fun _ => rfl) rfl (fun q7 => ?_)
  refine n_putF (n := 0) (pc' := 12) dX4_init_9 fX4_9 rfl ⟨_, _, rfl⟩ rfl rfl rfl (Nat.le_of_ble_eq_true rfl) rfl rfl ?_
  refine q_aload_n (pc' := 13) dX4_init_12 rfl rfl ?_
  refine q_bipush (pc' := 15) (v := nI 64) dX4_init_13 rfl rfl ?_
  refine n_newz (N := 64) (t := 3) (pc' := 17) dX4_init_15 rfl rfl (by decide) (fun _ => rfl) rfl (fun q15 => ?_)
  refine n_putF (n := 0) (pc' := 20) dX4_init_17 fX4_15 rfl ⟨_, _, rfl⟩ rfl rfl rfl (Nat.le_of_ble_eq_true rfl) rfl rfl ?_
  refine q_aload_n (pc' := 21) dX4_init_20 rfl rfl ?_
  refine q_bipush (pc' := 23) (v := nI 64) dX4_init_21 rfl rfl ?_
  refine n_newl (N := 64) (t := 1) (pc' := 25) dX4_init_23 rfl rfl (by decide) (fun _ => rfl) rfl (fun q23 => ?_)
  refine n_putF (n := 0) (pc' := 28) dX4_init_25 fX4_19 rfl ⟨_, _, rfl⟩ rfl rfl rfl (Nat.le_of_ble_eq_true rfl) rfl rfl ?_
  refine q_aload_n (pc' := 29) dX4_init_28 rfl rfl ?_
  refine q_sipush (pc' := 32) (v := nI 7680) dX4_init_29 rfl rfl ?_
  refine n_newl (N := 7680) (t := 1) (pc' := 34) dX4_init_32 rfl rfl (by decide) (fun _ => rfl) rfl (fun q32 => ?_)
  refine n_putF (n := 0) (pc' := 37) dX4_init_34 fX4_23 rfl ⟨_, _, rfl⟩ rfl rfl rfl (Nat.le_of_ble_eq_true rfl) rfl rfl ?_
  refine q_aload_n (pc' := 38) dX4_init_37 rfl rfl ?_
  refine q_aload_n (pc' := 39) dX4_init_38 rfl rfl ?_
  refine n_putF (n := 0) (pc' := 42) dX4_init_39 fX4_26 rfl ⟨_, _, rfl⟩ rfl rfl rfl (Nat.le_of_ble_eq_true rfl) rfl rfl ?_
  refine q_iconst (pc' := 43) (v := nI 0) dX4_init_42 rfl rfl ?_
  refine q_istore_n (pc' := 44) (lv' := [_, _, _, _, _]) dX4_init_43 (by decide) rfl rfl ?_
  refine q_iconst (pc' := 45) (v := nI 0) dX4_init_44 rfl rfl ?_
  refine q_istore_n (pc' := 46) (lv' := [_, _, _, _, _]) dX4_init_45 (by decide) rfl rfl ?_
  suffices h : ∀ g e (f : Nat → Int32) w, e + g = 15 → (∀ p, p < s_pn e 0 → f p = nI (s_cd p)) → q_V (q_g Z) mX4_init (d+1) 0 0 46 [some (.ref a), some (.ref u), some (.int (nI (s_pn e 0))), some (.int (nI e)), w] [] (ws0 ++ (B_fits Z a u q7 q15 q23 q32 f)) (fun r ws => r = none ∧ ∃ B, (∃ q1 q2 q3 q4 f, (∀ p, p < 120 → f p = nI (s_cd p)) ∧ B = B_fits Z a u q1 q2 q3 q4 f) ∧ ws = ws0 ++ B) from h 15 0 _ _ rfl (fun p hp => absurd hp (Nat.not_lt_zero p))
  intro g
  induction g with
  | zero =>
    intro e f w he hf
    have he : e = 15 := he
    subst he
    refine q_iload_n (pc' := 47) dX4_init_46 rfl rfl ?_
    refine q_bipush (pc' := 49) (v := nI 15) dX4_init_47 rfl rfl ?_
    refine q_icmp_geN (tgt := 89) (pc' := 52) dX4_init_49 (by decide) rfl (by omega) (fun c_49 => ?_) (fun c_49 => ?_)
    rotate_left
    · omega
    exact q_vret dX4_init_89 rfl ⟨rfl, _, ⟨q7, q15, q23, q32, f, hf, rfl⟩, rfl⟩
  | succ g ih =>
    intro e f w he hf
    refine q_iload_n (pc' := 47) dX4_init_46 rfl rfl ?_
    refine q_bipush (pc' := 49) (v := nI 15) dX4_init_47 rfl rfl ?_
    refine q_icmp_geN (tgt := 89) (pc' := 52) dX4_init_49 (by decide) rfl (by omega) (fun c_49 => ?_) (fun c_49 => ?_)
    · omega
    refine q_iconst (pc' := 53) (v := nI 0) dX4_init_52 rfl rfl ?_
    refine q_istore (pc' := 55) (lv' := [_, _, _, _, _]) dX4_init_53 (by decide) rfl rfl ?_
    suffices h : ∀ g2 j (f : Nat → Int32), j + g2 = e + 1 → (∀ p, p < s_pn e j → f p = nI (s_cd p)) → q_V (q_g Z) mX4_init (d+1) 0 0 55 [some (.ref a), some (.ref u), some (.int (nI (s_pn e j))), some (.int (nI e)), some (.int (nI j))] [] (ws0 ++ (B_fits Z a u q7 q15 q23 q32 f)) (fun r ws => r = none ∧ ∃ B, (∃ q1 q2 q3 q4 f, (∀ p, p < 120 → f p = nI (s_cd p)) ∧ B = B_fits Z a u q1 q2 q3 q4 f) ∧ ws = ws0 ++ B) from h (e + 1) 0 f (Nat.zero_add _) hf
    intro g2
    induction g2 with
    | zero =>
      intro j f hj hf
      have hj : j = e + 1 := by omega
      subst hj
      refine q_iload (pc' := 57) dX4_init_55 rfl rfl ?_
      refine q_iload_n (pc' := 58) dX4_init_57 rfl rfl ?_
      refine q_icmp_gtN (tgt := 83) (pc' := 61) dX4_init_58 (by decide) rfl (by omega) (fun c_58 => ?_) (fun c_58 => ?_)
      rotate_left
      · omega
      refine q_iincN (pc' := 86) (j := 1) (lv' := [_, _, _, _, _]) dX4_init_83 rfl (by decide) rfl rfl ?_
      refine q_goto (pc' := 46) dX4_init_86 (by decide) ?_
      rw [← s_pn_r] at hf ⊢
      exact ih (e + 1) f _ (by omega) hf
    | succ g2 ih2 =>
      intro j f hj hf
      have hp := s_pn_lt (a := e) (b := j) (by omega) (by omega)
      refine q_iload (pc' := 57) dX4_init_55 rfl rfl ?_
      refine q_iload_n (pc' := 58) dX4_init_57 rfl rfl ?_
      refine q_icmp_gtN (tgt := 83) (pc' := 61) dX4_init_58 (by decide) rfl (by omega) (fun c_58 => ?_) (fun c_58 => ?_)
      · omega
      refine q_aload_n (pc' := 62) dX4_init_61 rfl rfl ?_
      refine n_get (n := 0) (pc' := 65) dX4_init_62 fX4_9 rfl rfl rfl ?_
      refine q_iload_n (pc' := 66) dX4_init_65 rfl rfl ?_
      refine q_bipush (pc' := 68) (v := nI 16) dX4_init_66 rfl rfl ?_
      refine q_iload_n (pc' := 69) dX4_init_68 rfl rfl ?_
      refine q_imulN (pc' := 70) dX4_init_69 rfl ?_
      refine q_iload (pc' := 72) dX4_init_70 rfl rfl ?_
      refine q_iaddN (pc' := 73) dX4_init_72 rfl ?_
      refine n_iast (n := 1) (t := 0) (pc' := 74) dX4_init_73 rfl rfl (rfl) (hp) (by decide) rfl rfl ?_
      refine q_iincN (pc' := 77) (j := 1) (lv' := [_, _, _, _, _]) dX4_init_74 rfl (by decide) rfl rfl ?_
      refine q_iincN (pc' := 80) (j := 1) (lv' := [_, _, _, _, _]) dX4_init_77 rfl (by decide) rfl rfl ?_
      refine q_goto (pc' := 55) dX4_init_80 (by decide) ?_
      refine ih2 (j + 1) _ (by omega) (fun p hpp => ?_)
      show q_u f (s_pn e j) (nI (16 * e + j)) p = _
      have hpp : p < s_pn e j + 1 := hpp
      by_cases z : p = s_pn e j
      · rw [z, q_u_s, s_cd_pn (by omega) (by omega)]
      · rw [q_u_n _ _ z]; exact hf p (by omega)
theorem tn_step : ∀ k : Fin 14, FP.dmul (s_tn k.1) 4621819117588971520 = s_tn (k.1 + 1) := by decide +kernel
theorem tn_0 : s_tn 0 = FP.dconst1 := by decide +kernel
theorem th_0 : s_th 0 = FP.dconst1 := by decide +kernel
theorem nz_n64 {x : UInt64} (h : q_nz x = true) : vf_n64 x := by
  obtain ⟨t, d, r, e, -⟩ := q_nz_fin h
  exact dv_n64 (by rw [e]; exact fun z => by cases z)
theorem dv_half : q_dv 4602678819172646912 false (2 ^ (1074 - 1)) := by
  have := dv_c 4602678819172646912 (by decide) (by decide) (N := 2 ^ 52 * 2 ^ 1021) (by unfold s_mag; rw [show (4602678819172646912 : UInt64).toNat / 2 ^ 52 % 2048 = 1022 from by decide, show (4602678819172646912 : UInt64).toNat % 2 ^ 52 = 0 from by decide, if_neg (by decide), show 1022 - 1 = 1021 from rfl, Nat.add_zero])
  rw [← Nat.pow_add] at this
  exact this
theorem dv_2 : q_dv 4611686018427387904 false (2 ^ (1074 + 1)) := by
  have := dv_two
  rw [← Nat.pow_add] at this
  exact this
theorem dv_sqU {x : UInt64} {k : Nat} (h : q_dv x false (2 ^ (1074 + 2 ^ k))) (hk : k < 9) : q_dv (FP.dmul x x) false (2 ^ (1074 + 2 ^ (k + 1))) := by
  have h9 : 2 ^ (k + 1) ≤ 2 ^ 9 := Nat.pow_le_pow_right (by decide) (by omega)
  have := dv_mul h h (c := 1) (b := 1074 + 2 ^ (k + 1)) (by decide) (by omega) (by rw [Nat.one_mul, ← Nat.pow_add, ← Nat.pow_add, Nat.pow_succ 2 k]; congr 1; omega)
  rw [Nat.one_mul] at this
  exact this
theorem dv_sqD {x : UInt64} {k : Nat} (h : q_dv x false (2 ^ (1074 - 2 ^ k))) (hk : k < 9) : q_dv (FP.dmul x x) false (2 ^ (1074 - 2 ^ (k + 1))) := by
  have h9 : 2 ^ (k + 1) ≤ 2 ^ 9 := Nat.pow_le_pow_right (by decide) (by omega)
  have := dv_mul h h (c := 1) (b := 1074 - 2 ^ (k + 1)) (by decide) (Nat.le_trans (Nat.sub_le _ _) (by decide)) (by rw [Nat.one_mul, ← Nat.pow_add, ← Nat.pow_add]; rw [Nat.pow_succ 2 k] at h9 ⊢; congr 1; omega)
  rw [Nat.one_mul] at this
  exact this
abbrev B_dbl (Z : q_Z) (a q1 q2 q3 q4 : Nat) (t h u w : Nat → UInt64) : va_W := [(a, .inr (3, [.ref q1, .ref q2, .ref q3, .ref q4])), (q1, .inl (Z.2.2.1 2, 15, .inr (.inr (.inr (.inl t))))), (q2, .inl (Z.2.2.1 2, 15, .inr (.inr (.inr (.inl h))))), (q3, .inl (Z.2.2.1 2, 10, .inr (.inr (.inr (.inl u))))), (q4, .inl (Z.2.2.1 2, 10, .inr (.inr (.inr (.inl w)))))]
set_option maxHeartbeats 4000000 in
set_option maxRecDepth 20000 in
theorem n_dbl {Z : q_Z} {d : Nat} {ws0 : va_W} {a : Nat} : q_V (q_g Z) mX3_init (d+1) 4 50 0 [some (.ref a), none] [] (ws0 ++ ([(a, .inr (3, [.null, .null, .null, .null]))])) (fun r ws => r = none ∧ ∃ B, (∃ q1 q2 q3 q4 t h u w, ((∀ k, k < 10 → q_dv (u k) false (2 ^ (1074 + 2 ^ k)) ∧ q_dv (w k) false (2 ^ (1074 - 2 ^ k))) ∧ ∀ k, k < 15 → t k = s_tn k ∧ h k = s_th k) ∧ B = B_dbl Z a q1 q2 q3 q4 t h u w) ∧ ws = ws0 ++ B) := by
  refine q_aload_n (pc' := 1) dX3_init_0 rfl rfl ?_
  refine q_oinit (pc' := 4) dX3_init_1 loX3_3 (Nat.le_of_ble_eq_true rfl) rfl ?_
  refine q_aload_n (pc' := 5) dX3_init_4 rfl rfl ?_
  refine q_bipush (pc' := 7) (v := nI 15) dX3_init_5 rfl rfl ?_
  refine n_newd (N := 15) (t := 2) (pc' := 9) dX3_init_7 rfl rfl (by decide) (fun _ => rfl) rfl (fun q7 => ?_)
  refine n_putF (n := 0) (pc' := 12) dX3_init_9 fX3_9 rfl ⟨_, _, rfl⟩ rfl rfl rfl (Nat.le_of_ble_eq_true rfl) rfl rfl ?_
  refine q_aload_n (pc' := 13) dX3_init_12 rfl rfl ?_
  refine q_bipush (pc' := 15) (v := nI 15) dX3_init_13 rfl rfl ?_
  refine n_newd (N := 15) (t := 2) (pc' := 17) dX3_init_15 rfl rfl (by decide) (fun _ => rfl) rfl (fun q15 => ?_)
  refine n_putF (n := 0) (pc' := 20) dX3_init_17 fX3_15 rfl ⟨_, _, rfl⟩ rfl rfl rfl (Nat.le_of_ble_eq_true rfl) rfl rfl ?_
  refine q_aload_n (pc' := 21) dX3_init_20 rfl rfl ?_
  refine q_bipush (pc' := 23) (v := nI 10) dX3_init_21 rfl rfl ?_
  refine n_newd (N := 10) (t := 2) (pc' := 25) dX3_init_23 rfl rfl (by decide) (fun _ => rfl) rfl (fun q23 => ?_)
  refine n_putF (n := 0) (pc' := 28) dX3_init_25 fX3_18 rfl ⟨_, _, rfl⟩ rfl rfl rfl (Nat.le_of_ble_eq_true rfl) rfl rfl ?_
  refine q_aload_n (pc' := 29) dX3_init_28 rfl rfl ?_
  refine q_bipush (pc' := 31) (v := nI 10) dX3_init_29 rfl rfl ?_
  refine n_newd (N := 10) (t := 2) (pc' := 33) dX3_init_31 rfl rfl (by decide) (fun _ => rfl) rfl (fun q31 => ?_)
  refine n_putF (n := 0) (pc' := 36) dX3_init_33 fX3_21 rfl ⟨_, _, rfl⟩ rfl rfl rfl (Nat.le_of_ble_eq_true rfl) rfl rfl ?_
  refine q_aload_n (pc' := 37) dX3_init_36 rfl rfl ?_
  refine n_get (n := 0) (pc' := 40) dX3_init_37 fX3_9 rfl rfl rfl ?_
  refine q_iconst (pc' := 41) (v := nI 0) dX3_init_40 rfl rfl ?_
  refine q_dconst1 (pc' := 42) dX3_init_41 rfl ?_
  refine n_dast (n := 1) (t := 2) (pc' := 43) dX3_init_42 rfl rfl (rfl) (by decide) (by decide) rfl rfl ?_
  refine q_aload_n (pc' := 44) dX3_init_43 rfl rfl ?_
  refine n_get (n := 0) (pc' := 47) dX3_init_44 fX3_15 rfl rfl rfl ?_
  refine q_iconst (pc' := 48) (v := nI 0) dX3_init_47 rfl rfl ?_
  refine q_dconst1 (pc' := 49) dX3_init_48 rfl ?_
  refine n_dast (n := 2) (t := 2) (pc' := 50) dX3_init_49 rfl rfl (rfl) (by decide) (by decide) rfl rfl ?_
  refine q_iconst (pc' := 51) (v := nI 1) dX3_init_50 rfl rfl ?_
  refine q_istore_n (pc' := 52) (lv' := [_, _]) dX3_init_51 (by decide) rfl rfl ?_
  suffices hh : ∀ g i (t h : Nat → UInt64), i + g = 15 → 1 ≤ i → (∀ k, k < i → t k = s_tn k ∧ h k = s_th k) → q_V (q_g Z) mX3_init (d+1) 0 0 52 [some (.ref a), some (.int (nI i))] [] (ws0 ++ (B_dbl Z a q7 q15 q23 q31 t h (fun _ => 0) (fun _ => 0))) (fun r ws => r = none ∧ ∃ B, (∃ q1 q2 q3 q4 t h u w, ((∀ k, k < 10 → q_dv (u k) false (2 ^ (1074 + 2 ^ k)) ∧ q_dv (w k) false (2 ^ (1074 - 2 ^ k))) ∧ ∀ k, k < 15 → t k = s_tn k ∧ h k = s_th k) ∧ B = B_dbl Z a q1 q2 q3 q4 t h u w) ∧ ws = ws0 ++ B) from hh 14 1 _ _ rfl (Nat.le_refl _) (fun k hk => by
    obtain rfl : k = 0 := by omega
    exact ⟨tn_0.symm, th_0.symm⟩)
  intro g
  induction g with
  | zero =>
    intro i t h hi h1 hth
    have hi : i = 15 := hi
    subst hi
    refine q_iload_n (pc' := 53) dX3_init_52 rfl rfl ?_
    refine q_bipush (pc' := 55) (v := nI 15) dX3_init_53 rfl rfl ?_
    refine q_icmp_geN (tgt := 96) (pc' := 58) dX3_init_55 (by decide) rfl (by omega) (fun c_55 => ?_) (fun c_55 => ?_)
    rotate_left
    · omega
    refine q_aload_n (pc' := 97) dX3_init_96 rfl rfl ?_
    refine n_get (n := 0) (pc' := 100) dX3_init_97 fX3_18 rfl rfl rfl ?_
    refine q_iconst (pc' := 101) (v := nI 0) dX3_init_100 rfl rfl ?_
    refine q_ldc2d (pc' := 104) dX3_init_101 kX3_26 rfl ?_
    refine n_dast (n := 3) (t := 2) (pc' := 105) dX3_init_104 rfl rfl (rfl) (by decide) (by decide) rfl rfl ?_
    refine q_aload_n (pc' := 106) dX3_init_105 rfl rfl ?_
    refine n_get (n := 0) (pc' := 109) dX3_init_106 fX3_21 rfl rfl rfl ?_
    refine q_iconst (pc' := 110) (v := nI 0) dX3_init_109 rfl rfl ?_
    refine q_ldc2d (pc' := 113) dX3_init_110 kX3_28 rfl ?_
    refine n_dast (n := 4) (t := 2) (pc' := 114) dX3_init_113 rfl rfl (rfl) (by decide) (by decide) rfl rfl ?_
    refine q_iconst (pc' := 115) (v := nI 1) dX3_init_114 rfl rfl ?_
    refine q_istore_n (pc' := 116) (lv' := [_, _]) dX3_init_115 (by decide) rfl rfl ?_
    suffices hh : ∀ g i (u w : Nat → UInt64), i + g = 10 → 1 ≤ i → (∀ k, k < i → q_dv (u k) false (2 ^ (1074 + 2 ^ k)) ∧ q_dv (w k) false (2 ^ (1074 - 2 ^ k))) → q_V (q_g Z) mX3_init (d+1) 0 0 116 [some (.ref a), some (.int (nI i))] [] (ws0 ++ (B_dbl Z a q7 q15 q23 q31 t h u w)) (fun r ws => r = none ∧ ∃ B, (∃ q1 q2 q3 q4 t h u w, ((∀ k, k < 10 → q_dv (u k) false (2 ^ (1074 + 2 ^ k)) ∧ q_dv (w k) false (2 ^ (1074 - 2 ^ k))) ∧ ∀ k, k < 15 → t k = s_tn k ∧ h k = s_th k) ∧ B = B_dbl Z a q1 q2 q3 q4 t h u w) ∧ ws = ws0 ++ B) from hh 9 1 _ _ rfl (Nat.le_refl _) (fun k hk => by
      obtain rfl : k = 0 := by omega
      exact ⟨dv_2, dv_half⟩)
    intro g
    induction g with
    | zero =>
      intro i u w hi h1 huw
      have hi : i = 10 := hi
      subst hi
      refine q_iload_n (pc' := 117) dX3_init_116 rfl rfl ?_
      refine q_bipush (pc' := 119) (v := nI 10) dX3_init_117 rfl rfl ?_
      refine q_icmp_geN (tgt := 174) (pc' := 122) dX3_init_119 (by decide) rfl (by omega) (fun c_119 => ?_) (fun c_119 => ?_)
      rotate_left
      · omega
      exact q_vret dX3_init_174 rfl ⟨rfl, _, ⟨q7, q15, q23, q31, t, h, u, w, ⟨huw, hth⟩, rfl⟩, rfl⟩
    | succ g ih =>
      intro i u w hi h1 huw
      obtain ⟨k, rfl⟩ : ∃ k, i = k + 1 := ⟨i - 1, by omega⟩
      obtain ⟨hu, hw⟩ := huw k (by omega)
      have hu2 := dv_sqU hu (by omega)
      have hw2 := dv_sqD hw (by omega)
      refine q_iload_n (pc' := 117) dX3_init_116 rfl rfl ?_
      refine q_bipush (pc' := 119) (v := nI 10) dX3_init_117 rfl rfl ?_
      refine q_icmp_geN (tgt := 174) (pc' := 122) dX3_init_119 (by decide) rfl (by omega) (fun c_119 => ?_) (fun c_119 => ?_)
      · omega
      refine q_aload_n (pc' := 123) dX3_init_122 rfl rfl ?_
      refine n_get (n := 0) (pc' := 126) dX3_init_123 fX3_18 rfl rfl rfl ?_
      refine q_iload_n (pc' := 127) dX3_init_126 rfl rfl ?_
      refine q_aload_n (pc' := 128) dX3_init_127 rfl rfl ?_
      refine n_get (n := 0) (pc' := 131) dX3_init_128 fX3_18 rfl rfl rfl ?_
      refine q_iload_n (pc' := 132) dX3_init_131 rfl rfl ?_
      refine q_iconst (pc' := 133) (v := nI 1) dX3_init_132 rfl rfl ?_
      refine q_isubN (pc' := 134) dX3_init_133 (by omega) rfl ?_
      refine n_dald (n := 3) (t := 2) (pc' := 135) dX3_init_134 rfl rfl (rfl) (by omega) (by decide) (congrArg u (show k + 1 - 1 = k from rfl)) rfl ?_
      refine q_aload_n (pc' := 136) dX3_init_135 rfl rfl ?_
      refine n_get (n := 0) (pc' := 139) dX3_init_136 fX3_18 rfl rfl rfl ?_
      refine q_iload_n (pc' := 140) dX3_init_139 rfl rfl ?_
      refine q_iconst (pc' := 141) (v := nI 1) dX3_init_140 rfl rfl ?_
      refine q_isubN (pc' := 142) dX3_init_141 (by omega) rfl ?_
      refine n_dald (n := 3) (t := 2) (pc' := 143) dX3_init_142 rfl rfl (rfl) (by omega) (by decide) (congrArg u (show k + 1 - 1 = k from rfl)) rfl ?_
      refine q_dmul (pc' := 144) dX3_init_143 (dv_ok hu2) rfl ?_
      refine n_dast (n := 3) (t := 2) (pc' := 145) dX3_init_144 rfl rfl (rfl) (by omega) (by decide) rfl rfl ?_
      refine q_aload_n (pc' := 146) dX3_init_145 rfl rfl ?_
      refine n_get (n := 0) (pc' := 149) dX3_init_146 fX3_21 rfl rfl rfl ?_
      refine q_iload_n (pc' := 150) dX3_init_149 rfl rfl ?_
      refine q_aload_n (pc' := 151) dX3_init_150 rfl rfl ?_
      refine n_get (n := 0) (pc' := 154) dX3_init_151 fX3_21 rfl rfl rfl ?_
      refine q_iload_n (pc' := 155) dX3_init_154 rfl rfl ?_
      refine q_iconst (pc' := 156) (v := nI 1) dX3_init_155 rfl rfl ?_
      refine q_isubN (pc' := 157) dX3_init_156 (by omega) rfl ?_
      refine n_dald (n := 4) (t := 2) (pc' := 158) dX3_init_157 rfl rfl (rfl) (by omega) (by decide) (congrArg w (show k + 1 - 1 = k from rfl)) rfl ?_
      refine q_aload_n (pc' := 159) dX3_init_158 rfl rfl ?_
      refine n_get (n := 0) (pc' := 162) dX3_init_159 fX3_21 rfl rfl rfl ?_
      refine q_iload_n (pc' := 163) dX3_init_162 rfl rfl ?_
      refine q_iconst (pc' := 164) (v := nI 1) dX3_init_163 rfl rfl ?_
      refine q_isubN (pc' := 165) dX3_init_164 (by omega) rfl ?_
      refine n_dald (n := 4) (t := 2) (pc' := 166) dX3_init_165 rfl rfl (rfl) (by omega) (by decide) (congrArg w (show k + 1 - 1 = k from rfl)) rfl ?_
      refine q_dmul (pc' := 167) dX3_init_166 (dv_ok hw2) rfl ?_
      refine n_dast (n := 4) (t := 2) (pc' := 168) dX3_init_167 rfl rfl (rfl) (by omega) (by decide) rfl rfl ?_
      refine q_iincN (pc' := 171) (j := 1) (lv' := [_, _]) dX3_init_168 rfl (by decide) rfl rfl ?_
      refine q_goto (pc' := 116) dX3_init_171 (by decide) ?_
      refine ih (k + 1 + 1) _ _ (by omega) (by omega) (fun j hj => ?_)
      show q_dv (q_u u (k + 1) (FP.dmul (u k) (u k)) j) false (2 ^ (1074 + 2 ^ j)) ∧ q_dv (q_u w (k + 1) (FP.dmul (w k) (w k)) j) false (2 ^ (1074 - 2 ^ j))
      by_cases z : j = k + 1
      · rw [z, q_u_s, q_u_s]; exact ⟨hu2, hw2⟩
      · rw [q_u_n _ _ z, q_u_n _ _ z]; exact huw j (by omega)
  | succ g ih =>
    intro i t h hi h1 hth
    obtain ⟨k, rfl⟩ : ∃ k, i = k + 1 := ⟨i - 1, by omega⟩
    obtain ⟨ht, -⟩ := hth k (by omega)
    have hs : FP.dmul (t k) 4621819117588971520 = s_tn (k + 1) := by rw [ht]; exact tn_step ⟨k, by omega⟩
    refine q_iload_n (pc' := 53) dX3_init_52 rfl rfl ?_
    refine q_bipush (pc' := 55) (v := nI 15) dX3_init_53 rfl rfl ?_
    refine q_icmp_geN (tgt := 96) (pc' := 58) dX3_init_55 (by decide) rfl (by omega) (fun c_55 => ?_) (fun c_55 => ?_)
    · omega
    refine q_aload_n (pc' := 59) dX3_init_58 rfl rfl ?_
    refine n_get (n := 0) (pc' := 62) dX3_init_59 fX3_9 rfl rfl rfl ?_
    refine q_iload_n (pc' := 63) dX3_init_62 rfl rfl ?_
    refine q_aload_n (pc' := 64) dX3_init_63 rfl rfl ?_
    refine n_get (n := 0) (pc' := 67) dX3_init_64 fX3_9 rfl rfl rfl ?_
    refine q_iload_n (pc' := 68) dX3_init_67 rfl rfl ?_
    refine q_iconst (pc' := 69) (v := nI 1) dX3_init_68 rfl rfl ?_
    refine q_isubN (pc' := 70) dX3_init_69 (by omega) rfl ?_
    refine n_dald (n := 1) (t := 2) (pc' := 71) dX3_init_70 rfl rfl (rfl) (by omega) (by decide) (congrArg t (show k + 1 - 1 = k from rfl)) rfl ?_
    refine q_ldc2d (pc' := 74) dX3_init_71 kX3_24 rfl ?_
    refine q_dmul (pc' := 75) dX3_init_74 (by rw [hs]; exact nz_n64 (nz_tn ⟨k + 1, by omega⟩)) rfl ?_
    rw [hs]
    refine n_dast (n := 1) (t := 2) (pc' := 76) dX3_init_75 rfl rfl (rfl) (by omega) (by decide) rfl rfl ?_
    refine q_aload_n (pc' := 77) dX3_init_76 rfl rfl ?_
    refine n_get (n := 0) (pc' := 80) dX3_init_77 fX3_15 rfl rfl rfl ?_
    refine q_iload_n (pc' := 81) dX3_init_80 rfl rfl ?_
    refine q_dconst1 (pc' := 82) dX3_init_81 rfl ?_
    refine q_aload_n (pc' := 83) dX3_init_82 rfl rfl ?_
    refine n_get (n := 0) (pc' := 86) dX3_init_83 fX3_9 rfl rfl rfl ?_
    refine q_iload_n (pc' := 87) dX3_init_86 rfl rfl ?_
    refine n_dald (n := 1) (t := 2) (pc' := 88) dX3_init_87 rfl rfl (rfl) (by omega) (by decide) (q_u_s _ _ _) rfl ?_
    refine q_ddiv (pc' := 89) dX3_init_88 (nz_n64 (nz_th ⟨k + 1, by omega⟩)) rfl ?_
    refine n_dast (n := 2) (t := 2) (pc' := 90) dX3_init_89 rfl rfl (rfl) (by omega) (by decide) rfl rfl ?_
    refine q_iincN (pc' := 93) (j := 1) (lv' := [_, _]) dX3_init_90 rfl (by decide) rfl rfl ?_
    refine q_goto (pc' := 52) dX3_init_93 (by decide) ?_
    refine ih (k + 1 + 1) _ _ (by omega) (by omega) (fun j hj => ?_)
    show q_u t (k + 1) (s_tn (k + 1)) j = s_tn j ∧ q_u h (k + 1) (s_th (k + 1)) j = s_th j
    by_cases z : j = k + 1
    · rw [z, q_u_s, q_u_s]; exact ⟨rfl, rfl⟩
    · rw [q_u_n _ _ z, q_u_n _ _ z]; exact hth j (by omega)
