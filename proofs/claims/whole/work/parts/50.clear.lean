/-! ===== a copy out of a static row; Column.clear, Column.patterns ===== -/
section HROWS5
variable {Z : q_Z} {M : q_M} {d pc pc' : Nat} {lv : List (Option Value)} {st : List Value} {m : q_Mm} {post : Option Value → va_W → Prop}
theorem q_copyT {G : q_G} {mc ms : Nat} {ws : va_W} {idx t k1 a t0 N n1 : Nat} {c1 : ClassId} {f g : Nat → Int32} {nn : Nat} (hd : decode M.2.2.1 pc = .ok (.invokestatic idx, 3)) (hlk : Cond.methodLink M.1 idx arraycopyName ∈ tbg) (h0 : Cond.native arraycopyName ∈ tbg) (h1 : Cond.static arraycopyName ∈ tbg) (h2 : Cond.initialized "java/lang/System" ∈ tbg) (he : (t0, .int, N, fun j => .int (f j)) ∈ G.2.2.2) (hw1 : ws[k1]? = some (a, .inl (c1, n1, .inl g))) (ht : G.2.2.1[t]? = some (c1, .int)) (hs : nn < 2 ^ 31) (g4 : nn ≤ N) (g5 : nn ≤ n1) (hr : q_cat st ≤ 8) (hp : pc + 3 = pc') (kk : q_V G M (d + 1) mc ms pc' lv st (ws.set k1 (a, .inl (c1, n1, .inl (va_cpy f g 0 0 nn)))) post) : q_V G M (d + 1) mc ms pc lv (.int (nI nn) :: .int (nI 0) :: .ref a :: .int (nI 0) :: .ref t0 :: st) ws post := by
  subst hp
  intro p e s m args below meth c R H locs cl0 sl0 d0 A Q X ls hl
  have hro := X.1.2.2.2.2.2.2.2.2.1
  have hw9 : nativeFrameWords "java/lang/System" "arraycopy" 5 + 11 ≤ 32 := by decide +kernel
  have hz2 : (st.map fun v => v.category).sum + (nativeFrameWords "java/lang/System" "arraycopy" 5 + 11) ≤ R.locals := by
    unfold q_cat at hr
    refine Nat.le_trans (Nat.add_le_add_left hw9 _) ?_
    omega
  obtain ⟨src, b1, b2, b3, b4, -, b5, b6⟩ := (X.E.2.2.2.1 _ he).moved (U := s.setDrawn d0) (Vm.Alike.refl _)
  have b4 : N ≤ src.slots.size := b4
  have b5 : ∀ j, j < N → src.slots[j]? = some (.int (f j)) := b5
  have hsrc : H[t0]? = some src := (X.2.2.2.2.2.1.2.1 t0 (Array.getElem?_eq_some_iff.mp b1).1 b6).trans b1
  have hdst : H[a]? = some (vp_cell c1 (n1, .inl g)) := X.2.2.2.1 k1 _ hw1
  obtain ⟨e1, x0, e2, e3, e4⟩ := b2
  obtain ⟨-, x1, e5, e6, e7⟩ := (X.K.2 t _ ht).1 n1 (fun j => .int (g j))
  have hnn : (nI nn).toNatClampNeg = nn := nI_clamp hs
  have hn0 : (nI 0).toNatClampNeg = 0 := rfl
  have hni : (nI nn).toInt = (nn : Int) := nI_toInt hs
  have hn1 : (nI 0).toInt = 0 := rfl
  intro T hT Y
  obtain ⟨vm', Y', step⟩ := Y.arraycopy X.1.1 X.1.2.2.2.2.1 (X.ts _ hlk) (X.ts _ h0) (X.ts _ h1) (X.ts _ h2) (src := t0) (dst := a) (cs := src) (cd := vp_cell c1 (n1, .inl g)) (srcPos := nI 0) (destPos := nI 0) (n := nI nn) (by rw [hT]; exact hsrc) (by rw [hT]; exact hdst)
    e1 (fun _ h => by cases h) b3 (fun h => by cases h) e2 e5 e4 e7 (by simp [refKind]) (by decide) (by decide) (nI_pos hs)
    (by rw [hn1, hni]; omega)
    (by rw [hn1, hni]; show ¬ _ > ((arrV c1 n1 (fun j => .int (g j))).slots.size : Int); rw [arrV_size]; omega)
    (fun vm₁ _ i hi => by
      rw [hnn] at hi
      have e : src.slots.getD ((nI 0).toNatClampNeg + i) .null = .int (f i) := by
        rw [hn0, Nat.zero_add, Array.getD_eq_getD_getElem?, b5 _ (by omega)]
        rfl
      exact ⟨by rw [e]; rfl, by rw [e]; exact trivial⟩)
    (g := F0 m pc ls (.int (nI nn) :: .int (nI 0) :: .ref a :: .int (nI 0) :: .ref t0 :: st)) rfl (by show _ = c.maxLocals; rw [X.1.2.2.2.1]; exact hl.1) (rest := st) rfl (by rw [X.1.2.1]; exact hd) (by omega) (by show 2 * 0 + _ + _ ≤ _; omega)
  have e9 : copied src (vp_cell c1 (n1, .inl g)) (nI 0) (nI 0) (nI nn) = vp_cell c1 (n1, .inl (va_cpy f g 0 0 nn)) := by
    have e : copied src (vp_cell c1 (n1, .inl g)) (nI 0) (nI 0) (nI nn) = vp_cell c1 (n1, .inl (va_cpy f g (nI 0).toNatClampNeg (nI 0).toNatClampNeg (nI nn).toNatClampNeg)) := va_copiedX (fun z => .int z) src c1 f g b5 (by rw [hn0, hnn]; omega)
    rw [hn0, hnn] at e
    exact e
  rw [e9] at Y' step
  have hal : a < H.size := (Array.getElem?_eq_some_iff.mp hdst).1
  have hD := X.2.2.2.2.1
  have hS := X.2.2.2.2.2.1
  have hAa : A a := hD.2 k1 _ hw1
  have oth : ∀ q : Nat, q ≠ a → (H.setIfInBounds a (vp_cell c1 (n1, .inl (va_cpy f g 0 0 nn))))[q]? = H[q]? := fun q hq => by simp [Array.getElem?_setIfInBounds, Ne.symm hq]
  obtain ⟨t9, a9, b9⟩ := kk (X.to (X.2.2.2.1.set hD hw1 (show (H.setIfInBounds a (vp_cell c1 (n1, .inl (va_cpy f g 0 0 nn))))[a]? = some _ by simp [Array.getElem?_setIfInBounds, hal]) oth) (hD.set hw1) ⟨by simp; exact hS.1, fun q g1 g2 => by
      rw [oth q (fun z => g2 (z ▸ hAa))]
      exact hS.2.1 q g1 g2, fun q hq => by
      rcases List.mem_append.mp hq with h | h
      · exact hS.2.2 q h
      · obtain ⟨z, -, hz⟩ := List.mem_map.mp h
        exact hz ▸ hAa⟩) ls hl _ (by rw [← hT]; rfl) Y'
  exact ⟨t9, step t9 a9, b9⟩
theorem h_copyt {idx q p1 n1 : Nat} {f : Nat → Int32} (hd : decode M.2.2.1 pc = .ok (.invokestatic idx, 3)) (hlk : Cond.methodLink M.1 idx arraycopyName ∈ tbg) (h0 : Cond.native arraycopyName ∈ tbg) (h1 : Cond.static arraycopyName ∈ tbg) (h2 : Cond.initialized "java/lang/System" ∈ tbg) (he : (Z.2.2.2.2.1 q, FieldType.int, 5, fun j => Value.int (f j)) ∈ q_ro Z) (hs1 : q_shs[p1]? = some (.inr (0, n1))) (g5 : 5 ≤ n1) (hr : q_cat st ≤ 8) (hp : pc + 3 = pc') (kk : q_V (q_g Z) M (d + 1) 0 0 pc' lv st (q_W Z (sA m p1 (va_cpy f (m.2.2.1 p1) 0 0 5))) post) : q_V (q_g Z) M (d + 1) 0 0 pc lv (.int (nI 5) :: .int (nI 0) :: .ref (q_ad Z p1) :: .int (nI 0) :: .ref (Z.2.2.2.2.1 q) :: st) (q_W Z m) post := by
  refine q_copyT (G := q_g Z) (t := 0) hd hlk h0 h1 h2 he (q_W_get hs1) rfl (by decide) (Nat.le_refl _) g5 hr hp ?_
  have e2 : (q_W Z m).set p1 (q_ad Z p1, q_cl Z (sA m p1 (va_cpy f (m.2.2.1 p1) 0 0 5)) p1 (.inr (0, n1))) = q_W Z (sA m p1 (va_cpy f (m.2.2.1 p1) 0 0 5)) := q_W_set hs1 (fun q s' hq => q_cl_n rfl rfl (by simp [sA, q_up, hq]) rfl rfl)
  simp only [q_cl, sA, q_up_s] at e2
  exact e2 ▸ kk
end HROWS5
def s_usual : Nat → Nat := fun k => match k with | 0 => 8 | 1 => 4 | 2 => 10 | 3 => 12 | _ => 4
theorem s_usual_q : ∀ k, q_usual k = nI (s_usual k)
  | 0 => rfl
  | 1 => rfl
  | 2 => rfl
  | 3 => rfl
  | _ + 4 => rfl
theorem s_usual_ok : s_rok s_usual := ⟨⟨by decide, by decide⟩, ⟨by decide, by decide⟩, by decide, ⟨by decide, by decide⟩, ⟨by decide, by decide⟩⟩
set_option maxHeartbeats 4000000 in
set_option maxRecDepth 20000 in
theorem c_clear {Z : q_Z} {m : q_Mm} {d : Nat} {xs : Nat → Int64} {nt : Nat → Int32} : q_V (q_g Z) mX2_clear (d+1) 0 0 0 [some (.ref (q_ad Z 11))] [] (q_W Z m) (q_P Z fun r m2 => r = none ∧ Fr [11, 13] m m2 ∧ Col m2 11 0 0 xs s_usual nt) := by
  refine q_aload_n (pc' := 1) dX2_clear_0 rfl rfl ?_
  refine q_iconst (pc' := 2) (v := nI 0) dX2_clear_1 rfl rfl ?_
  refine h_puti (pc' := 5) dX2_clear_2 fX2_25 rfl rfl rfl rfl rfl ?_
  refine q_aload_n (pc' := 6) dX2_clear_5 rfl rfl ?_
  refine q_iconst (pc' := 7) (v := nI 0) dX2_clear_6 rfl rfl ?_
  refine h_puti (pc' := 10) dX2_clear_7 fX2_29 rfl rfl rfl rfl rfl ?_
  refine h_getsN (pc' := 13) dX2_clear_10 st_2 (by decide) nf_X2_32 rfl ?_
  refine q_iconst (pc' := 14) (v := nI 0) dX2_clear_13 rfl rfl ?_
  refine q_aload_n (pc' := 15) dX2_clear_14 rfl rfl ?_
  refine h_getr (pc' := 18) dX2_clear_15 fX2_15 rfl rfl rfl ?_
  refine q_iconst (pc' := 19) (v := nI 0) dX2_clear_18 rfl rfl ?_
  refine q_iconst (pc' := 20) (v := nI 5) dX2_clear_19 rfl rfl ?_
  refine h_copyt (pc' := 23) dX2_clear_20 lX2_35 cp_n cp_s cp_i ro_2 rfl (by decide) (Nat.le_of_ble_eq_true rfl) rfl ?_
  refine q_vret dX2_clear_23 rfl ⟨_, rfl, rfl, ((Fr.rf.I (by decide)).I (by decide)).A (by decide), ⟨rfl, rfl, by decide, by decide, fun i hi => absurd hi (by omega), fun i hi => ?_, fun i hi => absurd hi (by omega), s_usual_ok⟩⟩
  show va_cpy q_usual _ 0 0 5 i = _
  rw [cpy_in _ _ (Nat.zero_le _) (by omega), Nat.zero_add, Nat.sub_zero, s_usual_q]
def s_new (al : Bool) (xs : Nat → Int64) (i : Nat) : Bool := decide (s_first xs i = i) && (!al || s_mis (xs i))
set_option maxHeartbeats 4000000 in
set_option maxRecDepth 20000 in
theorem c_patterns {Z : q_Z} {m : q_Mm} {d : Nat} {n k : Nat} {al : Bool} {rl : Nat → Nat} {xs : Nat → Int64} {nt : Nat → Int32} (hC : Col m 19 n k xs rl nt) : q_V (q_g Z) mX2_patterns (d+2) 0 0 0 [some (.ref (q_ad Z 19)), some (.int (q_b al)), none, none] [] (q_W Z m) (q_P Z fun r m2 => r = some (.int (nI (s_cnt (s_new al xs) n))) ∧ m2 = m) := by
  have hn6 := hC.2.2.1
  refine q_iconst (pc' := 1) (v := nI 0) dX2_patterns_0 rfl rfl ?_
  refine q_istore_n (pc' := 2) (lv' := [_, _, _, _]) dX2_patterns_1 (by decide) rfl rfl ?_
  refine q_iconst (pc' := 3) (v := nI 0) dX2_patterns_2 rfl rfl ?_
  refine q_istore_n (pc' := 4) (lv' := [_, _, _, _]) dX2_patterns_3 (by decide) rfl rfl ?_
  suffices h : ∀ g j, j + g = n → q_V (q_g Z) mX2_patterns (d+2) 0 0 4 [some (.ref (q_ad Z 19)), some (.int (q_b al)), some (.int (nI (s_cnt (s_new al xs) j))), some (.int (nI j))] [] (q_W Z (m)) (q_P Z fun r m2 => r = some (.int (nI (s_cnt (s_new al xs) n))) ∧ m2 = m) from h n 0 (by omega)
  intro g
  induction g with
  | zero =>
    intro j hj
    obtain rfl : n = j := by omega
    refine q_iload_n (pc' := 5) dX2_patterns_4 rfl rfl ?_
    refine q_aload_n (pc' := 6) dX2_patterns_5 rfl rfl ?_
    refine h_getiE (pc' := 9) dX2_patterns_6 fX2_25 rfl rfl (hC.1) rfl ?_
    refine q_icmp_geN (tgt := 46) (pc' := 12) dX2_patterns_9 (by decide) rfl (by omega) (fun c_9 => ?_) (fun c_9 => ?_)
    · refine q_iload_n (pc' := 47) dX2_patterns_46 rfl rfl ?_
      refine q_iret dX2_patterns_47 rfl rfl ⟨_, rfl, rfl, rfl⟩
    · omega
  | succ g ih =>
    intro j hj
    have ih := ih (j + 1) (by omega)
    have hfl : s_first xs j ≤ j := by
      have := s_find_le (fun i => decide (xs i = xs j)) j 0
      unfold s_first
      omega
    refine q_iload_n (pc' := 5) dX2_patterns_4 rfl rfl ?_
    refine q_aload_n (pc' := 6) dX2_patterns_5 rfl rfl ?_
    refine h_getiE (pc' := 9) dX2_patterns_6 fX2_25 rfl rfl (hC.1) rfl ?_
    refine q_icmp_geN (tgt := 46) (pc' := 12) dX2_patterns_9 (by decide) rfl (by omega) (fun c_9 => ?_) (fun c_9 => ?_)
    · omega
    refine q_aload_n (pc' := 13) dX2_patterns_12 rfl rfl ?_
    refine q_iload_n (pc' := 14) dX2_patterns_13 rfl rfl ?_
    refine h_callV (pc' := 17) (M' := mX2_firstLike) (As := [_]) dX2_patterns_14 iX2_firstLike lX2_45 rfl rfl rfl rfl (Nat.le_of_ble_eq_true rfl) (Nat.le_of_ble_eq_true rfl) rfl rfl ((c_firstLike hC (by omega)).up (Nat.le_add_right d 1)) (fun r m' hq => ?_)
    obtain ⟨rfl, hmm⟩ := hq
    subst m'
    refine q_iload_n (pc' := 18) dX2_patterns_17 rfl rfl ?_
    refine q_icmp_neN (tgt := 40) (pc' := 21) dX2_patterns_18 (by decide) rfl (by omega) (fun c_18 => ?_) (fun c_18 => ?_)
    · rw [s_cnt_f (by unfold s_new; rw [decide_eq_false (by unfold s_first at c_18 ⊢; exact c_18)]; rfl)] at ih
      refine q_iincN (pc' := 43) (j := 1) (lv' := [_, _, _, _]) dX2_patterns_40 rfl (by decide) rfl rfl ?_
      refine q_goto (pc' := 4) dX2_patterns_43 (by decide) ?_
      exact ih
    refine q_iload_n (pc' := 22) dX2_patterns_21 rfl rfl ?_
    refine q_if_eqB (tgt := 37) (pc' := 25) dX2_patterns_22 (by decide) rfl (fun c_22 => ?_) (fun c_22 => ?_)
    · rw [s_cnt_t (by unfold s_new; rw [decide_eq_true c_18, c_22]; rfl)] at ih
      refine q_iincN (pc' := 40) (j := 1) (lv' := [_, _, _, _]) dX2_patterns_37 rfl (by decide) rfl rfl ?_
      refine q_iincN (pc' := 43) (j := 1) (lv' := [_, _, _, _]) dX2_patterns_40 rfl (by decide) rfl rfl ?_
      refine q_goto (pc' := 4) dX2_patterns_43 (by decide) ?_
      exact ih
    refine q_aload_n (pc' := 26) dX2_patterns_25 rfl rfl ?_
    refine h_getr (pc' := 29) dX2_patterns_26 fX2_9 rfl rfl rfl ?_
    refine q_iload_n (pc' := 30) dX2_patterns_29 rfl rfl ?_
    refine h_laldE (pc' := 31) dX2_patterns_30 rfl (rfl) (by omega) (by decide) (hC.2.2.2.2.1 j (by omega)) rfl ?_
    refine h_callSN (pc' := 34) (M' := mX10_isMissing) (As := [_]) dX2_patterns_31 iX10_isMissing nm_X2_49 rfl rfl (Nat.le_of_ble_eq_true rfl) (Nat.le_of_ble_eq_true rfl) rfl rfl (c_isMissing) (fun r m' hq => ?_)
    obtain ⟨rfl, hmm⟩ := hq
    subst m'
    refine q_if_eqB (tgt := 40) (pc' := 37) dX2_patterns_34 (by decide) rfl (fun c_34 => ?_) (fun c_34 => ?_)
    · rw [s_cnt_f (by unfold s_new; rw [c_22, c_34]; simp)] at ih
      refine q_iincN (pc' := 43) (j := 1) (lv' := [_, _, _, _]) dX2_patterns_40 rfl (by decide) rfl rfl ?_
      refine q_goto (pc' := 4) dX2_patterns_43 (by decide) ?_
      exact ih
    · rw [s_cnt_t (by unfold s_new; rw [decide_eq_true c_18, c_22, c_34]; rfl)] at ih
      refine q_iincN (pc' := 40) (j := 1) (lv' := [_, _, _, _]) dX2_patterns_37 rfl (by decide) rfl rfl ?_
      refine q_iincN (pc' := 43) (j := 1) (lv' := [_, _, _, _]) dX2_patterns_40 rfl (by decide) rfl rfl ?_
      refine q_goto (pc' := 4) dX2_patterns_43 (by decide) ?_
      exact ih
