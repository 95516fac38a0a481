/-! ===== Fits.learn ===== -/
theorem FitsOk.fr {S : List Nat} {m m2 : q_Mm} (h : FitsOk m) (f : Fr S m m2) (h1 : 191 ∉ S) (h2 : 192 ∉ S) (h3 : 193 ∉ S) : FitsOk m2 := by
  unfold FitsOk
  rw [f.a h1, f.l h2, f.l h3]
  exact h
theorem DblOk.fr {S : List Nat} {m m2 : q_Mm} (h : DblOk m) (f : Fr S m m2) (h2 : 2 ∉ S) (h3 : 3 ∉ S) (h4 : 4 ∉ S) (h5 : 5 ∉ S) : DblOk m2 := by
  unfold DblOk
  rw [f.d h2, f.d h3, f.d h4, f.d h5]
  exact h
theorem CdOk.fr {S : List Nat} {m m2 : q_Mm} (h : CdOk m) (f : Fr S m m2) (h1 : 190 ∉ S) : CdOk m2 := by
  unfold CdOk
  rw [f.a h1]
  exact h
theorem z_nb1 : vp_nar .boolean (nI 1) = nI 1 := by decide
set_option maxHeartbeats 4000000 in
set_option maxRecDepth 20000 in
theorem c_learn {Z : q_Z} {m : q_Mm} {d : Nat} {n k : Nat} {rl : Nat → Nat} {xs : Nat → Int64} {nt : Nat → Int32} (hD : DblOk m) (hCd : CdOk m) (hF : FitsOk m) (hC : Col m 19 n k xs rl nt) : q_V (q_g Z) mX4_learn (d+3) 0 0 0 [some (.ref (q_ad Z 189)), some (.ref (q_ad Z 19)), none] [] (q_W Z m) (q_P Z fun r m2 => r = none ∧ Fr [191, 192, 193] m m2 ∧ FitsOk m2 ∧ ∀ i, i < n → ∀ p, p < 120 → m2.2.2.2.1 193 (i * 120 + p) = s_wv (xs i) p) := by
  have hn := hC.2.2.1
  refine q_iconst (pc' := 1) (v := nI 0) dX4_learn_0 rfl rfl ?_
  refine q_istore_n (pc' := 2) (lv' := [_, _, _]) dX4_learn_1 (by decide) rfl rfl ?_
  suffices h : ∀ c j (m1 : q_Mm), j + c = n → Fr [191, 192, 193] m m1 → FitsOk m1 → (∀ i, i < j → ∀ p, p < 120 → m1.2.2.2.1 193 (i * 120 + p) = s_wv (xs i) p) → q_V (q_g Z) mX4_learn (d+3) 0 0 2 [some (.ref (q_ad Z 189)), some (.ref (q_ad Z 19)), some (.int (nI j))] [] (q_W Z (m1)) (q_P Z fun r m2 => r = none ∧ Fr [191, 192, 193] m m2 ∧ FitsOk m2 ∧ ∀ i, i < n → ∀ p, p < 120 → m2.2.2.2.1 193 (i * 120 + p) = s_wv (xs i) p) from h n 0 m (by omega) Fr.rf hF (fun i h => absurd h (Nat.not_lt_zero i))
  intro c
  induction c with
  | zero =>
    intro j m1 hj f1 F1 e1
    have hC1 := hC.fr f1 (by decide) (by decide) (by decide) (by decide)
    obtain rfl : n = j := by omega
    refine q_iload_n (pc' := 3) dX4_learn_2 rfl rfl ?_
    refine q_aload_n (pc' := 4) dX4_learn_3 rfl rfl ?_
    refine h_getiE (pc' := 7) dX4_learn_4 fX4_30 rfl rfl (hC1.1) rfl ?_
    refine q_icmp_geN (tgt := 65) (pc' := 10) dX4_learn_7 (by decide) rfl (by omega) (fun c_7 => ?_) (fun c_7 => ?_)
    · refine q_vret dX4_learn_65 rfl ⟨_, rfl, rfl, f1, F1, e1⟩
    · omega
  | succ c ih =>
    intro j m1 hj f1 F1 e1
    have hC1 := hC.fr f1 (by decide) (by decide) (by decide) (by decide)
    have hjn : j < n := by omega
    have hxj := hC1.2.2.2.2.1 j hjn
    have go : q_V (q_g Z) mX4_learn (d+3) 0 0 35 [some (.ref (q_ad Z 189)), some (.ref (q_ad Z 19)), some (.int (nI j))] [] (q_W Z (m1)) (q_P Z fun r m2 => r = none ∧ Fr [191, 192, 193] m m2 ∧ FitsOk m2 ∧ ∀ i, i < n → ∀ p, p < 120 → m2.2.2.2.1 193 (i * 120 + p) = s_wv (xs i) p) := by
      refine q_aload_n (pc' := 36) dX4_learn_35 rfl rfl ?_
      refine h_getr (pc' := 39) dX4_learn_36 fX4_15 rfl rfl rfl ?_
      refine q_iload_n (pc' := 40) dX4_learn_39 rfl rfl ?_
      refine q_iconst (pc' := 41) (v := nI 1) dX4_learn_40 rfl rfl ?_
      refine h_zast (pc' := 42) dX4_learn_41 rfl (rfl) (by omega) (by decide) rfl ?_
      rw [z_nb1]
      refine q_aload_n (pc' := 43) dX4_learn_42 rfl rfl ?_
      refine h_getr (pc' := 46) dX4_learn_43 fX4_19 rfl rfl rfl ?_
      refine q_iload_n (pc' := 47) dX4_learn_46 rfl rfl ?_
      refine q_aload_n (pc' := 48) dX4_learn_47 rfl rfl ?_
      refine h_getr (pc' := 51) dX4_learn_48 fX4_36 rfl rfl rfl ?_
      refine q_iload_n (pc' := 52) dX4_learn_51 rfl rfl ?_
      refine h_laldE (pc' := 53) dX4_learn_52 rfl (rfl) (by omega) (by decide) (hxj) rfl ?_
      refine h_last (pc' := 54) dX4_learn_53 rfl (rfl) (by omega) (by decide) rfl ?_
      generalize hm2 : sL (sA m1 191 (q_u (m1.2.2.1 191) j (nI 1))) 192 (q_u ((sA m1 191 (q_u (m1.2.2.1 191) j (nI 1))).2.2.2.1 192) j (xs j)) = m2
      have f2 : Fr [191, 192, 193] m1 m2 := hm2 ▸ (Fr.rf.A (by decide)).L (by decide)
      have g1 : m2.2.2.1 191 = q_u (m1.2.2.1 191) j (nI 1) := hm2 ▸ rfl
      have g2 : m2.2.2.2.1 192 = q_u (m1.2.2.2.1 192) j (xs j) := hm2 ▸ rfl
      have g3 : m2.2.2.2.1 193 = m1.2.2.2.1 193 := hm2 ▸ rfl
      clear hm2
      have hD2 := (hD.fr f1 (by decide) (by decide) (by decide) (by decide)).fr f2 (by decide) (by decide) (by decide) (by decide)
      have hCd2 := (hCd.fr f1 (by decide)).fr f2 (by decide)
      refine q_aload_n (pc' := 55) dX4_learn_54 rfl rfl ?_
      refine q_iload_n (pc' := 56) dX4_learn_55 rfl rfl ?_
      refine h_callV (pc' := 59) (M' := mX4_learnOne) (As := [_]) dX4_learn_56 iX4_learnOne lX4_37 rfl rfl rfl rfl (Nat.le_of_ble_eq_true rfl) (Nat.le_of_ble_eq_true rfl) rfl rfl (c_learnOne hD2 hCd2 (by omega) (v := xs j) (by rw [g2, q_u_s])) (fun r m' hq => ?_)
      obtain ⟨rfl, f3, e3, e4⟩ := hq
      refine q_iincN (pc' := 62) (j := 1) (lv' := [_, _, _]) dX4_learn_59 rfl (by decide) rfl rfl ?_
      refine q_goto (pc' := 2) dX4_learn_62 (by decide) ?_
      have fz : m'.2.2.1 191 = q_u (m1.2.2.1 191) j (nI 1) := (f3.a (by decide)).trans g1
      have fy : m'.2.2.2.1 192 = q_u (m1.2.2.2.1 192) j (xs j) := (f3.l (by decide)).trans g2
      refine ih (j + 1) _ (by omega) (f1.trans (f2.trans (f3.mono (by decide)))) ?_ ?_
      · intro i hi
        rw [fz, fy]
        by_cases z : i = j
        · rw [z, q_u_s, q_u_s]
          exact Or.inr ⟨rfl, e3⟩
        · rw [q_u_n _ _ z, q_u_n _ _ z]
          rcases F1 i hi with q | q
          · exact Or.inl q
          · refine Or.inr ⟨q.1, fun p hp => ?_⟩
            rw [e4 _ (by omega), g3]
            exact q.2 p hp
      · intro i hi p hp
        by_cases z : i = j
        · rw [z]; exact e3 p hp
        · rw [e4 _ (by omega), g3]
          exact e1 i (by omega) p hp
    refine q_iload_n (pc' := 3) dX4_learn_2 rfl rfl ?_
    refine q_aload_n (pc' := 4) dX4_learn_3 rfl rfl ?_
    refine h_getiE (pc' := 7) dX4_learn_4 fX4_30 rfl rfl (hC1.1) rfl ?_
    refine q_icmp_geN (tgt := 65) (pc' := 10) dX4_learn_7 (by decide) rfl (by omega) (fun c_7 => ?_) (fun c_7 => ?_)
    · omega
    rcases F1 j (by omega) with q | q
    · refine q_aload_n (pc' := 11) dX4_learn_10 rfl rfl ?_
      refine h_getr (pc' := 14) dX4_learn_11 fX4_15 rfl rfl rfl ?_
      refine q_iload_n (pc' := 15) dX4_learn_14 rfl rfl ?_
      refine h_zaldE (pc' := 16) dX4_learn_15 rfl (rfl) (by omega) (by decide) (q) rfl ?_
      refine q_if_eqN (tgt := 35) (pc' := 19) dX4_learn_16 (by decide) rfl (by omega) (fun c_16 => ?_) (fun c_16 => ?_)
      · exact go
      · exact absurd c_16 (Nat.lt_irrefl 0)
    · refine q_aload_n (pc' := 11) dX4_learn_10 rfl rfl ?_
      refine h_getr (pc' := 14) dX4_learn_11 fX4_15 rfl rfl rfl ?_
      refine q_iload_n (pc' := 15) dX4_learn_14 rfl rfl ?_
      refine h_zaldE (pc' := 16) dX4_learn_15 rfl (rfl) (by omega) (by decide) (q.1) rfl ?_
      refine q_if_eqN (tgt := 35) (pc' := 19) dX4_learn_16 (by decide) rfl (by omega) (fun c_16 => ?_) (fun c_16 => ?_)
      · exact absurd c_16 (by decide)
      refine q_aload_n (pc' := 20) dX4_learn_19 rfl rfl ?_
      refine h_getr (pc' := 23) dX4_learn_20 fX4_19 rfl rfl rfl ?_
      refine q_iload_n (pc' := 24) dX4_learn_23 rfl rfl ?_
      refine h_lald (pc' := 25) dX4_learn_24 rfl (rfl) (by omega) (by decide) rfl ?_
      refine q_aload_n (pc' := 26) dX4_learn_25 rfl rfl ?_
      refine h_getr (pc' := 29) dX4_learn_26 fX4_36 rfl rfl rfl ?_
      refine q_iload_n (pc' := 30) dX4_learn_29 rfl rfl ?_
      refine h_laldE (pc' := 31) dX4_learn_30 rfl (rfl) (by omega) (by decide) (hxj) rfl ?_
      refine q_lcmp (pc' := 32) dX4_learn_31 rfl ?_
      refine q_if_eqL (tgt := 59) (pc' := 35) dX4_learn_32 (by decide) rfl (fun c_32 => ?_) (fun c_32 => ?_)
      · refine q_iincN (pc' := 62) (j := 1) (lv' := [_, _, _]) dX4_learn_59 rfl (by decide) rfl rfl ?_
        refine q_goto (pc' := 2) dX4_learn_62 (by decide) ?_
        refine ih (j + 1) _ (by omega) f1 F1 (fun i hi p hp => ?_)
        by_cases z : i = j
        · rw [z, q.2 p hp, c_32]
        · exact e1 i (by omega) p hp
      · exact go
