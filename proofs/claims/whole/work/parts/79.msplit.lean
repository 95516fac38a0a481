/-! ===== the reference: PARTS of those at hand ===== -/
theorem z_or0 (x : Int32) : x ||| nI 0 = x := by
  rw [show nI 0 = 0 from rfl]
  exact Int32.or_zero
theorem z_m1i {q : Nat} (h : q < 2 ^ 31) : ¬ nI q = -1 := z_m1n h
set_option maxHeartbeats 4000000 in
set_option maxRecDepth 20000 in
theorem k_codeOf {Z : q_Z} {m : q_Mm} {d : Nat} {n P : Nat} {v : Int64} {hi : Nat → Int32} {rl : Nat → Nat} {xs : Nat → Int64} (hV : MV m n rl xs) (hP : m.1 215 32 = nI P) (hP16 : P ≤ 16) (hr : ∀ i, i < P → m.2.2.1 228 i = hi i) : q_V (q_g Z) mX11_codeOf (d+1) 0 0 0 [some (.ref (q_ad Z 215)), some (.long v), none, none] [] (q_W Z m) (q_P Z fun r m2 => r = some (.int (s_ci hi P (s_part v (rl 3)))) ∧ m2 = m) := by
  refine q_iconst (pc' := 1) (v := nI 0) dX11_codeOf_0 rfl rfl ?_
  refine q_istore_n (pc' := 2) (lv' := [_, _, _, _]) dX11_codeOf_1 (by decide) rfl rfl ?_
  suffices h : ∀ g j, j + g = P → s_find (fun j => decide (hi j = s_part v (rl 3))) g j = s_code hi P (s_part v (rl 3)) → q_V (q_g Z) mX11_codeOf (d+1) 0 0 2 [some (.ref (q_ad Z 215)), some (.long v), none, some (.int (nI j))] [] (q_W Z (m)) (q_P Z fun r m2 => r = some (.int (s_ci hi P (s_part v (rl 3)))) ∧ m2 = m) from h P 0 (Nat.zero_add _) rfl
  intro g
  induction g with
  | zero =>
    intro j hj hs
    obtain rfl : j = P := by omega
    refine q_iload_n (pc' := 3) dX11_codeOf_2 rfl rfl ?_
    refine q_aload_n (pc' := 4) dX11_codeOf_3 rfl rfl ?_
    refine h_getiE (pc' := 7) dX11_codeOf_4 fX11_320 rfl rfl (hP) rfl ?_
    refine q_icmp_geN (tgt := 32) (pc' := 10) dX11_codeOf_7 (by decide) rfl (by omega) (fun c_7 => ?_) (fun c_7 => ?_)
    rotate_left
    · omega
    have hs : j = s_code hi j (s_part v (rl 3)) := hs
    refine q_iconst (pc' := 33) (v := (-1)) dX11_codeOf_32 rfl rfl ?_
    refine q_iret dX11_codeOf_33 rfl rfl ⟨_, rfl, by unfold s_ci; rw [if_neg (by omega)], rfl⟩
  | succ g ih =>
    intro j hj hs
    refine q_iload_n (pc' := 3) dX11_codeOf_2 rfl rfl ?_
    refine q_aload_n (pc' := 4) dX11_codeOf_3 rfl rfl ?_
    refine h_getiE (pc' := 7) dX11_codeOf_4 fX11_320 rfl rfl (hP) rfl ?_
    refine q_icmp_geN (tgt := 32) (pc' := 10) dX11_codeOf_7 (by decide) rfl (by omega) (fun c_7 => ?_) (fun c_7 => ?_)
    · omega
    refine q_aload_n (pc' := 11) dX11_codeOf_10 rfl rfl ?_
    refine h_getr (pc' := 14) dX11_codeOf_11 fX11_48 rfl rfl rfl ?_
    refine q_iload_n (pc' := 15) dX11_codeOf_14 rfl rfl ?_
    refine h_ialdE (pc' := 16) dX11_codeOf_15 rfl (rfl) (by omega) (by decide) (hr j (by omega)) rfl ?_
    refine q_aload_n (pc' := 17) dX11_codeOf_16 rfl rfl ?_
    refine q_lload_n (pc' := 18) dX11_codeOf_17 rfl rfl ?_
    refine h_callV (pc' := 21) (M' := mX11_partOf) (As := [_]) dX11_codeOf_18 iX11_partOf lX11_317 rfl rfl rfl rfl (Nat.le_of_ble_eq_true rfl) (Nat.le_of_ble_eq_true rfl) rfl rfl ((k_partOf hV).up (Nat.zero_le _)) (fun r m' hq => ?_)
    obtain ⟨rfl, hmm⟩ := hq
    subst m'
    refine q_icmp_ne (tgt := 26) (pc' := 24) dX11_codeOf_21 (by decide) rfl (fun c_21 => ?_) (fun c_21 => ?_)
    · rw [s_find_f (decide_eq_false c_21)] at hs
      refine q_iincN (pc' := 29) (j := 1) (lv' := [_, _, _, _]) dX11_codeOf_26 rfl (by decide) rfl rfl ?_
      refine q_goto (pc' := 2) dX11_codeOf_29 (by decide) ?_
      exact ih (j + 1) (by omega) hs
    · rw [s_find_t (decide_eq_true c_21)] at hs
      refine q_iload_n (pc' := 25) dX11_codeOf_24 rfl rfl ?_
      refine q_iret dX11_codeOf_25 rfl rfl ⟨_, rfl, by unfold s_ci; rw [if_pos (by omega), ← hs], rfl⟩
set_option maxHeartbeats 4000000 in
set_option maxRecDepth 20000 in
theorem k_sp1 {Z : q_Z} {m : q_Mm} {d n k : Nat} {g : Nat → Int64} {ps : Nat → Int32} {rl : Nat → Nat} {xs : Nat → Int64} {Q : _} (hV : MV m n rl xs) (hH : MH m k g) (hk : k ≤ 16) (hps : ∀ i, i < k → s_part (g i) (rl 3) = ps i) (kk : ∀ a ix m1 u v, En ps k a ix → Fr [228, 229] m m1 → (∀ t, t < a → m1.2.2.1 228 t = ps (ix t) ∧ m1.2.2.1 229 t = nI (s_often ps k (ix t))) → q_V (q_g Z) mX11_laySplit (d + 1) 0 0 91 [some (.ref (q_ad Z 215)), some (.int (nI a)), some (.int u), v, none, none] [] (q_W Z (m1)) Q) : q_V (q_g Z) mX11_laySplit (d + 1) 0 0 0 [some (.ref (q_ad Z 215)), none, none, none, none, none] [] (q_W Z (m)) Q := by
  refine q_iconst (pc' := 1) (v := nI 0) dX11_laySplit_0 rfl rfl ?_
  refine q_istore_n (pc' := 2) (lv' := [_, _, _, _, _, _]) dX11_laySplit_1 (by decide) rfl rfl ?_
  refine q_iconst (pc' := 3) (v := nI 0) dX11_laySplit_2 rfl rfl ?_
  refine q_istore_n (pc' := 4) (lv' := [_, _, _, _, _, _]) dX11_laySplit_3 (by decide) rfl rfl ?_
  suffices h : ∀ c i a ix m1 v, i + c = k → En ps i a ix → Fr [228, 229] m m1 → (∀ t, t < a → m1.2.2.1 228 t = ps (ix t) ∧ m1.2.2.1 229 t = nI (s_often ps i (ix t))) → q_V (q_g Z) mX11_laySplit (d + 1) 0 0 4 [some (.ref (q_ad Z 215)), some (.int (nI a)), some (.int (nI i)), v, none, none] [] (q_W Z (m1)) Q from h k 0 0 (fun _ => 0) m none (Nat.zero_add _) ⟨Nat.le_refl _, fun t h => absurd h (by omega), fun t u h1 h2 => by omega, fun j h => absurd h (by omega)⟩ Fr.rf (fun t h => absurd h (by omega))
  intro c
  induction c with
  | zero =>
    intro i a ix m1 v hi hE f1 hA
    obtain rfl : i = k := by omega
    have e25 : m1.1 215 25 = nI i := (congrFun (f1.i (by decide)) 25).trans hH.1
    refine q_iload_n (pc' := 5) dX11_laySplit_4 rfl rfl ?_
    refine q_aload_n (pc' := 6) dX11_laySplit_5 rfl rfl ?_
    refine h_getiE (pc' := 9) dX11_laySplit_6 fX11_286 rfl rfl (e25) rfl ?_
    refine q_icmp_geN (tgt := 91) (pc' := 12) dX11_laySplit_9 (by decide) rfl (by omega) (fun c_9 => ?_) (fun c_9 => ?_)
    · exact kk a ix m1 _ v hE f1 hA
    · omega
  | succ c ih =>
    intro i a ix m1 v hi hE f1 hA
    have e25 : m1.1 215 25 = nI k := (congrFun (f1.i (by decide)) 25).trans hH.1
    have eg : m1.2.2.2.1 227 i = g i := (congrFun (f1.l (by decide)) i).trans (hH.2 i (by omega))
    have hV1 := hV.fr f1 (congrFun (f1.i (by decide)) 20) (by decide) (by decide)
    have hpi := hps i (by omega)
    obtain ⟨E0, E1, E2, E3⟩ := hE
    refine q_iload_n (pc' := 5) dX11_laySplit_4 rfl rfl ?_
    refine q_aload_n (pc' := 6) dX11_laySplit_5 rfl rfl ?_
    refine h_getiE (pc' := 9) dX11_laySplit_6 fX11_286 rfl rfl (e25) rfl ?_
    refine q_icmp_geN (tgt := 91) (pc' := 12) dX11_laySplit_9 (by decide) rfl (by omega) (fun c_9 => ?_) (fun c_9 => ?_)
    · omega
    refine q_iconst (pc' := 13) (v := nI 0) dX11_laySplit_12 rfl rfl ?_
    refine q_istore_n (pc' := 14) (lv' := [_, _, _, _, _, _]) dX11_laySplit_13 (by decide) rfl rfl ?_
    suffices h : ∀ c2 t, t + c2 = a → (∀ s, s < t → ps (ix s) ≠ ps i) → q_V (q_g Z) mX11_laySplit (d + 1) 0 0 14 [some (.ref (q_ad Z 215)), some (.int (nI a)), some (.int (nI i)), some (.int (nI t)), none, none] [] (q_W Z (m1)) Q from h a 0 (Nat.zero_add _) (fun s h => absurd h (by omega))
    intro c2
    induction c2 with
    | zero =>
      intro t ht hno
      obtain rfl : t = a := by omega
      have hFo : Fo ps i := by
        obtain ⟨g1, g2, g3⟩ := find_fo (ps := ps) (c := i)
        rcases Nat.eq_or_lt_of_le g1 with q | q
        · rw [q] at g3; exact g3
        · obtain ⟨s, hs, e⟩ := E3 _ q g3
          exact absurd (by rw [e]; exact g2) (hno s hs)
      have hfi : s_find (fun j => decide (ps j = ps i)) i 0 = i := by
        rcases Nat.lt_or_ge (s_find (fun j => decide (ps j = ps i)) i 0) i with q | q
        · obtain ⟨g1, g2, g3⟩ := find_fo (ps := ps) (c := i)
          exact absurd g2 (hFo _ q)
        · have := s_find_le (fun j => decide (ps j = ps i)) i 0; omega
      refine q_iload_n (pc' := 15) dX11_laySplit_14 rfl rfl ?_
      refine q_iload_n (pc' := 16) dX11_laySplit_15 rfl rfl ?_
      refine q_icmp_geN (tgt := 44) (pc' := 19) dX11_laySplit_16 (by decide) rfl (by omega) (fun c_16 => ?_) (fun c_16 => ?_)
      rotate_left
      · omega
      refine q_iload_n (pc' := 45) dX11_laySplit_44 rfl rfl ?_
      refine q_iload_n (pc' := 46) dX11_laySplit_45 rfl rfl ?_
      refine q_icmp_neN (tgt := 75) (pc' := 49) dX11_laySplit_46 (by decide) rfl (by omega) (fun c_46 => ?_) (fun c_46 => ?_)
      · omega
      refine q_aload_n (pc' := 50) dX11_laySplit_49 rfl rfl ?_
      refine h_getr (pc' := 53) dX11_laySplit_50 fX11_48 rfl rfl rfl ?_
      refine q_iload_n (pc' := 54) dX11_laySplit_53 rfl rfl ?_
      refine q_aload_n (pc' := 55) dX11_laySplit_54 rfl rfl ?_
      refine q_aload_n (pc' := 56) dX11_laySplit_55 rfl rfl ?_
      refine h_getr (pc' := 59) dX11_laySplit_56 fX11_45 rfl rfl rfl ?_
      refine q_iload_n (pc' := 60) dX11_laySplit_59 rfl rfl ?_
      refine h_laldE (pc' := 61) dX11_laySplit_60 rfl (rfl) (by omega) (by decide) (eg) rfl ?_
      refine h_callV (pc' := 64) (M' := mX11_partOf) (As := [_]) dX11_laySplit_61 iX11_partOf lX11_317 rfl rfl rfl rfl (Nat.le_of_ble_eq_true rfl) (Nat.le_of_ble_eq_true rfl) rfl rfl ((k_partOf hV1).up (Nat.zero_le _)) (fun r m' hq => ?_)
      obtain ⟨rfl, hmm⟩ := hq
      subst m'
      rw [hpi]
      refine h_iast (pc' := 65) dX11_laySplit_64 rfl (rfl) (by omega) (by decide) rfl ?_
      refine q_aload_n (pc' := 66) dX11_laySplit_65 rfl rfl ?_
      refine h_getr (pc' := 69) dX11_laySplit_66 fX11_51 rfl rfl rfl ?_
      refine q_iload_n (pc' := 70) dX11_laySplit_69 rfl rfl ?_
      refine q_iconst (pc' := 71) (v := nI 0) dX11_laySplit_70 rfl rfl ?_
      refine h_iast (pc' := 72) dX11_laySplit_71 rfl (rfl) (by omega) (by decide) rfl ?_
      refine q_iincN (pc' := 75) (j := 1) (lv' := [_, _, _, _, _, _]) dX11_laySplit_72 rfl (by decide) rfl rfl ?_
      have z0 : (sA (sA m1 228 (q_u (m1.2.2.1 228) t (ps i))) 229 (q_u ((sA m1 228 (q_u (m1.2.2.1 228) t (ps i))).2.2.1 229) t (nI 0))).2.2.1 229 t = nI 0 := by
        show q_u (m1.2.2.1 229) t (nI 0) t = nI 0
        rw [q_u_s]
      refine q_aload_n (pc' := 76) dX11_laySplit_75 rfl rfl ?_
      refine h_getr (pc' := 79) dX11_laySplit_76 fX11_51 rfl rfl rfl ?_
      refine q_iload_n (pc' := 80) dX11_laySplit_79 rfl rfl ?_
      refine q_dup2_11 (pc' := 81) dX11_laySplit_80 rfl rfl rfl ?_
      refine h_ialdE (pc' := 82) dX11_laySplit_81 rfl (rfl) (by omega) (by decide) (z0) rfl ?_
      refine q_iconst (pc' := 83) (v := nI 1) dX11_laySplit_82 rfl rfl ?_
      refine q_iaddN (pc' := 84) dX11_laySplit_83 rfl ?_
      refine h_iast (pc' := 85) dX11_laySplit_84 rfl (rfl) (by omega) (by decide) rfl ?_
      refine q_iincN (pc' := 88) (j := 1) (lv' := [_, _, _, _, _, _]) dX11_laySplit_85 rfl (by decide) rfl rfl ?_
      refine q_goto (pc' := 4) dX11_laySplit_88 (by decide) ?_
      refine ih (i + 1) (t + 1) (q_u ix t i) _ _ (by omega) ⟨by omega, fun s hs => ?_, fun s u h1 h2 => ?_, fun j hj hf => ?_⟩ (((f1.A (by decide)).A (by decide)).A (by decide)) (fun s hs => ?_)
      · by_cases z : s = t
        · rw [z, q_u_s]; exact ⟨by omega, hFo⟩
        · rw [q_u_n _ _ z]
          have := E1 s (by omega)
          exact ⟨by omega, this.2⟩
      · rw [q_u_n _ _ (by omega)]
        by_cases z : u = t
        · rw [z, q_u_s]
          exact (E1 s (by omega)).1
        · rw [q_u_n _ _ z]; exact E2 s u h1 (by omega)
      · by_cases z : j = i
        · exact ⟨t, by omega, by rw [q_u_s, z]⟩
        · obtain ⟨s, hs, e⟩ := E3 j (by omega) hf
          exact ⟨s, by omega, by rw [q_u_n _ _ (by omega)]; exact e⟩
      · show q_u (m1.2.2.1 228) t (ps i) s = _ ∧ q_u (q_u (m1.2.2.1 229) t (nI 0)) t (nI (0 + 1)) s = _
        by_cases z : s = t
        · rw [z, q_u_s, q_u_s, q_u_s, often_c, if_pos hfi]
          exact ⟨rfl, rfl⟩
        · have h1 := E1 s (by omega)
          rw [q_u_n _ _ z, q_u_n _ _ z, q_u_n _ _ z, q_u_n _ _ z, often_s h1.1, if_neg (by omega)]
          exact hA s (by omega)
    | succ c2 ih2 =>
      intro t ht hno
      have hAt := hA t (by omega)
      have h1 := E1 t (by omega)
      refine q_iload_n (pc' := 15) dX11_laySplit_14 rfl rfl ?_
      refine q_iload_n (pc' := 16) dX11_laySplit_15 rfl rfl ?_
      refine q_icmp_geN (tgt := 44) (pc' := 19) dX11_laySplit_16 (by decide) rfl (by omega) (fun c_16 => ?_) (fun c_16 => ?_)
      · omega
      refine q_aload_n (pc' := 20) dX11_laySplit_19 rfl rfl ?_
      refine h_getr (pc' := 23) dX11_laySplit_20 fX11_48 rfl rfl rfl ?_
      refine q_iload_n (pc' := 24) dX11_laySplit_23 rfl rfl ?_
      refine h_ialdE (pc' := 25) dX11_laySplit_24 rfl (rfl) (by omega) (by decide) (hAt.1) rfl ?_
      refine q_aload_n (pc' := 26) dX11_laySplit_25 rfl rfl ?_
      refine q_aload_n (pc' := 27) dX11_laySplit_26 rfl rfl ?_
      refine h_getr (pc' := 30) dX11_laySplit_27 fX11_45 rfl rfl rfl ?_
      refine q_iload_n (pc' := 31) dX11_laySplit_30 rfl rfl ?_
      refine h_laldE (pc' := 32) dX11_laySplit_31 rfl (rfl) (by omega) (by decide) (eg) rfl ?_
      refine h_callV (pc' := 35) (M' := mX11_partOf) (As := [_]) dX11_laySplit_32 iX11_partOf lX11_317 rfl rfl rfl rfl (Nat.le_of_ble_eq_true rfl) (Nat.le_of_ble_eq_true rfl) rfl rfl ((k_partOf hV1).up (Nat.zero_le _)) (fun r m' hq => ?_)
      obtain ⟨rfl, hmm⟩ := hq
      subst m'
      rw [hpi]
      refine q_icmp_eq (tgt := 44) (pc' := 38) dX11_laySplit_35 (by decide) rfl (fun c_35 => ?_) (fun c_35 => ?_)
      · have hfi := fo_find h1.1 c_35 h1.2
        have hob := s_often_le ps i (ix t)
        refine q_iload_n (pc' := 45) dX11_laySplit_44 rfl rfl ?_
        refine q_iload_n (pc' := 46) dX11_laySplit_45 rfl rfl ?_
        refine q_icmp_neN (tgt := 75) (pc' := 49) dX11_laySplit_46 (by decide) rfl (by omega) (fun c_46 => ?_) (fun c_46 => ?_)
        rotate_left
        · omega
        refine q_aload_n (pc' := 76) dX11_laySplit_75 rfl rfl ?_
        refine h_getr (pc' := 79) dX11_laySplit_76 fX11_51 rfl rfl rfl ?_
        refine q_iload_n (pc' := 80) dX11_laySplit_79 rfl rfl ?_
        refine q_dup2_11 (pc' := 81) dX11_laySplit_80 rfl rfl rfl ?_
        refine h_ialdE (pc' := 82) dX11_laySplit_81 rfl (rfl) (by omega) (by decide) (hAt.2) rfl ?_
        refine q_iconst (pc' := 83) (v := nI 1) dX11_laySplit_82 rfl rfl ?_
        refine q_iaddN (pc' := 84) dX11_laySplit_83 rfl ?_
        refine h_iast (pc' := 85) dX11_laySplit_84 rfl (rfl) (by omega) (by decide) rfl ?_
        refine q_iincN (pc' := 88) (j := 1) (lv' := [_, _, _, _, _, _]) dX11_laySplit_85 rfl (by decide) rfl rfl ?_
        refine q_goto (pc' := 4) dX11_laySplit_88 (by decide) ?_
        refine ih (i + 1) a ix _ _ (by omega) ⟨by omega, fun s hs => ?_, E2, fun j hj hf => ?_⟩ (f1.A (by decide)) (fun s hs => ?_)
        · have := E1 s hs
          exact ⟨by omega, this.2⟩
        · by_cases z : j = i
          · rw [z] at hf; exact absurd c_35 (hf _ h1.1)
          · exact E3 j (by omega) hf
        · show m1.2.2.1 228 s = _ ∧ q_u (m1.2.2.1 229) t (nI (s_often ps i (ix t) + 1)) s = _
          have h2 := E1 s hs
          rw [often_s h2.1]
          by_cases z : s = t
          · rw [z, q_u_s, if_pos hfi]
            exact ⟨hAt.1, rfl⟩
          · have hne : ix t ≠ ix s := fun e => by
              rcases Nat.lt_trichotomy s t with q | q | q
              · have := E2 s t q (by omega); omega
              · exact z q
              · have := E2 t s q hs; omega
            rw [q_u_n _ _ z, hfi, if_neg hne]
            exact hA s hs
      · refine q_iincN (pc' := 41) (j := 1) (lv' := [_, _, _, _, _, _]) dX11_laySplit_38 rfl (by decide) rfl rfl ?_
        refine q_goto (pc' := 14) dX11_laySplit_41 (by decide) ?_
        refine ih2 (t + 1) (by omega) (fun s hs => ?_)
        by_cases z : s = t
        · rw [z]; exact c_35
        · exact hno s (by omega)
set_option maxHeartbeats 4000000 in
set_option maxRecDepth 20000 in
theorem k_sp2 {Z : q_Z} {m : q_Mm} {d a : Nat} {u0 : Int32} {v0 : Option Value} {PS : Nat → Int32} {F : Nat → Nat} {Q : _} (ha : a ≤ 16) (hF : ∀ t, t < a → F t ≤ 16) (hA : ∀ t, t < a → m.2.2.1 228 t = PS t ∧ m.2.2.1 229 t = nI (F t)) (kk : ∀ sg m1 u v w x, Srt F a sg → Fr [228, 229] m m1 → (∀ t, t < a → m1.2.2.1 228 t = PS (sg t) ∧ m1.2.2.1 229 t = nI (F (sg t))) → q_V (q_g Z) mX11_laySplit (d + 1) 0 0 197 [some (.ref (q_ad Z 215)), some (.int (nI a)), some (.int u), v, w, x] [] (q_W Z (m1)) Q) : q_V (q_g Z) mX11_laySplit (d + 1) 0 0 91 [some (.ref (q_ad Z 215)), some (.int (nI a)), some (.int u0), v0, none, none] [] (q_W Z (m)) Q := by
  refine q_iconst (pc' := 92) (v := nI 1) dX11_laySplit_91 rfl rfl ?_
  refine q_istore_n (pc' := 93) (lv' := [_, _, _, _, _, _]) dX11_laySplit_92 (by decide) rfl rfl ?_
  rcases Nat.eq_zero_or_pos a with h0 | h0
  · refine q_iload_n (pc' := 94) dX11_laySplit_93 rfl rfl ?_
    refine q_iload_n (pc' := 95) dX11_laySplit_94 rfl rfl ?_
    refine q_icmp_geN (tgt := 197) (pc' := 98) dX11_laySplit_95 (by decide) rfl (by omega) (fun c_95 => ?_) (fun c_95 => ?_)
    · exact kk (fun s => s) m _ _ _ _ ⟨fun s h => by omega, fun t h => by omega, fun s u h1 h2 => by omega⟩ Fr.rf (fun t h => by omega)
    · omega
  suffices h : ∀ g k m1 sg v w x, k + g = a → 1 ≤ k → Srt F k sg → Fr [228, 229] m m1 → (∀ t, t < k → m1.2.2.1 228 t = PS (sg t) ∧ m1.2.2.1 229 t = nI (F (sg t))) → (∀ t, k ≤ t → t < a → m1.2.2.1 228 t = PS t ∧ m1.2.2.1 229 t = nI (F t)) → q_V (q_g Z) mX11_laySplit (d + 1) 0 0 93 [some (.ref (q_ad Z 215)), some (.int (nI a)), some (.int (nI k)), v, w, x] [] (q_W Z (m1)) Q from h (a - 1) 1 m (fun s => s) _ _ _ (by omega) (Nat.le_refl _) srt_1 Fr.rf (fun t h => hA t (by omega)) (fun t _ h => hA t h)
  intro g
  induction g with
  | zero =>
    intro k m1 sg v w x hk h1 hS f1 hB hC
    obtain rfl : k = a := by omega
    refine q_iload_n (pc' := 94) dX11_laySplit_93 rfl rfl ?_
    refine q_iload_n (pc' := 95) dX11_laySplit_94 rfl rfl ?_
    refine q_icmp_geN (tgt := 197) (pc' := 98) dX11_laySplit_95 (by decide) rfl (by omega) (fun c_95 => ?_) (fun c_95 => ?_)
    · exact kk sg m1 _ _ _ _ hS f1 hB
    · omega
  | succ g ih =>
    intro k m1 sg v w x hk h1 hS f1 hB hC
    refine q_iload_n (pc' := 94) dX11_laySplit_93 rfl rfl ?_
    refine q_iload_n (pc' := 95) dX11_laySplit_94 rfl rfl ?_
    refine q_icmp_geN (tgt := 197) (pc' := 98) dX11_laySplit_95 (by decide) rfl (by omega) (fun c_95 => ?_) (fun c_95 => ?_)
    · omega
    refine q_iload_n (pc' := 99) dX11_laySplit_98 rfl rfl ?_
    refine q_istore_n (pc' := 100) (lv' := [_, _, _, _, _, _]) dX11_laySplit_99 (by decide) rfl rfl ?_
    suffices h : ∀ j m1 w x, j ≤ k → Fr [228, 229] m m1 → (∀ t, t < k + 1 → m1.2.2.1 228 t = PS (s_ins j sg k t) ∧ m1.2.2.1 229 t = nI (F (s_ins j sg k t))) → (∀ t, k + 1 ≤ t → t < a → m1.2.2.1 228 t = PS t ∧ m1.2.2.1 229 t = nI (F t)) → (∀ s, j ≤ s → s < k → F (sg s) < F k) → q_V (q_g Z) mX11_laySplit (d + 1) 0 0 100 [some (.ref (q_ad Z 215)), some (.int (nI a)), some (.int (nI k)), some (.int (nI j)), w, x] [] (q_W Z (m1)) Q from h k m1 w x (Nat.le_refl _) f1 (fun t ht => by
      by_cases z : t = k
      · rw [z, s_ins_eq]; exact hC k (Nat.le_refl _) (by omega)
      · rw [s_ins_lt (by omega)]; exact hB t (by omega)) (fun t h1 h2 => hC t (by omega) h2) (fun s h1 h2 => by omega)
    have hFk := hF k (by omega)
    intro j
    induction j with
    | zero =>
      intro m1 w x hj f1 hB hC hlt
      refine q_iload_n (pc' := 101) dX11_laySplit_100 rfl rfl ?_
      refine q_if_leN (tgt := 191) (pc' := 104) dX11_laySplit_101 (by decide) rfl (by omega) (fun c_101 => ?_) (fun c_101 => ?_)
      rotate_left
      · omega
      refine q_iincN (pc' := 194) (j := 1) (lv' := [_, _, _, _, _, _]) dX11_laySplit_191 rfl (by decide) rfl rfl ?_
      refine q_goto (pc' := 93) dX11_laySplit_194 (by decide) ?_
      exact ih (k + 1) m1 _ _ _ _ (by omega) (by omega) (srt_ins hS hj (Or.inl rfl) hlt) f1 hB hC
    | succ j ihj =>
      intro m1 w x hj f1 hB hC hlt
      have b1 := hB (j + 1) (by omega)
      have b0 := hB j (by omega)
      rw [s_ins_eq] at b1
      rw [s_ins_lt (by omega)] at b0
      have hFj := hF (sg j) (by have := hS.1 j (by omega); omega)
      refine q_iload_n (pc' := 101) dX11_laySplit_100 rfl rfl ?_
      refine q_if_leN (tgt := 191) (pc' := 104) dX11_laySplit_101 (by decide) rfl (by omega) (fun c_101 => ?_) (fun c_101 => ?_)
      · omega
      refine q_aload_n (pc' := 105) dX11_laySplit_104 rfl rfl ?_
      refine h_getr (pc' := 108) dX11_laySplit_105 fX11_51 rfl rfl rfl ?_
      refine q_iload_n (pc' := 109) dX11_laySplit_108 rfl rfl ?_
      refine h_ialdE (pc' := 110) dX11_laySplit_109 rfl (rfl) (by omega) (by decide) (b1.2) rfl ?_
      refine q_aload_n (pc' := 111) dX11_laySplit_110 rfl rfl ?_
      refine h_getr (pc' := 114) dX11_laySplit_111 fX11_51 rfl rfl rfl ?_
      refine q_iload_n (pc' := 115) dX11_laySplit_114 rfl rfl ?_
      refine q_iconst (pc' := 116) (v := nI 1) dX11_laySplit_115 rfl rfl ?_
      refine q_isubN (pc' := 117) dX11_laySplit_116 (by omega) rfl ?_
      refine h_ialdE (pc' := 118) dX11_laySplit_117 rfl (rfl) (by omega) (by decide) (b0.2) rfl ?_
      refine q_icmp_leN (tgt := 191) (pc' := 121) dX11_laySplit_118 (by decide) rfl (by omega) (fun c_118 => ?_) (fun c_118 => ?_)
      · refine q_iincN (pc' := 194) (j := 1) (lv' := [_, _, _, _, _, _]) dX11_laySplit_191 rfl (by decide) rfl rfl ?_
        refine q_goto (pc' := 93) dX11_laySplit_194 (by decide) ?_
        exact ih (k + 1) m1 _ _ _ _ (by omega) (by omega) (srt_ins hS hj (Or.inr (by rw [Nat.add_sub_cancel]; omega)) hlt) f1 hB hC
      refine q_aload_n (pc' := 122) dX11_laySplit_121 rfl rfl ?_
      refine h_getr (pc' := 125) dX11_laySplit_122 fX11_48 rfl rfl rfl ?_
      refine q_iload_n (pc' := 126) dX11_laySplit_125 rfl rfl ?_
      refine h_ialdE (pc' := 127) dX11_laySplit_126 rfl (rfl) (by omega) (by decide) (b1.1) rfl ?_
      refine q_istore (pc' := 129) (lv' := [_, _, _, _, _, _]) dX11_laySplit_127 (by decide) rfl rfl ?_
      refine q_aload_n (pc' := 130) dX11_laySplit_129 rfl rfl ?_
      refine h_getr (pc' := 133) dX11_laySplit_130 fX11_51 rfl rfl rfl ?_
      refine q_iload_n (pc' := 134) dX11_laySplit_133 rfl rfl ?_
      refine h_ialdE (pc' := 135) dX11_laySplit_134 rfl (rfl) (by omega) (by decide) (b1.2) rfl ?_
      refine q_istore (pc' := 137) (lv' := [_, _, _, _, _, _]) dX11_laySplit_135 (by decide) rfl rfl ?_
      refine q_aload_n (pc' := 138) dX11_laySplit_137 rfl rfl ?_
      refine h_getr (pc' := 141) dX11_laySplit_138 fX11_48 rfl rfl rfl ?_
      refine q_iload_n (pc' := 142) dX11_laySplit_141 rfl rfl ?_
      refine q_aload_n (pc' := 143) dX11_laySplit_142 rfl rfl ?_
      refine h_getr (pc' := 146) dX11_laySplit_143 fX11_48 rfl rfl rfl ?_
      refine q_iload_n (pc' := 147) dX11_laySplit_146 rfl rfl ?_
      refine q_iconst (pc' := 148) (v := nI 1) dX11_laySplit_147 rfl rfl ?_
      refine q_isubN (pc' := 149) dX11_laySplit_148 (by omega) rfl ?_
      refine h_ialdE (pc' := 150) dX11_laySplit_149 rfl (rfl) (by omega) (by decide) (b0.1) rfl ?_
      refine h_iast (pc' := 151) dX11_laySplit_150 rfl (rfl) (by omega) (by decide) rfl ?_
      refine q_aload_n (pc' := 152) dX11_laySplit_151 rfl rfl ?_
      refine h_getr (pc' := 155) dX11_laySplit_152 fX11_51 rfl rfl rfl ?_
      refine q_iload_n (pc' := 156) dX11_laySplit_155 rfl rfl ?_
      refine q_aload_n (pc' := 157) dX11_laySplit_156 rfl rfl ?_
      refine h_getr (pc' := 160) dX11_laySplit_157 fX11_51 rfl rfl rfl ?_
      refine q_iload_n (pc' := 161) dX11_laySplit_160 rfl rfl ?_
      refine q_iconst (pc' := 162) (v := nI 1) dX11_laySplit_161 rfl rfl ?_
      refine q_isubN (pc' := 163) dX11_laySplit_162 (by omega) rfl ?_
      refine h_ialdE (pc' := 164) dX11_laySplit_163 rfl (rfl) (by omega) (by decide) (b0.2) rfl ?_
      refine h_iast (pc' := 165) dX11_laySplit_164 rfl (rfl) (by omega) (by decide) rfl ?_
      refine q_aload_n (pc' := 166) dX11_laySplit_165 rfl rfl ?_
      refine h_getr (pc' := 169) dX11_laySplit_166 fX11_48 rfl rfl rfl ?_
      refine q_iload_n (pc' := 170) dX11_laySplit_169 rfl rfl ?_
      refine q_iconst (pc' := 171) (v := nI 1) dX11_laySplit_170 rfl rfl ?_
      refine q_isubN (pc' := 172) dX11_laySplit_171 (by omega) rfl ?_
      refine q_iload (pc' := 174) dX11_laySplit_172 rfl rfl ?_
      refine h_iast (pc' := 175) dX11_laySplit_174 rfl (rfl) (by omega) (by decide) rfl ?_
      refine q_aload_n (pc' := 176) dX11_laySplit_175 rfl rfl ?_
      refine h_getr (pc' := 179) dX11_laySplit_176 fX11_51 rfl rfl rfl ?_
      refine q_iload_n (pc' := 180) dX11_laySplit_179 rfl rfl ?_
      refine q_iconst (pc' := 181) (v := nI 1) dX11_laySplit_180 rfl rfl ?_
      refine q_isubN (pc' := 182) dX11_laySplit_181 (by omega) rfl ?_
      refine q_iload (pc' := 184) dX11_laySplit_182 rfl rfl ?_
      refine h_iast (pc' := 185) dX11_laySplit_184 rfl (rfl) (by omega) (by decide) rfl ?_
      refine q_idecN (pc' := 188) (lv' := [_, _, _, _, _, _]) dX11_laySplit_185 rfl (by decide) rfl rfl ?_
      refine q_goto (pc' := 100) dX11_laySplit_188 (by decide) ?_
      refine ihj _ _ _ (by omega) ((((f1.A (by decide)).A (by decide)).A (by decide)).A (by decide)) (fun t ht => ?_) (fun t h1 h2 => ?_) (fun s h1 h2 => ?_)
      · show q_u (q_u (m1.2.2.1 228) (j + 1) (PS (sg j))) j (PS k) t = _ ∧ q_u (q_u (m1.2.2.1 229) (j + 1) (nI (F (sg j)))) j (nI (F k)) t = _
        have bt := hB t ht
        rcases Nat.lt_trichotomy t j with q | q | q
        · rw [q_u_n _ _ (by omega), q_u_n _ _ (by omega), q_u_n _ _ (by omega), q_u_n _ _ (by omega), s_ins_lt q]
          rw [s_ins_lt (by omega)] at bt
          exact bt
        · rw [q, q_u_s, q_u_s, s_ins_eq]
          exact ⟨rfl, rfl⟩
        · rw [q_u_n (i := j) (j := t) _ _ (by omega), q_u_n (i := j) (j := t) _ _ (by omega), s_ins_gt q]
          by_cases z : t = j + 1
          · rw [z, q_u_s, q_u_s]
            exact ⟨rfl, rfl⟩
          · rw [q_u_n _ _ z, q_u_n _ _ z]
            rw [s_ins_gt (by omega)] at bt
            exact bt
      · show q_u (q_u (m1.2.2.1 228) (j + 1) (PS (sg j))) j (PS k) t = _ ∧ q_u (q_u (m1.2.2.1 229) (j + 1) (nI (F (sg j)))) j (nI (F k)) t = _
        rw [q_u_n _ _ (by omega), q_u_n _ _ (by omega), q_u_n _ _ (by omega), q_u_n _ _ (by omega)]
        exact hC t h1 h2
      · by_cases z : s = j
        · rw [z]; omega
        · exact hlt s (by omega) h2
/-- what is told of PARTS -/
def MR (m : q_Mm) (S : Nat × (Nat → Nat) × (Nat → Int32)) (ps : Nat → Int32) (k : Nat) : Prop := m.1 215 32 = nI S.1 ∧ (∀ i, i < S.1 → m.2.2.1 228 i = S.2.2 i) ∧ m.1 215 28 = nI (s_mk (fun i => !decide (s_code S.2.2 S.1 (ps i) < S.1)) k)
set_option maxHeartbeats 4000000 in
set_option maxRecDepth 20000 in
theorem k_laySplit {Z : q_Z} {m : q_Mm} {d : Nat} {n k : Nat} {g : Nat → Int64} {ps : Nat → Int32} {rl : Nat → Nat} {xs : Nat → Int64} (hV : MV m n rl xs) (hH : MH m k g) (hk : k ≤ 16) (hps : ∀ i, i < k → s_part (g i) (rl 3) = ps i) : q_V (q_g Z) mX11_laySplit (d+2) 0 0 0 [some (.ref (q_ad Z 215)), none, none, none, none, none] [] (q_W Z m) (q_P Z fun r m2 => r = none ∧ Fr [215, 228, 229] m m2 ∧ Kp 215 [28, 32] m m2 ∧ MR m2 (s_ch ps k (s_often ps k) (rl 4)) ps k) := by
  refine k_sp1 hV hH hk hps (fun a ix m1 u v hE f1 hA => ?_)
  have ha : a ≤ 16 := by have := hE.1; omega
  refine k_sp2 (PS := fun t => ps (ix t)) (F := fun t => s_often ps k (ix t)) ha (fun t ht => Nat.le_trans (s_often_le ps k _) hk) hA (fun sg m2 u2 v2 w2 x2 hS f2 hB => ?_)
  obtain ⟨g1, -, -, g4⟩ := ch_sort hE hS (rl 4)
  have h4 := hV.2.2.2.2.2.2.2.2
  generalize s_ch ps k (s_often ps k) (rl 4) = S at g1 g4 ⊢
  have f12 := f1.trans f2
  have hS8 : S.1 ≤ 8 := by rw [g1]; split <;> omega
  have hr4 : m2.2.2.1 224 4 = nI (rl 4) := (congrFun (f12.a (by decide)) 4).trans (hV.2.2.2.1 4 (by decide))
  refine q_aload_n (pc' := 198) dX11_laySplit_197 rfl rfl ?_
  refine q_iload_n (pc' := 199) dX11_laySplit_198 rfl rfl ?_
  refine q_aload_n (pc' := 200) dX11_laySplit_199 rfl rfl ?_
  refine h_getr (pc' := 203) dX11_laySplit_200 fX11_36 rfl rfl rfl ?_
  refine q_iconst (pc' := 204) (v := nI 4) dX11_laySplit_203 rfl rfl ?_
  refine h_ialdE (pc' := 205) dX11_laySplit_204 rfl (rfl) (by omega) (by decide) (hr4) rfl ?_
  refine q_mmin (pc' := 208) dX11_laySplit_205 lX11_278 mmin_s mz_i mmin_c (Nat.le_of_ble_eq_true rfl) rfl ?_
  rw [z_min (by omega) (by omega), ← g1]
  refine h_puti (pc' := 211) dX11_laySplit_208 fX11_320 rfl rfl rfl rfl rfl ?_
  refine q_aload_n (pc' := 212) dX11_laySplit_211 rfl rfl ?_
  refine q_iconst (pc' := 213) (v := nI 0) dX11_laySplit_212 rfl rfl ?_
  refine h_puti (pc' := 216) dX11_laySplit_213 fX11_289 rfl rfl rfl rfl rfl ?_
  refine q_iconst (pc' := 217) (v := nI 0) dX11_laySplit_216 rfl rfl ?_
  refine q_istore_n (pc' := 218) (lv' := [_, _, _, _, _, _]) dX11_laySplit_217 (by decide) rfl rfl ?_
  generalize hm3 : sI (sI m2 215 32 (nI S.1)) 215 28 (nI 0) = m3
  have f3 : Fr [215, 228, 229] m m3 := hm3 ▸ (((f12.mono (by decide)).I (by decide)).I (by decide))
  have k3 : Kp 215 [28, 32] m m3 := hm3 ▸ kp_I (kp_I (Kp.fr f12 (by decide)) (by decide)) (by decide)
  have e32 : m3.1 215 32 = nI S.1 := hm3 ▸ rfl
  have e28 : m3.1 215 28 = nI 0 := hm3 ▸ rfl
  have hrow : ∀ i, i < S.1 → m3.2.2.1 228 i = S.2.2 i := fun i hi => by
    rw [g4 i hi, ← hm3]
    exact (hB i (by rw [g1] at hi; split at hi <;> omega)).1
  suffices h : ∀ c i m4, i + c = k → Fr [215, 228, 229] m m4 → Kp 215 [28, 32] m m4 → m4.1 215 32 = nI S.1 → (∀ i, i < S.1 → m4.2.2.1 228 i = S.2.2 i) → m4.1 215 28 = nI (s_mk (fun i => !decide (s_code S.2.2 S.1 (ps i) < S.1)) i) → q_V (q_g Z) mX11_laySplit (d+2) 0 0 218 [some (.ref (q_ad Z 215)), some (.int (nI a)), some (.int (nI i)), v2, w2, x2] [] (q_W Z (m4)) (q_P Z fun r m2 => r = none ∧ Fr [215, 228, 229] m m2 ∧ Kp 215 [28, 32] m m2 ∧ MR m2 S ps k) from h k 0 m3 (Nat.zero_add _) f3 k3 e32 hrow e28
  intro c
  induction c with
  | zero =>
    intro i m4 hi f4 k4 e32 hrow e28
    obtain rfl : i = k := by omega
    have e25 : m4.1 215 25 = nI i := (k4 25 (by decide)).trans hH.1
    refine q_iload_n (pc' := 219) dX11_laySplit_218 rfl rfl ?_
    refine q_aload_n (pc' := 220) dX11_laySplit_219 rfl rfl ?_
    refine h_getiE (pc' := 223) dX11_laySplit_220 fX11_286 rfl rfl (e25) rfl ?_
    refine q_icmp_geN (tgt := 262) (pc' := 226) dX11_laySplit_223 (by decide) rfl (by omega) (fun c_223 => ?_) (fun c_223 => ?_)
    · refine q_vret dX11_laySplit_262 rfl ⟨_, rfl, rfl, f4, k4, e32, hrow, e28⟩
    · omega
  | succ c ih =>
    intro i m4 hi f4 k4 e32 hrow e28
    have e25 : m4.1 215 25 = nI k := (k4 25 (by decide)).trans hH.1
    have eg : m4.2.2.2.1 227 i = g i := (congrFun (f4.l (by decide)) i).trans (hH.2 i (by omega))
    have hV4 := hV.fr f4 (k4 20 (by decide)) (by decide) (by decide)
    have ih := fun m5 => ih (i + 1) m5 (by omega)
    refine q_iload_n (pc' := 219) dX11_laySplit_218 rfl rfl ?_
    refine q_aload_n (pc' := 220) dX11_laySplit_219 rfl rfl ?_
    refine h_getiE (pc' := 223) dX11_laySplit_220 fX11_286 rfl rfl (e25) rfl ?_
    refine q_icmp_geN (tgt := 262) (pc' := 226) dX11_laySplit_223 (by decide) rfl (by omega) (fun c_223 => ?_) (fun c_223 => ?_)
    · omega
    refine q_aload_n (pc' := 227) dX11_laySplit_226 rfl rfl ?_
    refine q_dup (pc' := 228) dX11_laySplit_227 rfl rfl ?_
    refine h_getiE (pc' := 231) dX11_laySplit_228 fX11_289 rfl rfl (e28) rfl ?_
    refine q_aload_n (pc' := 232) dX11_laySplit_231 rfl rfl ?_
    refine q_aload_n (pc' := 233) dX11_laySplit_232 rfl rfl ?_
    refine h_getr (pc' := 236) dX11_laySplit_233 fX11_45 rfl rfl rfl ?_
    refine q_iload_n (pc' := 237) dX11_laySplit_236 rfl rfl ?_
    refine h_laldE (pc' := 238) dX11_laySplit_237 rfl (rfl) (by omega) (by decide) (eg) rfl ?_
    refine h_callV (pc' := 241) (M' := mX11_codeOf) (As := [_]) dX11_laySplit_238 iX11_codeOf lX11_323 rfl rfl rfl rfl (Nat.le_of_ble_eq_true rfl) (Nat.le_of_ble_eq_true rfl) rfl rfl (k_codeOf hV4 e32 (by omega) hrow) (fun r m' hq => ?_)
    obtain ⟨rfl, hmm⟩ := hq
    subst m'
    rw [hps i (by omega)]
    by_cases hc : s_code S.2.2 S.1 (ps i) < S.1
    · rw [show s_ci S.2.2 S.1 (ps i) = nI (s_code S.2.2 S.1 (ps i)) from if_pos hc]
      rw [s_mk_f (show (fun i => !decide (s_code S.2.2 S.1 (ps i) < S.1)) i = false by show (!decide _) = false; rw [decide_eq_true hc]; rfl)] at ih
      refine q_iconst (pc' := 242) (v := (-1)) dX11_laySplit_241 rfl rfl ?_
      refine q_icmp_ne (tgt := 251) (pc' := 245) dX11_laySplit_242 (by decide) rfl (fun c_242 => ?_) (fun c_242 => ?_)
      rotate_left
      · exact absurd c_242 (z_m1n (by omega))
      refine q_iconst (pc' := 252) (v := nI 0) dX11_laySplit_251 rfl rfl ?_
      refine q_ior (pc' := 253) dX11_laySplit_252 rfl ?_
      rw [z_or0]
      refine h_puti (pc' := 256) dX11_laySplit_253 fX11_289 rfl rfl rfl rfl rfl ?_
      refine q_iincN (pc' := 259) (j := 1) (lv' := [_, _, _, _, _, _]) dX11_laySplit_256 rfl (by decide) rfl rfl ?_
      refine q_goto (pc' := 218) dX11_laySplit_259 (by decide) ?_
      exact ih _ (f4.I (by decide)) (kp_I k4 (by decide)) e32 hrow rfl
    · rw [show s_ci S.2.2 S.1 (ps i) = -1 from if_neg hc]
      refine q_iconst (pc' := 242) (v := (-1)) dX11_laySplit_241 rfl rfl ?_
      refine q_icmp_ne (tgt := 251) (pc' := 245) dX11_laySplit_242 (by decide) rfl (fun c_242 => ?_) (fun c_242 => ?_)
      · exact absurd rfl c_242
      refine q_iconst (pc' := 246) (v := nI 1) dX11_laySplit_245 rfl rfl ?_
      refine q_iload_n (pc' := 247) dX11_laySplit_246 rfl rfl ?_
      refine q_ishl (pc' := 248) dX11_laySplit_247 rfl ?_
      refine q_goto (pc' := 252) dX11_laySplit_248 (by decide) ?_
      refine q_ior (pc' := 253) dX11_laySplit_252 rfl ?_
      rw [s_mk_t (P := fun i => !decide (s_code S.2.2 S.1 (ps i) < S.1)) (by omega) (show (!decide _) = true by rw [decide_eq_false hc]; rfl)]
      refine h_puti (pc' := 256) dX11_laySplit_253 fX11_289 rfl rfl rfl rfl rfl ?_
      refine q_iincN (pc' := 259) (j := 1) (lv' := [_, _, _, _, _, _]) dX11_laySplit_256 rfl (by decide) rfl rfl ?_
      refine q_goto (pc' := 218) dX11_laySplit_259 (by decide) ?_
      exact ih _ (f4.I (by decide)) (kp_I k4 (by decide)) e32 hrow rfl
