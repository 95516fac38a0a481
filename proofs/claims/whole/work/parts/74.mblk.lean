/-! ===== the reference: unlike ones, BLOCKS, samples ===== -/
def s_none (p : Nat → Bool) : Nat → Bool
  | 0 => true
  | k + 1 => s_none p k && !p k
theorem s_none_ok {p : Nat → Bool} : ∀ k, s_none p k = true ↔ ∀ j, j < k → p j = false
  | 0 => ⟨fun _ j hj => absurd hj (by omega), fun _ => rfl⟩
  | k + 1 => by
    have ih := s_none_ok (p := p) k
    show (s_none p k && !p k) = true ↔ _
    rw [Bool.and_eq_true, Bool.not_eq_true', ih]
    constructor
    · intro h j hj
      by_cases z : j = k
      · rw [z]; exact h.2
      · exact h.1 j (by omega)
    · intro h
      exact ⟨fun j hj => h j (by omega), h k (by omega)⟩
theorem s_none_find {p : Nat → Bool} (k : Nat) : s_none p k = decide (s_find p k 0 = k) := by
  have h1 := s_find_le p k 0
  rw [Bool.eq_iff_iff, s_none_ok, decide_eq_true_iff]
  constructor
  · intro h
    rcases Nat.lt_or_ge (s_find p k 0) k with q | q
    · have := s_find_hit (p := p) k 0 (by omega)
      rw [h _ q] at this
      cases this
    · omega
  · intro h j hj
    exact s_find_lt k 0 j (by omega) (by omega)
set_option maxHeartbeats 4000000 in
set_option maxRecDepth 20000 in
theorem k_unlikeAll {Z : q_Z} {m : q_Mm} {d : Nat} {n : Nat} {rl : Nat → Nat} {xs : Nat → Int64} (hV : MV m n rl xs) : q_V (q_g Z) mX11_unlike (d+2) 0 0 0 [some (.ref (q_ad Z 215)), some (.int (nI 0)), none, none, none, none] [] (q_W Z m) (q_P Z fun r m2 => r = some (.int (nI (s_cnt (s_new false xs) n))) ∧ m2 = m) := by
  obtain ⟨hn, hn6, hx, -⟩ := id hV
  refine q_iconst (pc' := 1) (v := nI 0) dX11_unlike_0 rfl rfl ?_
  refine q_istore_n (pc' := 2) (lv' := [_, _, _, _, _, _]) dX11_unlike_1 (by decide) rfl rfl ?_
  refine q_iconst (pc' := 3) (v := nI 0) dX11_unlike_2 rfl rfl ?_
  refine q_istore_n (pc' := 4) (lv' := [_, _, _, _, _, _]) dX11_unlike_3 (by decide) rfl rfl ?_
  suffices h : ∀ g i u v, i + g = n → q_V (q_g Z) mX11_unlike (d+2) 0 0 4 [some (.ref (q_ad Z 215)), some (.int (nI 0)), some (.int (nI (s_cnt (s_new false xs) i))), some (.int (nI i)), u, v] [] (q_W Z (m)) (q_P Z fun r m2 => r = some (.int (nI (s_cnt (s_new false xs) n))) ∧ m2 = m) from h n 0 _ _ (by omega)
  intro g
  induction g with
  | zero =>
    intro i u v hi
    obtain rfl : i = n := by omega
    refine q_iload_n (pc' := 5) dX11_unlike_4 rfl rfl ?_
    refine q_aload_n (pc' := 6) dX11_unlike_5 rfl rfl ?_
    refine h_getiE (pc' := 9) dX11_unlike_6 fX11_242 rfl rfl (hn) rfl ?_
    refine q_icmp_geN (tgt := 132) (pc' := 12) dX11_unlike_9 (by decide) rfl (by omega) (fun c_9 => ?_) (fun c_9 => ?_)
    · refine q_iload_n (pc' := 133) dX11_unlike_132 rfl rfl ?_
      refine q_iret dX11_unlike_133 rfl rfl ⟨_, rfl, rfl, rfl⟩
    · omega
  | succ g ih =>
    intro i u v hi
    have e : (s_new false xs) i = (true && s_none (fun j => decide (xs j = xs i)) i) := by
      rw [s_none_find]
      show (decide (s_first xs i = i) && (!false || s_mis (xs i))) = _
      rw [Bool.not_false, Bool.true_or, Bool.and_true, Bool.true_and]
      rfl
    have inner : ∀ g2 j, j + g2 = i → q_V (q_g Z) mX11_unlike (d+2) 0 0 40 [some (.ref (q_ad Z 215)), some (.int (nI 0)), some (.int (nI (s_cnt (s_new false xs) i))), some (.int (nI i)), some (.int (q_b (true && s_none (fun j => decide (xs j = xs i)) j))), some (.int (nI j))] [] (q_W Z (m)) (q_P Z fun r m2 => r = some (.int (nI (s_cnt (s_new false xs) n))) ∧ m2 = m) := by
      intro g2
      induction g2 with
      | zero =>
        intro j hj
        obtain rfl : j = i := by omega
        rw [← e]
        have ih := ih (j + 1) (some (.int (q_b ((s_new false xs) j)))) (some (.int (nI j))) (by omega)
        refine q_iload (pc' := 42) dX11_unlike_40 rfl rfl ?_
        refine q_iload_n (pc' := 43) dX11_unlike_42 rfl rfl ?_
        refine q_icmp_geN (tgt := 113) (pc' := 46) dX11_unlike_43 (by decide) rfl (by omega) (fun c_43 => ?_) (fun c_43 => ?_)
        rotate_left
        · omega
        cases hb : (s_new false xs) j with
        | false =>
          rw [s_cnt_f hb, hb] at ih
          refine q_iload_n (pc' := 114) dX11_unlike_113 rfl rfl ?_
          refine q_iload (pc' := 116) dX11_unlike_114 rfl rfl ?_
          refine q_if_eqB (tgt := 123) (pc' := 119) dX11_unlike_116 (by decide) rfl (fun c_116 => ?_) (fun c_116 => ?_)
          · refine q_iconst (pc' := 124) (v := nI 0) dX11_unlike_123 rfl rfl ?_
            refine q_iaddN (pc' := 125) dX11_unlike_124 rfl ?_
            refine q_istore_n (pc' := 126) (lv' := [_, _, _, _, _, _]) dX11_unlike_125 (by decide) rfl rfl ?_
            refine q_iincN (pc' := 129) (j := 1) (lv' := [_, _, _, _, _, _]) dX11_unlike_126 rfl (by decide) rfl rfl ?_
            refine q_goto (pc' := 4) dX11_unlike_129 (by decide) ?_
            exact ih
          · cases c_116
        | true =>
          rw [s_cnt_t hb, hb] at ih
          refine q_iload_n (pc' := 114) dX11_unlike_113 rfl rfl ?_
          refine q_iload (pc' := 116) dX11_unlike_114 rfl rfl ?_
          refine q_if_eqB (tgt := 123) (pc' := 119) dX11_unlike_116 (by decide) rfl (fun c_116 => ?_) (fun c_116 => ?_)
          · cases c_116
          · refine q_iconst (pc' := 120) (v := nI 1) dX11_unlike_119 rfl rfl ?_
            refine q_goto (pc' := 124) dX11_unlike_120 (by decide) ?_
            refine q_iaddN (pc' := 125) dX11_unlike_124 rfl ?_
            refine q_istore_n (pc' := 126) (lv' := [_, _, _, _, _, _]) dX11_unlike_125 (by decide) rfl rfl ?_
            refine q_iincN (pc' := 129) (j := 1) (lv' := [_, _, _, _, _, _]) dX11_unlike_126 rfl (by decide) rfl rfl ?_
            refine q_goto (pc' := 4) dX11_unlike_129 (by decide) ?_
            exact ih
      | succ g2 ih2 =>
        intro j hj
        have ih2 := ih2 (j + 1) (by omega)
        rw [show s_none (fun j => decide (xs j = xs i)) (j + 1) = (s_none (fun j => decide (xs j = xs i)) j && !(decide (xs j = xs i))) from rfl, ← Bool.and_assoc] at ih2
        generalize (true && s_none (fun j => decide (xs j = xs i)) j) = b at ih2 ⊢
        refine q_iload (pc' := 42) dX11_unlike_40 rfl rfl ?_
        refine q_iload_n (pc' := 43) dX11_unlike_42 rfl rfl ?_
        refine q_icmp_geN (tgt := 113) (pc' := 46) dX11_unlike_43 (by decide) rfl (by omega) (fun c_43 => ?_) (fun c_43 => ?_)
        · omega
        refine q_iload (pc' := 48) dX11_unlike_46 rfl rfl ?_
        refine q_if_eqB (tgt := 104) (pc' := 51) dX11_unlike_48 (by decide) rfl (fun c_48 => ?_) (fun c_48 => ?_)
        · rw [c_48, Bool.false_and] at ih2
          refine q_iconst (pc' := 105) (v := nI 0) dX11_unlike_104 rfl rfl ?_
          refine q_istore (pc' := 107) (lv' := [_, _, _, _, _, _]) dX11_unlike_105 (by decide) rfl rfl ?_
          refine q_iincN (pc' := 110) (j := 1) (lv' := [_, _, _, _, _, _]) dX11_unlike_107 rfl (by decide) rfl rfl ?_
          refine q_goto (pc' := 40) dX11_unlike_110 (by decide) ?_
          exact ih2
        rw [c_48, Bool.true_and] at ih2
        rw [c_48]
        refine q_iload_n (pc' := 52) dX11_unlike_51 rfl rfl ?_
        refine q_iconst (pc' := 53) (v := nI 2) dX11_unlike_52 rfl rfl ?_
        refine q_icmp_ne (tgt := 83) (pc' := 56) dX11_unlike_53 (by decide) rfl (fun c_53 => ?_) (fun c_53 => ?_)
        rotate_left
        · exact absurd c_53 (by decide)
        refine q_aload_n (pc' := 84) dX11_unlike_83 rfl rfl ?_
        refine h_getr (pc' := 87) dX11_unlike_84 fX11_33 rfl rfl rfl ?_
        refine q_iload (pc' := 89) dX11_unlike_87 rfl rfl ?_
        refine h_laldE (pc' := 90) dX11_unlike_89 rfl (rfl) (by omega) (by decide) (hx j (by omega)) rfl ?_
        refine q_aload_n (pc' := 91) dX11_unlike_90 rfl rfl ?_
        refine h_getr (pc' := 94) dX11_unlike_91 fX11_33 rfl rfl rfl ?_
        refine q_iload_n (pc' := 95) dX11_unlike_94 rfl rfl ?_
        refine h_laldE (pc' := 96) dX11_unlike_95 rfl (rfl) (by omega) (by decide) (hx i (by omega)) rfl ?_
        refine q_lcmp (pc' := 97) dX11_unlike_96 rfl ?_
        refine q_if_eqL (tgt := 104) (pc' := 100) dX11_unlike_97 (by decide) rfl (fun c_97 => ?_) (fun c_97 => ?_)
        · rw [decide_eq_true c_97] at ih2
          refine q_iconst (pc' := 105) (v := nI 0) dX11_unlike_104 rfl rfl ?_
          refine q_istore (pc' := 107) (lv' := [_, _, _, _, _, _]) dX11_unlike_105 (by decide) rfl rfl ?_
          refine q_iincN (pc' := 110) (j := 1) (lv' := [_, _, _, _, _, _]) dX11_unlike_107 rfl (by decide) rfl rfl ?_
          refine q_goto (pc' := 40) dX11_unlike_110 (by decide) ?_
          exact ih2
        · rw [decide_eq_false c_97] at ih2
          refine q_iconst (pc' := 101) (v := nI 1) dX11_unlike_100 rfl rfl ?_
          refine q_goto (pc' := 105) dX11_unlike_101 (by decide) ?_
          refine q_istore (pc' := 107) (lv' := [_, _, _, _, _, _]) dX11_unlike_105 (by decide) rfl rfl ?_
          refine q_iincN (pc' := 110) (j := 1) (lv' := [_, _, _, _, _, _]) dX11_unlike_107 rfl (by decide) rfl rfl ?_
          refine q_goto (pc' := 40) dX11_unlike_110 (by decide) ?_
          exact ih2
    refine q_iload_n (pc' := 5) dX11_unlike_4 rfl rfl ?_
    refine q_aload_n (pc' := 6) dX11_unlike_5 rfl rfl ?_
    refine h_getiE (pc' := 9) dX11_unlike_6 fX11_242 rfl rfl (hn) rfl ?_
    refine q_icmp_geN (tgt := 132) (pc' := 12) dX11_unlike_9 (by decide) rfl (by omega) (fun c_9 => ?_) (fun c_9 => ?_)
    · omega
    refine q_iload_n (pc' := 13) dX11_unlike_12 rfl rfl ?_
    refine q_iconst (pc' := 14) (v := nI 1) dX11_unlike_13 rfl rfl ?_
    refine q_icmp_ne (tgt := 30) (pc' := 17) dX11_unlike_14 (by decide) rfl (fun c_14 => ?_) (fun c_14 => ?_)
    rotate_left
    · exact absurd c_14 (by decide)
    refine q_iconst (pc' := 31) (v := nI 1) dX11_unlike_30 rfl rfl ?_
    refine q_goto (pc' := 35) dX11_unlike_31 (by decide) ?_
    refine q_istore (pc' := 37) (lv' := [_, _, _, _, _, _]) dX11_unlike_35 (by decide) rfl rfl ?_
    refine q_iconst (pc' := 38) (v := nI 0) dX11_unlike_37 rfl rfl ?_
    refine q_istore (pc' := 40) (lv' := [_, _, _, _, _, _]) dX11_unlike_38 (by decide) rfl rfl ?_
    exact inner i 0 (by omega)
set_option maxHeartbeats 4000000 in
set_option maxRecDepth 20000 in
theorem k_unlikeMis {Z : q_Z} {m : q_Mm} {d : Nat} {n : Nat} {rl : Nat → Nat} {xs : Nat → Int64} (hV : MV m n rl xs) : q_V (q_g Z) mX11_unlike (d+2) 0 0 0 [some (.ref (q_ad Z 215)), some (.int (nI 1)), none, none, none, none] [] (q_W Z m) (q_P Z fun r m2 => r = some (.int (nI (s_cnt (s_new true xs) n))) ∧ m2 = m) := by
  obtain ⟨hn, hn6, hx, -⟩ := id hV
  refine q_iconst (pc' := 1) (v := nI 0) dX11_unlike_0 rfl rfl ?_
  refine q_istore_n (pc' := 2) (lv' := [_, _, _, _, _, _]) dX11_unlike_1 (by decide) rfl rfl ?_
  refine q_iconst (pc' := 3) (v := nI 0) dX11_unlike_2 rfl rfl ?_
  refine q_istore_n (pc' := 4) (lv' := [_, _, _, _, _, _]) dX11_unlike_3 (by decide) rfl rfl ?_
  suffices h : ∀ g i u v, i + g = n → q_V (q_g Z) mX11_unlike (d+2) 0 0 4 [some (.ref (q_ad Z 215)), some (.int (nI 1)), some (.int (nI (s_cnt (s_new true xs) i))), some (.int (nI i)), u, v] [] (q_W Z (m)) (q_P Z fun r m2 => r = some (.int (nI (s_cnt (s_new true xs) n))) ∧ m2 = m) from h n 0 _ _ (by omega)
  intro g
  induction g with
  | zero =>
    intro i u v hi
    obtain rfl : i = n := by omega
    refine q_iload_n (pc' := 5) dX11_unlike_4 rfl rfl ?_
    refine q_aload_n (pc' := 6) dX11_unlike_5 rfl rfl ?_
    refine h_getiE (pc' := 9) dX11_unlike_6 fX11_242 rfl rfl (hn) rfl ?_
    refine q_icmp_geN (tgt := 132) (pc' := 12) dX11_unlike_9 (by decide) rfl (by omega) (fun c_9 => ?_) (fun c_9 => ?_)
    · refine q_iload_n (pc' := 133) dX11_unlike_132 rfl rfl ?_
      refine q_iret dX11_unlike_133 rfl rfl ⟨_, rfl, rfl, rfl⟩
    · omega
  | succ g ih =>
    intro i u v hi
    have e : (s_new true xs) i = (s_mis (xs i) && s_none (fun j => decide (xs j = xs i)) i) := by
      rw [s_none_find]
      show (decide (s_first xs i = i) && (!true || s_mis (xs i))) = _
      rw [Bool.not_true, Bool.false_or, Bool.and_comm]
      rfl
    have inner : ∀ g2 j, j + g2 = i → q_V (q_g Z) mX11_unlike (d+2) 0 0 40 [some (.ref (q_ad Z 215)), some (.int (nI 1)), some (.int (nI (s_cnt (s_new true xs) i))), some (.int (nI i)), some (.int (q_b (s_mis (xs i) && s_none (fun j => decide (xs j = xs i)) j))), some (.int (nI j))] [] (q_W Z (m)) (q_P Z fun r m2 => r = some (.int (nI (s_cnt (s_new true xs) n))) ∧ m2 = m) := by
      intro g2
      induction g2 with
      | zero =>
        intro j hj
        obtain rfl : j = i := by omega
        rw [← e]
        have ih := ih (j + 1) (some (.int (q_b ((s_new true xs) j)))) (some (.int (nI j))) (by omega)
        refine q_iload (pc' := 42) dX11_unlike_40 rfl rfl ?_
        refine q_iload_n (pc' := 43) dX11_unlike_42 rfl rfl ?_
        refine q_icmp_geN (tgt := 113) (pc' := 46) dX11_unlike_43 (by decide) rfl (by omega) (fun c_43 => ?_) (fun c_43 => ?_)
        rotate_left
        · omega
        cases hb : (s_new true xs) j with
        | false =>
          rw [s_cnt_f hb, hb] at ih
          refine q_iload_n (pc' := 114) dX11_unlike_113 rfl rfl ?_
          refine q_iload (pc' := 116) dX11_unlike_114 rfl rfl ?_
          refine q_if_eqB (tgt := 123) (pc' := 119) dX11_unlike_116 (by decide) rfl (fun c_116 => ?_) (fun c_116 => ?_)
          · refine q_iconst (pc' := 124) (v := nI 0) dX11_unlike_123 rfl rfl ?_
            refine q_iaddN (pc' := 125) dX11_unlike_124 rfl ?_
            refine q_istore_n (pc' := 126) (lv' := [_, _, _, _, _, _]) dX11_unlike_125 (by decide) rfl rfl ?_
            refine q_iincN (pc' := 129) (j := 1) (lv' := [_, _, _, _, _, _]) dX11_unlike_126 rfl (by decide) rfl rfl ?_
            refine q_goto (pc' := 4) dX11_unlike_129 (by decide) ?_
            exact ih
          · cases c_116
        | true =>
          rw [s_cnt_t hb, hb] at ih
          refine q_iload_n (pc' := 114) dX11_unlike_113 rfl rfl ?_
          refine q_iload (pc' := 116) dX11_unlike_114 rfl rfl ?_
          refine q_if_eqB (tgt := 123) (pc' := 119) dX11_unlike_116 (by decide) rfl (fun c_116 => ?_) (fun c_116 => ?_)
          · cases c_116
          · refine q_iconst (pc' := 120) (v := nI 1) dX11_unlike_119 rfl rfl ?_
            refine q_goto (pc' := 124) dX11_unlike_120 (by decide) ?_
            refine q_iaddN (pc' := 125) dX11_unlike_124 rfl ?_
            refine q_istore_n (pc' := 126) (lv' := [_, _, _, _, _, _]) dX11_unlike_125 (by decide) rfl rfl ?_
            refine q_iincN (pc' := 129) (j := 1) (lv' := [_, _, _, _, _, _]) dX11_unlike_126 rfl (by decide) rfl rfl ?_
            refine q_goto (pc' := 4) dX11_unlike_129 (by decide) ?_
            exact ih
      | succ g2 ih2 =>
        intro j hj
        have ih2 := ih2 (j + 1) (by omega)
        rw [show s_none (fun j => decide (xs j = xs i)) (j + 1) = (s_none (fun j => decide (xs j = xs i)) j && !(decide (xs j = xs i))) from rfl, ← Bool.and_assoc] at ih2
        generalize (s_mis (xs i) && s_none (fun j => decide (xs j = xs i)) j) = b at ih2 ⊢
        refine q_iload (pc' := 42) dX11_unlike_40 rfl rfl ?_
        refine q_iload_n (pc' := 43) dX11_unlike_42 rfl rfl ?_
        refine q_icmp_geN (tgt := 113) (pc' := 46) dX11_unlike_43 (by decide) rfl (by omega) (fun c_43 => ?_) (fun c_43 => ?_)
        · omega
        refine q_iload (pc' := 48) dX11_unlike_46 rfl rfl ?_
        refine q_if_eqB (tgt := 104) (pc' := 51) dX11_unlike_48 (by decide) rfl (fun c_48 => ?_) (fun c_48 => ?_)
        · rw [c_48, Bool.false_and] at ih2
          refine q_iconst (pc' := 105) (v := nI 0) dX11_unlike_104 rfl rfl ?_
          refine q_istore (pc' := 107) (lv' := [_, _, _, _, _, _]) dX11_unlike_105 (by decide) rfl rfl ?_
          refine q_iincN (pc' := 110) (j := 1) (lv' := [_, _, _, _, _, _]) dX11_unlike_107 rfl (by decide) rfl rfl ?_
          refine q_goto (pc' := 40) dX11_unlike_110 (by decide) ?_
          exact ih2
        rw [c_48, Bool.true_and] at ih2
        rw [c_48]
        refine q_iload_n (pc' := 52) dX11_unlike_51 rfl rfl ?_
        refine q_iconst (pc' := 53) (v := nI 2) dX11_unlike_52 rfl rfl ?_
        refine q_icmp_ne (tgt := 83) (pc' := 56) dX11_unlike_53 (by decide) rfl (fun c_53 => ?_) (fun c_53 => ?_)
        rotate_left
        · exact absurd c_53 (by decide)
        refine q_aload_n (pc' := 84) dX11_unlike_83 rfl rfl ?_
        refine h_getr (pc' := 87) dX11_unlike_84 fX11_33 rfl rfl rfl ?_
        refine q_iload (pc' := 89) dX11_unlike_87 rfl rfl ?_
        refine h_laldE (pc' := 90) dX11_unlike_89 rfl (rfl) (by omega) (by decide) (hx j (by omega)) rfl ?_
        refine q_aload_n (pc' := 91) dX11_unlike_90 rfl rfl ?_
        refine h_getr (pc' := 94) dX11_unlike_91 fX11_33 rfl rfl rfl ?_
        refine q_iload_n (pc' := 95) dX11_unlike_94 rfl rfl ?_
        refine h_laldE (pc' := 96) dX11_unlike_95 rfl (rfl) (by omega) (by decide) (hx i (by omega)) rfl ?_
        refine q_lcmp (pc' := 97) dX11_unlike_96 rfl ?_
        refine q_if_eqL (tgt := 104) (pc' := 100) dX11_unlike_97 (by decide) rfl (fun c_97 => ?_) (fun c_97 => ?_)
        · rw [decide_eq_true c_97] at ih2
          refine q_iconst (pc' := 105) (v := nI 0) dX11_unlike_104 rfl rfl ?_
          refine q_istore (pc' := 107) (lv' := [_, _, _, _, _, _]) dX11_unlike_105 (by decide) rfl rfl ?_
          refine q_iincN (pc' := 110) (j := 1) (lv' := [_, _, _, _, _, _]) dX11_unlike_107 rfl (by decide) rfl rfl ?_
          refine q_goto (pc' := 40) dX11_unlike_110 (by decide) ?_
          exact ih2
        · rw [decide_eq_false c_97] at ih2
          refine q_iconst (pc' := 101) (v := nI 1) dX11_unlike_100 rfl rfl ?_
          refine q_goto (pc' := 105) dX11_unlike_101 (by decide) ?_
          refine q_istore (pc' := 107) (lv' := [_, _, _, _, _, _]) dX11_unlike_105 (by decide) rfl rfl ?_
          refine q_iincN (pc' := 110) (j := 1) (lv' := [_, _, _, _, _, _]) dX11_unlike_107 rfl (by decide) rfl rfl ?_
          refine q_goto (pc' := 40) dX11_unlike_110 (by decide) ?_
          exact ih2
    refine q_iload_n (pc' := 5) dX11_unlike_4 rfl rfl ?_
    refine q_aload_n (pc' := 6) dX11_unlike_5 rfl rfl ?_
    refine h_getiE (pc' := 9) dX11_unlike_6 fX11_242 rfl rfl (hn) rfl ?_
    refine q_icmp_geN (tgt := 132) (pc' := 12) dX11_unlike_9 (by decide) rfl (by omega) (fun c_9 => ?_) (fun c_9 => ?_)
    · omega
    refine q_iload_n (pc' := 13) dX11_unlike_12 rfl rfl ?_
    refine q_iconst (pc' := 14) (v := nI 1) dX11_unlike_13 rfl rfl ?_
    refine q_icmp_ne (tgt := 30) (pc' := 17) dX11_unlike_14 (by decide) rfl (fun c_14 => ?_) (fun c_14 => ?_)
    · exact absurd rfl c_14
    refine q_aload_n (pc' := 18) dX11_unlike_17 rfl rfl ?_
    refine q_aload_n (pc' := 19) dX11_unlike_18 rfl rfl ?_
    refine h_getr (pc' := 22) dX11_unlike_19 fX11_33 rfl rfl rfl ?_
    refine q_iload_n (pc' := 23) dX11_unlike_22 rfl rfl ?_
    refine h_laldE (pc' := 24) dX11_unlike_23 rfl (rfl) (by omega) (by decide) (hx i (by omega)) rfl ?_
    refine h_callV (pc' := 27) (M' := mX11_isMissing) (As := [_]) dX11_unlike_24 iX11_isMissing lX11_458 rfl rfl rfl rfl (Nat.le_of_ble_eq_true rfl) (Nat.le_of_ble_eq_true rfl) rfl rfl (k_isMissing) (fun r m' hq => ?_)
    obtain ⟨rfl, hmm⟩ := hq
    subst m'
    have inner := inner i 0 (by omega)
    rw [show s_none (fun j => decide (xs j = xs i)) 0 = true from rfl, Bool.and_true] at inner
    refine q_if_eqB (tgt := 34) (pc' := 30) dX11_unlike_27 (by decide) rfl (fun c_27 => ?_) (fun c_27 => ?_)
    · rw [c_27] at inner
      refine q_iconst (pc' := 35) (v := nI 0) dX11_unlike_34 rfl rfl ?_
      refine q_istore (pc' := 37) (lv' := [_, _, _, _, _, _]) dX11_unlike_35 (by decide) rfl rfl ?_
      refine q_iconst (pc' := 38) (v := nI 0) dX11_unlike_37 rfl rfl ?_
      refine q_istore (pc' := 40) (lv' := [_, _, _, _, _, _]) dX11_unlike_38 (by decide) rfl rfl ?_
      exact inner
    · rw [c_27] at inner
      refine q_iconst (pc' := 31) (v := nI 1) dX11_unlike_30 rfl rfl ?_
      refine q_goto (pc' := 35) dX11_unlike_31 (by decide) ?_
      refine q_istore (pc' := 37) (lv' := [_, _, _, _, _, _]) dX11_unlike_35 (by decide) rfl rfl ?_
      refine q_iconst (pc' := 38) (v := nI 0) dX11_unlike_37 rfl rfl ?_
      refine q_istore (pc' := 40) (lv' := [_, _, _, _, _, _]) dX11_unlike_38 (by decide) rfl rfl ?_
      exact inner
set_option maxHeartbeats 4000000 in
set_option maxRecDepth 20000 in
theorem k_unlikePart {Z : q_Z} {m : q_Mm} {d : Nat} {n : Nat} {rl : Nat → Nat} {xs : Nat → Int64} (hV : MV m n rl xs) : q_V (q_g Z) mX11_unlike (d+2) 0 0 0 [some (.ref (q_ad Z 215)), some (.int (nI 2)), none, none, none, none] [] (q_W Z m) (q_P Z fun r m2 => r = some (.int (nI (s_cnt (fun i => decide (s_find (fun j => decide (s_part (xs j) (rl 3) = s_part (xs i) (rl 3))) i 0 = i)) n))) ∧ m2 = m) := by
  obtain ⟨hn, hn6, hx, -⟩ := id hV
  refine q_iconst (pc' := 1) (v := nI 0) dX11_unlike_0 rfl rfl ?_
  refine q_istore_n (pc' := 2) (lv' := [_, _, _, _, _, _]) dX11_unlike_1 (by decide) rfl rfl ?_
  refine q_iconst (pc' := 3) (v := nI 0) dX11_unlike_2 rfl rfl ?_
  refine q_istore_n (pc' := 4) (lv' := [_, _, _, _, _, _]) dX11_unlike_3 (by decide) rfl rfl ?_
  suffices h : ∀ g i u v, i + g = n → q_V (q_g Z) mX11_unlike (d+2) 0 0 4 [some (.ref (q_ad Z 215)), some (.int (nI 2)), some (.int (nI (s_cnt (fun i => decide (s_find (fun j => decide (s_part (xs j) (rl 3) = s_part (xs i) (rl 3))) i 0 = i)) i))), some (.int (nI i)), u, v] [] (q_W Z (m)) (q_P Z fun r m2 => r = some (.int (nI (s_cnt (fun i => decide (s_find (fun j => decide (s_part (xs j) (rl 3) = s_part (xs i) (rl 3))) i 0 = i)) n))) ∧ m2 = m) from h n 0 _ _ (by omega)
  intro g
  induction g with
  | zero =>
    intro i u v hi
    obtain rfl : i = n := by omega
    refine q_iload_n (pc' := 5) dX11_unlike_4 rfl rfl ?_
    refine q_aload_n (pc' := 6) dX11_unlike_5 rfl rfl ?_
    refine h_getiE (pc' := 9) dX11_unlike_6 fX11_242 rfl rfl (hn) rfl ?_
    refine q_icmp_geN (tgt := 132) (pc' := 12) dX11_unlike_9 (by decide) rfl (by omega) (fun c_9 => ?_) (fun c_9 => ?_)
    · refine q_iload_n (pc' := 133) dX11_unlike_132 rfl rfl ?_
      refine q_iret dX11_unlike_133 rfl rfl ⟨_, rfl, rfl, rfl⟩
    · omega
  | succ g ih =>
    intro i u v hi
    have e : (fun i => decide (s_find (fun j => decide (s_part (xs j) (rl 3) = s_part (xs i) (rl 3))) i 0 = i)) i = (true && s_none (fun j => decide (s_part (xs j) (rl 3) = s_part (xs i) (rl 3))) i) := by
      rw [s_none_find]
      rw [Bool.true_and]
    have inner : ∀ g2 j, j + g2 = i → q_V (q_g Z) mX11_unlike (d+2) 0 0 40 [some (.ref (q_ad Z 215)), some (.int (nI 2)), some (.int (nI (s_cnt (fun i => decide (s_find (fun j => decide (s_part (xs j) (rl 3) = s_part (xs i) (rl 3))) i 0 = i)) i))), some (.int (nI i)), some (.int (q_b (true && s_none (fun j => decide (s_part (xs j) (rl 3) = s_part (xs i) (rl 3))) j))), some (.int (nI j))] [] (q_W Z (m)) (q_P Z fun r m2 => r = some (.int (nI (s_cnt (fun i => decide (s_find (fun j => decide (s_part (xs j) (rl 3) = s_part (xs i) (rl 3))) i 0 = i)) n))) ∧ m2 = m) := by
      intro g2
      induction g2 with
      | zero =>
        intro j hj
        obtain rfl : j = i := by omega
        rw [← e]
        have ih := ih (j + 1) (some (.int (q_b ((fun i => decide (s_find (fun j => decide (s_part (xs j) (rl 3) = s_part (xs i) (rl 3))) i 0 = i)) j)))) (some (.int (nI j))) (by omega)
        refine q_iload (pc' := 42) dX11_unlike_40 rfl rfl ?_
        refine q_iload_n (pc' := 43) dX11_unlike_42 rfl rfl ?_
        refine q_icmp_geN (tgt := 113) (pc' := 46) dX11_unlike_43 (by decide) rfl (by omega) (fun c_43 => ?_) (fun c_43 => ?_)
        rotate_left
        · omega
        cases hb : (fun i => decide (s_find (fun j => decide (s_part (xs j) (rl 3) = s_part (xs i) (rl 3))) i 0 = i)) j with
        | false =>
          rw [s_cnt_f hb, hb] at ih
          refine q_iload_n (pc' := 114) dX11_unlike_113 rfl rfl ?_
          refine q_iload (pc' := 116) dX11_unlike_114 rfl rfl ?_
          refine q_if_eqB (tgt := 123) (pc' := 119) dX11_unlike_116 (by decide) rfl (fun c_116 => ?_) (fun c_116 => ?_)
          · refine q_iconst (pc' := 124) (v := nI 0) dX11_unlike_123 rfl rfl ?_
            refine q_iaddN (pc' := 125) dX11_unlike_124 rfl ?_
            refine q_istore_n (pc' := 126) (lv' := [_, _, _, _, _, _]) dX11_unlike_125 (by decide) rfl rfl ?_
            refine q_iincN (pc' := 129) (j := 1) (lv' := [_, _, _, _, _, _]) dX11_unlike_126 rfl (by decide) rfl rfl ?_
            refine q_goto (pc' := 4) dX11_unlike_129 (by decide) ?_
            exact ih
          · cases c_116
        | true =>
          rw [s_cnt_t hb, hb] at ih
          refine q_iload_n (pc' := 114) dX11_unlike_113 rfl rfl ?_
          refine q_iload (pc' := 116) dX11_unlike_114 rfl rfl ?_
          refine q_if_eqB (tgt := 123) (pc' := 119) dX11_unlike_116 (by decide) rfl (fun c_116 => ?_) (fun c_116 => ?_)
          · cases c_116
          · refine q_iconst (pc' := 120) (v := nI 1) dX11_unlike_119 rfl rfl ?_
            refine q_goto (pc' := 124) dX11_unlike_120 (by decide) ?_
            refine q_iaddN (pc' := 125) dX11_unlike_124 rfl ?_
            refine q_istore_n (pc' := 126) (lv' := [_, _, _, _, _, _]) dX11_unlike_125 (by decide) rfl rfl ?_
            refine q_iincN (pc' := 129) (j := 1) (lv' := [_, _, _, _, _, _]) dX11_unlike_126 rfl (by decide) rfl rfl ?_
            refine q_goto (pc' := 4) dX11_unlike_129 (by decide) ?_
            exact ih
      | succ g2 ih2 =>
        intro j hj
        have ih2 := ih2 (j + 1) (by omega)
        rw [show s_none (fun j => decide (s_part (xs j) (rl 3) = s_part (xs i) (rl 3))) (j + 1) = (s_none (fun j => decide (s_part (xs j) (rl 3) = s_part (xs i) (rl 3))) j && !(decide (s_part (xs j) (rl 3) = s_part (xs i) (rl 3)))) from rfl, ← Bool.and_assoc] at ih2
        generalize (true && s_none (fun j => decide (s_part (xs j) (rl 3) = s_part (xs i) (rl 3))) j) = b at ih2 ⊢
        refine q_iload (pc' := 42) dX11_unlike_40 rfl rfl ?_
        refine q_iload_n (pc' := 43) dX11_unlike_42 rfl rfl ?_
        refine q_icmp_geN (tgt := 113) (pc' := 46) dX11_unlike_43 (by decide) rfl (by omega) (fun c_43 => ?_) (fun c_43 => ?_)
        · omega
        refine q_iload (pc' := 48) dX11_unlike_46 rfl rfl ?_
        refine q_if_eqB (tgt := 104) (pc' := 51) dX11_unlike_48 (by decide) rfl (fun c_48 => ?_) (fun c_48 => ?_)
        · rw [c_48, Bool.false_and] at ih2
          refine q_iconst (pc' := 105) (v := nI 0) dX11_unlike_104 rfl rfl ?_
          refine q_istore (pc' := 107) (lv' := [_, _, _, _, _, _]) dX11_unlike_105 (by decide) rfl rfl ?_
          refine q_iincN (pc' := 110) (j := 1) (lv' := [_, _, _, _, _, _]) dX11_unlike_107 rfl (by decide) rfl rfl ?_
          refine q_goto (pc' := 40) dX11_unlike_110 (by decide) ?_
          exact ih2
        rw [c_48, Bool.true_and] at ih2
        rw [c_48]
        refine q_iload_n (pc' := 52) dX11_unlike_51 rfl rfl ?_
        refine q_iconst (pc' := 53) (v := nI 2) dX11_unlike_52 rfl rfl ?_
        refine q_icmp_ne (tgt := 83) (pc' := 56) dX11_unlike_53 (by decide) rfl (fun c_53 => ?_) (fun c_53 => ?_)
        · exact absurd rfl c_53
        refine q_aload_n (pc' := 57) dX11_unlike_56 rfl rfl ?_
        refine q_aload_n (pc' := 58) dX11_unlike_57 rfl rfl ?_
        refine h_getr (pc' := 61) dX11_unlike_58 fX11_33 rfl rfl rfl ?_
        refine q_iload (pc' := 63) dX11_unlike_61 rfl rfl ?_
        refine h_laldE (pc' := 64) dX11_unlike_63 rfl (rfl) (by omega) (by decide) (hx j (by omega)) rfl ?_
        refine h_callV (pc' := 67) (M' := mX11_partOf) (As := [_]) dX11_unlike_64 iX11_partOf lX11_317 rfl rfl rfl rfl (Nat.le_of_ble_eq_true rfl) (Nat.le_of_ble_eq_true rfl) rfl rfl ((k_partOf hV).up (Nat.zero_le _)) (fun r m' hq => ?_)
        obtain ⟨rfl, hmm⟩ := hq
        subst m'
        refine q_aload_n (pc' := 68) dX11_unlike_67 rfl rfl ?_
        refine q_aload_n (pc' := 69) dX11_unlike_68 rfl rfl ?_
        refine h_getr (pc' := 72) dX11_unlike_69 fX11_33 rfl rfl rfl ?_
        refine q_iload_n (pc' := 73) dX11_unlike_72 rfl rfl ?_
        refine h_laldE (pc' := 74) dX11_unlike_73 rfl (rfl) (by omega) (by decide) (hx i (by omega)) rfl ?_
        refine h_callV (pc' := 77) (M' := mX11_partOf) (As := [_]) dX11_unlike_74 iX11_partOf lX11_317 rfl rfl rfl rfl (Nat.le_of_ble_eq_true rfl) (Nat.le_of_ble_eq_true rfl) rfl rfl ((k_partOf hV).up (Nat.zero_le _)) (fun r m' hq => ?_)
        obtain ⟨rfl, hmm⟩ := hq
        subst m'
        refine q_icmp_eq (tgt := 104) (pc' := 80) dX11_unlike_77 (by decide) rfl (fun c_77 => ?_) (fun c_77 => ?_)
        · rw [decide_eq_true c_77] at ih2
          refine q_iconst (pc' := 105) (v := nI 0) dX11_unlike_104 rfl rfl ?_
          refine q_istore (pc' := 107) (lv' := [_, _, _, _, _, _]) dX11_unlike_105 (by decide) rfl rfl ?_
          refine q_iincN (pc' := 110) (j := 1) (lv' := [_, _, _, _, _, _]) dX11_unlike_107 rfl (by decide) rfl rfl ?_
          refine q_goto (pc' := 40) dX11_unlike_110 (by decide) ?_
          exact ih2
        · rw [decide_eq_false c_77] at ih2
          refine q_goto (pc' := 100) dX11_unlike_80 (by decide) ?_
          refine q_iconst (pc' := 101) (v := nI 1) dX11_unlike_100 rfl rfl ?_
          refine q_goto (pc' := 105) dX11_unlike_101 (by decide) ?_
          refine q_istore (pc' := 107) (lv' := [_, _, _, _, _, _]) dX11_unlike_105 (by decide) rfl rfl ?_
          refine q_iincN (pc' := 110) (j := 1) (lv' := [_, _, _, _, _, _]) dX11_unlike_107 rfl (by decide) rfl rfl ?_
          refine q_goto (pc' := 40) dX11_unlike_110 (by decide) ?_
          exact ih2
    refine q_iload_n (pc' := 5) dX11_unlike_4 rfl rfl ?_
    refine q_aload_n (pc' := 6) dX11_unlike_5 rfl rfl ?_
    refine h_getiE (pc' := 9) dX11_unlike_6 fX11_242 rfl rfl (hn) rfl ?_
    refine q_icmp_geN (tgt := 132) (pc' := 12) dX11_unlike_9 (by decide) rfl (by omega) (fun c_9 => ?_) (fun c_9 => ?_)
    · omega
    refine q_iload_n (pc' := 13) dX11_unlike_12 rfl rfl ?_
    refine q_iconst (pc' := 14) (v := nI 1) dX11_unlike_13 rfl rfl ?_
    refine q_icmp_ne (tgt := 30) (pc' := 17) dX11_unlike_14 (by decide) rfl (fun c_14 => ?_) (fun c_14 => ?_)
    rotate_left
    · exact absurd c_14 (by decide)
    refine q_iconst (pc' := 31) (v := nI 1) dX11_unlike_30 rfl rfl ?_
    refine q_goto (pc' := 35) dX11_unlike_31 (by decide) ?_
    refine q_istore (pc' := 37) (lv' := [_, _, _, _, _, _]) dX11_unlike_35 (by decide) rfl rfl ?_
    refine q_iconst (pc' := 38) (v := nI 0) dX11_unlike_37 rfl rfl ?_
    refine q_istore (pc' := 40) (lv' := [_, _, _, _, _, _]) dX11_unlike_38 (by decide) rfl rfl ?_
    exact inner i 0 (by omega)
theorem z_min {x y : Nat} (hx : x < 2 ^ 31) (hy : y < 2 ^ 31) : (if nI y < nI x then nI y else nI x) = nI (if y < x then y else x) := by
  have h : nI y < nI x ↔ y < x := by rw [z_lt, z_n hx, z_n hy]; omega
  by_cases z : y < x
  · rw [if_pos z, if_pos (h.mpr z)]
  · rw [if_neg z, if_neg (fun q => z (h.mp q))]
set_option maxHeartbeats 4000000 in
set_option maxRecDepth 20000 in
theorem k_blocks {Z : q_Z} {m : q_Mm} {d : Nat} {n : Nat} {rl : Nat → Nat} {xs : Nat → Int64} (hV : MV m n rl xs) : q_V (q_g Z) mX11_blocks (d) 0 0 0 [some (.ref (q_ad Z 215))] [] (q_W Z m) (q_P Z fun r m2 => r = some (.int (nI (s_nb n rl))) ∧ m2 = m) := by
  obtain ⟨hn, hn6, hx, hr, hok⟩ := hV
  have h0 := hok.1
  refine q_aload_n (pc' := 1) dX11_blocks_0 rfl rfl ?_
  refine h_getiE (pc' := 4) dX11_blocks_1 fX11_242 rfl rfl (hn) rfl ?_
  refine q_aload_n (pc' := 5) dX11_blocks_4 rfl rfl ?_
  refine h_getr (pc' := 8) dX11_blocks_5 fX11_36 rfl rfl rfl ?_
  refine q_iconst (pc' := 9) (v := nI 0) dX11_blocks_8 rfl rfl ?_
  refine h_ialdE (pc' := 10) dX11_blocks_9 rfl (rfl) (by omega) (by decide) (hr 0 (by decide)) rfl ?_
  refine q_iaddN (pc' := 11) dX11_blocks_10 rfl ?_
  refine q_iconst (pc' := 12) (v := nI 1) dX11_blocks_11 rfl rfl ?_
  refine q_isubN (pc' := 13) dX11_blocks_12 (by omega) rfl ?_
  refine q_aload_n (pc' := 14) dX11_blocks_13 rfl rfl ?_
  refine h_getr (pc' := 17) dX11_blocks_14 fX11_36 rfl rfl rfl ?_
  refine q_iconst (pc' := 18) (v := nI 0) dX11_blocks_17 rfl rfl ?_
  refine h_ialdE (pc' := 19) dX11_blocks_18 rfl (rfl) (by omega) (by decide) (hr 0 (by decide)) rfl ?_
  refine q_idivN (pc' := 20) dX11_blocks_19 (by omega) rfl ?_
  refine q_iret dX11_blocks_20 rfl rfl ⟨_, rfl, rfl, rfl⟩
set_option maxHeartbeats 4000000 in
set_option maxRecDepth 20000 in
theorem k_longOf {Z : q_Z} {m : q_Mm} {d : Nat} {n b : Nat} {rl : Nat → Nat} {xs : Nat → Int64} (hV : MV m n rl xs) (hb : b < s_nb n rl) : q_V (q_g Z) mX11_longOf (d+1) 0 0 0 [some (.ref (q_ad Z 215)), some (.int (nI b))] [] (q_W Z m) (q_P Z fun r m2 => r = some (.int (nI (s_sz n rl b))) ∧ m2 = m) := by
  obtain ⟨hn, hn6, hx, hr, hok⟩ := hV
  have h0 := hok.1
  obtain ⟨h1, h2, h3, h4⟩ := s_nb_in hok hb
  rw [Nat.mul_comm] at h1
  refine q_aload_n (pc' := 1) dX11_longOf_0 rfl rfl ?_
  refine h_getr (pc' := 4) dX11_longOf_1 fX11_36 rfl rfl rfl ?_
  refine q_iconst (pc' := 5) (v := nI 0) dX11_longOf_4 rfl rfl ?_
  refine h_ialdE (pc' := 6) dX11_longOf_5 rfl (rfl) (by omega) (by decide) (hr 0 (by decide)) rfl ?_
  refine q_aload_n (pc' := 7) dX11_longOf_6 rfl rfl ?_
  refine h_getiE (pc' := 10) dX11_longOf_7 fX11_242 rfl rfl (hn) rfl ?_
  refine q_aload_n (pc' := 11) dX11_longOf_10 rfl rfl ?_
  refine h_getr (pc' := 14) dX11_longOf_11 fX11_36 rfl rfl rfl ?_
  refine q_iconst (pc' := 15) (v := nI 0) dX11_longOf_14 rfl rfl ?_
  refine h_ialdE (pc' := 16) dX11_longOf_15 rfl (rfl) (by omega) (by decide) (hr 0 (by decide)) rfl ?_
  refine q_iload_n (pc' := 17) dX11_longOf_16 rfl rfl ?_
  refine q_imulN (pc' := 18) dX11_longOf_17 rfl ?_
  refine q_isubN (pc' := 19) dX11_longOf_18 (by omega) rfl ?_
  refine q_mmin (pc' := 22) dX11_longOf_19 lX11_278 mmin_s mz_i mmin_c (Nat.le_of_ble_eq_true rfl) rfl ?_
  rw [z_min (by omega) (by omega), Nat.mul_comm]
  refine q_iret dX11_longOf_22 rfl rfl ⟨_, rfl, rfl, rfl⟩
set_option maxHeartbeats 4000000 in
set_option maxRecDepth 20000 in
theorem k_isBlock {Z : q_Z} {m : q_Mm} {d : Nat} {n : Nat} {t : Bool} {x : Int32} {rl : Nat → Nat} {xs : Nat → Int64} (hV : t = true → MV m n rl xs) (ht : m.1 215 22 = q_b t) : q_V (q_g Z) mX11_isBlock (d+1) 0 0 0 [some (.ref (q_ad Z 215)), some (.int x)] [] (q_W Z m) (q_P Z fun r m2 => r = some (.int (q_b (s_has t (s_nb n rl) x))) ∧ m2 = m) := by
  refine q_aload_n (pc' := 1) dX11_isBlock_0 rfl rfl ?_
  refine h_getiE (pc' := 4) dX11_isBlock_1 fX11_238 rfl rfl (ht) rfl ?_
  refine q_if_eqB (tgt := 25) (pc' := 7) dX11_isBlock_4 (by decide) rfl (fun c_4 => ?_) (fun c_4 => ?_)
  · refine q_iconst (pc' := 26) (v := nI 0) dX11_isBlock_25 rfl rfl ?_
    refine q_iret dX11_isBlock_26 rfl (by first | exact q_nb0 | exact q_nb1 | exact q_nb _) ⟨_, rfl, by unfold s_has; rw [c_4]; rfl, rfl⟩
  have hV := hV c_4
  have hnb := s_nb_le hV.2.2.2.2 hV.2.1
  refine q_iload_n (pc' := 8) dX11_isBlock_7 rfl rfl ?_
  refine q_iconst (pc' := 9) (v := nI 0) dX11_isBlock_8 rfl rfl ?_
  refine q_aload_n (pc' := 10) dX11_isBlock_9 rfl rfl ?_
  refine h_callV (pc' := 13) (M' := mX11_blocks) (As := []) dX11_isBlock_10 iX11_blocks lX11_329 rfl rfl rfl rfl (Nat.le_of_ble_eq_true rfl) (Nat.le_of_ble_eq_true rfl) rfl rfl (k_blocks hV) (fun r m' hq => ?_)
  obtain ⟨rfl, hmm⟩ := hq
  subst m'
  refine q_iconst (pc' := 14) (v := nI 1) dX11_isBlock_13 rfl rfl ?_
  refine q_isub (pc' := 15) dX11_isBlock_14 rfl ?_
  refine h_callS (pc' := 18) (M' := mX11_in) (As := [_, _, _]) dX11_isBlock_15 iX11_in lX11_99 rfl rfl (Nat.le_of_ble_eq_true rfl) (Nat.le_of_ble_eq_true rfl) rfl rfl (k_in) (fun r m' hq => ?_)
  obtain ⟨rfl, hmm⟩ := hq
  subst m'
  rw [z_nm1 (by omega), show (nI 0).toInt = 0 from rfl, show decide (0 ≤ x.toInt ∧ x.toInt ≤ (s_nb n rl : Int) - 1) = s_has t (s_nb n rl) x by unfold s_has; rw [c_4, Bool.true_and]; exact decide_eq_decide.mpr (by omega)]
  refine q_if_eqB (tgt := 25) (pc' := 21) dX11_isBlock_18 (by decide) rfl (fun c_18 => ?_) (fun c_18 => ?_)
  · refine q_iconst (pc' := 26) (v := nI 0) dX11_isBlock_25 rfl rfl ?_
    refine q_iret dX11_isBlock_26 rfl (by first | exact q_nb0 | exact q_nb1 | exact q_nb _) ⟨_, rfl, by rw [c_18]; rfl, rfl⟩
  · refine q_iconst (pc' := 22) (v := nI 1) dX11_isBlock_21 rfl rfl ?_
    refine q_goto (pc' := 26) dX11_isBlock_22 (by decide) ?_
    refine q_iret dX11_isBlock_26 rfl (by first | exact q_nb0 | exact q_nb1 | exact q_nb _) ⟨_, rfl, by rw [c_18]; rfl, rfl⟩
/-- those at hand -/
def MH (m : q_Mm) (k : Nat) (g : Nat → Int64) : Prop := m.1 215 25 = nI k ∧ ∀ i, i < k → m.2.2.2.1 227 i = g i
theorem MH.fr {S : List Nat} {m m2 : q_Mm} {k : Nat} {g : Nat → Int64} (h : MH m k g) (f : Fr S m m2) (e : m2.1 215 25 = m.1 215 25) (h1 : 227 ∉ S) : MH m2 k g := ⟨e.trans h.1, fun i hi => (congrFun (f.l h1) i).trans (h.2 i hi)⟩
set_option maxHeartbeats 4000000 in
set_option maxRecDepth 20000 in
theorem k_layBlock {Z : q_Z} {m : q_Mm} {d : Nat} {n b : Nat} {rl : Nat → Nat} {xs : Nat → Int64} (hV : MV m n rl xs) (hb : b < s_nb n rl) : q_V (q_g Z) mX11_layBlock (d+2) 0 0 0 [some (.ref (q_ad Z 215)), some (.int (nI b)), none] [] (q_W Z m) (q_P Z fun r m2 => r = none ∧ Fr [215, 227] m m2 ∧ Kp 215 [25] m m2 ∧ MH m2 (s_sz n rl b) (fun i => xs (b * rl 0 + i))) := by
  refine q_aload_n (pc' := 1) dX11_layBlock_0 rfl rfl ?_
  refine q_aload_n (pc' := 2) dX11_layBlock_1 rfl rfl ?_
  refine q_iload_n (pc' := 3) dX11_layBlock_2 rfl rfl ?_
  refine h_callV (pc' := 6) (M' := mX11_longOf) (As := [_]) dX11_layBlock_3 iX11_longOf lX11_283 rfl rfl rfl rfl (Nat.le_of_ble_eq_true rfl) (Nat.le_of_ble_eq_true rfl) rfl rfl (k_longOf hV hb) (fun r m' hq => ?_)
  obtain ⟨rfl, hmm⟩ := hq
  subst m'
  obtain ⟨hn, hn6, hx, hr, hok⟩ := hV
  have h0 := hok.1
  obtain ⟨h1, h2, h3, h4⟩ := s_nb_in hok hb
  generalize s_sz n rl b = z at h2 h3 h4 ⊢
  refine h_puti (pc' := 9) dX11_layBlock_6 fX11_286 rfl rfl rfl rfl rfl ?_
  refine q_iconst (pc' := 10) (v := nI 0) dX11_layBlock_9 rfl rfl ?_
  refine q_istore_n (pc' := 11) (lv' := [_, _, _]) dX11_layBlock_10 (by decide) rfl rfl ?_
  suffices h : ∀ g i m1, i + g = z → Fr [215, 227] m m1 → Kp 215 [25] m m1 → m1.1 215 25 = nI z → (∀ j, j < i → m1.2.2.2.1 227 j = xs (b * rl 0 + j)) → q_V (q_g Z) mX11_layBlock (d+2) 0 0 11 [some (.ref (q_ad Z 215)), some (.int (nI b)), some (.int (nI i))] [] (q_W Z (m1)) (q_P Z fun r m2 => r = none ∧ Fr [215, 227] m m2 ∧ Kp 215 [25] m m2 ∧ MH m2 z (fun i => xs (b * rl 0 + i))) from h z 0 _ (by omega) (Fr.rf.I (by decide)) (kp_I Kp.rf (by decide)) rfl (fun j hj => absurd hj (by omega))
  intro g
  induction g with
  | zero =>
    intro i m1 hi f1 k1 e25 h5
    obtain rfl : i = z := by omega
    refine q_iload_n (pc' := 12) dX11_layBlock_11 rfl rfl ?_
    refine q_aload_n (pc' := 13) dX11_layBlock_12 rfl rfl ?_
    refine h_getiE (pc' := 16) dX11_layBlock_13 fX11_286 rfl rfl (e25) rfl ?_
    refine q_icmp_geN (tgt := 46) (pc' := 19) dX11_layBlock_16 (by decide) rfl (by omega) (fun c_16 => ?_) (fun c_16 => ?_)
    · refine q_vret dX11_layBlock_46 rfl ⟨_, rfl, rfl, f1, k1, e25, h5⟩
    · omega
  | succ g ih =>
    intro i m1 hi f1 k1 e25 h5
    have hr1 : m1.2.2.1 224 0 = nI (rl 0) := (congrFun (f1.a (by decide)) 0).trans (hr 0 (by decide))
    have hm : rl 0 * b = b * rl 0 := Nat.mul_comm _ _
    refine q_iload_n (pc' := 12) dX11_layBlock_11 rfl rfl ?_
    refine q_aload_n (pc' := 13) dX11_layBlock_12 rfl rfl ?_
    refine h_getiE (pc' := 16) dX11_layBlock_13 fX11_286 rfl rfl (e25) rfl ?_
    refine q_icmp_geN (tgt := 46) (pc' := 19) dX11_layBlock_16 (by decide) rfl (by omega) (fun c_16 => ?_) (fun c_16 => ?_)
    · omega
    refine q_aload_n (pc' := 20) dX11_layBlock_19 rfl rfl ?_
    refine h_getr (pc' := 23) dX11_layBlock_20 fX11_45 rfl rfl rfl ?_
    refine q_iload_n (pc' := 24) dX11_layBlock_23 rfl rfl ?_
    refine q_aload_n (pc' := 25) dX11_layBlock_24 rfl rfl ?_
    refine h_getr (pc' := 28) dX11_layBlock_25 fX11_33 rfl rfl rfl ?_
    refine q_aload_n (pc' := 29) dX11_layBlock_28 rfl rfl ?_
    refine h_getr (pc' := 32) dX11_layBlock_29 fX11_36 rfl rfl rfl ?_
    refine q_iconst (pc' := 33) (v := nI 0) dX11_layBlock_32 rfl rfl ?_
    refine h_ialdE (pc' := 34) dX11_layBlock_33 rfl (rfl) (by omega) (by decide) (hr1) rfl ?_
    refine q_iload_n (pc' := 35) dX11_layBlock_34 rfl rfl ?_
    refine q_imulN (pc' := 36) dX11_layBlock_35 rfl ?_
    refine q_iload_n (pc' := 37) dX11_layBlock_36 rfl rfl ?_
    refine q_iaddN (pc' := 38) dX11_layBlock_37 rfl ?_
    refine h_laldE (pc' := 39) dX11_layBlock_38 rfl (rfl) (by omega) (by decide) ((congrFun (f1.l (by decide)) _).trans (hx _ (by omega))) rfl ?_
    refine h_last (pc' := 40) dX11_layBlock_39 rfl (rfl) (by omega) (by decide) rfl ?_
    refine q_iincN (pc' := 43) (j := 1) (lv' := [_, _, _]) dX11_layBlock_40 rfl (by decide) rfl rfl ?_
    refine q_goto (pc' := 11) dX11_layBlock_43 (by decide) ?_
    rw [hm]
    refine ih (i + 1) _ (by omega) (f1.L (by decide)) k1 e25 (fun j hj => ?_)
    show q_u (m1.2.2.2.1 227) i (xs (b * rl 0 + i)) j = _
    by_cases y : j = i
    · rw [y, q_u_s]
    · rw [q_u_n _ _ y]; exact h5 j (by omega)
set_option maxHeartbeats 4000000 in
set_option maxRecDepth 20000 in
theorem k_laySample {Z : q_Z} {m : q_Mm} {d : Nat} {n b : Nat} {rl : Nat → Nat} {xs : Nat → Int64} (hV : MV m n rl xs) (hb : b < s_nb n rl) : q_V (q_g Z) mX11_laySample (d+2) 0 0 0 [some (.ref (q_ad Z 215)), some (.int (nI b)), none, none] [] (q_W Z m) (q_P Z fun r m2 => r = none ∧ Fr [215, 227] m m2 ∧ Kp 215 [25] m m2 ∧ MH m2 (s_sn n rl b) (fun i => xs (b * rl 0 + i * s_sz n rl b / s_sn n rl b))) := by
  refine q_aload_n (pc' := 1) dX11_laySample_0 rfl rfl ?_
  refine q_iload_n (pc' := 2) dX11_laySample_1 rfl rfl ?_
  refine h_callV (pc' := 5) (M' := mX11_longOf) (As := [_]) dX11_laySample_2 iX11_longOf lX11_283 rfl rfl rfl rfl (Nat.le_of_ble_eq_true rfl) (Nat.le_of_ble_eq_true rfl) rfl rfl (k_longOf hV hb) (fun r m' hq => ?_)
  obtain ⟨rfl, hmm⟩ := hq
  subst m'
  obtain ⟨hn, hn6, hx, hr, hok⟩ := hV
  have h0 := hok.1
  have h01 := hok.2.1
  obtain ⟨h1, h2, h3, h4⟩ := s_nb_in hok hb
  have hs : s_sn n rl b = if rl 1 < s_sz n rl b then rl 1 else s_sz n rl b := by unfold s_sn; split <;> split <;> omega
  have hs1 : 1 ≤ s_sn n rl b ∧ s_sn n rl b ≤ s_sz n rl b := by rw [hs]; split <;> omega
  generalize s_sn n rl b = y at hs hs1 ⊢
  generalize s_sz n rl b = z at h2 h3 h4 hs hs1 ⊢
  refine q_istore_n (pc' := 6) (lv' := [_, _, _, _]) dX11_laySample_5 (by decide) rfl rfl ?_
  refine q_aload_n (pc' := 7) dX11_laySample_6 rfl rfl ?_
  refine q_iload_n (pc' := 8) dX11_laySample_7 rfl rfl ?_
  refine q_aload_n (pc' := 9) dX11_laySample_8 rfl rfl ?_
  refine h_getr (pc' := 12) dX11_laySample_9 fX11_36 rfl rfl rfl ?_
  refine q_iconst (pc' := 13) (v := nI 1) dX11_laySample_12 rfl rfl ?_
  refine h_ialdE (pc' := 14) dX11_laySample_13 rfl (rfl) (by omega) (by decide) (hr 1 (by decide)) rfl ?_
  refine q_mmin (pc' := 17) dX11_laySample_14 lX11_278 mmin_s mz_i mmin_c (Nat.le_of_ble_eq_true rfl) rfl ?_
  rw [z_min (by omega) (by omega), ← hs]
  refine h_puti (pc' := 20) dX11_laySample_17 fX11_286 rfl rfl rfl rfl rfl ?_
  refine q_iconst (pc' := 21) (v := nI 0) dX11_laySample_20 rfl rfl ?_
  refine q_istore_n (pc' := 22) (lv' := [_, _, _, _]) dX11_laySample_21 (by decide) rfl rfl ?_
  suffices h : ∀ g i m1, i + g = y → Fr [215, 227] m m1 → Kp 215 [25] m m1 → m1.1 215 25 = nI y → (∀ j, j < i → m1.2.2.2.1 227 j = xs (b * rl 0 + j * z / y)) → q_V (q_g Z) mX11_laySample (d+2) 0 0 22 [some (.ref (q_ad Z 215)), some (.int (nI b)), some (.int (nI z)), some (.int (nI i))] [] (q_W Z (m1)) (q_P Z fun r m2 => r = none ∧ Fr [215, 227] m m2 ∧ Kp 215 [25] m m2 ∧ MH m2 y (fun i => xs (b * rl 0 + i * z / y))) from h y 0 _ (by omega) (Fr.rf.I (by decide)) (kp_I Kp.rf (by decide)) rfl (fun j hj => absurd hj (by omega))
  intro g
  induction g with
  | zero =>
    intro i m1 hi f1 k1 e25 h5
    obtain rfl : i = y := by omega
    refine q_iload_n (pc' := 23) dX11_laySample_22 rfl rfl ?_
    refine q_aload_n (pc' := 24) dX11_laySample_23 rfl rfl ?_
    refine h_getiE (pc' := 27) dX11_laySample_24 fX11_286 rfl rfl (e25) rfl ?_
    refine q_icmp_geN (tgt := 64) (pc' := 30) dX11_laySample_27 (by decide) rfl (by omega) (fun c_27 => ?_) (fun c_27 => ?_)
    · refine q_vret dX11_laySample_64 rfl ⟨_, rfl, rfl, f1, k1, e25, h5⟩
    · omega
  | succ g ih =>
    intro i m1 hi f1 k1 e25 h5
    have hr1 : m1.2.2.1 224 0 = nI (rl 0) := (congrFun (f1.a (by decide)) 0).trans (hr 0 (by decide))
    have hm : rl 0 * b = b * rl 0 := Nat.mul_comm _ _
    have hiz : i * z < y * z := Nat.mul_lt_mul_of_pos_right (by omega) (by omega)
    have hyz : y * z ≤ 16 * 16 := Nat.mul_le_mul (by omega) (by omega)
    have hq : i * z / y < z := Nat.div_lt_of_lt_mul hiz
    refine q_iload_n (pc' := 23) dX11_laySample_22 rfl rfl ?_
    refine q_aload_n (pc' := 24) dX11_laySample_23 rfl rfl ?_
    refine h_getiE (pc' := 27) dX11_laySample_24 fX11_286 rfl rfl (e25) rfl ?_
    refine q_icmp_geN (tgt := 64) (pc' := 30) dX11_laySample_27 (by decide) rfl (by omega) (fun c_27 => ?_) (fun c_27 => ?_)
    · omega
    refine q_aload_n (pc' := 31) dX11_laySample_30 rfl rfl ?_
    refine h_getr (pc' := 34) dX11_laySample_31 fX11_45 rfl rfl rfl ?_
    refine q_iload_n (pc' := 35) dX11_laySample_34 rfl rfl ?_
    refine q_aload_n (pc' := 36) dX11_laySample_35 rfl rfl ?_
    refine h_getr (pc' := 39) dX11_laySample_36 fX11_33 rfl rfl rfl ?_
    refine q_aload_n (pc' := 40) dX11_laySample_39 rfl rfl ?_
    refine h_getr (pc' := 43) dX11_laySample_40 fX11_36 rfl rfl rfl ?_
    refine q_iconst (pc' := 44) (v := nI 0) dX11_laySample_43 rfl rfl ?_
    refine h_ialdE (pc' := 45) dX11_laySample_44 rfl (rfl) (by omega) (by decide) (hr1) rfl ?_
    refine q_iload_n (pc' := 46) dX11_laySample_45 rfl rfl ?_
    refine q_imulN (pc' := 47) dX11_laySample_46 rfl ?_
    refine q_iload_n (pc' := 48) dX11_laySample_47 rfl rfl ?_
    refine q_iload_n (pc' := 49) dX11_laySample_48 rfl rfl ?_
    refine q_imulN (pc' := 50) dX11_laySample_49 rfl ?_
    refine q_aload_n (pc' := 51) dX11_laySample_50 rfl rfl ?_
    refine h_getiE (pc' := 54) dX11_laySample_51 fX11_286 rfl rfl (e25) rfl ?_
    refine q_idivN (pc' := 55) dX11_laySample_54 (by omega) rfl ?_
    refine q_iaddN (pc' := 56) dX11_laySample_55 rfl ?_
    refine h_laldE (pc' := 57) dX11_laySample_56 rfl (rfl) (by omega) (by decide) ((congrFun (f1.l (by decide)) _).trans (hx _ (by omega))) rfl ?_
    refine h_last (pc' := 58) dX11_laySample_57 rfl (rfl) (by omega) (by decide) rfl ?_
    refine q_iincN (pc' := 61) (j := 1) (lv' := [_, _, _, _]) dX11_laySample_58 rfl (by decide) rfl rfl ?_
    refine q_goto (pc' := 22) dX11_laySample_61 (by decide) ?_
    rw [hm]
    refine ih (i + 1) _ (by omega) (f1.L (by decide)) k1 e25 (fun j hj => ?_)
    show q_u (m1.2.2.2.1 227) i (xs (b * rl 0 + i * z / y)) j = _
    by_cases w : j = i
    · rw [w, q_u_s]
    · rw [q_u_n _ _ w]; exact h5 j (by omega)
