/-! ===== GuisePack's face: common ===== -/
/-- how often the commonest VALUE stands, the place of the first such -/
def s_com (f : Nat → Nat) : Nat → Nat × Nat
  | 0 => (0, 0)
  | i + 1 => if (s_com f i).1 < f i then (f i, i) else s_com f i
theorem s_com_le {f : Nat → Nat} {b n : Nat} : ∀ k, k ≤ n → (∀ i, i < n → f i ≤ b) → (s_com f k).1 ≤ b ∧ ((s_com f k).2 < n ∨ (s_com f k).2 = 0)
  | 0, _, _ => ⟨Nat.zero_le _, Or.inr rfl⟩
  | k + 1, h, g => by
    have ih := s_com_le k (by omega) g
    unfold s_com
    split
    · exact ⟨g k (by omega), Or.inl (by show k < n; omega)⟩
    · exact ih
def s_lk (n : Nat) (xs : Nat → Int64) (i : Nat) : Nat := s_cnt (fun j => decide (xs j = xs i)) n
set_option maxHeartbeats 4000000 in
set_option maxRecDepth 20000 in
theorem c_common {Z : q_Z} {m : q_Mm} {d : Nat} {n k : Nat} {t : Bool} {x : Int32} {rl : Nat → Nat} {xs : Nat → Int64} {nt : Nat → Int32} (hC : Col m 19 n k xs rl nt) (ht : m.1 0 14 = q_b t) : q_V (q_g Z) mX10_common (d+1) 0 0 0 [some (.ref (q_ad Z 0)), some (.int x), none, none, none, none] [] (q_W Z m) (q_P Z fun r m2 => r = some (.long (if t = true ∧ n ≠ 0 ∧ 0 ≤ x.toInt ∧ x.toInt ≤ 1 then (if x.toInt = 0 then xs (s_com (s_lk n xs) n).2 else (nI (s_com (s_lk n xs) n).1).toInt64) else -1000000)) ∧ m2 = m) := by
  have hn := hC.2.2.1
  have hf : ∀ i, i < n → s_lk n xs i ≤ 64 := fun i _ => Nat.le_trans (s_cnt_le _ n) hn
  refine q_aload_n (pc' := 1) dX10_common_0 rfl rfl ?_
  refine h_getiE (pc' := 4) dX10_common_1 fX10_122 rfl rfl (ht) rfl ?_
  refine q_if_eqB (tgt := 26) (pc' := 7) dX10_common_4 (by decide) rfl (fun c_4 => ?_) (fun c_4 => ?_)
  · refine q_ldc2 (pc' := 29) dX10_common_26 kX10_132 rfl ?_
    refine q_lret dX10_common_29 rfl ⟨_, rfl, by rw [if_neg (fun z => by rw [c_4] at z; exact absurd z.1 (by decide))], rfl⟩
  refine q_aload_n (pc' := 8) dX10_common_7 rfl rfl ?_
  refine h_getr (pc' := 11) dX10_common_8 fX10_45 rfl rfl rfl ?_
  refine h_getiE (pc' := 14) dX10_common_11 fX10_128 rfl rfl (hC.1) rfl ?_
  refine q_if_eqN (tgt := 26) (pc' := 17) dX10_common_14 (by decide) rfl (by omega) (fun c_14 => ?_) (fun c_14 => ?_)
  · refine q_ldc2 (pc' := 29) dX10_common_26 kX10_132 rfl ?_
    refine q_lret dX10_common_29 rfl ⟨_, rfl, by rw [if_neg (fun z => z.2.1 c_14)], rfl⟩
  refine q_iload_n (pc' := 18) dX10_common_17 rfl rfl ?_
  refine q_if_lt (tgt := 26) (pc' := 21) dX10_common_18 (by decide) rfl (fun c_18 => ?_) (fun c_18 => ?_)
  · rw [z_lt, z_0] at c_18
    refine q_ldc2 (pc' := 29) dX10_common_26 kX10_132 rfl ?_
    refine q_lret dX10_common_29 rfl ⟨_, rfl, by rw [if_neg (fun z => by omega)], rfl⟩
  rw [z_lt, z_0] at c_18
  refine q_iload_n (pc' := 22) dX10_common_21 rfl rfl ?_
  refine q_iconst (pc' := 23) (v := nI 1) dX10_common_22 rfl rfl ?_
  refine q_icmp_le (tgt := 30) (pc' := 26) dX10_common_23 (by decide) rfl (fun c_23 => ?_) (fun c_23 => ?_)
  rotate_left
  · rw [z_le, z_n (by decide)] at c_23
    refine q_ldc2 (pc' := 29) dX10_common_26 kX10_132 rfl ?_
    refine q_lret dX10_common_29 rfl ⟨_, rfl, by rw [if_neg (fun z => by omega)], rfl⟩
  rw [z_le, z_n (by decide)] at c_23
  rw [if_pos ⟨c_4, by omega, by omega, by omega⟩]
  refine q_iconst (pc' := 31) (v := nI 0) dX10_common_30 rfl rfl ?_
  refine q_istore_n (pc' := 32) (lv' := [_, _, _, _, _, _]) dX10_common_31 (by decide) rfl rfl ?_
  refine q_iconst (pc' := 33) (v := nI 0) dX10_common_32 rfl rfl ?_
  refine q_istore_n (pc' := 34) (lv' := [_, _, _, _, _, _]) dX10_common_33 (by decide) rfl rfl ?_
  refine q_iconst (pc' := 35) (v := nI 0) dX10_common_34 rfl rfl ?_
  refine q_istore (pc' := 37) (lv' := [_, _, _, _, _, _]) dX10_common_35 (by decide) rfl rfl ?_
  suffices hl : ∀ c j w, j + c = n → q_V (q_g Z) mX10_common (d + 1) 0 0 37 [some (.ref (q_ad Z 0)), some (.int x), some (.int (nI (s_com (s_lk n xs) j).1)), some (.int (nI (s_com (s_lk n xs) j).2)), some (.int (nI j)), w] [] (q_W Z m) (q_P Z fun r m2 => r = some (.long (if x.toInt = 0 then xs (s_com (s_lk n xs) n).2 else (nI (s_com (s_lk n xs) n).1).toInt64)) ∧ m2 = m) from hl n 0 _ (by omega)
  intro c
  induction c with
  | zero =>
    intro j w hj
    obtain rfl : n = j := by omega
    have hcl := s_com_le n (Nat.le_refl n) hf
    refine q_iload (pc' := 39) dX10_common_37 rfl rfl ?_
    refine q_aload_n (pc' := 40) dX10_common_39 rfl rfl ?_
    refine h_getr (pc' := 43) dX10_common_40 fX10_45 rfl rfl rfl ?_
    refine h_getiE (pc' := 46) dX10_common_43 fX10_128 rfl rfl (hC.1) rfl ?_
    refine q_icmp_geN (tgt := 78) (pc' := 49) dX10_common_46 (by decide) rfl (by omega) (fun c_46 => ?_) (fun c_46 => ?_)
    rotate_left
    · omega
    refine q_iload_n (pc' := 79) dX10_common_78 rfl rfl ?_
    refine q_if_ne (tgt := 94) (pc' := 82) dX10_common_79 (by decide) rfl (fun c_79 => ?_) (fun c_79 => ?_)
    · rw [z_eq, z_0] at c_79
      refine q_iload_n (pc' := 95) dX10_common_94 rfl rfl ?_
      refine q_i2l (pc' := 96) dX10_common_95 rfl ?_
      refine q_lret dX10_common_96 rfl ⟨_, rfl, by rw [if_neg c_79], rfl⟩
    · rw [z_eq, z_0] at c_79
      refine q_aload_n (pc' := 83) dX10_common_82 rfl rfl ?_
      refine h_getr (pc' := 86) dX10_common_83 fX10_45 rfl rfl rfl ?_
      refine h_getr (pc' := 89) dX10_common_86 fX10_154 rfl rfl rfl ?_
      refine q_iload_n (pc' := 90) dX10_common_89 rfl rfl ?_
      refine h_laldE (pc' := 91) dX10_common_90 rfl (rfl) (by omega) (by decide) (hC.2.2.2.2.1 (s_com (s_lk n xs) n).2 (by omega)) rfl ?_
      refine q_goto (pc' := 96) dX10_common_91 (by decide) ?_
      refine q_lret dX10_common_96 rfl ⟨_, rfl, by rw [if_pos c_79], rfl⟩
  | succ c ih =>
    intro j w hj
    have hcl := s_com_le j (by omega) hf
    have hfj := hf j (by omega)
    have ih := ih (j + 1) (some (.int (nI (s_lk n xs j)))) (by omega)
    refine q_iload (pc' := 39) dX10_common_37 rfl rfl ?_
    refine q_aload_n (pc' := 40) dX10_common_39 rfl rfl ?_
    refine h_getr (pc' := 43) dX10_common_40 fX10_45 rfl rfl rfl ?_
    refine h_getiE (pc' := 46) dX10_common_43 fX10_128 rfl rfl (hC.1) rfl ?_
    refine q_icmp_geN (tgt := 78) (pc' := 49) dX10_common_46 (by decide) rfl (by omega) (fun c_46 => ?_) (fun c_46 => ?_)
    · omega
    refine q_aload_n (pc' := 50) dX10_common_49 rfl rfl ?_
    refine h_getr (pc' := 53) dX10_common_50 fX10_45 rfl rfl rfl ?_
    refine q_iload (pc' := 55) dX10_common_53 rfl rfl ?_
    refine h_callV (pc' := 58) (M' := mX2_countLike) (As := [_]) dX10_common_55 iX2_countLike lX10_202 rfl rfl rfl rfl (Nat.le_of_ble_eq_true rfl) (Nat.le_of_ble_eq_true rfl) rfl rfl (c_countLike hC (by omega)) (fun r m' hq => ?_)
    obtain ⟨rfl, hmm⟩ := hq
    subst m'
    rw [show s_cnt (fun i => decide (xs i = xs j)) n = s_lk n xs j from rfl]
    refine q_istore (pc' := 60) (lv' := [_, _, _, _, _, _]) dX10_common_58 (by decide) rfl rfl ?_
    refine q_iload (pc' := 62) dX10_common_60 rfl rfl ?_
    refine q_iload_n (pc' := 63) dX10_common_62 rfl rfl ?_
    refine q_icmp_leN (tgt := 72) (pc' := 66) dX10_common_63 (by decide) rfl (by omega) (fun c_63 => ?_) (fun c_63 => ?_)
    · rw [show s_com (s_lk n xs) (j + 1) = s_com (s_lk n xs) j from if_neg (by omega)] at ih
      refine q_iincN (pc' := 75) (j := 1) (lv' := [_, _, _, _, _, _]) dX10_common_72 rfl (by decide) rfl rfl ?_
      refine q_goto (pc' := 37) dX10_common_75 (by decide) ?_
      exact ih
    · rw [show s_com (s_lk n xs) (j + 1) = (s_lk n xs j, j) from if_pos c_63] at ih
      refine q_iload (pc' := 68) dX10_common_66 rfl rfl ?_
      refine q_istore_n (pc' := 69) (lv' := [_, _, _, _, _, _]) dX10_common_68 (by decide) rfl rfl ?_
      refine q_iload (pc' := 71) dX10_common_69 rfl rfl ?_
      refine q_istore_n (pc' := 72) (lv' := [_, _, _, _, _, _]) dX10_common_71 (by decide) rfl rfl ?_
      refine q_iincN (pc' := 75) (j := 1) (lv' := [_, _, _, _, _, _]) dX10_common_72 rfl (by decide) rfl rfl ?_
      refine q_goto (pc' := 37) dX10_common_75 (by decide) ?_
      exact ih
