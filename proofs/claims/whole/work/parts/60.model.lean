/-! ===== the reference: small methods ===== -/
theorem s_sgb {B : List Nat} (h : ∀ x ∈ B, x < 256) (a : Nat) : s_sg B a < 256 := by
  rcases Nat.lt_or_ge a B.length with q | q
  · refine h _ ?_
    unfold s_sg
    rw [List.getD_eq_getElem?_getD, List.getElem?_eq_getElem q]
    exact List.getElem_mem q
  · rw [s_sg_end q]; omega
def MD (m : q_Mm) : Prop := ∀ k, k < 15 → m.2.2.2.2 216 k = s_tn k ∧ m.2.2.2.2 217 k = s_th k
def MT (m : q_Mm) (B : List Nat) : Prop := m.1 215 4 = nI B.length ∧ B.length ≤ 320 ∧ (∀ i, i < B.length → m.2.2.1 218 i = nI (s_sg B i)) ∧ ∀ x ∈ B, x < 256
theorem MD.fr {S : List Nat} {m m2 : q_Mm} (h : MD m) (f : Fr S m m2) (h1 : 216 ∉ S) (h2 : 217 ∉ S) : MD m2 := fun k hk => ⟨(congrFun (f.d h1) k).trans (h k hk).1, (congrFun (f.d h2) k).trans (h k hk).2⟩
theorem MT.fr {S : List Nat} {m m2 : q_Mm} {B : List Nat} (h : MT m B) (f : Fr S m m2) (k : m2.1 215 4 = m.1 215 4) (h1 : 218 ∉ S) : MT m2 B := ⟨k.trans h.1, h.2.1, fun i hi => (congrFun (f.a h1) i).trans (h.2.2.1 i hi), h.2.2.2⟩
theorem MT.lt {m : q_Mm} {B : List Nat} (h : MT m B) (a : Nat) : s_sg B a < 256 := s_sgb h.2.2.2 a
set_option maxHeartbeats 4000000 in
set_option maxRecDepth 20000 in
theorem k_in {Z : q_Z} {m : q_Mm} {d : Nat} {v lo hi : Int32} : q_V (q_g Z) mX11_in (d) 0 0 0 [some (.int v), some (.int lo), some (.int hi)] [] (q_W Z m) (q_P Z fun r m2 => r = some (.int (q_b (decide (lo.toInt ≤ v.toInt ∧ v.toInt ≤ hi.toInt)))) ∧ m2 = m) := by
  refine q_iload_n (pc' := 1) dX11_in_0 rfl rfl ?_
  refine q_iload_n (pc' := 2) dX11_in_1 rfl rfl ?_
  refine q_icmp_lt (tgt := 14) (pc' := 5) dX11_in_2 (by decide) rfl (fun c_2 => ?_) (fun c_2 => ?_)
  · rw [z_lt] at c_2
    refine q_iconst (pc' := 15) (v := nI 0) dX11_in_14 rfl rfl ?_
    refine q_iret dX11_in_15 rfl (by first | exact q_nb0 | exact q_nb1 | exact q_nb _) ⟨_, rfl, z_f (by omega), rfl⟩
  rw [z_lt] at c_2
  refine q_iload_n (pc' := 6) dX11_in_5 rfl rfl ?_
  refine q_iload_n (pc' := 7) dX11_in_6 rfl rfl ?_
  refine q_icmp_gt (tgt := 14) (pc' := 10) dX11_in_7 (by decide) rfl (fun c_7 => ?_) (fun c_7 => ?_)
  · rw [z_lt] at c_7
    refine q_iconst (pc' := 15) (v := nI 0) dX11_in_14 rfl rfl ?_
    refine q_iret dX11_in_15 rfl (by first | exact q_nb0 | exact q_nb1 | exact q_nb _) ⟨_, rfl, z_f (by omega), rfl⟩
  · rw [z_lt] at c_7
    refine q_iconst (pc' := 11) (v := nI 1) dX11_in_10 rfl rfl ?_
    refine q_goto (pc' := 15) dX11_in_11 (by decide) ?_
    refine q_iret dX11_in_15 rfl (by first | exact q_nb0 | exact q_nb1 | exact q_nb _) ⟨_, rfl, z_t (by omega), rfl⟩
theorem z_bitN {v i : Nat} (hv : v < 2 ^ 31) (hi : i < 32) : (nI v >>> (nI i &&& 31)) &&& nI 1 = nI (v / 2 ^ i % 2) := by
  rw [pk_shrN hv (nI i &&& 31) i (z_sm i hi), pk_andN (Nat.lt_of_le_of_lt (Nat.div_le_self _ _) (by omega)) 1 rfl]
theorem s_mk_30 (P : Nat → Bool) {c : Nat} (h : c ≤ 30) : s_mk P c < 2 ^ 31 := Nat.lt_of_lt_of_le (s_mk_lt P c) (Nat.pow_le_pow_right (by decide) (by omega))
set_option maxHeartbeats 4000000 in
set_option maxRecDepth 20000 in
theorem k_has {Z : q_Z} {m : q_Mm} {d : Nat} {P : Nat → Bool} {c i : Nat} (hc : c ≤ 30) (hi : i < 32) : q_V (q_g Z) mX11_has (d) 0 0 0 [some (.int (nI (s_mk P c))), some (.int (nI i))] [] (q_W Z m) (q_P Z fun r m2 => r = some (.int (q_b (decide (i < c) && P i))) ∧ m2 = m) := by
  have e := z_bitN (s_mk_30 P hc) hi
  rw [s_mk_bit] at e
  refine q_iload_n (pc' := 1) dX11_has_0 rfl rfl ?_
  refine q_iload_n (pc' := 2) dX11_has_1 rfl rfl ?_
  refine q_ishr (pc' := 3) dX11_has_2 rfl ?_
  refine q_iconst (pc' := 4) (v := nI 1) dX11_has_3 rfl rfl ?_
  refine q_iand (pc' := 5) dX11_has_4 rfl ?_
  rw [e]
  by_cases h : i < c ∧ P i = true
  · rw [if_pos h]
    refine q_iconst (pc' := 6) (v := nI 1) dX11_has_5 rfl rfl ?_
    refine q_icmp_neN (tgt := 13) (pc' := 9) dX11_has_6 (by decide) rfl (by omega) (fun c_6 => ?_) (fun c_6 => ?_)
    · exact absurd rfl c_6
    refine q_iconst (pc' := 10) (v := nI 1) dX11_has_9 rfl rfl ?_
    refine q_goto (pc' := 14) dX11_has_10 (by decide) ?_
    refine q_iret dX11_has_14 rfl (by first | exact q_nb0 | exact q_nb1 | exact q_nb _) ⟨_, rfl, by rw [decide_eq_true h.1, h.2]; rfl, rfl⟩
  · rw [if_neg h]
    have hf : (decide (i < c) && P i) = false := by
      rw [Bool.eq_false_iff]
      intro z
      rw [Bool.and_eq_true] at z
      exact h ⟨of_decide_eq_true z.1, z.2⟩
    refine q_iconst (pc' := 6) (v := nI 1) dX11_has_5 rfl rfl ?_
    refine q_icmp_neN (tgt := 13) (pc' := 9) dX11_has_6 (by decide) rfl (by omega) (fun c_6 => ?_) (fun c_6 => ?_)
    · refine q_iconst (pc' := 14) (v := nI 0) dX11_has_13 rfl rfl ?_
      refine q_iret dX11_has_14 rfl (by first | exact q_nb0 | exact q_nb1 | exact q_nb _) ⟨_, rfl, by rw [hf]; rfl, rfl⟩
    · exact absurd c_6 (by decide)
set_option maxHeartbeats 4000000 in
set_option maxRecDepth 20000 in
theorem k_bits {Z : q_Z} {m : q_Mm} {d : Nat} {P : Nat → Bool} {c : Nat} (hc : c ≤ 30) : q_V (q_g Z) mX11_bits (d) 0 0 0 [some (.int (nI (s_mk P c))), none, none] [] (q_W Z m) (q_P Z fun r m2 => r = some (.int (nI (s_cnt P c))) ∧ m2 = m) := by
  refine q_iconst (pc' := 1) (v := nI 0) dX11_bits_0 rfl rfl ?_
  refine q_istore_n (pc' := 2) (lv' := [_, _, _]) dX11_bits_1 (by decide) rfl rfl ?_
  refine q_iconst (pc' := 3) (v := nI 0) dX11_bits_2 rfl rfl ?_
  refine q_istore_n (pc' := 4) (lv' := [_, _, _]) dX11_bits_3 (by decide) rfl rfl ?_
  suffices h : ∀ g k, k + g = 32 → q_V (q_g Z) mX11_bits (d) 0 0 4 [some (.int (nI (s_mk P c))), some (.int (nI (s_cnt (fun i => decide (i < c) && P i) k))), some (.int (nI k))] [] (q_W Z (m)) (q_P Z fun r m2 => r = some (.int (nI (s_cnt P c))) ∧ m2 = m) from h 32 0 rfl
  intro g
  induction g with
  | zero =>
    intro k hk
    obtain rfl : k = 32 := by omega
    have e := s_cnt_ext (P := P) (c := c) (32 - c)
    rw [show c + (32 - c) = 32 by omega] at e
    refine q_iload_n (pc' := 5) dX11_bits_4 rfl rfl ?_
    refine q_bipush (pc' := 7) (v := nI 32) dX11_bits_5 rfl rfl ?_
    refine q_icmp_geN (tgt := 24) (pc' := 10) dX11_bits_7 (by decide) rfl (by omega) (fun c_7 => ?_) (fun c_7 => ?_)
    · rw [e]
      refine q_iload_n (pc' := 25) dX11_bits_24 rfl rfl ?_
      refine q_iret dX11_bits_25 rfl rfl ⟨_, rfl, rfl, rfl⟩
    · omega
  | succ g ih =>
    intro k hk
    have ih := ih (k + 1) (by omega)
    have e := z_bitN (s_mk_30 P hc) (show k < 32 by omega)
    rw [s_mk_bit] at e
    refine q_iload_n (pc' := 5) dX11_bits_4 rfl rfl ?_
    refine q_bipush (pc' := 7) (v := nI 32) dX11_bits_5 rfl rfl ?_
    refine q_icmp_geN (tgt := 24) (pc' := 10) dX11_bits_7 (by decide) rfl (by omega) (fun c_7 => ?_) (fun c_7 => ?_)
    · omega
    refine q_iload_n (pc' := 11) dX11_bits_10 rfl rfl ?_
    refine q_iload_n (pc' := 12) dX11_bits_11 rfl rfl ?_
    refine q_iload_n (pc' := 13) dX11_bits_12 rfl rfl ?_
    refine q_ishr (pc' := 14) dX11_bits_13 rfl ?_
    refine q_iconst (pc' := 15) (v := nI 1) dX11_bits_14 rfl rfl ?_
    refine q_iand (pc' := 16) dX11_bits_15 rfl ?_
    rw [e]
    by_cases h : k < c ∧ P k = true
    · rw [if_pos h]
      rw [s_cnt_t (by rw [decide_eq_true h.1, h.2]; rfl)] at ih
      refine q_iaddN (pc' := 17) dX11_bits_16 rfl ?_
      refine q_istore_n (pc' := 18) (lv' := [_, _, _]) dX11_bits_17 (by decide) rfl rfl ?_
      refine q_iincN (pc' := 21) (j := 1) (lv' := [_, _, _]) dX11_bits_18 rfl (by decide) rfl rfl ?_
      refine q_goto (pc' := 4) dX11_bits_21 (by decide) ?_
      exact ih
    · rw [if_neg h]
      have hf : (decide (k < c) && P k) = false := by
        rw [Bool.eq_false_iff]
        intro z
        rw [Bool.and_eq_true] at z
        exact h ⟨of_decide_eq_true z.1, z.2⟩
      rw [s_cnt_f (p := fun i => decide (i < c) && P i) hf] at ih
      refine q_iaddN (pc' := 17) dX11_bits_16 rfl ?_
      refine q_istore_n (pc' := 18) (lv' := [_, _, _]) dX11_bits_17 (by decide) rfl rfl ?_
      refine q_iincN (pc' := 21) (j := 1) (lv' := [_, _, _]) dX11_bits_18 rfl (by decide) rfl rfl ?_
      refine q_goto (pc' := 4) dX11_bits_21 (by decide) ?_
      exact ih
theorem z_byteA (x : Int32) {s : Nat} (hs : s = 0 ∨ s = 8 ∨ s = 16 ∨ s = 24) : (x >>> (nI s &&& 31)) &&& nI 255 = nI (x.toBitVec.toNat / 2 ^ s % 256) := by
  rw [pk_and _ 8 rfl]
  congr 1
  have e1 : (x >>> (nI s &&& 31)).toInt = x.toInt >>> s := pk_shr x (nI s &&& 31) s (z_sm s (by omega))
  have e2 : ∀ y : Int32, y.toInt = if 2 * y.toBitVec.toNat < 2 ^ 32 then (y.toBitVec.toNat : Int) else (y.toBitVec.toNat : Int) - 2 ^ 32 := fun y => BitVec.toInt_eq_toNat_cond y.toBitVec
  have h1 := e2 (x >>> (nI s &&& 31))
  have h2 := e2 x
  have l1 := (x >>> (nI s &&& 31)).toBitVec.isLt
  have l2 := x.toBitVec.isLt
  rw [e1, Int.shiftRight_eq_div_pow] at h1
  generalize (x >>> (nI s &&& 31)).toBitVec.toNat = a at h1 l1
  generalize x.toBitVec.toNat = b at h2 l2
  generalize x.toInt = z at h1 h2
  rcases hs with rfl | rfl | rfl | rfl <;> · split at h1 <;> split at h2 <;> omega
def s_F20 (a b c e g : Int32) : List Nat := s_i4 a ++ s_i4 b ++ s_i4 c ++ s_i4 e ++ s_i4 g
def s_F20w (a b c e g : Int32) (k : Nat) : Int32 := if k < 4 then a else if k < 8 then b else if k < 12 then c else if k < 16 then e else g
theorem s_F20_get (a b c e g : Int32) {k : Nat} (hk : k < 20) : s_sg (s_F20 a b c e g) k = (s_F20w a b c e g k).toBitVec.toNat / 2 ^ (24 - 8 * (k % 4)) % 256 := by
  have h : k = 0 ∨ k = 1 ∨ k = 2 ∨ k = 3 ∨ k = 4 ∨ k = 5 ∨ k = 6 ∨ k = 7 ∨ k = 8 ∨ k = 9 ∨ k = 10 ∨ k = 11 ∨ k = 12 ∨ k = 13 ∨ k = 14 ∨ k = 15 ∨ k = 16 ∨ k = 17 ∨ k = 18 ∨ k = 19 := by omega
  have z : ∀ x : Int32, x.toBitVec.toNat % 256 = x.toBitVec.toNat / 2 ^ 0 % 256 := fun x => by rw [Nat.pow_zero, Nat.div_one]
  rcases h with rfl | rfl | rfl | rfl | rfl | rfl | rfl | rfl | rfl | rfl | rfl | rfl | rfl | rfl | rfl | rfl | rfl | rfl | rfl | rfl <;> first | rfl | exact z _
set_option maxHeartbeats 4000000 in
set_option maxRecDepth 20000 in
theorem k_feed {Z : q_Z} {m : q_Mm} {d : Nat} {B : List Nat} {a b c e g : Int32} (hT : MT m B) : q_V (q_g Z) mX11_feed (d) 0 0 0 [some (.ref (q_ad Z 215)), some (.int a), some (.int b), some (.int c), some (.int e), some (.int g), none, none] [] (q_W Z m) (q_P Z fun r m2 => r = some (.int (if B.length + 20 ≤ 320 then nI (B.length + 20) else -1)) ∧ Fr [215, 218] m m2 ∧ Kp 215 [4] m m2 ∧ MT m2 (if B.length + 20 ≤ 320 then B ++ s_i4 a ++ s_i4 b ++ s_i4 c ++ s_i4 e ++ s_i4 g else B)) := by
  have hl := hT.2.1
  refine q_aload_n (pc' := 1) dX11_feed_0 rfl rfl ?_
  refine h_getiE (pc' := 4) dX11_feed_1 fX11_96 rfl rfl (hT.1) rfl ?_
  refine q_bipush (pc' := 6) (v := nI 20) dX11_feed_4 rfl rfl ?_
  refine q_iaddN (pc' := 7) dX11_feed_6 rfl ?_
  refine q_sipush (pc' := 10) (v := nI 320) dX11_feed_7 rfl rfl ?_
  refine q_icmp_leN (tgt := 15) (pc' := 13) dX11_feed_10 (by decide) rfl (by omega) (fun c_10 => ?_) (fun c_10 => ?_)
  rotate_left
  · refine q_iconst (pc' := 14) (v := (-1)) dX11_feed_13 rfl rfl ?_
    refine q_iret dX11_feed_14 rfl rfl ⟨_, rfl, by rw [if_neg (by omega)], Fr.rf, Kp.rf, by rw [if_neg (by omega)]; exact hT⟩
  obtain ⟨F, hF⟩ : ∃ F, s_F20 a b c e g = F := ⟨_, rfl⟩
  have hFl : F.length = 20 := by rw [← hF]; rfl
  have hF2 : B ++ s_i4 a ++ s_i4 b ++ s_i4 c ++ s_i4 e ++ s_i4 g = B ++ F := by rw [← hF]; simp [s_F20, List.append_assoc]
  have hFb : ∀ x ∈ F, x < 256 := by
    rw [← hF]
    intro x hx
    simp only [s_F20, s_i4, List.mem_append, List.mem_cons, List.not_mem_nil, or_false] at hx
    omega
  have hF3 : ∀ k, k < 20 → s_sg F k = (s_F20w a b c e g k).toBitVec.toNat / 2 ^ (24 - 8 * (k % 4)) % 256 := fun k hk => by rw [← hF]; exact s_F20_get a b c e g hk
  obtain ⟨n, hn⟩ : ∃ n, B.length = n := ⟨_, rfl⟩
  have hTn := hT.1
  rw [hn] at c_10 hTn hl
  refine q_iconst (pc' := 16) (v := nI 0) dX11_feed_15 rfl rfl ?_
  refine q_istore (pc' := 18) (lv' := [_, _, _, _, _, _, _, _]) dX11_feed_16 (by decide) rfl rfl ?_
  suffices h : ∀ f k m1 w, k + f = 20 → Fr [215, 218] m m1 → Kp 215 [4] m m1 → m1.1 215 4 = nI (n + k) → (∀ i, i < n → m1.2.2.1 218 i = nI (s_sg B i)) → (∀ j, j < k → m1.2.2.1 218 (n + j) = nI (s_sg F j)) → q_V (q_g Z) mX11_feed (d) 0 0 18 [some (.ref (q_ad Z 215)), some (.int a), some (.int b), some (.int c), some (.int e), some (.int g), some (.int (nI k)), w] [] (q_W Z (m1)) (q_P Z fun r m2 => r = some (.int (if B.length + 20 ≤ 320 then nI (B.length + 20) else -1)) ∧ Fr [215, 218] m m2 ∧ Kp 215 [4] m m2 ∧ MT m2 (if B.length + 20 ≤ 320 then B ++ s_i4 a ++ s_i4 b ++ s_i4 c ++ s_i4 e ++ s_i4 g else B)) from h 20 0 m _ rfl Fr.rf Kp.rf hTn (fun i hi => hT.2.2.1 i (by omega)) (fun j hj => absurd hj (by omega))
  intro f
  induction f with
  | zero =>
    intro k m1 w hk a1 a2 a3 a4 a5
    obtain rfl : k = 20 := by omega
    refine q_iload (pc' := 20) dX11_feed_18 rfl rfl ?_
    refine q_bipush (pc' := 22) (v := nI 20) dX11_feed_20 rfl rfl ?_
    refine q_icmp_geN (tgt := 115) (pc' := 25) dX11_feed_22 (by decide) rfl (by omega) (fun c_22 => ?_) (fun c_22 => ?_)
    rotate_left
    · omega
    have hT2 : MT m1 (B ++ F) := by
      refine ⟨by rw [a3, List.length_append, hn, hFl], by rw [List.length_append, hn, hFl]; omega, fun i hi => ?_, fun x hx => ?_⟩
      · rw [List.length_append, hn, hFl] at hi
        by_cases z : i < n
        · rw [a4 i z]
          unfold s_sg
          rw [List.getD_eq_getElem?_getD, List.getD_eq_getElem?_getD, List.getElem?_append_left (by omega)]
        · have e := a5 (i - n) (by omega)
          rw [show n + (i - n) = i by omega] at e
          rw [e]
          unfold s_sg
          rw [List.getD_eq_getElem?_getD, List.getD_eq_getElem?_getD, List.getElem?_append_right (by omega), hn]
      · rcases List.mem_append.mp hx with q | q
        · exact hT.2.2.2 x q
        · exact hFb x q
    refine q_aload_n (pc' := 116) dX11_feed_115 rfl rfl ?_
    refine h_getiE (pc' := 119) dX11_feed_116 fX11_96 rfl rfl (a3) rfl ?_
    refine q_iret dX11_feed_119 rfl rfl ⟨_, rfl, by rw [hn, if_pos c_10], a1, a2, by rw [hn, if_pos c_10, hF2]; exact hT2⟩
  | succ f ih =>
    intro k m1 w hk a1 a2 a3 a4 a5
    have tail : ∀ x, x = s_F20w a b c e g k → q_V (q_g Z) mX11_feed d 0 0 71 [some (.ref (q_ad Z 215)), some (.int a), some (.int b), some (.int c), some (.int e), some (.int g), some (.int (nI k)), w] [.int x] (q_W Z m1) (q_P Z fun r m2 => r = some (.int (if B.length + 20 ≤ 320 then nI (B.length + 20) else -1)) ∧ Fr [215, 218] m m2 ∧ Kp 215 [4] m m2 ∧ MT m2 (if B.length + 20 ≤ 320 then B ++ s_i4 a ++ s_i4 b ++ s_i4 c ++ s_i4 e ++ s_i4 g else B)) := by
      intro x hx
      have hb : s_sg F k = x.toBitVec.toNat / 2 ^ (24 - 8 * (k % 4)) % 256 := by rw [hx]; exact hF3 k (by omega)
      refine q_istore (pc' := 73) (lv' := [_, _, _, _, _, _, _, _]) dX11_feed_71 (by decide) rfl rfl ?_
      refine q_aload_n (pc' := 74) dX11_feed_73 rfl rfl ?_
      refine h_getr (pc' := 77) dX11_feed_74 fX11_16 rfl rfl rfl ?_
      refine q_aload_n (pc' := 78) dX11_feed_77 rfl rfl ?_
      refine h_getiE (pc' := 81) dX11_feed_78 fX11_96 rfl rfl (a3) rfl ?_
      refine q_iload (pc' := 83) dX11_feed_81 rfl rfl ?_
      refine q_bipush (pc' := 85) (v := nI 24) dX11_feed_83 rfl rfl ?_
      refine q_bipush (pc' := 87) (v := nI 8) dX11_feed_85 rfl rfl ?_
      refine q_iload (pc' := 89) dX11_feed_87 rfl rfl ?_
      refine q_iconst (pc' := 90) (v := nI 4) dX11_feed_89 rfl rfl ?_
      refine q_iremN (pc' := 91) dX11_feed_90 (by omega) rfl ?_
      refine q_imulN (pc' := 92) dX11_feed_91 rfl ?_
      refine q_isubN (pc' := 93) dX11_feed_92 (by omega) rfl ?_
      refine q_ishr (pc' := 94) dX11_feed_93 rfl ?_
      refine q_sipush (pc' := 97) (v := nI 255) dX11_feed_94 rfl rfl ?_
      refine q_iand (pc' := 98) dX11_feed_97 rfl ?_
      rw [z_byteA x (s := 24 - 8 * (k % 4)) (by omega), ← hb]
      refine h_iast (pc' := 99) dX11_feed_98 rfl (rfl) (by omega) (by decide) rfl ?_
      refine q_aload_n (pc' := 100) dX11_feed_99 rfl rfl ?_
      refine q_dup (pc' := 101) dX11_feed_100 rfl rfl ?_
      refine h_getiE (pc' := 104) dX11_feed_101 fX11_96 rfl rfl (a3) rfl ?_
      refine q_iconst (pc' := 105) (v := nI 1) dX11_feed_104 rfl rfl ?_
      refine q_iaddN (pc' := 106) dX11_feed_105 rfl ?_
      refine h_puti (pc' := 109) dX11_feed_106 fX11_96 rfl rfl rfl rfl rfl ?_
      refine q_iincN (pc' := 112) (j := 1) (lv' := [_, _, _, _, _, _, _, _]) dX11_feed_109 rfl (by decide) rfl rfl ?_
      refine q_goto (pc' := 18) dX11_feed_112 (by decide) ?_
      refine ih (k + 1) _ _ (by omega) ((a1.A (by decide)).I (by decide)) (kp_I (m1 := sA m1 218 (q_u (m1.2.2.1 218) (n + k) (nI (s_sg F k)))) a2 (by decide)) rfl (fun i hi => ?_) (fun j hj => ?_)
      · exact (q_u_n (m1.2.2.1 218) _ (by omega)).trans (a4 i hi)
      · show q_u (m1.2.2.1 218) (n + k) (nI (s_sg F k)) (n + j) = _
        by_cases z : j = k
        · rw [z, q_u_s]
        · rw [q_u_n _ _ (by omega)]
          exact a5 j (by omega)
    refine q_iload (pc' := 20) dX11_feed_18 rfl rfl ?_
    refine q_bipush (pc' := 22) (v := nI 20) dX11_feed_20 rfl rfl ?_
    refine q_icmp_geN (tgt := 115) (pc' := 25) dX11_feed_22 (by decide) rfl (by omega) (fun c_22 => ?_) (fun c_22 => ?_)
    · omega
    refine q_iload (pc' := 27) dX11_feed_25 rfl rfl ?_
    refine q_iconst (pc' := 28) (v := nI 4) dX11_feed_27 rfl rfl ?_
    refine q_icmp_geN (tgt := 35) (pc' := 31) dX11_feed_28 (by decide) rfl (by omega) (fun c_28 => ?_) (fun c_28 => ?_)
    rotate_left
    · refine q_iload_n (pc' := 32) dX11_feed_31 rfl rfl ?_
      refine q_goto (pc' := 71) dX11_feed_32 (by decide) ?_
      exact tail _ (by unfold s_F20w; rw [if_pos (by omega)])
    refine q_iload (pc' := 37) dX11_feed_35 rfl rfl ?_
    refine q_bipush (pc' := 39) (v := nI 8) dX11_feed_37 rfl rfl ?_
    refine q_icmp_geN (tgt := 46) (pc' := 42) dX11_feed_39 (by decide) rfl (by omega) (fun c_39 => ?_) (fun c_39 => ?_)
    rotate_left
    · refine q_iload_n (pc' := 43) dX11_feed_42 rfl rfl ?_
      refine q_goto (pc' := 71) dX11_feed_43 (by decide) ?_
      exact tail _ (by unfold s_F20w; rw [if_neg (by omega), if_pos (by omega)])
    refine q_iload (pc' := 48) dX11_feed_46 rfl rfl ?_
    refine q_bipush (pc' := 50) (v := nI 12) dX11_feed_48 rfl rfl ?_
    refine q_icmp_geN (tgt := 57) (pc' := 53) dX11_feed_50 (by decide) rfl (by omega) (fun c_50 => ?_) (fun c_50 => ?_)
    rotate_left
    · refine q_iload_n (pc' := 54) dX11_feed_53 rfl rfl ?_
      refine q_goto (pc' := 71) dX11_feed_54 (by decide) ?_
      exact tail _ (by unfold s_F20w; rw [if_neg (by omega), if_neg (by omega), if_pos (by omega)])
    refine q_iload (pc' := 59) dX11_feed_57 rfl rfl ?_
    refine q_bipush (pc' := 61) (v := nI 16) dX11_feed_59 rfl rfl ?_
    refine q_icmp_geN (tgt := 69) (pc' := 64) dX11_feed_61 (by decide) rfl (by omega) (fun c_61 => ?_) (fun c_61 => ?_)
    rotate_left
    · refine q_iload (pc' := 66) dX11_feed_64 rfl rfl ?_
      refine q_goto (pc' := 71) dX11_feed_66 (by decide) ?_
      exact tail _ (by unfold s_F20w; rw [if_neg (by omega), if_neg (by omega), if_neg (by omega), if_pos (by omega)])
    refine q_iload (pc' := 71) dX11_feed_69 rfl rfl ?_
    exact tail _ (by unfold s_F20w; rw [if_neg (by omega), if_neg (by omega), if_neg (by omega), if_neg (by omega)])
set_option maxHeartbeats 4000000 in
set_option maxRecDepth 20000 in
theorem k_end {Z : q_Z} {m : q_Mm} {d : Nat} {B : List Nat} {x : Int32} (hT : MT m B) : q_V (q_g Z) mX11_end (d+1) 0 0 0 [some (.ref (q_ad Z 215)), some (.int x)] [] (q_W Z m) (q_P Z fun r m2 => r = some (.int (q_b (decide (0 ≤ x.toInt ∧ x.toInt ≤ (B.length : Int))))) ∧ Fr [215] m m2 ∧ Kp 215 [4] m m2 ∧ MT m2 (if 0 ≤ x.toInt ∧ x.toInt ≤ (B.length : Int) then B.take x.toInt.toNat else B)) := by
  have hl := hT.2.1
  refine q_iload_n (pc' := 1) dX11_end_0 rfl rfl ?_
  refine q_iconst (pc' := 2) (v := nI 0) dX11_end_1 rfl rfl ?_
  refine q_aload_n (pc' := 3) dX11_end_2 rfl rfl ?_
  refine h_getiE (pc' := 6) dX11_end_3 fX11_96 rfl rfl (hT.1) rfl ?_
  refine h_callS (pc' := 9) (M' := mX11_in) (As := [_, _, _]) dX11_end_6 iX11_in lX11_99 rfl rfl (Nat.le_of_ble_eq_true rfl) (Nat.le_of_ble_eq_true rfl) rfl rfl (k_in) (fun r m' hq => ?_)
  obtain ⟨rfl, hmm⟩ := hq
  subst m'
  rw [show (nI 0).toInt = 0 from rfl, z_n (by omega)]
  refine q_if_neB (tgt := 14) (pc' := 12) dX11_end_9 (by decide) rfl (fun c_9 => ?_) (fun c_9 => ?_)
  rotate_left
  · have c_9 := of_decide_eq_false c_9
    rw [if_neg c_9]
    refine q_iconst (pc' := 13) (v := nI 0) dX11_end_12 rfl rfl ?_
    refine q_iret dX11_end_13 rfl (by first | exact q_nb0 | exact q_nb1 | exact q_nb _) ⟨_, rfl, z_f c_9, Fr.rf, Kp.rf, hT⟩
  · have c_9 := of_decide_eq_true c_9
    rw [if_pos c_9]
    obtain ⟨j, hj, rfl⟩ := z_ex (x := x) (n := B.length + 1) c_9.1 (by omega) (by omega)
    rw [z_n (by omega)] at c_9 ⊢
    have e : (B.take j).length = j := by rw [List.length_take]; omega
    refine q_aload_n (pc' := 15) dX11_end_14 rfl rfl ?_
    refine q_iload_n (pc' := 16) dX11_end_15 rfl rfl ?_
    refine h_puti (pc' := 19) dX11_end_16 fX11_96 rfl rfl rfl rfl rfl ?_
    refine q_iconst (pc' := 20) (v := nI 1) dX11_end_19 rfl rfl ?_
    refine q_iret dX11_end_20 rfl (by first | exact q_nb0 | exact q_nb1 | exact q_nb _) ⟨_, rfl, z_t c_9, Fr.rf.I (by decide), kp_I Kp.rf (by decide), ?_⟩
    refine ⟨by show nI j = nI (B.take j).length; rw [e], by show (B.take j).length ≤ 320; omega, fun i hi => ?_, fun x hx => hT.2.2.2 x (List.mem_of_mem_take hx)⟩
    have hi : i < (B.take j).length := hi
    rw [e] at hi
    refine (hT.2.2.1 i (by omega)).trans ?_
    congr 1
    show s_sg B i = s_sg (B.take j) i
    unfold s_sg
    rw [List.getD_eq_getElem?_getD, List.getD_eq_getElem?_getD, List.getElem?_take, if_pos hi]
/-- the sign at a place, NONE behind the end -/
def s_hr (B : List Nat) (a : Nat) : Int32 := if a < B.length then nI (s_sg B a) else -1
def s_hz (B : List Nat) (a : Nat) : Int := if a < B.length then (s_sg B a : Int) else -1
theorem s_hr_z {B : List Nat} (hb : ∀ x ∈ B, x < 256) (a : Nat) : (s_hr B a).toInt = s_hz B a := by
  have := s_sgb hb a
  unfold s_hr s_hz
  split
  · exact z_n (by omega)
  · rfl
theorem s_hz_eq {B : List Nat} {a c : Nat} (hc : c ≠ 0) : s_hz B a = (c : Int) ↔ s_sg B a = c := by
  unfold s_hz
  split
  · constructor <;> intro h <;> omega
  · rename_i h
    rw [s_sg_end (by omega)]
    constructor <;> intro h <;> omega
theorem s_hr_eq {B : List Nat} (hb : ∀ x ∈ B, x < 256) {a c : Nat} (hc : c ≠ 0) (hc2 : c < 1000) : s_hr B a = nI c ↔ s_sg B a = c := by
  rw [z_eq, s_hr_z hb, z_n (by omega)]
  exact s_hz_eq hc
theorem s_dig_z {B : List Nat} (a : Nat) : s_dig (s_sg B a) = decide (48 ≤ s_hz B a ∧ s_hz B a ≤ 57) := by
  unfold s_dig s_hz
  split
  · exact decide_eq_decide.mpr (by omega)
  · rename_i h
    rw [s_sg_end (by omega)]
    rfl
set_option maxHeartbeats 4000000 in
set_option maxRecDepth 20000 in
theorem k_here {Z : q_Z} {m : q_Mm} {d : Nat} {B : List Nat} {a : Nat} (hT : MT m B) (ha : m.1 215 5 = nI a) (hl : a ≤ 320) : q_V (q_g Z) mX11_here (d) 0 0 0 [some (.ref (q_ad Z 215))] [] (q_W Z m) (q_P Z fun r m2 => r = some (.int (s_hr B a)) ∧ m2 = m) := by
  have hb := hT.2.1
  unfold s_hr
  refine q_aload_n (pc' := 1) dX11_here_0 rfl rfl ?_
  refine h_getiE (pc' := 4) dX11_here_1 fX11_103 rfl rfl (ha) rfl ?_
  refine q_aload_n (pc' := 5) dX11_here_4 rfl rfl ?_
  refine h_getiE (pc' := 8) dX11_here_5 fX11_96 rfl rfl (hT.1) rfl ?_
  refine q_icmp_geN (tgt := 23) (pc' := 11) dX11_here_8 (by decide) rfl (by omega) (fun c_8 => ?_) (fun c_8 => ?_)
  · refine q_iconst (pc' := 24) (v := (-1)) dX11_here_23 rfl rfl ?_
    refine q_iret dX11_here_24 rfl rfl ⟨_, rfl, by rw [if_neg (by omega)], rfl⟩
  · refine q_aload_n (pc' := 12) dX11_here_11 rfl rfl ?_
    refine h_getr (pc' := 15) dX11_here_12 fX11_16 rfl rfl rfl ?_
    refine q_aload_n (pc' := 16) dX11_here_15 rfl rfl ?_
    refine h_getiE (pc' := 19) dX11_here_16 fX11_103 rfl rfl (ha) rfl ?_
    refine h_ialdE (pc' := 20) dX11_here_19 rfl (rfl) (by omega) (by decide) (hT.2.2.1 a (by omega)) rfl ?_
    refine q_goto (pc' := 24) dX11_here_20 (by decide) ?_
    refine q_iret dX11_here_24 rfl rfl ⟨_, rfl, by rw [if_pos c_8], rfl⟩
/-- the reference: only its place has changed -/
def Ka (m m2 : q_Mm) (a : Nat) : Prop := Fr [215] m m2 ∧ Kp 215 [5] m m2 ∧ m2.2.1 215 = m.2.1 215 ∧ m2.1 215 5 = nI a
theorem Ka.rf {m : q_Mm} {a : Nat} (h : m.1 215 5 = nI a) : Ka m m a := ⟨Fr.rf, Kp.rf, rfl, h⟩
theorem Ka.to {m m1 : q_Mm} {a b : Nat} (h : Ka m m1 a) : Ka m (sI m1 215 5 (nI b)) b := ⟨h.1.I (by decide), kp_I h.2.1 (by decide), h.2.2.1, rfl⟩
theorem Ka.tr {m m1 m2 : q_Mm} {a b : Nat} (h : Ka m m1 a) (g : Ka m1 m2 b) : Ka m m2 b := ⟨h.1.trans g.1, h.2.1.trans g.2.1, g.2.2.1.trans h.2.2.1, g.2.2.2⟩
theorem MT.ka {m m2 : q_Mm} {B : List Nat} {a : Nat} (h : MT m B) (t : Ka m m2 a) : MT m2 B := h.fr t.1 (t.2.1 4 (by decide)) (by decide)
set_option maxHeartbeats 4000000 in
set_option maxRecDepth 20000 in
theorem k_ahead {Z : q_Z} {m : q_Mm} {d : Nat} {B : List Nat} {a : Nat} (hT : MT m B) (ha : m.1 215 5 = nI a) (hl : a ≤ 320) : q_V (q_g Z) mX11_ahead (d+1) 0 0 0 [some (.ref (q_ad Z 215))] [] (q_W Z m) (q_P Z fun r m2 => r = some (.int (s_hr B (s_skb B a))) ∧ Ka m m2 (s_skb B a)) := by
  have hb := hT.2.1
  have fin : ∀ j m1, j ≤ 320 → Ka m m1 j → j = s_skb B a → q_V (q_g Z) mX11_ahead (d+1) 0 0 22 [some (.ref (q_ad Z 215))] [] (q_W Z (m1)) (q_P Z fun r m2 => r = some (.int (s_hr B (s_skb B a))) ∧ Ka m m2 (s_skb B a)) := by
    intro j m1 hj t1 hs
    subst hs
    refine q_aload_n (pc' := 23) dX11_ahead_22 rfl rfl ?_
    refine h_callV (pc' := 26) (M' := mX11_here) (As := []) dX11_ahead_23 iX11_here lX11_106 rfl rfl rfl rfl (Nat.le_of_ble_eq_true rfl) (Nat.le_of_ble_eq_true rfl) rfl rfl (k_here (hT.ka t1) t1.2.2.2 hj) (fun r m' hq => ?_)
    obtain ⟨rfl, hmm⟩ := hq
    subst m'
    refine q_iret dX11_ahead_26 rfl rfl ⟨_, rfl, rfl, t1⟩
  suffices h : ∀ g j m1, g = B.length - j → j ≤ 320 → Ka m m1 j → s_find (fun j => !decide (s_sg B j = 32)) g j = s_skb B a → q_V (q_g Z) mX11_ahead (d+1) 0 0 0 [some (.ref (q_ad Z 215))] [] (q_W Z (m1)) (q_P Z fun r m2 => r = some (.int (s_hr B (s_skb B a))) ∧ Ka m m2 (s_skb B a)) from h _ a m rfl hl (Ka.rf ha) rfl
  intro g
  induction g with
  | zero =>
    intro j m1 hj hj2 ht hs
    have hs : j = s_skb B a := hs
    have hT1 := hT.ka ht
    refine q_aload_n (pc' := 1) dX11_ahead_0 rfl rfl ?_
    refine h_callV (pc' := 4) (M' := mX11_here) (As := []) dX11_ahead_1 iX11_here lX11_106 rfl rfl rfl rfl (Nat.le_of_ble_eq_true rfl) (Nat.le_of_ble_eq_true rfl) rfl rfl (k_here hT1 ht.2.2.2 hj2) (fun r m' hq => ?_)
    obtain ⟨rfl, hmm⟩ := hq
    subst m'
    refine q_bipush (pc' := 6) (v := nI 32) dX11_ahead_4 rfl rfl ?_
    refine q_icmp_ne (tgt := 22) (pc' := 9) dX11_ahead_6 (by decide) rfl (fun c_6 => ?_) (fun c_6 => ?_)
    · exact fin j m1 hj2 ht hs
    · have h := (s_hr_eq hT.2.2.2 (by decide) (by decide)).mp c_6
      have := s_sg_in (B := B) (a := j) (by rw [h]; decide)
      omega
  | succ g ih =>
    intro j m1 hj hj2 ht hs
    have hT1 := hT.ka ht
    refine q_aload_n (pc' := 1) dX11_ahead_0 rfl rfl ?_
    refine h_callV (pc' := 4) (M' := mX11_here) (As := []) dX11_ahead_1 iX11_here lX11_106 rfl rfl rfl rfl (Nat.le_of_ble_eq_true rfl) (Nat.le_of_ble_eq_true rfl) rfl rfl (k_here hT1 ht.2.2.2 hj2) (fun r m' hq => ?_)
    obtain ⟨rfl, hmm⟩ := hq
    subst m'
    refine q_bipush (pc' := 6) (v := nI 32) dX11_ahead_4 rfl rfl ?_
    refine q_icmp_ne (tgt := 22) (pc' := 9) dX11_ahead_6 (by decide) rfl (fun c_6 => ?_) (fun c_6 => ?_)
    · have h : ¬ s_sg B j = 32 := fun z => c_6 ((s_hr_eq hT.2.2.2 (by decide) (by decide)).mpr z)
      rw [s_find_t (by rw [decide_eq_false h]; rfl)] at hs
      exact fin j m1 hj2 ht hs
    · have h := (s_hr_eq hT.2.2.2 (by decide) (by decide)).mp c_6
      rw [s_find_f (by rw [decide_eq_true h]; rfl)] at hs
      refine q_aload_n (pc' := 10) dX11_ahead_9 rfl rfl ?_
      refine q_dup (pc' := 11) dX11_ahead_10 rfl rfl ?_
      refine h_getiE (pc' := 14) dX11_ahead_11 fX11_103 rfl rfl (ht.2.2.2) rfl ?_
      refine q_iconst (pc' := 15) (v := nI 1) dX11_ahead_14 rfl rfl ?_
      refine q_iaddN (pc' := 16) dX11_ahead_15 rfl ?_
      refine h_puti (pc' := 19) dX11_ahead_16 fX11_103 rfl rfl rfl rfl rfl ?_
      refine q_goto (pc' := 0) dX11_ahead_19 (by decide) ?_
      exact ih (j + 1) _ (by omega) (by omega) ht.to hs
set_option maxHeartbeats 4000000 in
set_option maxRecDepth 20000 in
theorem k_bad {Z : q_Z} {m : q_Mm} {d : Nat} {a : Nat} {w : Int32} (ha : m.1 215 5 = nI a) (hw : m.1 215 6 = w) : q_V (q_g Z) mX11_bad (d) 0 0 0 [some (.ref (q_ad Z 215))] [] (q_W Z m) (q_P Z fun r m2 => r = none ∧ m2 = sI m 215 6 (if w = -1 then nI a else w)) := by
  refine q_aload_n (pc' := 1) dX11_bad_0 rfl rfl ?_
  refine q_aload_n (pc' := 2) dX11_bad_1 rfl rfl ?_
  refine h_getiE (pc' := 5) dX11_bad_2 fX11_110 rfl rfl (hw) rfl ?_
  refine q_iconst (pc' := 6) (v := (-1)) dX11_bad_5 rfl rfl ?_
  refine q_icmp_ne (tgt := 16) (pc' := 9) dX11_bad_6 (by decide) rfl (fun c_6 => ?_) (fun c_6 => ?_)
  · rw [if_neg c_6]
    refine q_aload_n (pc' := 17) dX11_bad_16 rfl rfl ?_
    refine h_getiE (pc' := 20) dX11_bad_17 fX11_110 rfl rfl (hw) rfl ?_
    refine h_puti (pc' := 23) dX11_bad_20 fX11_110 rfl rfl rfl rfl rfl ?_
    refine q_vret dX11_bad_23 rfl ⟨_, rfl, rfl, rfl⟩
  · rw [if_pos c_6]
    refine q_aload_n (pc' := 10) dX11_bad_9 rfl rfl ?_
    refine h_getiE (pc' := 13) dX11_bad_10 fX11_103 rfl rfl (ha) rfl ?_
    refine q_goto (pc' := 20) dX11_bad_13 (by decide) ?_
    refine h_puti (pc' := 23) dX11_bad_20 fX11_110 rfl rfl rfl rfl rfl ?_
    refine q_vret dX11_bad_23 rfl ⟨_, rfl, rfl, rfl⟩
set_option maxHeartbeats 4000000 in
set_option maxRecDepth 20000 in
theorem k_isDigit {Z : q_Z} {m : q_Mm} {d : Nat} {x : Int32} : q_V (q_g Z) mX11_isDigit (d) 0 0 0 [some (.int x)] [] (q_W Z m) (q_P Z fun r m2 => r = some (.int (q_b (decide (48 ≤ x.toInt ∧ x.toInt ≤ 57)))) ∧ m2 = m) := by
  refine q_iload_n (pc' := 1) dX11_isDigit_0 rfl rfl ?_
  refine q_bipush (pc' := 3) (v := nI 48) dX11_isDigit_1 rfl rfl ?_
  refine q_icmp_lt (tgt := 16) (pc' := 6) dX11_isDigit_3 (by decide) rfl (fun c_3 => ?_) (fun c_3 => ?_)
  · rw [z_lt, z_n (by decide)] at c_3
    refine q_iconst (pc' := 17) (v := nI 0) dX11_isDigit_16 rfl rfl ?_
    refine q_iret dX11_isDigit_17 rfl (by first | exact q_nb0 | exact q_nb1 | exact q_nb _) ⟨_, rfl, z_f (by omega), rfl⟩
  rw [z_lt, z_n (by decide)] at c_3
  refine q_iload_n (pc' := 7) dX11_isDigit_6 rfl rfl ?_
  refine q_bipush (pc' := 9) (v := nI 57) dX11_isDigit_7 rfl rfl ?_
  refine q_icmp_gt (tgt := 16) (pc' := 12) dX11_isDigit_9 (by decide) rfl (fun c_9 => ?_) (fun c_9 => ?_)
  · rw [z_lt, z_n (by decide)] at c_9
    refine q_iconst (pc' := 17) (v := nI 0) dX11_isDigit_16 rfl rfl ?_
    refine q_iret dX11_isDigit_17 rfl (by first | exact q_nb0 | exact q_nb1 | exact q_nb _) ⟨_, rfl, z_f (by omega), rfl⟩
  · rw [z_lt, z_n (by decide)] at c_9
    refine q_iconst (pc' := 13) (v := nI 1) dX11_isDigit_12 rfl rfl ?_
    refine q_goto (pc' := 17) dX11_isDigit_13 (by decide) ?_
    refine q_iret dX11_isDigit_17 rfl (by first | exact q_nb0 | exact q_nb1 | exact q_nb _) ⟨_, rfl, z_t (by omega), rfl⟩
/-- of the sign at a place -/
theorem k_dig {Z : q_Z} {m : q_Mm} {d : Nat} {B : List Nat} (hb : ∀ x ∈ B, x < 256) (a : Nat) : q_V (q_g Z) mX11_isDigit d 0 0 0 [some (.int (s_hr B a))] [] (q_W Z m) (q_P Z fun r m2 => r = some (.int (q_b (s_dig (s_sg B a)))) ∧ m2 = m) := by
  have h := k_isDigit (Z := Z) (m := m) (d := d) (x := s_hr B a)
  rw [s_hr_z hb, ← s_dig_z] at h
  exact h
set_option maxHeartbeats 4000000 in
set_option maxRecDepth 20000 in
theorem k_hexOf {Z : q_Z} {m : q_Mm} {d : Nat} {B : List Nat} {a : Nat} (hb : ∀ x ∈ B, x < 256) : q_V (q_g Z) mX11_hexOf (d+1) 0 0 0 [some (.int (s_hr B a))] [] (q_W Z m) (q_P Z fun r m2 => r = some (.int (if s_hex (s_sg B a) < 16 then nI (s_hex (s_sg B a)) else -1)) ∧ m2 = m) := by
  have hc := s_sgb hb a
  have hz := s_hr_z hb a
  have e : s_dig (s_sg B a) = true ∨ (97 ≤ s_sg B a ∧ s_sg B a ≤ 102) → s_hr B a = nI (s_sg B a) := by
    intro q
    have : a < B.length := s_sg_in (fun z => by rw [z] at q; rcases q with q | q; exact absurd q (by decide); omega)
    exact if_pos this
  refine q_iload_n (pc' := 1) dX11_hexOf_0 rfl rfl ?_
  refine h_callS (pc' := 4) (M' := mX11_isDigit) (As := [_]) dX11_hexOf_1 iX11_isDigit lX11_113 rfl rfl (Nat.le_of_ble_eq_true rfl) (Nat.le_of_ble_eq_true rfl) rfl rfl (k_dig hb a) (fun r m' hq => ?_)
  obtain ⟨rfl, hmm⟩ := hq
  subst m'
  refine q_if_eqB (tgt := 14) (pc' := 7) dX11_hexOf_4 (by decide) rfl (fun c_4 => ?_) (fun c_4 => ?_)
  rotate_left
  · have h := c_4
    unfold s_dig at h
    have h := of_decide_eq_true h
    rw [e (Or.inl c_4)]
    refine q_iload_n (pc' := 8) dX11_hexOf_7 rfl rfl ?_
    refine q_bipush (pc' := 10) (v := nI 48) dX11_hexOf_8 rfl rfl ?_
    refine q_isubN (pc' := 11) dX11_hexOf_10 (by omega) rfl ?_
    refine q_goto (pc' := 37) dX11_hexOf_11 (by decide) ?_
    refine q_iret dX11_hexOf_37 rfl rfl ⟨_, rfl, by rw [show s_hex (s_sg B a) = s_sg B a - 48 by unfold s_hex; rw [if_pos c_4], if_pos (by omega)], rfl⟩
  have hn : ¬ s_dig (s_sg B a) = true := by rw [c_4]; decide
  have no : ¬ (97 ≤ s_sg B a ∧ s_sg B a ≤ 102) → (if s_hex (s_sg B a) < 16 then nI (s_hex (s_sg B a)) else -1) = -1 := fun q => by
    rw [show s_hex (s_sg B a) = 16 by unfold s_hex; rw [if_neg hn, if_neg q], if_neg (by decide)]
  have hzz : s_hz B a = if a < B.length then (s_sg B a : Int) else -1 := rfl
  have hz0 : ¬ a < B.length → s_sg B a = 0 := fun q => s_sg_end (by omega)
  refine q_iload_n (pc' := 15) dX11_hexOf_14 rfl rfl ?_
  refine q_bipush (pc' := 17) (v := nI 97) dX11_hexOf_15 rfl rfl ?_
  refine q_icmp_lt (tgt := 36) (pc' := 20) dX11_hexOf_17 (by decide) rfl (fun c_17 => ?_) (fun c_17 => ?_)
  · rw [z_lt, hz, z_n (by decide), hzz] at c_17
    refine q_iconst (pc' := 37) (v := (-1)) dX11_hexOf_36 rfl rfl ?_
    refine q_iret dX11_hexOf_37 rfl rfl ⟨_, rfl, by rw [no (fun q => by split at c_17; omega; rename_i w; rw [hz0 w] at q; omega)], rfl⟩
  rw [z_lt, hz, z_n (by decide), hzz] at c_17
  refine q_iload_n (pc' := 21) dX11_hexOf_20 rfl rfl ?_
  refine q_bipush (pc' := 23) (v := nI 102) dX11_hexOf_21 rfl rfl ?_
  refine q_icmp_gt (tgt := 36) (pc' := 26) dX11_hexOf_23 (by decide) rfl (fun c_23 => ?_) (fun c_23 => ?_)
  · rw [z_lt, hz, z_n (by decide), hzz] at c_23
    refine q_iconst (pc' := 37) (v := (-1)) dX11_hexOf_36 rfl rfl ?_
    refine q_iret dX11_hexOf_37 rfl rfl ⟨_, rfl, by rw [no (fun q => by split at c_23; omega; omega)], rfl⟩
  · rw [z_lt, hz, z_n (by decide), hzz] at c_23
    have hq : 97 ≤ s_sg B a ∧ s_sg B a ≤ 102 := by
      split at c_17
      · rename_i w
        rw [if_pos w] at c_23
        omega
      · omega
    rw [e (Or.inr hq)]
    refine q_iload_n (pc' := 27) dX11_hexOf_26 rfl rfl ?_
    refine q_bipush (pc' := 29) (v := nI 97) dX11_hexOf_27 rfl rfl ?_
    refine q_isubN (pc' := 30) dX11_hexOf_29 (by omega) rfl ?_
    refine q_bipush (pc' := 32) (v := nI 10) dX11_hexOf_30 rfl rfl ?_
    refine q_iaddN (pc' := 33) dX11_hexOf_32 rfl ?_
    refine q_goto (pc' := 37) dX11_hexOf_33 (by decide) ?_
    refine q_iret dX11_hexOf_37 rfl rfl ⟨_, rfl, by rw [show s_hex (s_sg B a) = s_sg B a - 97 + 10 by unfold s_hex; rw [if_neg hn, if_pos hq], if_pos (by omega)], rfl⟩
