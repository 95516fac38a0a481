/-! ===== BlockWriter, the FORMS ===== -/
theorem h_getf71 {Z : q_Z} {M : q_M} {d pc pc' : Nat} {lv : List (Option Value)} {st : List Value} {m : q_Mm} {post : Option Value → va_W → Prop} {p tg : Nat} {fl : List (Nat × Nat)} (hd : decode M.2.2.1 pc = .ok (.getfield 71, 3)) (hM : M.1 = RX1) (hs : q_shs[p]? = some (.inl (8, fl))) (hj : fl[0]? = some (2, tg)) (hp : pc + 3 = pc') (kk : q_V (q_g Z) M d 0 0 pc' lv (.ref (q_ad Z tg) :: st) (q_W Z m) post) : q_V (q_g Z) M d 0 0 pc lv (.ref (q_ad Z p) :: st) (q_W Z m) post :=
  q_getN (T := TX8) (N := 16) (ci := 8) (j := 0) hd (by rw [hM]; exact nf_X1_71) rfl (by decide) iwX8 rfl (q_W_get hs) (q_fs_get hj) hp kk
theorem Bw.o {m m2 : q_Mm} {q : s_B} {S : List Nat} {B : List Nat} (h : Bw m q) (f : Fr S m m2) (hS : 212 ∉ S) (hO : Oct m2 8 B) : Bw m2 (B, q.2) := ⟨hO, (congrFun (f.i hS) 1).trans h.2.1, (congrFun (f.i hS) 2).trans h.2.2.1, h.2.2.2⟩
/-- the bits of the whole numbers of a BLOCK from the least one on -/
def s_db (g : Nat → Int64) (l : Int64) (w : Nat) (q : s_B) : Nat → s_B
  | 0 => q
  | i + 1 => s_bits (if g i = s_no then 0 else g i - l) w (s_db g l w q i)
theorem s_db_len (g : Nat → Int64) (l : Int64) (w : Nat) (q : s_B) (h : q.2.2 < 8) : ∀ i, (s_db g l w q i).1.length * 8 + (s_db g l w q i).2.2 = q.1.length * 8 + q.2.2 + i * w ∧ (s_db g l w q i).2.2 < 8
  | 0 => by rw [Nat.zero_mul]; exact ⟨rfl, h⟩
  | i + 1 => by
    have ih := s_db_len g l w q h i
    have := s_bits_len (if g i = s_no then 0 else g i - l) w (s_db g l w q i) ih.2
    rw [s_db, Nat.add_mul]
    omega
/-- the EXCEPTIONS: their places and the VALUES -/
def s_dx (P : Nat → Bool) (y : Nat → Int64) : Nat → List Nat
  | 0 => []
  | i + 1 => if P i = true then s_dx P y i ++ [i] ++ s_i8 (y i) else s_dx P y i
theorem s_dx_len (P : Nat → Bool) (y : Nat → Int64) : ∀ i, (s_dx P y i).length ≤ 9 * i
  | 0 => Nat.le_refl _
  | i + 1 => by
    have := s_dx_len P y i
    unfold s_dx
    split
    · simp only [List.length_append, List.length_singleton, s_i8_len]; omega
    · omega
/-- the EXCEPTIONS of a BLOCK that is split -/
def s_sx (P : Nat → Bool) (y : Nat → Int32) : Nat → List Nat
  | 0 => []
  | i + 1 => if P i = true then s_sx P y i ++ [i] ++ [(y i >>> (nI 8 &&& 31) &&& nI 255).toBitVec.toNat] ++ [(y i &&& nI 255).toBitVec.toNat] else s_sx P y i
theorem s_sx_len (P : Nat → Bool) (y : Nat → Int32) : ∀ i, (s_sx P y i).length ≤ 3 * i
  | 0 => Nat.le_refl _
  | i + 1 => by
    have := s_sx_len P y i
    unfold s_sx
    split
    · simp only [List.length_append, List.length_singleton]; omega
    · omega
theorem z_by (x : Int32) : x &&& nI 255 = nI (x &&& nI 255).toBitVec.toNat ∧ (x &&& nI 255).toBitVec.toNat < 256 := by
  refine ⟨z_ofN _, ?_⟩
  rw [z_byte, pk_tn (by omega)]
  omega
def s_hi2 (h : Nat → Int32) : Nat → List Nat
  | 0 => []
  | j + 1 => s_hi2 h j ++ [(h j >>> (nI 8 &&& 31) &&& nI 255).toBitVec.toNat] ++ [(h j &&& nI 255).toBitVec.toNat]
theorem s_hi2_len (h : Nat → Int32) : ∀ j, (s_hi2 h j).length = 2 * j
  | 0 => rfl
  | j + 1 => by
    have := s_hi2_len h j
    unfold s_hi2
    simp only [List.length_append, List.length_singleton]; omega
set_option maxHeartbeats 4000000 in
set_option maxRecDepth 20000 in
theorem c_decimalOut_194 {Z : q_Z} {m : q_Mm} {d : Nat} {n bk p cd w : Nat} {l : Int64} {g : Nat → Int64} {B B0 Q1 : List Nat} {P : Nat → Bool} {rl : Nat → Nat} {ys : Nat → Int64} {ws : Nat → Nat → Int64} (hB : Bw m (B, 0, 0)) (hl : B.length ≤ 20) (hP : Pl m 194 n rl ys ws) (hb : bk < s_nb n rl) (hp : p < 120) (h12 : m.1 194 12 = nI p) (h15 : m.1 194 15 = nI (s_mk P (s_sz n rl bk))) (hc : m.2.2.1 190 p = nI cd) (hcd : cd < 256) (hw : s_bl ((s_dm n rl ws bk p).2.1 - (s_dm n rl ws bk p).1) = w) (hle : (s_dm n rl ws bk p).1 = l) (hg : ∀ i, ws (bk * rl 0 + i) p = g i) (hB0 : B ++ [cd / 16] ++ [cd % 16] ++ [s_cnt P (s_sz n rl bk)] ++ s_i8 l ++ [w] = B0) (hQ : (s_fill (s_db g l w (B0, 0, 0) (s_sz n rl bk))).1 = Q1) : q_V (q_g Z) mX1_decimalOut (d+4) 0 0 0 [some (.ref (q_ad Z 212)), some (.ref (q_ad Z 194)), some (.int (nI bk)), none, none, none, none, none] [] (q_W Z m) (q_P Z fun r m2 => r = none ∧ Fr [194, 212, 8, 9] m m2 ∧ Kp 194 [11] m m2 ∧ Bw m2 (Q1 ++ s_dx P (fun i => ys (bk * rl 0 + i)) (s_sz n rl bk), 0, 0)) := by
  have hr := hP.2.2.2.1
  have hz := s_nb_in hr hb
  have h16 := s_sz16 (n := n) hr bk
  have hcn := s_cnt_le P (s_sz n rl bk)
  have hbl := s_bl_le ((s_dm n rl ws bk p).2.1 - (s_dm n rl ws bk p).1)
  rw [hw] at hbl
  refine q_aload_n (pc' := 1) dX1_decimalOut_0 rfl rfl ?_
  refine h_getf71 (pc' := 4) dX1_decimalOut_1 rfl rfl rfl rfl ?_
  refine q_aload_n (pc' := 5) dX1_decimalOut_4 rfl rfl ?_
  refine h_getiE (pc' := 8) dX1_decimalOut_5 fX1_75 rfl rfl (h12) rfl ?_
  refine h_callV (pc' := 11) (M' := mX4_code) (As := [_]) dX1_decimalOut_8 iX4_code lX1_78 rfl rfl rfl rfl (Nat.le_of_ble_eq_true rfl) (Nat.le_of_ble_eq_true rfl) rfl rfl (c_code hp) (fun r m' hq => ?_)
  obtain ⟨rfl, hmm⟩ := hq
  subst m'
  rw [hc]
  refine q_istore_n (pc' := 12) (lv' := [_, _, _, _, _, _, _, _]) dX1_decimalOut_11 (by decide) rfl rfl ?_
  refine q_aload_n (pc' := 13) dX1_decimalOut_12 rfl rfl ?_
  refine q_iload_n (pc' := 14) dX1_decimalOut_13 rfl rfl ?_
  refine h_callV (pc' := 17) (M' := mX8_widthOf) (As := [_]) dX1_decimalOut_14 iX8_widthOf lX1_83 rfl rfl rfl rfl (Nat.le_of_ble_eq_true rfl) (Nat.le_of_ble_eq_true rfl) rfl rfl (c_widthOf_194 hP hb hp h12) (fun r m' hq => ?_)
  obtain ⟨rfl, f1, k1, M1⟩ := hq
  rw [hw]
  have B1 := hB.o f1 (by decide) (hB.1.fr f1 (by decide) (by decide))
  have hP1 := hP.kp f1 k1 (by decide) (by decide) (by decide) (by decide) (by decide)
  have e12 := (k1 12 (by decide)).trans h12
  have e15 := (k1 15 (by decide)).trans h15
  obtain ⟨m1, hm1⟩ : ∃ z, z = m' := ⟨_, rfl⟩
  subst hm1
  refine q_istore (pc' := 19) (lv' := [_, _, _, _, _, _, _, _]) dX1_decimalOut_17 (by decide) rfl rfl ?_
  refine q_aload_n (pc' := 20) dX1_decimalOut_19 rfl rfl ?_
  refine h_getr (pc' := 23) dX1_decimalOut_20 fX1_9 rfl rfl rfl ?_
  refine q_iload_n (pc' := 24) dX1_decimalOut_23 rfl rfl ?_
  refine q_iconst (pc' := 25) (v := nI 4) dX1_decimalOut_24 rfl rfl ?_
  refine q_ishr (pc' := 26) dX1_decimalOut_25 rfl ?_
  rw [pk_shrN (by omega) (nI 4 &&& 31) 4 rfl, show 2 ^ 4 = 16 from rfl]
  refine h_callV (pc' := 29) (M' := mX5_append) (As := [_]) dX1_decimalOut_26 iX5_append lX1_30 rfl rfl rfl rfl (Nat.le_of_ble_eq_true rfl) (Nat.le_of_ble_eq_true rfl) rfl rfl (c_append_8 (b := cd / 16) B1.1 (by simp only []; omega) (z_b (by omega)) (by omega)) (fun r m' hq => ?_)
  obtain ⟨rfl, f2, O2⟩ := hq
  refine q_aload_n (pc' := 30) dX1_decimalOut_29 rfl rfl ?_
  refine h_getr (pc' := 33) dX1_decimalOut_30 fX1_9 rfl rfl rfl ?_
  refine q_iload_n (pc' := 34) dX1_decimalOut_33 rfl rfl ?_
  refine q_bipush (pc' := 36) (v := nI 15) dX1_decimalOut_34 rfl rfl ?_
  refine q_iand (pc' := 37) dX1_decimalOut_36 rfl ?_
  rw [pk_andN (by omega) 4 rfl, show 2 ^ 4 = 16 from rfl]
  refine h_callV (pc' := 40) (M' := mX5_append) (As := [_]) dX1_decimalOut_37 iX5_append lX1_30 rfl rfl rfl rfl (Nat.le_of_ble_eq_true rfl) (Nat.le_of_ble_eq_true rfl) rfl rfl (c_append_8 (b := cd % 16) O2 (by simp only [List.length_append, List.length_singleton]; omega) (z_b (by omega)) (by omega)) (fun r m' hq => ?_)
  obtain ⟨rfl, f3, O3⟩ := hq
  have f3 : Fr [8, 9] m1 m' := (f2.mono (by decide)).trans (f3.mono (by decide))
  refine q_aload_n (pc' := 41) dX1_decimalOut_40 rfl rfl ?_
  refine h_getr (pc' := 44) dX1_decimalOut_41 fX1_9 rfl rfl rfl ?_
  refine q_aload_n (pc' := 45) dX1_decimalOut_44 rfl rfl ?_
  refine h_getiE (pc' := 48) dX1_decimalOut_45 fX1_86 rfl rfl ((congrFun (f3.i (by decide)) 15).trans e15) rfl ?_
  refine h_callS (pc' := 51) (M' := mJ6_bitCount_0f7a4) (As := [_]) dX1_decimalOut_48 iJ6_bitCount_0f7a4 lX1_89 rfl rfl (Nat.le_of_ble_eq_true rfl) (Nat.le_of_ble_eq_true rfl) rfl rfl (c_bitCount) (fun r m' hq => ?_)
  obtain ⟨rfl, rfl⟩ := hq
  rw [s_bc_mk h16]
  refine h_callV (pc' := 54) (M' := mX5_append) (As := [_]) dX1_decimalOut_51 iX5_append lX1_30 rfl rfl rfl rfl (Nat.le_of_ble_eq_true rfl) (Nat.le_of_ble_eq_true rfl) rfl rfl (c_append_8 (b := s_cnt P (s_sz n rl bk)) O3 (by simp only [List.length_append, List.length_singleton]; omega) (z_b (by omega)) (by omega)) (fun r m' hq => ?_)
  obtain ⟨rfl, f4, O4⟩ := hq
  have f4 := f3.trans f4
  refine q_aload_n (pc' := 55) dX1_decimalOut_54 rfl rfl ?_
  refine h_getr (pc' := 58) dX1_decimalOut_55 fX1_9 rfl rfl rfl ?_
  refine q_aload_n (pc' := 59) dX1_decimalOut_58 rfl rfl ?_
  refine h_getjE (pc' := 62) dX1_decimalOut_59 fX1_94 rfl rfl ((congrFun (f4.j (by decide)) 9).trans M1.1) rfl ?_
  refine h_callV (pc' := 65) (M' := mX5_appendLong) (As := [_]) dX1_decimalOut_62 iX5_appendLong lX1_67 rfl rfl rfl rfl (Nat.le_of_ble_eq_true rfl) (Nat.le_of_ble_eq_true rfl) rfl rfl (c_appendLong_8 O4 (by simp only [List.length_append, List.length_singleton]; omega)) (fun r m' hq => ?_)
  obtain ⟨rfl, f5, O5⟩ := hq
  have f5 := f4.trans f5
  refine q_aload_n (pc' := 66) dX1_decimalOut_65 rfl rfl ?_
  refine h_getr (pc' := 69) dX1_decimalOut_66 fX1_9 rfl rfl rfl ?_
  refine q_iload (pc' := 71) dX1_decimalOut_69 rfl rfl ?_
  refine h_callV (pc' := 74) (M' := mX5_append) (As := [_]) dX1_decimalOut_71 iX5_append lX1_30 rfl rfl rfl rfl (Nat.le_of_ble_eq_true rfl) (Nat.le_of_ble_eq_true rfl) rfl rfl (c_append_8 (b := w) O5 (by simp only [List.length_append, List.length_singleton, s_i4, List.length_cons, List.length_nil]; omega) (z_b (by omega)) (by omega)) (fun r m' hq => ?_)
  obtain ⟨rfl, f6, O6⟩ := hq
  have f6 := f5.trans f6
  have B6 := B1.o f6 (by decide) O6
  rw [List.append_assoc _ (s_i4 _) (s_i4 _)] at B6
  have B7 : Bw m' (B ++ [cd / 16] ++ [cd % 16] ++ [s_cnt P (s_sz n rl bk)] ++ s_i8 l ++ [w], 0, 0) := hle ▸ B6
  clear B6
  rw [hB0] at B7
  have hL : B0.length ≤ 32 := by
    rw [← hB0]; simp only [List.length_append, List.length_singleton, s_i8_len]; omega
  have k6 : Kp 194 [11] m m' := k1.trans (Kp.fr f6 (by decide))
  have M6 : m'.2.1 194 9 = l := ((congrFun (f6.j (by decide)) 9).trans M1.1).trans hle
  have f6 : Fr [194, 212, 8, 9] m m' := (f1.mono (by decide)).trans (f6.mono (by decide))
  have hsd := s_db_len g l w (B0, 0, 0) (Nat.succ_pos 7)
  have hdl := s_dx_len P (fun i => ys (bk * rl 0 + i))
  refine q_iconst (pc' := 75) (v := nI 0) dX1_decimalOut_74 rfl rfl ?_
  refine q_istore (pc' := 77) (lv' := [_, _, _, _, _, _, _, _]) dX1_decimalOut_75 (by decide) rfl rfl ?_
  suffices h : ∀ c j (m4 : q_Mm) w1, j + c = s_sz n rl bk → Fr [194, 212, 8, 9] m m4 → Kp 194 [11] m m4 → m4.2.1 194 9 = l → Bw m4 (s_db g l w (B0, 0, 0) j) → q_V (q_g Z) mX1_decimalOut (d+4) 0 0 77 [some (.ref (q_ad Z 212)), some (.ref (q_ad Z 194)), some (.int (nI bk)), some (.int (nI cd)), some (.int (nI w)), some (.int (nI j)), w1, none] [] (q_W Z (m4)) (q_P Z fun r m2 => r = none ∧ Fr [194, 212, 8, 9] m m2 ∧ Kp 194 [11] m m2 ∧ Bw m2 (Q1 ++ s_dx P (fun i => ys (bk * rl 0 + i)) (s_sz n rl bk), 0, 0)) from h (s_sz n rl bk) 0 m' _ (by omega) f6 k6 M6 B7
  clear B7 k6 M6 f6 f5 f4 O6 O5 O4 O3 O2 f2 f3 e15 e12 hP1 B1 M1 k1 f1
  intro c
  induction c with
  | zero =>
    intro j m4 w1 hj f4 k4 M4 B4
    obtain rfl : s_sz n rl bk = j := by omega
    have hjw : s_sz n rl bk * w ≤ 16 * 64 := Nat.mul_le_mul h16 hbl
    have hs := hsd (s_sz n rl bk)
    have hfl := s_fill_len (s_db g l w (B0, 0, 0) (s_sz n rl bk)) hs.2
    simp only [] at hs
    have hP4 := hP.kp f4 k4 (by decide) (by decide) (by decide) (by decide) (by decide)
    refine q_iload (pc' := 79) dX1_decimalOut_77 rfl rfl ?_
    refine q_aload_n (pc' := 80) dX1_decimalOut_79 rfl rfl ?_
    refine q_iload_n (pc' := 81) dX1_decimalOut_80 rfl rfl ?_
    refine h_callV (pc' := 84) (M' := mX8_sizeOf) (As := [_]) dX1_decimalOut_81 iX8_sizeOf lX1_33 rfl rfl rfl rfl (Nat.le_of_ble_eq_true rfl) (Nat.le_of_ble_eq_true rfl) rfl rfl (c_sizeOf_194 hP4 hb) (fun r m' hq => ?_)
    obtain ⟨rfl, hmm⟩ := hq
    subst m'
    refine q_icmp_geN (tgt := 137) (pc' := 87) dX1_decimalOut_84 (by decide) rfl (by omega) (fun c_84 => ?_) (fun c_84 => ?_)
    rotate_left
    · omega
    refine q_aload_n (pc' := 138) dX1_decimalOut_137 rfl rfl ?_
    refine h_callV (pc' := 141) (M' := mX1_fillingOut) (As := []) dX1_decimalOut_138 iX1_fillingOut lX1_104 rfl rfl rfl rfl (Nat.le_of_ble_eq_true rfl) (Nat.le_of_ble_eq_true rfl) rfl rfl (c_fillingOut B4 (by omega)) (fun r m' hq => ?_)
    obtain ⟨rfl, f5, B5⟩ := hq
    have k5 : Kp 194 [11] m m' := k4.trans (Kp.fr f5 (by decide))
    have f5 : Fr [194, 212, 8, 9] m m' := f4.trans (f5.mono (by decide))
    have hq3 := hfl.1
    have hq2 := B5.2.2.2.1
    rw [hq3] at hq2
    have hQ2 : s_fill (s_db g l w (B0, 0, 0) (s_sz n rl bk)) = (Q1, 0, 0) := Prod.ext hQ (Prod.ext (by simp only []; omega) hq3)
    rw [hQ2] at B5
    have hql : Q1.length ≤ 162 := by have := hfl.2; rw [hQ2] at this; simp only [] at this; omega
    refine q_iconst (pc' := 142) (v := nI 0) dX1_decimalOut_141 rfl rfl ?_
    refine q_istore (pc' := 144) (lv' := [_, _, _, _, _, _, _, _]) dX1_decimalOut_142 (by decide) rfl rfl ?_
    suffices h : ∀ c j (m4 : q_Mm), j + c = s_sz n rl bk → Fr [194, 212, 8, 9] m m4 → Kp 194 [11] m m4 → Bw m4 (Q1 ++ s_dx P (fun i => ys (bk * rl 0 + i)) j, 0, 0) → q_V (q_g Z) mX1_decimalOut (d+4) 0 0 144 [some (.ref (q_ad Z 212)), some (.ref (q_ad Z 194)), some (.int (nI bk)), some (.int (nI cd)), some (.int (nI w)), some (.int (nI j)), w1, none] [] (q_W Z (m4)) (q_P Z fun r m2 => r = none ∧ Fr [194, 212, 8, 9] m m2 ∧ Kp 194 [11] m m2 ∧ Bw m2 (Q1 ++ s_dx P (fun i => ys (bk * rl 0 + i)) (s_sz n rl bk), 0, 0)) from h (s_sz n rl bk) 0 m' (by omega) f5 k5 (by rw [show Q1 ++ s_dx P (fun i => ys (bk * rl 0 + i)) 0 = Q1 from List.append_nil Q1]; exact B5)
    intro c
    induction c with
    | zero =>
      intro j m4 hj f4 k4 B4
      have hP4 := hP.kp f4 k4 (by decide) (by decide) (by decide) (by decide) (by decide)
      obtain rfl : s_sz n rl bk = j := by omega
      refine q_iload (pc' := 146) dX1_decimalOut_144 rfl rfl ?_
      refine q_aload_n (pc' := 147) dX1_decimalOut_146 rfl rfl ?_
      refine q_iload_n (pc' := 148) dX1_decimalOut_147 rfl rfl ?_
      refine h_callV (pc' := 151) (M' := mX8_sizeOf) (As := [_]) dX1_decimalOut_148 iX8_sizeOf lX1_33 rfl rfl rfl rfl (Nat.le_of_ble_eq_true rfl) (Nat.le_of_ble_eq_true rfl) rfl rfl (c_sizeOf_194 hP4 hb) (fun r m' hq => ?_)
      obtain ⟨rfl, hmm⟩ := hq
      subst m'
      refine q_icmp_geN (tgt := 201) (pc' := 154) dX1_decimalOut_151 (by decide) rfl (by omega) (fun c_151 => ?_) (fun c_151 => ?_)
      · refine q_vret dX1_decimalOut_201 rfl ⟨_, rfl, rfl, f4, k4, B4⟩
      · omega
    | succ c ih =>
      intro j m4 hj f4 k4 B4
      have hP4 := hP.kp f4 k4 (by decide) (by decide) (by decide) (by decide) (by decide)
      have hdj := hdl j
      refine q_iload (pc' := 146) dX1_decimalOut_144 rfl rfl ?_
      refine q_aload_n (pc' := 147) dX1_decimalOut_146 rfl rfl ?_
      refine q_iload_n (pc' := 148) dX1_decimalOut_147 rfl rfl ?_
      refine h_callV (pc' := 151) (M' := mX8_sizeOf) (As := [_]) dX1_decimalOut_148 iX8_sizeOf lX1_33 rfl rfl rfl rfl (Nat.le_of_ble_eq_true rfl) (Nat.le_of_ble_eq_true rfl) rfl rfl (c_sizeOf_194 hP4 hb) (fun r m' hq => ?_)
      obtain ⟨rfl, hmm⟩ := hq
      subst m'
      refine q_icmp_geN (tgt := 201) (pc' := 154) dX1_decimalOut_151 (by decide) rfl (by omega) (fun c_151 => ?_) (fun c_151 => ?_)
      · omega
      refine q_aload_n (pc' := 155) dX1_decimalOut_154 rfl rfl ?_
      refine h_getiE (pc' := 158) dX1_decimalOut_155 fX1_86 rfl rfl ((k4 15 (by decide)).trans h15) rfl ?_
      refine q_iload (pc' := 160) dX1_decimalOut_158 rfl rfl ?_
      refine q_ishr (pc' := 161) dX1_decimalOut_160 rfl ?_
      refine q_iconst (pc' := 162) (v := nI 1) dX1_decimalOut_161 rfl rfl ?_
      refine q_iand (pc' := 163) dX1_decimalOut_162 rfl ?_
      rw [s_mk_b (by omega) (by omega)]
      by_cases hx : P j = true
      · have e : s_dx P (fun i => ys (bk * rl 0 + i)) (j + 1) = s_dx P (fun i => ys (bk * rl 0 + i)) j ++ [j] ++ s_i8 (ys (bk * rl 0 + j)) := by rw [s_dx, if_pos hx]
        rw [if_pos ⟨by omega, hx⟩]
        refine q_iconst (pc' := 164) (v := nI 1) dX1_decimalOut_163 rfl rfl ?_
        refine q_icmp_neN (tgt := 195) (pc' := 167) dX1_decimalOut_164 (by decide) rfl (by omega) (fun c_164 => ?_) (fun c_164 => ?_)
        · exact absurd rfl c_164
        refine q_aload_n (pc' := 168) dX1_decimalOut_167 rfl rfl ?_
        refine h_getr (pc' := 171) dX1_decimalOut_168 fX1_9 rfl rfl rfl ?_
        refine q_iload (pc' := 173) dX1_decimalOut_171 rfl rfl ?_
        refine h_callV (pc' := 176) (M' := mX5_append) (As := [_]) dX1_decimalOut_173 iX5_append lX1_30 rfl rfl rfl rfl (Nat.le_of_ble_eq_true rfl) (Nat.le_of_ble_eq_true rfl) rfl rfl (c_append_8 (b := j) B4.1 (by simp only [List.length_append]; omega) (z_b (by omega)) (by omega)) (fun r m' hq => ?_)
        obtain ⟨rfl, f5, O5⟩ := hq
        have k5 : Kp 194 [11] m m' := k4.trans (Kp.fr f5 (by decide))
        have B5 := B4.o f5 (by decide) O5
        have f5 : Fr [194, 212, 8, 9] m m' := f4.trans (f5.mono (by decide))
        have hP5 := hP.kp f5 k5 (by decide) (by decide) (by decide) (by decide) (by decide)
        obtain ⟨m5, hm5⟩ : ∃ z, z = m' := ⟨_, rfl⟩
        subst hm5
        refine q_aload_n (pc' := 177) dX1_decimalOut_176 rfl rfl ?_
        refine h_getr (pc' := 180) dX1_decimalOut_177 fX1_9 rfl rfl rfl ?_
        refine q_aload_n (pc' := 181) dX1_decimalOut_180 rfl rfl ?_
        refine q_aload_n (pc' := 182) dX1_decimalOut_181 rfl rfl ?_
        refine q_iload_n (pc' := 183) dX1_decimalOut_182 rfl rfl ?_
        refine h_callV (pc' := 186) (M' := mX8_startOf) (As := [_]) dX1_decimalOut_183 iX8_startOf lX1_60 rfl rfl rfl rfl (Nat.le_of_ble_eq_true rfl) (Nat.le_of_ble_eq_true rfl) rfl rfl (c_startOf_194 hP5) (fun r m' hq => ?_)
        obtain ⟨rfl, hmm⟩ := hq
        subst m'
        refine q_iload (pc' := 188) dX1_decimalOut_186 rfl rfl ?_
        refine q_iaddN (pc' := 189) dX1_decimalOut_188 rfl ?_
        refine h_callV (pc' := 192) (M' := mX8_bitsAt) (As := [_]) dX1_decimalOut_189 iX8_bitsAt lX1_63 rfl rfl rfl rfl (Nat.le_of_ble_eq_true rfl) (Nat.le_of_ble_eq_true rfl) rfl rfl (c_bitsAt_194 hP5 (by omega)) (fun r m' hq => ?_)
        obtain ⟨rfl, hmm⟩ := hq
        subst m'
        refine h_callV (pc' := 195) (M' := mX5_appendLong) (As := [_]) dX1_decimalOut_192 iX5_appendLong lX1_67 rfl rfl rfl rfl (Nat.le_of_ble_eq_true rfl) (Nat.le_of_ble_eq_true rfl) rfl rfl (c_appendLong_8 O5 (by simp only [List.length_append, List.length_singleton]; omega)) (fun r m' hq => ?_)
        obtain ⟨rfl, f6, O6⟩ := hq
        have B6 := B5.o f6 (by decide) O6
        refine q_iincN (pc' := 198) (j := 1) (lv' := [_, _, _, _, _, _, _, _]) dX1_decimalOut_195 rfl (by decide) rfl rfl ?_
        refine q_goto (pc' := 144) dX1_decimalOut_198 (by decide) ?_
        refine ih (j + 1) _ (by omega) (f5.trans (f6.mono (by decide))) (k5.trans (Kp.fr f6 (by decide))) ?_
        rw [e]
        rw [List.append_assoc _ (s_i4 _) (s_i4 _)] at B6
        rw [show Q1 ++ (s_dx P (fun i => ys (bk * rl 0 + i)) j ++ [j] ++ s_i8 (ys (bk * rl 0 + j))) = Q1 ++ s_dx P (fun i => ys (bk * rl 0 + i)) j ++ [j] ++ s_i8 (ys (bk * rl 0 + j)) by simp only [List.append_assoc]]
        exact B6
      · have e : s_dx P (fun i => ys (bk * rl 0 + i)) (j + 1) = s_dx P (fun i => ys (bk * rl 0 + i)) j := by rw [s_dx, if_neg hx]
        rw [if_neg (fun z => hx z.2)]
        refine q_iconst (pc' := 164) (v := nI 1) dX1_decimalOut_163 rfl rfl ?_
        refine q_icmp_neN (tgt := 195) (pc' := 167) dX1_decimalOut_164 (by decide) rfl (by omega) (fun c_164 => ?_) (fun c_164 => ?_)
        · refine q_iincN (pc' := 198) (j := 1) (lv' := [_, _, _, _, _, _, _, _]) dX1_decimalOut_195 rfl (by decide) rfl rfl ?_
          refine q_goto (pc' := 144) dX1_decimalOut_198 (by decide) ?_
          refine ih (j + 1) _ (by omega) f4 k4 ?_
          rw [e]
          exact B4
        · exact absurd c_164 (by decide)
  | succ c ih =>
    intro j m4 w1 hj f4 k4 M4 B4
    have hjw : j * w ≤ 16 * 64 := Nat.mul_le_mul (by omega) hbl
    have hs := hsd j
    simp only [] at hs
    have hP4 := hP.kp f4 k4 (by decide) (by decide) (by decide) (by decide) (by decide)
    have e12 := (k4 12 (by decide)).trans h12
    have hgj := hg j
    refine q_iload (pc' := 79) dX1_decimalOut_77 rfl rfl ?_
    refine q_aload_n (pc' := 80) dX1_decimalOut_79 rfl rfl ?_
    refine q_iload_n (pc' := 81) dX1_decimalOut_80 rfl rfl ?_
    refine h_callV (pc' := 84) (M' := mX8_sizeOf) (As := [_]) dX1_decimalOut_81 iX8_sizeOf lX1_33 rfl rfl rfl rfl (Nat.le_of_ble_eq_true rfl) (Nat.le_of_ble_eq_true rfl) rfl rfl (c_sizeOf_194 hP4 hb) (fun r m' hq => ?_)
    obtain ⟨rfl, hmm⟩ := hq
    subst m'
    refine q_icmp_geN (tgt := 137) (pc' := 87) dX1_decimalOut_84 (by decide) rfl (by omega) (fun c_84 => ?_) (fun c_84 => ?_)
    · omega
    refine q_aload_n (pc' := 88) dX1_decimalOut_87 rfl rfl ?_
    refine q_aload_n (pc' := 89) dX1_decimalOut_88 rfl rfl ?_
    refine q_iload_n (pc' := 90) dX1_decimalOut_89 rfl rfl ?_
    refine h_callV (pc' := 93) (M' := mX8_startOf) (As := [_]) dX1_decimalOut_90 iX8_startOf lX1_60 rfl rfl rfl rfl (Nat.le_of_ble_eq_true rfl) (Nat.le_of_ble_eq_true rfl) rfl rfl (c_startOf_194 hP4) (fun r m' hq => ?_)
    obtain ⟨rfl, hmm⟩ := hq
    subst m'
    refine q_iload (pc' := 95) dX1_decimalOut_93 rfl rfl ?_
    refine q_iaddN (pc' := 96) dX1_decimalOut_95 rfl ?_
    refine q_aload_n (pc' := 97) dX1_decimalOut_96 rfl rfl ?_
    refine h_getiE (pc' := 100) dX1_decimalOut_97 fX1_75 rfl rfl (e12) rfl ?_
    refine h_callV (pc' := 103) (M' := mX8_wholeAt) (As := [_, _]) dX1_decimalOut_100 iX8_wholeAt lX1_98 rfl rfl rfl rfl (Nat.le_of_ble_eq_true rfl) (Nat.le_of_ble_eq_true rfl) rfl rfl (c_wholeAt_194 hP4 (by omega) hp) (fun r m' hq => ?_)
    obtain ⟨rfl, hmm⟩ := hq
    subst m'
    rw [hgj]
    refine q_lstore (pc' := 105) (lv' := [_, _, _, _, _, _, _, _]) dX1_decimalOut_103 (by decide) rfl rfl ?_
    refine q_aload_n (pc' := 106) dX1_decimalOut_105 rfl rfl ?_
    refine q_lload (pc' := 108) dX1_decimalOut_106 rfl rfl ?_
    refine q_ldc2 (pc' := 111) dX1_decimalOut_108 kX1_102 rfl ?_
    refine q_lcmp (pc' := 112) dX1_decimalOut_111 rfl ?_
    refine q_if_neL (tgt := 119) (pc' := 115) dX1_decimalOut_112 (by decide) rfl (fun c_112 => ?_) (fun c_112 => ?_)
    · have e : s_db g l w (B0, 0, 0) (j + 1) = s_bits (g j - l) w (s_db g l w (B0, 0, 0) j) := by rw [s_db, if_neg (show ¬ g j = s_no from c_112)]
      refine q_lload (pc' := 121) dX1_decimalOut_119 rfl rfl ?_
      refine q_aload_n (pc' := 122) dX1_decimalOut_121 rfl rfl ?_
      refine h_getjE (pc' := 125) dX1_decimalOut_122 fX1_94 rfl rfl (M4) rfl ?_
      refine q_lsub (pc' := 126) dX1_decimalOut_125 rfl ?_
      refine q_iload (pc' := 128) dX1_decimalOut_126 rfl rfl ?_
      refine h_callV (pc' := 131) (M' := mX1_bitsOut) (As := [_, _]) dX1_decimalOut_128 iX1_bitsOut lX1_56 rfl rfl rfl rfl (Nat.le_of_ble_eq_true rfl) (Nat.le_of_ble_eq_true rfl) rfl rfl (c_bitsOut B4 hbl (by omega)) (fun r m' hq => ?_)
      obtain ⟨rfl, f5, B5⟩ := hq
      refine q_iincN (pc' := 134) (j := 1) (lv' := [_, _, _, _, _, _, _, _]) dX1_decimalOut_131 rfl (by decide) rfl rfl ?_
      refine q_goto (pc' := 77) dX1_decimalOut_134 (by decide) ?_
      refine ih (j + 1) _ _ (by omega) (f4.trans (f5.mono (by decide))) (k4.trans (Kp.fr f5 (by decide))) ((congrFun (f5.j (by decide)) 9).trans M4) ?_
      rw [e]
      exact B5
    · have e : s_db g l w (B0, 0, 0) (j + 1) = s_bits 0 w (s_db g l w (B0, 0, 0) j) := by rw [s_db, if_pos (show g j = s_no from c_112)]
      refine q_lconst (pc' := 116) (v := 0) dX1_decimalOut_115 rfl rfl ?_
      refine q_goto (pc' := 126) dX1_decimalOut_116 (by decide) ?_
      refine q_iload (pc' := 128) dX1_decimalOut_126 rfl rfl ?_
      refine h_callV (pc' := 131) (M' := mX1_bitsOut) (As := [_, _]) dX1_decimalOut_128 iX1_bitsOut lX1_56 rfl rfl rfl rfl (Nat.le_of_ble_eq_true rfl) (Nat.le_of_ble_eq_true rfl) rfl rfl (c_bitsOut B4 hbl (by omega)) (fun r m' hq => ?_)
      obtain ⟨rfl, f5, B5⟩ := hq
      refine q_iincN (pc' := 134) (j := 1) (lv' := [_, _, _, _, _, _, _, _]) dX1_decimalOut_131 rfl (by decide) rfl rfl ?_
      refine q_goto (pc' := 77) dX1_decimalOut_134 (by decide) ?_
      refine ih (j + 1) _ _ (by omega) (f4.trans (f5.mono (by decide))) (k4.trans (Kp.fr f5 (by decide))) ((congrFun (f5.j (by decide)) 9).trans M4) ?_
      rw [e]
      exact B5
set_option maxHeartbeats 4000000 in
set_option maxRecDepth 20000 in
theorem c_decimalOut_203 {Z : q_Z} {m : q_Mm} {d : Nat} {n bk p cd w : Nat} {l : Int64} {g : Nat → Int64} {B B0 Q1 : List Nat} {P : Nat → Bool} {rl : Nat → Nat} {ys : Nat → Int64} {ws : Nat → Nat → Int64} (hB : Bw m (B, 0, 0)) (hl : B.length ≤ 20) (hP : Pl m 203 n rl ys ws) (hb : bk < s_nb n rl) (hp : p < 120) (h12 : m.1 203 12 = nI p) (h15 : m.1 203 15 = nI (s_mk P (s_sz n rl bk))) (hc : m.2.2.1 190 p = nI cd) (hcd : cd < 256) (hw : s_bl ((s_dm n rl ws bk p).2.1 - (s_dm n rl ws bk p).1) = w) (hle : (s_dm n rl ws bk p).1 = l) (hg : ∀ i, ws (bk * rl 0 + i) p = g i) (hB0 : B ++ [cd / 16] ++ [cd % 16] ++ [s_cnt P (s_sz n rl bk)] ++ s_i8 l ++ [w] = B0) (hQ : (s_fill (s_db g l w (B0, 0, 0) (s_sz n rl bk))).1 = Q1) : q_V (q_g Z) mX1_decimalOut (d+4) 0 0 0 [some (.ref (q_ad Z 212)), some (.ref (q_ad Z 203)), some (.int (nI bk)), none, none, none, none, none] [] (q_W Z m) (q_P Z fun r m2 => r = none ∧ Fr [203, 212, 8, 9] m m2 ∧ Kp 203 [11] m m2 ∧ Bw m2 (Q1 ++ s_dx P (fun i => ys (bk * rl 0 + i)) (s_sz n rl bk), 0, 0)) := by
  have hr := hP.2.2.2.1
  have hz := s_nb_in hr hb
  have h16 := s_sz16 (n := n) hr bk
  have hcn := s_cnt_le P (s_sz n rl bk)
  have hbl := s_bl_le ((s_dm n rl ws bk p).2.1 - (s_dm n rl ws bk p).1)
  rw [hw] at hbl
  refine q_aload_n (pc' := 1) dX1_decimalOut_0 rfl rfl ?_
  refine h_getf71 (pc' := 4) dX1_decimalOut_1 rfl rfl rfl rfl ?_
  refine q_aload_n (pc' := 5) dX1_decimalOut_4 rfl rfl ?_
  refine h_getiE (pc' := 8) dX1_decimalOut_5 fX1_75 rfl rfl (h12) rfl ?_
  refine h_callV (pc' := 11) (M' := mX4_code) (As := [_]) dX1_decimalOut_8 iX4_code lX1_78 rfl rfl rfl rfl (Nat.le_of_ble_eq_true rfl) (Nat.le_of_ble_eq_true rfl) rfl rfl (c_code hp) (fun r m' hq => ?_)
  obtain ⟨rfl, hmm⟩ := hq
  subst m'
  rw [hc]
  refine q_istore_n (pc' := 12) (lv' := [_, _, _, _, _, _, _, _]) dX1_decimalOut_11 (by decide) rfl rfl ?_
  refine q_aload_n (pc' := 13) dX1_decimalOut_12 rfl rfl ?_
  refine q_iload_n (pc' := 14) dX1_decimalOut_13 rfl rfl ?_
  refine h_callV (pc' := 17) (M' := mX8_widthOf) (As := [_]) dX1_decimalOut_14 iX8_widthOf lX1_83 rfl rfl rfl rfl (Nat.le_of_ble_eq_true rfl) (Nat.le_of_ble_eq_true rfl) rfl rfl (c_widthOf_203 hP hb hp h12) (fun r m' hq => ?_)
  obtain ⟨rfl, f1, k1, M1⟩ := hq
  rw [hw]
  have B1 := hB.o f1 (by decide) (hB.1.fr f1 (by decide) (by decide))
  have hP1 := hP.kp f1 k1 (by decide) (by decide) (by decide) (by decide) (by decide)
  have e12 := (k1 12 (by decide)).trans h12
  have e15 := (k1 15 (by decide)).trans h15
  obtain ⟨m1, hm1⟩ : ∃ z, z = m' := ⟨_, rfl⟩
  subst hm1
  refine q_istore (pc' := 19) (lv' := [_, _, _, _, _, _, _, _]) dX1_decimalOut_17 (by decide) rfl rfl ?_
  refine q_aload_n (pc' := 20) dX1_decimalOut_19 rfl rfl ?_
  refine h_getr (pc' := 23) dX1_decimalOut_20 fX1_9 rfl rfl rfl ?_
  refine q_iload_n (pc' := 24) dX1_decimalOut_23 rfl rfl ?_
  refine q_iconst (pc' := 25) (v := nI 4) dX1_decimalOut_24 rfl rfl ?_
  refine q_ishr (pc' := 26) dX1_decimalOut_25 rfl ?_
  rw [pk_shrN (by omega) (nI 4 &&& 31) 4 rfl, show 2 ^ 4 = 16 from rfl]
  refine h_callV (pc' := 29) (M' := mX5_append) (As := [_]) dX1_decimalOut_26 iX5_append lX1_30 rfl rfl rfl rfl (Nat.le_of_ble_eq_true rfl) (Nat.le_of_ble_eq_true rfl) rfl rfl (c_append_8 (b := cd / 16) B1.1 (by simp only []; omega) (z_b (by omega)) (by omega)) (fun r m' hq => ?_)
  obtain ⟨rfl, f2, O2⟩ := hq
  refine q_aload_n (pc' := 30) dX1_decimalOut_29 rfl rfl ?_
  refine h_getr (pc' := 33) dX1_decimalOut_30 fX1_9 rfl rfl rfl ?_
  refine q_iload_n (pc' := 34) dX1_decimalOut_33 rfl rfl ?_
  refine q_bipush (pc' := 36) (v := nI 15) dX1_decimalOut_34 rfl rfl ?_
  refine q_iand (pc' := 37) dX1_decimalOut_36 rfl ?_
  rw [pk_andN (by omega) 4 rfl, show 2 ^ 4 = 16 from rfl]
  refine h_callV (pc' := 40) (M' := mX5_append) (As := [_]) dX1_decimalOut_37 iX5_append lX1_30 rfl rfl rfl rfl (Nat.le_of_ble_eq_true rfl) (Nat.le_of_ble_eq_true rfl) rfl rfl (c_append_8 (b := cd % 16) O2 (by simp only [List.length_append, List.length_singleton]; omega) (z_b (by omega)) (by omega)) (fun r m' hq => ?_)
  obtain ⟨rfl, f3, O3⟩ := hq
  have f3 : Fr [8, 9] m1 m' := (f2.mono (by decide)).trans (f3.mono (by decide))
  refine q_aload_n (pc' := 41) dX1_decimalOut_40 rfl rfl ?_
  refine h_getr (pc' := 44) dX1_decimalOut_41 fX1_9 rfl rfl rfl ?_
  refine q_aload_n (pc' := 45) dX1_decimalOut_44 rfl rfl ?_
  refine h_getiE (pc' := 48) dX1_decimalOut_45 fX1_86 rfl rfl ((congrFun (f3.i (by decide)) 15).trans e15) rfl ?_
  refine h_callS (pc' := 51) (M' := mJ6_bitCount_0f7a4) (As := [_]) dX1_decimalOut_48 iJ6_bitCount_0f7a4 lX1_89 rfl rfl (Nat.le_of_ble_eq_true rfl) (Nat.le_of_ble_eq_true rfl) rfl rfl (c_bitCount) (fun r m' hq => ?_)
  obtain ⟨rfl, rfl⟩ := hq
  rw [s_bc_mk h16]
  refine h_callV (pc' := 54) (M' := mX5_append) (As := [_]) dX1_decimalOut_51 iX5_append lX1_30 rfl rfl rfl rfl (Nat.le_of_ble_eq_true rfl) (Nat.le_of_ble_eq_true rfl) rfl rfl (c_append_8 (b := s_cnt P (s_sz n rl bk)) O3 (by simp only [List.length_append, List.length_singleton]; omega) (z_b (by omega)) (by omega)) (fun r m' hq => ?_)
  obtain ⟨rfl, f4, O4⟩ := hq
  have f4 := f3.trans f4
  refine q_aload_n (pc' := 55) dX1_decimalOut_54 rfl rfl ?_
  refine h_getr (pc' := 58) dX1_decimalOut_55 fX1_9 rfl rfl rfl ?_
  refine q_aload_n (pc' := 59) dX1_decimalOut_58 rfl rfl ?_
  refine h_getjE (pc' := 62) dX1_decimalOut_59 fX1_94 rfl rfl ((congrFun (f4.j (by decide)) 9).trans M1.1) rfl ?_
  refine h_callV (pc' := 65) (M' := mX5_appendLong) (As := [_]) dX1_decimalOut_62 iX5_appendLong lX1_67 rfl rfl rfl rfl (Nat.le_of_ble_eq_true rfl) (Nat.le_of_ble_eq_true rfl) rfl rfl (c_appendLong_8 O4 (by simp only [List.length_append, List.length_singleton]; omega)) (fun r m' hq => ?_)
  obtain ⟨rfl, f5, O5⟩ := hq
  have f5 := f4.trans f5
  refine q_aload_n (pc' := 66) dX1_decimalOut_65 rfl rfl ?_
  refine h_getr (pc' := 69) dX1_decimalOut_66 fX1_9 rfl rfl rfl ?_
  refine q_iload (pc' := 71) dX1_decimalOut_69 rfl rfl ?_
  refine h_callV (pc' := 74) (M' := mX5_append) (As := [_]) dX1_decimalOut_71 iX5_append lX1_30 rfl rfl rfl rfl (Nat.le_of_ble_eq_true rfl) (Nat.le_of_ble_eq_true rfl) rfl rfl (c_append_8 (b := w) O5 (by simp only [List.length_append, List.length_singleton, s_i4, List.length_cons, List.length_nil]; omega) (z_b (by omega)) (by omega)) (fun r m' hq => ?_)
  obtain ⟨rfl, f6, O6⟩ := hq
  have f6 := f5.trans f6
  have B6 := B1.o f6 (by decide) O6
  rw [List.append_assoc _ (s_i4 _) (s_i4 _)] at B6
  have B7 : Bw m' (B ++ [cd / 16] ++ [cd % 16] ++ [s_cnt P (s_sz n rl bk)] ++ s_i8 l ++ [w], 0, 0) := hle ▸ B6
  clear B6
  rw [hB0] at B7
  have hL : B0.length ≤ 32 := by
    rw [← hB0]; simp only [List.length_append, List.length_singleton, s_i8_len]; omega
  have k6 : Kp 203 [11] m m' := k1.trans (Kp.fr f6 (by decide))
  have M6 : m'.2.1 203 9 = l := ((congrFun (f6.j (by decide)) 9).trans M1.1).trans hle
  have f6 : Fr [203, 212, 8, 9] m m' := (f1.mono (by decide)).trans (f6.mono (by decide))
  have hsd := s_db_len g l w (B0, 0, 0) (Nat.succ_pos 7)
  have hdl := s_dx_len P (fun i => ys (bk * rl 0 + i))
  refine q_iconst (pc' := 75) (v := nI 0) dX1_decimalOut_74 rfl rfl ?_
  refine q_istore (pc' := 77) (lv' := [_, _, _, _, _, _, _, _]) dX1_decimalOut_75 (by decide) rfl rfl ?_
  suffices h : ∀ c j (m4 : q_Mm) w1, j + c = s_sz n rl bk → Fr [203, 212, 8, 9] m m4 → Kp 203 [11] m m4 → m4.2.1 203 9 = l → Bw m4 (s_db g l w (B0, 0, 0) j) → q_V (q_g Z) mX1_decimalOut (d+4) 0 0 77 [some (.ref (q_ad Z 212)), some (.ref (q_ad Z 203)), some (.int (nI bk)), some (.int (nI cd)), some (.int (nI w)), some (.int (nI j)), w1, none] [] (q_W Z (m4)) (q_P Z fun r m2 => r = none ∧ Fr [203, 212, 8, 9] m m2 ∧ Kp 203 [11] m m2 ∧ Bw m2 (Q1 ++ s_dx P (fun i => ys (bk * rl 0 + i)) (s_sz n rl bk), 0, 0)) from h (s_sz n rl bk) 0 m' _ (by omega) f6 k6 M6 B7
  clear B7 k6 M6 f6 f5 f4 O6 O5 O4 O3 O2 f2 f3 e15 e12 hP1 B1 M1 k1 f1
  intro c
  induction c with
  | zero =>
    intro j m4 w1 hj f4 k4 M4 B4
    obtain rfl : s_sz n rl bk = j := by omega
    have hjw : s_sz n rl bk * w ≤ 16 * 64 := Nat.mul_le_mul h16 hbl
    have hs := hsd (s_sz n rl bk)
    have hfl := s_fill_len (s_db g l w (B0, 0, 0) (s_sz n rl bk)) hs.2
    simp only [] at hs
    have hP4 := hP.kp f4 k4 (by decide) (by decide) (by decide) (by decide) (by decide)
    refine q_iload (pc' := 79) dX1_decimalOut_77 rfl rfl ?_
    refine q_aload_n (pc' := 80) dX1_decimalOut_79 rfl rfl ?_
    refine q_iload_n (pc' := 81) dX1_decimalOut_80 rfl rfl ?_
    refine h_callV (pc' := 84) (M' := mX8_sizeOf) (As := [_]) dX1_decimalOut_81 iX8_sizeOf lX1_33 rfl rfl rfl rfl (Nat.le_of_ble_eq_true rfl) (Nat.le_of_ble_eq_true rfl) rfl rfl (c_sizeOf_203 hP4 hb) (fun r m' hq => ?_)
    obtain ⟨rfl, hmm⟩ := hq
    subst m'
    refine q_icmp_geN (tgt := 137) (pc' := 87) dX1_decimalOut_84 (by decide) rfl (by omega) (fun c_84 => ?_) (fun c_84 => ?_)
    rotate_left
    · omega
    refine q_aload_n (pc' := 138) dX1_decimalOut_137 rfl rfl ?_
    refine h_callV (pc' := 141) (M' := mX1_fillingOut) (As := []) dX1_decimalOut_138 iX1_fillingOut lX1_104 rfl rfl rfl rfl (Nat.le_of_ble_eq_true rfl) (Nat.le_of_ble_eq_true rfl) rfl rfl (c_fillingOut B4 (by omega)) (fun r m' hq => ?_)
    obtain ⟨rfl, f5, B5⟩ := hq
    have k5 : Kp 203 [11] m m' := k4.trans (Kp.fr f5 (by decide))
    have f5 : Fr [203, 212, 8, 9] m m' := f4.trans (f5.mono (by decide))
    have hq3 := hfl.1
    have hq2 := B5.2.2.2.1
    rw [hq3] at hq2
    have hQ2 : s_fill (s_db g l w (B0, 0, 0) (s_sz n rl bk)) = (Q1, 0, 0) := Prod.ext hQ (Prod.ext (by simp only []; omega) hq3)
    rw [hQ2] at B5
    have hql : Q1.length ≤ 162 := by have := hfl.2; rw [hQ2] at this; simp only [] at this; omega
    refine q_iconst (pc' := 142) (v := nI 0) dX1_decimalOut_141 rfl rfl ?_
    refine q_istore (pc' := 144) (lv' := [_, _, _, _, _, _, _, _]) dX1_decimalOut_142 (by decide) rfl rfl ?_
    suffices h : ∀ c j (m4 : q_Mm), j + c = s_sz n rl bk → Fr [203, 212, 8, 9] m m4 → Kp 203 [11] m m4 → Bw m4 (Q1 ++ s_dx P (fun i => ys (bk * rl 0 + i)) j, 0, 0) → q_V (q_g Z) mX1_decimalOut (d+4) 0 0 144 [some (.ref (q_ad Z 212)), some (.ref (q_ad Z 203)), some (.int (nI bk)), some (.int (nI cd)), some (.int (nI w)), some (.int (nI j)), w1, none] [] (q_W Z (m4)) (q_P Z fun r m2 => r = none ∧ Fr [203, 212, 8, 9] m m2 ∧ Kp 203 [11] m m2 ∧ Bw m2 (Q1 ++ s_dx P (fun i => ys (bk * rl 0 + i)) (s_sz n rl bk), 0, 0)) from h (s_sz n rl bk) 0 m' (by omega) f5 k5 (by rw [show Q1 ++ s_dx P (fun i => ys (bk * rl 0 + i)) 0 = Q1 from List.append_nil Q1]; exact B5)
    intro c
    induction c with
    | zero =>
      intro j m4 hj f4 k4 B4
      have hP4 := hP.kp f4 k4 (by decide) (by decide) (by decide) (by decide) (by decide)
      obtain rfl : s_sz n rl bk = j := by omega
      refine q_iload (pc' := 146) dX1_decimalOut_144 rfl rfl ?_
      refine q_aload_n (pc' := 147) dX1_decimalOut_146 rfl rfl ?_
      refine q_iload_n (pc' := 148) dX1_decimalOut_147 rfl rfl ?_
      refine h_callV (pc' := 151) (M' := mX8_sizeOf) (As := [_]) dX1_decimalOut_148 iX8_sizeOf lX1_33 rfl rfl rfl rfl (Nat.le_of_ble_eq_true rfl) (Nat.le_of_ble_eq_true rfl) rfl rfl (c_sizeOf_203 hP4 hb) (fun r m' hq => ?_)
      obtain ⟨rfl, hmm⟩ := hq
      subst m'
      refine q_icmp_geN (tgt := 201) (pc' := 154) dX1_decimalOut_151 (by decide) rfl (by omega) (fun c_151 => ?_) (fun c_151 => ?_)
      · refine q_vret dX1_decimalOut_201 rfl ⟨_, rfl, rfl, f4, k4, B4⟩
      · omega
    | succ c ih =>
      intro j m4 hj f4 k4 B4
      have hP4 := hP.kp f4 k4 (by decide) (by decide) (by decide) (by decide) (by decide)
      have hdj := hdl j
      refine q_iload (pc' := 146) dX1_decimalOut_144 rfl rfl ?_
      refine q_aload_n (pc' := 147) dX1_decimalOut_146 rfl rfl ?_
      refine q_iload_n (pc' := 148) dX1_decimalOut_147 rfl rfl ?_
      refine h_callV (pc' := 151) (M' := mX8_sizeOf) (As := [_]) dX1_decimalOut_148 iX8_sizeOf lX1_33 rfl rfl rfl rfl (Nat.le_of_ble_eq_true rfl) (Nat.le_of_ble_eq_true rfl) rfl rfl (c_sizeOf_203 hP4 hb) (fun r m' hq => ?_)
      obtain ⟨rfl, hmm⟩ := hq
      subst m'
      refine q_icmp_geN (tgt := 201) (pc' := 154) dX1_decimalOut_151 (by decide) rfl (by omega) (fun c_151 => ?_) (fun c_151 => ?_)
      · omega
      refine q_aload_n (pc' := 155) dX1_decimalOut_154 rfl rfl ?_
      refine h_getiE (pc' := 158) dX1_decimalOut_155 fX1_86 rfl rfl ((k4 15 (by decide)).trans h15) rfl ?_
      refine q_iload (pc' := 160) dX1_decimalOut_158 rfl rfl ?_
      refine q_ishr (pc' := 161) dX1_decimalOut_160 rfl ?_
      refine q_iconst (pc' := 162) (v := nI 1) dX1_decimalOut_161 rfl rfl ?_
      refine q_iand (pc' := 163) dX1_decimalOut_162 rfl ?_
      rw [s_mk_b (by omega) (by omega)]
      by_cases hx : P j = true
      · have e : s_dx P (fun i => ys (bk * rl 0 + i)) (j + 1) = s_dx P (fun i => ys (bk * rl 0 + i)) j ++ [j] ++ s_i8 (ys (bk * rl 0 + j)) := by rw [s_dx, if_pos hx]
        rw [if_pos ⟨by omega, hx⟩]
        refine q_iconst (pc' := 164) (v := nI 1) dX1_decimalOut_163 rfl rfl ?_
        refine q_icmp_neN (tgt := 195) (pc' := 167) dX1_decimalOut_164 (by decide) rfl (by omega) (fun c_164 => ?_) (fun c_164 => ?_)
        · exact absurd rfl c_164
        refine q_aload_n (pc' := 168) dX1_decimalOut_167 rfl rfl ?_
        refine h_getr (pc' := 171) dX1_decimalOut_168 fX1_9 rfl rfl rfl ?_
        refine q_iload (pc' := 173) dX1_decimalOut_171 rfl rfl ?_
        refine h_callV (pc' := 176) (M' := mX5_append) (As := [_]) dX1_decimalOut_173 iX5_append lX1_30 rfl rfl rfl rfl (Nat.le_of_ble_eq_true rfl) (Nat.le_of_ble_eq_true rfl) rfl rfl (c_append_8 (b := j) B4.1 (by simp only [List.length_append]; omega) (z_b (by omega)) (by omega)) (fun r m' hq => ?_)
        obtain ⟨rfl, f5, O5⟩ := hq
        have k5 : Kp 203 [11] m m' := k4.trans (Kp.fr f5 (by decide))
        have B5 := B4.o f5 (by decide) O5
        have f5 : Fr [203, 212, 8, 9] m m' := f4.trans (f5.mono (by decide))
        have hP5 := hP.kp f5 k5 (by decide) (by decide) (by decide) (by decide) (by decide)
        obtain ⟨m5, hm5⟩ : ∃ z, z = m' := ⟨_, rfl⟩
        subst hm5
        refine q_aload_n (pc' := 177) dX1_decimalOut_176 rfl rfl ?_
        refine h_getr (pc' := 180) dX1_decimalOut_177 fX1_9 rfl rfl rfl ?_
        refine q_aload_n (pc' := 181) dX1_decimalOut_180 rfl rfl ?_
        refine q_aload_n (pc' := 182) dX1_decimalOut_181 rfl rfl ?_
        refine q_iload_n (pc' := 183) dX1_decimalOut_182 rfl rfl ?_
        refine h_callV (pc' := 186) (M' := mX8_startOf) (As := [_]) dX1_decimalOut_183 iX8_startOf lX1_60 rfl rfl rfl rfl (Nat.le_of_ble_eq_true rfl) (Nat.le_of_ble_eq_true rfl) rfl rfl (c_startOf_203 hP5) (fun r m' hq => ?_)
        obtain ⟨rfl, hmm⟩ := hq
        subst m'
        refine q_iload (pc' := 188) dX1_decimalOut_186 rfl rfl ?_
        refine q_iaddN (pc' := 189) dX1_decimalOut_188 rfl ?_
        refine h_callV (pc' := 192) (M' := mX8_bitsAt) (As := [_]) dX1_decimalOut_189 iX8_bitsAt lX1_63 rfl rfl rfl rfl (Nat.le_of_ble_eq_true rfl) (Nat.le_of_ble_eq_true rfl) rfl rfl (c_bitsAt_203 hP5 (by omega)) (fun r m' hq => ?_)
        obtain ⟨rfl, hmm⟩ := hq
        subst m'
        refine h_callV (pc' := 195) (M' := mX5_appendLong) (As := [_]) dX1_decimalOut_192 iX5_appendLong lX1_67 rfl rfl rfl rfl (Nat.le_of_ble_eq_true rfl) (Nat.le_of_ble_eq_true rfl) rfl rfl (c_appendLong_8 O5 (by simp only [List.length_append, List.length_singleton]; omega)) (fun r m' hq => ?_)
        obtain ⟨rfl, f6, O6⟩ := hq
        have B6 := B5.o f6 (by decide) O6
        refine q_iincN (pc' := 198) (j := 1) (lv' := [_, _, _, _, _, _, _, _]) dX1_decimalOut_195 rfl (by decide) rfl rfl ?_
        refine q_goto (pc' := 144) dX1_decimalOut_198 (by decide) ?_
        refine ih (j + 1) _ (by omega) (f5.trans (f6.mono (by decide))) (k5.trans (Kp.fr f6 (by decide))) ?_
        rw [e]
        rw [List.append_assoc _ (s_i4 _) (s_i4 _)] at B6
        rw [show Q1 ++ (s_dx P (fun i => ys (bk * rl 0 + i)) j ++ [j] ++ s_i8 (ys (bk * rl 0 + j))) = Q1 ++ s_dx P (fun i => ys (bk * rl 0 + i)) j ++ [j] ++ s_i8 (ys (bk * rl 0 + j)) by simp only [List.append_assoc]]
        exact B6
      · have e : s_dx P (fun i => ys (bk * rl 0 + i)) (j + 1) = s_dx P (fun i => ys (bk * rl 0 + i)) j := by rw [s_dx, if_neg hx]
        rw [if_neg (fun z => hx z.2)]
        refine q_iconst (pc' := 164) (v := nI 1) dX1_decimalOut_163 rfl rfl ?_
        refine q_icmp_neN (tgt := 195) (pc' := 167) dX1_decimalOut_164 (by decide) rfl (by omega) (fun c_164 => ?_) (fun c_164 => ?_)
        · refine q_iincN (pc' := 198) (j := 1) (lv' := [_, _, _, _, _, _, _, _]) dX1_decimalOut_195 rfl (by decide) rfl rfl ?_
          refine q_goto (pc' := 144) dX1_decimalOut_198 (by decide) ?_
          refine ih (j + 1) _ (by omega) f4 k4 ?_
          rw [e]
          exact B4
        · exact absurd c_164 (by decide)
  | succ c ih =>
    intro j m4 w1 hj f4 k4 M4 B4
    have hjw : j * w ≤ 16 * 64 := Nat.mul_le_mul (by omega) hbl
    have hs := hsd j
    simp only [] at hs
    have hP4 := hP.kp f4 k4 (by decide) (by decide) (by decide) (by decide) (by decide)
    have e12 := (k4 12 (by decide)).trans h12
    have hgj := hg j
    refine q_iload (pc' := 79) dX1_decimalOut_77 rfl rfl ?_
    refine q_aload_n (pc' := 80) dX1_decimalOut_79 rfl rfl ?_
    refine q_iload_n (pc' := 81) dX1_decimalOut_80 rfl rfl ?_
    refine h_callV (pc' := 84) (M' := mX8_sizeOf) (As := [_]) dX1_decimalOut_81 iX8_sizeOf lX1_33 rfl rfl rfl rfl (Nat.le_of_ble_eq_true rfl) (Nat.le_of_ble_eq_true rfl) rfl rfl (c_sizeOf_203 hP4 hb) (fun r m' hq => ?_)
    obtain ⟨rfl, hmm⟩ := hq
    subst m'
    refine q_icmp_geN (tgt := 137) (pc' := 87) dX1_decimalOut_84 (by decide) rfl (by omega) (fun c_84 => ?_) (fun c_84 => ?_)
    · omega
    refine q_aload_n (pc' := 88) dX1_decimalOut_87 rfl rfl ?_
    refine q_aload_n (pc' := 89) dX1_decimalOut_88 rfl rfl ?_
    refine q_iload_n (pc' := 90) dX1_decimalOut_89 rfl rfl ?_
    refine h_callV (pc' := 93) (M' := mX8_startOf) (As := [_]) dX1_decimalOut_90 iX8_startOf lX1_60 rfl rfl rfl rfl (Nat.le_of_ble_eq_true rfl) (Nat.le_of_ble_eq_true rfl) rfl rfl (c_startOf_203 hP4) (fun r m' hq => ?_)
    obtain ⟨rfl, hmm⟩ := hq
    subst m'
    refine q_iload (pc' := 95) dX1_decimalOut_93 rfl rfl ?_
    refine q_iaddN (pc' := 96) dX1_decimalOut_95 rfl ?_
    refine q_aload_n (pc' := 97) dX1_decimalOut_96 rfl rfl ?_
    refine h_getiE (pc' := 100) dX1_decimalOut_97 fX1_75 rfl rfl (e12) rfl ?_
    refine h_callV (pc' := 103) (M' := mX8_wholeAt) (As := [_, _]) dX1_decimalOut_100 iX8_wholeAt lX1_98 rfl rfl rfl rfl (Nat.le_of_ble_eq_true rfl) (Nat.le_of_ble_eq_true rfl) rfl rfl (c_wholeAt_203 hP4 (by omega) hp) (fun r m' hq => ?_)
    obtain ⟨rfl, hmm⟩ := hq
    subst m'
    rw [hgj]
    refine q_lstore (pc' := 105) (lv' := [_, _, _, _, _, _, _, _]) dX1_decimalOut_103 (by decide) rfl rfl ?_
    refine q_aload_n (pc' := 106) dX1_decimalOut_105 rfl rfl ?_
    refine q_lload (pc' := 108) dX1_decimalOut_106 rfl rfl ?_
    refine q_ldc2 (pc' := 111) dX1_decimalOut_108 kX1_102 rfl ?_
    refine q_lcmp (pc' := 112) dX1_decimalOut_111 rfl ?_
    refine q_if_neL (tgt := 119) (pc' := 115) dX1_decimalOut_112 (by decide) rfl (fun c_112 => ?_) (fun c_112 => ?_)
    · have e : s_db g l w (B0, 0, 0) (j + 1) = s_bits (g j - l) w (s_db g l w (B0, 0, 0) j) := by rw [s_db, if_neg (show ¬ g j = s_no from c_112)]
      refine q_lload (pc' := 121) dX1_decimalOut_119 rfl rfl ?_
      refine q_aload_n (pc' := 122) dX1_decimalOut_121 rfl rfl ?_
      refine h_getjE (pc' := 125) dX1_decimalOut_122 fX1_94 rfl rfl (M4) rfl ?_
      refine q_lsub (pc' := 126) dX1_decimalOut_125 rfl ?_
      refine q_iload (pc' := 128) dX1_decimalOut_126 rfl rfl ?_
      refine h_callV (pc' := 131) (M' := mX1_bitsOut) (As := [_, _]) dX1_decimalOut_128 iX1_bitsOut lX1_56 rfl rfl rfl rfl (Nat.le_of_ble_eq_true rfl) (Nat.le_of_ble_eq_true rfl) rfl rfl (c_bitsOut B4 hbl (by omega)) (fun r m' hq => ?_)
      obtain ⟨rfl, f5, B5⟩ := hq
      refine q_iincN (pc' := 134) (j := 1) (lv' := [_, _, _, _, _, _, _, _]) dX1_decimalOut_131 rfl (by decide) rfl rfl ?_
      refine q_goto (pc' := 77) dX1_decimalOut_134 (by decide) ?_
      refine ih (j + 1) _ _ (by omega) (f4.trans (f5.mono (by decide))) (k4.trans (Kp.fr f5 (by decide))) ((congrFun (f5.j (by decide)) 9).trans M4) ?_
      rw [e]
      exact B5
    · have e : s_db g l w (B0, 0, 0) (j + 1) = s_bits 0 w (s_db g l w (B0, 0, 0) j) := by rw [s_db, if_pos (show g j = s_no from c_112)]
      refine q_lconst (pc' := 116) (v := 0) dX1_decimalOut_115 rfl rfl ?_
      refine q_goto (pc' := 126) dX1_decimalOut_116 (by decide) ?_
      refine q_iload (pc' := 128) dX1_decimalOut_126 rfl rfl ?_
      refine h_callV (pc' := 131) (M' := mX1_bitsOut) (As := [_, _]) dX1_decimalOut_128 iX1_bitsOut lX1_56 rfl rfl rfl rfl (Nat.le_of_ble_eq_true rfl) (Nat.le_of_ble_eq_true rfl) rfl rfl (c_bitsOut B4 hbl (by omega)) (fun r m' hq => ?_)
      obtain ⟨rfl, f5, B5⟩ := hq
      refine q_iincN (pc' := 134) (j := 1) (lv' := [_, _, _, _, _, _, _, _]) dX1_decimalOut_131 rfl (by decide) rfl rfl ?_
      refine q_goto (pc' := 77) dX1_decimalOut_134 (by decide) ?_
      refine ih (j + 1) _ _ (by omega) (f4.trans (f5.mono (by decide))) (k4.trans (Kp.fr f5 (by decide))) ((congrFun (f5.j (by decide)) 9).trans M4) ?_
      rw [e]
      exact B5
