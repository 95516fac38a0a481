/-! ===== GuisePack's face: five, write, part ===== -/
set_option maxHeartbeats 4000000 in
set_option maxRecDepth 20000 in
theorem c_five {Z : q_Z} {m : q_Mm} {d : Nat} {n k : Nat} {st t : Bool} {x : Int32} {rl : Nat → Nat} {xs : Nat → Int64} {nt : Nat → Int32} (h : Cls m st n k rl xs nt) (ht : m.1 0 14 = q_b t) : q_V (q_g Z) mX10_five (d+6) 0 0 0 [some (.ref (q_ad Z 0)), some (.int x)] [] (q_W Z m) (q_P Z fun r m2 => r = some (.int (if t = true ∧ n ≠ 0 ∧ 0 ≤ x.toInt ∧ x.toInt < ((s_five n rl xs).1 : Int) then nI (s_cd ((s_five n rl xs).2.1 (s_i x))) else -1)) ∧ (∃ st2, Cls m2 st2 n k rl xs nt) ∧ Fr s_S9 m m2 ∧ Kp 0 [16] m m2) := by
  have hn := h.2.2.2.1.2.2.1
  refine q_aload_n (pc' := 1) dX10_five_0 rfl rfl ?_
  refine h_getiE (pc' := 4) dX10_five_1 fX10_122 rfl rfl (ht) rfl ?_
  refine q_if_eqB (tgt := 32) (pc' := 7) dX10_five_4 (by decide) rfl (fun c_4 => ?_) (fun c_4 => ?_)
  · refine q_iconst (pc' := 33) (v := (-1)) dX10_five_32 rfl rfl ?_
    refine q_iret dX10_five_33 rfl rfl ⟨_, rfl, by rw [if_neg (fun z => by rw [c_4] at z; exact absurd z.1 (by decide))], ⟨st, h⟩, Fr.rf, Kp.rf⟩
  refine q_aload_n (pc' := 8) dX10_five_7 rfl rfl ?_
  refine h_getr (pc' := 11) dX10_five_8 fX10_45 rfl rfl rfl ?_
  refine h_getiE (pc' := 14) dX10_five_11 fX10_128 rfl rfl (h.2.2.2.1.1) rfl ?_
  refine q_if_eqN (tgt := 32) (pc' := 17) dX10_five_14 (by decide) rfl (by omega) (fun c_14 => ?_) (fun c_14 => ?_)
  · refine q_iconst (pc' := 33) (v := (-1)) dX10_five_32 rfl rfl ?_
    refine q_iret dX10_five_33 rfl rfl ⟨_, rfl, by rw [if_neg (fun z => z.2.1 c_14)], ⟨st, h⟩, Fr.rf, Kp.rf⟩
  refine q_iload_n (pc' := 18) dX10_five_17 rfl rfl ?_
  refine q_if_lt (tgt := 32) (pc' := 21) dX10_five_18 (by decide) rfl (fun c_18 => ?_) (fun c_18 => ?_)
  · rw [z_lt, z_0] at c_18
    refine q_iconst (pc' := 33) (v := (-1)) dX10_five_32 rfl rfl ?_
    refine q_iret dX10_five_33 rfl rfl ⟨_, rfl, by rw [if_neg (fun z => by omega)], ⟨st, h⟩, Fr.rf, Kp.rf⟩
  rw [z_lt, z_0] at c_18
  have hto := told ht (by first | exact c_4 | exact s_has_t c_5 | assumption)
  refine q_iload_n (pc' := 22) dX10_five_21 rfl rfl ?_
  refine q_aload_n (pc' := 23) dX10_five_22 rfl rfl ?_
  refine h_callV (pc' := 26) (M' := mX10_current) (As := []) dX10_five_23 iX10_current lX10_162 rfl rfl rfl rfl (Nat.le_of_ble_eq_true rfl) (Nat.le_of_ble_eq_true rfl) rfl rfl (c_cur h hto) (fun r m' hq => ?_)
  obtain ⟨rfl, f1, k1, h1⟩ := hq
  have F1 := h1.five
  have hL := F1.2.1
  refine h_getiE (pc' := 29) dX10_five_26 fX10_227 rfl rfl (F1.1) rfl ?_
  refine q_icmp_lt (tgt := 34) (pc' := 32) dX10_five_29 (by decide) rfl (fun c_29 => ?_) (fun c_29 => ?_)
  rotate_left
  · rw [z_lt, z_n (by omega)] at c_29
    refine q_iconst (pc' := 33) (v := (-1)) dX10_five_32 rfl rfl ?_
    refine q_iret dX10_five_33 rfl rfl ⟨_, rfl, by rw [if_neg (fun z => by omega)], ⟨false, h1⟩, f1.mono (by decide), k1⟩
  · rw [z_lt, z_n (by omega)] at c_29
    obtain ⟨j, hj, hx⟩ := z_ex (x := x) (n := (s_five n rl xs).1) (by omega) (by omega) (by omega)
    have e : (if t = true ∧ n ≠ 0 ∧ 0 ≤ x.toInt ∧ x.toInt < ((s_five n rl xs).1 : Int) then nI (s_cd ((s_five n rl xs).2.1 (s_i x))) else -1) = nI (s_cd ((s_five n rl xs).2.1 j)) := by rw [if_pos ⟨c_4, by omega, by omega, by omega⟩, hx, s_i_n (by omega)]
    rw [e, hx]
    have hp := (F1.2.2.2 j hj).1
    refine q_aload_n (pc' := 35) dX10_five_34 rfl rfl ?_
    refine h_getr (pc' := 38) dX10_five_35 fX10_64 rfl rfl rfl ?_
    refine q_aload_n (pc' := 39) dX10_five_38 rfl rfl ?_
    refine h_getr (pc' := 42) dX10_five_39 fX10_73 rfl rfl rfl ?_
    refine h_getr (pc' := 45) dX10_five_42 fX10_230 rfl rfl rfl ?_
    refine q_iload_n (pc' := 46) dX10_five_45 rfl rfl ?_
    refine h_ialdE (pc' := 47) dX10_five_46 rfl (rfl) (by omega) (by decide) ((F1.2.2.1 j hj).1) rfl ?_
    refine h_callV (pc' := 50) (M' := mX4_code) (As := [_]) dX10_five_47 iX4_code lX10_233 rfl rfl rfl rfl (Nat.le_of_ble_eq_true rfl) (Nat.le_of_ble_eq_true rfl) rfl rfl (c_code hp) (fun r m' hq => ?_)
    obtain ⟨rfl, hmm⟩ := hq
    subst hmm
    refine q_iret dX10_five_50 rfl rfl ⟨_, rfl, by rw [h1.2.1 _ hp], ⟨false, h1⟩, f1.mono (by decide), k1⟩
theorem Bw.fr {m m2 : q_Mm} {S B : List Nat} (h : Bw m (B, 0, 0)) (f : Fr S m m2) (h1 : 212 ∉ S) (h2 : 8 ∉ S) (h3 : 9 ∉ S) : Bw m2 (B, 0, 0) := h.o f h1 (h.1.fr f h2 h3)
set_option maxHeartbeats 4000000 in
set_option maxRecDepth 20000 in
theorem c_write {Z : q_Z} {m : q_Mm} {d : Nat} {n k : Nat} {L : List Nat} {st t : Bool} {x : Int32} {rl : Nat → Nat} {xs : Nat → Int64} {nt : Nat → Int32} (h : Cls m st n k rl xs nt) (ht : m.1 0 14 = q_b t) (hB : Bw m (L, 0, 0)) : q_V (q_g Z) mX10_write (d+6) 0 0 0 [some (.ref (q_ad Z 0)), some (.int x)] [] (q_W Z m) (q_P Z fun r m2 => r = some (.int (if s_has t (s_nb n rl) x = true then nI (s_wo n rl xs (s_ws xs) (s_five n rl xs) s_cd (s_i x)).length else -1)) ∧ (∃ st2, Cls m2 st2 n k rl xs nt) ∧ Fr (s_S9 ++ [212, 8, 9]) m m2 ∧ Kp 0 [16] m m2 ∧ Bw m2 (if s_has t (s_nb n rl) x = true then s_wo n rl xs (s_ws xs) (s_five n rl xs) s_cd (s_i x) else L, 0, 0)) := by
  have hnb := s_nb_le h.2.2.2.1.2.2.2.2.2.2.2 h.2.2.2.1.2.2.1
  refine q_aload_n (pc' := 1) dX10_write_0 rfl rfl ?_
  refine q_iload_n (pc' := 2) dX10_write_1 rfl rfl ?_
  refine h_callV (pc' := 5) (M' := mX10_hasBlock) (As := [_]) dX10_write_2 iX10_hasBlock lX10_218 rfl rfl rfl rfl (Nat.le_of_ble_eq_true rfl) (Nat.le_of_ble_eq_true rfl) rfl rfl (c_hasBlock h.2.2.2.1 ht) (fun r m' hq => ?_)
  obtain ⟨rfl, hmm⟩ := hq
  subst m'
  refine q_if_neB (tgt := 10) (pc' := 8) dX10_write_5 (by decide) rfl (fun c_5 => ?_) (fun c_5 => ?_)
  rotate_left
  · refine q_iconst (pc' := 9) (v := (-1)) dX10_write_8 rfl rfl ?_
    refine q_iret dX10_write_9 rfl rfl ⟨_, rfl, by rw [c_5, if_neg (by decide)], ⟨st, h⟩, Fr.rf, Kp.rf, by rw [c_5, if_neg (by decide)]; exact hB⟩
  obtain ⟨j, hx, hj⟩ := z_has c_5 (by omega)
  have e0 : s_i x = j := by rw [hx, s_i_n (by omega)]
  rw [c_5, if_pos rfl, if_pos rfl, e0, hx]
  have hto := told ht (by first | exact c_4 | exact s_has_t c_5 | assumption)
  refine q_aload_n (pc' := 11) dX10_write_10 rfl rfl ?_
  refine h_getr (pc' := 14) dX10_write_11 fX10_85 rfl rfl rfl ?_
  refine q_aload_n (pc' := 15) dX10_write_14 rfl rfl ?_
  refine h_callV (pc' := 18) (M' := mX10_current) (As := []) dX10_write_15 iX10_current lX10_162 rfl rfl rfl rfl (Nat.le_of_ble_eq_true rfl) (Nat.le_of_ble_eq_true rfl) rfl rfl (c_cur h hto) (fun r m' hq => ?_)
  obtain ⟨rfl, f1, k1, h1⟩ := hq
  have B1 := hB.fr f1 (by decide) (by decide) (by decide)
  obtain ⟨m1, hm1⟩ : ∃ z, z = m' := ⟨_, rfl⟩
  subst hm1
  refine q_iload_n (pc' := 19) dX10_write_18 rfl rfl ?_
  refine h_callV (pc' := 22) (M' := mX1_writeOut) (As := [_, _]) dX10_write_19 iX1_writeOut lX10_290 rfl rfl rfl rfl (Nat.le_of_ble_eq_true rfl) (Nat.le_of_ble_eq_true rfl) rfl rfl (c_writeOut_194 (cdf := s_cd) B1 h1.pl h1.five hj (fun p hp => ⟨h1.2.1 p hp, (s_cd_ok hp).2.2⟩)) (fun r m' hq => ?_)
  obtain ⟨rfl, f2, k2, B2⟩ := hq
  refine q_aload_n (pc' := 23) dX10_write_22 rfl rfl ?_
  refine h_getr (pc' := 26) dX10_write_23 fX10_23 rfl rfl rfl ?_
  refine h_getiE (pc' := 29) dX10_write_26 fX10_97 rfl rfl (B2.1.1) rfl ?_
  refine q_iret dX10_write_29 rfl rfl ⟨_, rfl, rfl, ⟨false, h1.fr f2 (k2.mono (by decide)) (by decide)⟩, (f1.mono (by decide)).trans (f2.mono (by decide)), k1.trans (Kp.fr f2 (by decide)), B2⟩
set_option maxHeartbeats 4000000 in
set_option maxRecDepth 20000 in
theorem c_part {Z : q_Z} {m : q_Mm} {d : Nat} {n k : Nat} {st t : Bool} {x y : Int32} {rl : Nat → Nat} {xs : Nat → Int64} {nt : Nat → Int32} (h : Cls m st n k rl xs nt) (ht : m.1 0 14 = q_b t) : q_V (q_g Z) mX10_part (d+6) 0 0 0 [some (.ref (q_ad Z 0)), some (.int x), some (.int y), none] [] (q_W Z m) (q_P Z fun r m2 => r = some (.int (if s_has t (s_nb n rl) x = true ∧ 0 ≤ y.toInt ∧ y.toInt < ((s_S n rl xs (s_i x)).1 : Int) then (s_S n rl xs (s_i x)).2.2 (s_i y) else -1)) ∧ (∃ st2, Cls m2 st2 n k rl xs nt) ∧ Fr s_S9 m m2 ∧ Kp 0 [16] m m2) := by
  have hr := h.2.2.2.1.2.2.2.2.2.2.2
  have hnb := s_nb_le hr h.2.2.2.1.2.2.1
  refine q_aload_n (pc' := 1) dX10_part_0 rfl rfl ?_
  refine q_iload_n (pc' := 2) dX10_part_1 rfl rfl ?_
  refine h_callV (pc' := 5) (M' := mX10_hasBlock) (As := [_]) dX10_part_2 iX10_hasBlock lX10_218 rfl rfl rfl rfl (Nat.le_of_ble_eq_true rfl) (Nat.le_of_ble_eq_true rfl) rfl rfl (c_hasBlock h.2.2.2.1 ht) (fun r m' hq => ?_)
  obtain ⟨rfl, hmm⟩ := hq
  subst m'
  refine q_if_neB (tgt := 10) (pc' := 8) dX10_part_5 (by decide) rfl (fun c_5 => ?_) (fun c_5 => ?_)
  rotate_left
  · refine q_iconst (pc' := 9) (v := (-1)) dX10_part_8 rfl rfl ?_
    refine q_iret dX10_part_9 rfl rfl ⟨_, rfl, by rw [if_neg (fun z => by rw [c_5] at z; exact absurd z.1 (by decide))], ⟨st, h⟩, Fr.rf, Kp.rf⟩
  obtain ⟨j, hx, hj⟩ := z_has c_5 (by omega)
  have e0 : s_i x = j := by rw [hx, s_i_n (by omega)]
  have hz := s_nb_in hr hj
  have hS := s_S_in hr xs hz.2.1
  rw [e0, hx]
  rw [hx] at c_5
  have hto := told ht (by first | exact c_4 | exact s_has_t c_5 | assumption)
  refine q_aload_n (pc' := 11) dX10_part_10 rfl rfl ?_
  refine h_callV (pc' := 14) (M' := mX10_current) (As := []) dX10_part_11 iX10_current lX10_162 rfl rfl rfl rfl (Nat.le_of_ble_eq_true rfl) (Nat.le_of_ble_eq_true rfl) rfl rfl (c_cur h hto) (fun r m' hq => ?_)
  obtain ⟨rfl, f1, k1, h1⟩ := hq
  obtain ⟨m1, hm1⟩ : ∃ z, z = m' := ⟨_, rfl⟩
  subst hm1
  refine q_astore_n (pc' := 15) (lv' := [_, _, _, _]) dX10_part_14 (by decide) rfl rfl ?_
  refine q_aload_n (pc' := 16) dX10_part_15 rfl rfl ?_
  refine q_iload_n (pc' := 17) dX10_part_16 rfl rfl ?_
  refine h_callV (pc' := 20) (M' := mX8_divide) (As := [_]) dX10_part_17 iX8_divide lX10_284 rfl rfl rfl rfl (Nat.le_of_ble_eq_true rfl) (Nat.le_of_ble_eq_true rfl) rfl rfl (c_divide_194 h1.pl hj) (fun r m' hq => ?_)
  obtain ⟨rfl, f2, C2⟩ := hq
  have h2 := h1.fr f2 (Kp.fr f2 (by decide)) (by decide)
  have k2 : Kp 0 [16] m m' := k1.trans (Kp.fr f2 (by decide))
  have f2 : Fr s_S9 m m' := (f1.mono (by decide)).trans (f2.mono (by decide))
  have C1 : m'.1 199 1 = nI (s_S n rl xs j).1 := C2.1
  refine q_iload_n (pc' := 21) dX10_part_20 rfl rfl ?_
  refine q_if_lt (tgt := 47) (pc' := 24) dX10_part_21 (by decide) rfl (fun c_21 => ?_) (fun c_21 => ?_)
  · rw [z_lt, z_0] at c_21
    refine q_iconst (pc' := 48) (v := (-1)) dX10_part_47 rfl rfl ?_
    refine q_iret dX10_part_48 rfl rfl ⟨_, rfl, by rw [if_neg (fun z => by omega)], ⟨false, h2⟩, f2, k2⟩
  rw [z_lt, z_0] at c_21
  refine q_iload_n (pc' := 25) dX10_part_24 rfl rfl ?_
  refine q_aload_n (pc' := 26) dX10_part_25 rfl rfl ?_
  refine h_getr (pc' := 29) dX10_part_26 fX10_260 rfl rfl rfl ?_
  refine h_getiE (pc' := 32) dX10_part_29 fX10_264 rfl rfl (C1) rfl ?_
  refine q_icmp_ge (tgt := 47) (pc' := 35) dX10_part_32 (by decide) rfl (fun c_32 => ?_) (fun c_32 => ?_)
  · rw [z_le, z_n (by omega)] at c_32
    refine q_iconst (pc' := 48) (v := (-1)) dX10_part_47 rfl rfl ?_
    refine q_iret dX10_part_48 rfl rfl ⟨_, rfl, by rw [if_neg (fun z => by omega)], ⟨false, h2⟩, f2, k2⟩
  · rw [z_le, z_n (by omega)] at c_32
    obtain ⟨i, hi, hy⟩ := z_ex (x := y) (n := (s_S n rl xs j).1) (by omega) (by omega) (by omega)
    have e1 : s_i y = i := by rw [hy, s_i_n (by omega)]
    rw [if_pos ⟨c_5, by omega, by omega⟩, e1, hy]
    refine q_aload_n (pc' := 36) dX10_part_35 rfl rfl ?_
    refine h_getr (pc' := 39) dX10_part_36 fX10_260 rfl rfl rfl ?_
    refine h_getr (pc' := 42) dX10_part_39 fX10_287 rfl rfl rfl ?_
    refine q_iload_n (pc' := 43) dX10_part_42 rfl rfl ?_
    refine h_ialdE (pc' := 44) dX10_part_43 rfl (rfl) (by omega) (by decide) (C2.2.1 i hi) rfl ?_
    refine q_goto (pc' := 48) dX10_part_44 (by decide) ?_
    refine q_iret dX10_part_48 rfl rfl ⟨_, rfl, rfl, ⟨false, h2⟩, f2, k2⟩
