/-! ===== GuisePack's face: near ===== -/
/-- Long.bitCount, as its bytecode has it -/
def s_bcl (x : Int64) : Int32 :=
  let u (x : Int64) (s : Int32) : Int64 := (x.toUInt64 >>> (s.toInt64.toUInt64 &&& Int64.toUInt64 63)).toInt64
  let a := x - (u x (nI 1) &&& 6148914691236517205)
  let b := (a &&& 3689348814741910323) + (u a (nI 2) &&& 3689348814741910323)
  let c := (b + u b (nI 4)) &&& 1085102592571150095
  let e := c + u c (nI 8)
  let g := e + u e (nI 16)
  (g + u g (nI 32)).toInt32 &&& nI 127
set_option maxHeartbeats 4000000 in
set_option maxRecDepth 20000 in
theorem c_bitCountL {Z : q_Z} {m : q_Mm} {d : Nat} {x : Int64} : q_V (q_g Z) mJ13_bitCount_95d88 (d) 0 0 0 [some (.long x), none] [] (q_W Z m) (q_P Z fun r m2 => r = some (.int (s_bcl x)) ∧ m2 = m) := by
  refine q_lload_n (pc' := 1) dJ13_bitCount_95d88_0 rfl rfl ?_
  refine q_lload_n (pc' := 2) dJ13_bitCount_95d88_1 rfl rfl ?_
  refine q_iconst (pc' := 3) (v := nI 1) dJ13_bitCount_95d88_2 rfl rfl ?_
  refine q_lushr (pc' := 4) dJ13_bitCount_95d88_3 rfl rfl ?_
  refine q_ldc2 (pc' := 7) dJ13_bitCount_95d88_4 kJ13_314 rfl ?_
  refine q_land (pc' := 8) dJ13_bitCount_95d88_7 rfl ?_
  refine q_lsub (pc' := 9) dJ13_bitCount_95d88_8 rfl ?_
  refine q_lstore_n (pc' := 10) (lv' := [_, _]) dJ13_bitCount_95d88_9 (by decide) rfl rfl ?_
  refine q_lload_n (pc' := 11) dJ13_bitCount_95d88_10 rfl rfl ?_
  refine q_ldc2 (pc' := 14) dJ13_bitCount_95d88_11 kJ13_316 rfl ?_
  refine q_land (pc' := 15) dJ13_bitCount_95d88_14 rfl ?_
  refine q_lload_n (pc' := 16) dJ13_bitCount_95d88_15 rfl rfl ?_
  refine q_iconst (pc' := 17) (v := nI 2) dJ13_bitCount_95d88_16 rfl rfl ?_
  refine q_lushr (pc' := 18) dJ13_bitCount_95d88_17 rfl rfl ?_
  refine q_ldc2 (pc' := 21) dJ13_bitCount_95d88_18 kJ13_316 rfl ?_
  refine q_land (pc' := 22) dJ13_bitCount_95d88_21 rfl ?_
  refine q_ladd (pc' := 23) dJ13_bitCount_95d88_22 rfl ?_
  refine q_lstore_n (pc' := 24) (lv' := [_, _]) dJ13_bitCount_95d88_23 (by decide) rfl rfl ?_
  refine q_lload_n (pc' := 25) dJ13_bitCount_95d88_24 rfl rfl ?_
  refine q_lload_n (pc' := 26) dJ13_bitCount_95d88_25 rfl rfl ?_
  refine q_iconst (pc' := 27) (v := nI 4) dJ13_bitCount_95d88_26 rfl rfl ?_
  refine q_lushr (pc' := 28) dJ13_bitCount_95d88_27 rfl rfl ?_
  refine q_ladd (pc' := 29) dJ13_bitCount_95d88_28 rfl ?_
  refine q_ldc2 (pc' := 32) dJ13_bitCount_95d88_29 kJ13_318 rfl ?_
  refine q_land (pc' := 33) dJ13_bitCount_95d88_32 rfl ?_
  refine q_lstore_n (pc' := 34) (lv' := [_, _]) dJ13_bitCount_95d88_33 (by decide) rfl rfl ?_
  refine q_lload_n (pc' := 35) dJ13_bitCount_95d88_34 rfl rfl ?_
  refine q_lload_n (pc' := 36) dJ13_bitCount_95d88_35 rfl rfl ?_
  refine q_bipush (pc' := 38) (v := nI 8) dJ13_bitCount_95d88_36 rfl rfl ?_
  refine q_lushr (pc' := 39) dJ13_bitCount_95d88_38 rfl rfl ?_
  refine q_ladd (pc' := 40) dJ13_bitCount_95d88_39 rfl ?_
  refine q_lstore_n (pc' := 41) (lv' := [_, _]) dJ13_bitCount_95d88_40 (by decide) rfl rfl ?_
  refine q_lload_n (pc' := 42) dJ13_bitCount_95d88_41 rfl rfl ?_
  refine q_lload_n (pc' := 43) dJ13_bitCount_95d88_42 rfl rfl ?_
  refine q_bipush (pc' := 45) (v := nI 16) dJ13_bitCount_95d88_43 rfl rfl ?_
  refine q_lushr (pc' := 46) dJ13_bitCount_95d88_45 rfl rfl ?_
  refine q_ladd (pc' := 47) dJ13_bitCount_95d88_46 rfl ?_
  refine q_lstore_n (pc' := 48) (lv' := [_, _]) dJ13_bitCount_95d88_47 (by decide) rfl rfl ?_
  refine q_lload_n (pc' := 49) dJ13_bitCount_95d88_48 rfl rfl ?_
  refine q_lload_n (pc' := 50) dJ13_bitCount_95d88_49 rfl rfl ?_
  refine q_bipush (pc' := 52) (v := nI 32) dJ13_bitCount_95d88_50 rfl rfl ?_
  refine q_lushr (pc' := 53) dJ13_bitCount_95d88_52 rfl rfl ?_
  refine q_ladd (pc' := 54) dJ13_bitCount_95d88_53 rfl ?_
  refine q_lstore_n (pc' := 55) (lv' := [_, _]) dJ13_bitCount_95d88_54 (by decide) rfl rfl ?_
  refine q_lload_n (pc' := 56) dJ13_bitCount_95d88_55 rfl rfl ?_
  refine q_l2i (pc' := 57) dJ13_bitCount_95d88_56 rfl ?_
  refine q_bipush (pc' := 59) (v := nI 127) dJ13_bitCount_95d88_57 rfl rfl ?_
  refine q_iand (pc' := 60) dJ13_bitCount_95d88_59 rfl ?_
  refine q_iret dJ13_bitCount_95d88_60 rfl rfl ⟨_, rfl, rfl, rfl⟩
set_option maxHeartbeats 4000000 in
set_option maxRecDepth 20000 in
theorem c_near {Z : q_Z} {m : q_Mm} {d : Nat} {n k : Nat} {t : Bool} {x y : Int32} {rl : Nat → Nat} {xs : Nat → Int64} {nt : Nat → Int32} (hC : Col m 19 n k xs rl nt) (ht : m.1 0 14 = q_b t) : q_V (q_g Z) mX10_near (d+1) 0 0 0 [some (.ref (q_ad Z 0)), some (.int x), some (.int y)] [] (q_W Z m) (q_P Z fun r m2 => r = some (.int (if (s_has t n x && s_has t n y) = true then s_bcl (xs (s_i x) ^^^ xs (s_i y)) else -1)) ∧ m2 = m) := by
  have hn := hC.2.2.1
  refine q_aload_n (pc' := 1) dX10_near_0 rfl rfl ?_
  refine q_iload_n (pc' := 2) dX10_near_1 rfl rfl ?_
  refine h_callV (pc' := 5) (M' := mX10_hasPlace) (As := [_]) dX10_near_2 iX10_hasPlace lX10_144 rfl rfl rfl rfl (Nat.le_of_ble_eq_true rfl) (Nat.le_of_ble_eq_true rfl) rfl rfl (c_hasPlace hC ht) (fun r m' hq => ?_)
  obtain ⟨rfl, hmm⟩ := hq
  subst m'
  refine q_if_eqB (tgt := 16) (pc' := 8) dX10_near_5 (by decide) rfl (fun c_5 => ?_) (fun c_5 => ?_)
  · refine q_iconst (pc' := 17) (v := (-1)) dX10_near_16 rfl rfl ?_
    refine q_iret dX10_near_17 rfl rfl ⟨_, rfl, by rw [c_5, Bool.false_and, if_neg (by decide)], rfl⟩
  refine q_aload_n (pc' := 9) dX10_near_8 rfl rfl ?_
  refine q_iload_n (pc' := 10) dX10_near_9 rfl rfl ?_
  refine h_callV (pc' := 13) (M' := mX10_hasPlace) (As := [_]) dX10_near_10 iX10_hasPlace lX10_144 rfl rfl rfl rfl (Nat.le_of_ble_eq_true rfl) (Nat.le_of_ble_eq_true rfl) rfl rfl (c_hasPlace hC ht) (fun r m' hq => ?_)
  obtain ⟨rfl, hmm⟩ := hq
  subst m'
  refine q_if_neB (tgt := 18) (pc' := 16) dX10_near_13 (by decide) rfl (fun c_13 => ?_) (fun c_13 => ?_)
  rotate_left
  · refine q_iconst (pc' := 17) (v := (-1)) dX10_near_16 rfl rfl ?_
    refine q_iret dX10_near_17 rfl rfl ⟨_, rfl, by rw [c_5, c_13, if_neg (by decide)], rfl⟩
  obtain ⟨i, hx, hi⟩ := z_has c_5 (by omega)
  obtain ⟨j, hy, hj⟩ := z_has c_13 (by omega)
  rw [c_5, c_13, Bool.and_self, if_pos rfl, hx, hy, s_i_n (by omega), s_i_n (by omega)]
  refine q_aload_n (pc' := 19) dX10_near_18 rfl rfl ?_
  refine h_getr (pc' := 22) dX10_near_19 fX10_45 rfl rfl rfl ?_
  refine h_getr (pc' := 25) dX10_near_22 fX10_154 rfl rfl rfl ?_
  refine q_iload_n (pc' := 26) dX10_near_25 rfl rfl ?_
  refine h_laldE (pc' := 27) dX10_near_26 rfl (rfl) (by omega) (by decide) (hC.2.2.2.2.1 i hi) rfl ?_
  refine q_aload_n (pc' := 28) dX10_near_27 rfl rfl ?_
  refine h_getr (pc' := 31) dX10_near_28 fX10_45 rfl rfl rfl ?_
  refine h_getr (pc' := 34) dX10_near_31 fX10_154 rfl rfl rfl ?_
  refine q_iload_n (pc' := 35) dX10_near_34 rfl rfl ?_
  refine h_laldE (pc' := 36) dX10_near_35 rfl (rfl) (by omega) (by decide) (hC.2.2.2.2.1 j hj) rfl ?_
  refine q_lxor (pc' := 37) dX10_near_36 rfl ?_
  refine h_callS (pc' := 40) (M' := mJ13_bitCount_95d88) (As := [_]) dX10_near_37 iJ13_bitCount_95d88 lX10_212 rfl rfl (Nat.le_of_ble_eq_true rfl) (Nat.le_of_ble_eq_true rfl) rfl rfl (c_bitCountL) (fun r m' hq => ?_)
  obtain ⟨rfl, hmm⟩ := hq
  subst m'
  refine q_iret dX10_near_40 rfl rfl ⟨_, rfl, rfl, rfl⟩
