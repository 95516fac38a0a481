/-! ===== GuisePack's face: fault, text, peek, take, undo, image, back, count, value ===== -/
theorem s_on_no {o : Option Nat} (h : ∀ a, o = some a → a ≤ 320) : s_on o = -1 ↔ o = none := by
  cases o with
  | none => exact ⟨fun _ => rfl, fun _ => rfl⟩
  | some a => exact ⟨fun e => absurd e (z_m1n (by have := h a rfl; omega)), fun e => by cases e⟩
def s_fau (B : List Nat) (x : Int) : Int32 := if x = 0 then s_on (s_text B).1 else if x = 1 then s_on (s_bkk B).1 else -2
set_option maxHeartbeats 4000000 in
set_option maxRecDepth 20000 in
theorem c_fault {Z : q_Z} {m : q_Mm} {d : Nat} {t im : Bool} {B L : List Nat} {c ck : q_Cs} {us : List q_Cs} {rf : Nat → Int32} {x : Int32} (h : CI m t im B L c ck us rf) : q_V (q_g Z) mX10_fault (d+7) 0 0 0 [some (.ref (q_ad Z 0)), some (.int x)] [] (q_W Z m) (q_P Z fun r m2 => r = some (.int (s_fau B x.toInt)) ∧ CI m2 t im B L c ck us rf ∧ Up m m2) := by
  have hD := h.x.1
  have hO : Oct m 6 B := h.1.2.2.1
  refine q_iload_n (pc' := 1) dX10_fault_0 rfl rfl ?_
  refine q_if_ne (tgt := 12) (pc' := 4) dX10_fault_1 (by decide) rfl (fun c_1 => ?_) (fun c_1 => ?_)
  rotate_left
  · rw [z_eq, z_0] at c_1
    rw [show s_fau B x.toInt = s_on (s_text B).1 from if_pos c_1]
    refine q_aload_n (pc' := 5) dX10_fault_4 rfl rfl ?_
    refine h_getr (pc' := 8) dX10_fault_5 fX10_31 rfl rfl rfl ?_
    refine h_callV (pc' := 11) (M' := mX9_read) (As := []) dX10_fault_8 iX9_read lX10_105 rfl rfl rfl rfl (Nat.le_of_ble_eq_true rfl) (Nat.le_of_ble_eq_true rfl) rfl rfl (c_readT (nt := fun _ => 0) hD hO) (fun r m' hq => ?_)
    obtain ⟨rfl, f1, -⟩ := hq
    refine q_iret dX10_fault_11 rfl rfl ⟨_, rfl, rfl, h.s f1 (by decide)⟩
  rw [z_eq, z_0] at c_1
  refine q_iload_n (pc' := 13) dX10_fault_12 rfl rfl ?_
  refine q_iconst (pc' := 14) (v := nI 1) dX10_fault_13 rfl rfl ?_
  refine q_icmp_ne (tgt := 25) (pc' := 17) dX10_fault_14 (by decide) rfl (fun c_14 => ?_) (fun c_14 => ?_)
  · rw [z_eq, z_n (by decide)] at c_14
    have c_14 : ¬ x.toInt = 1 := c_14
    refine q_bipush (pc' := 27) (v := (-2)) dX10_fault_25 rfl rfl ?_
    refine q_iret dX10_fault_27 rfl rfl ⟨_, rfl, by unfold s_fau; rw [if_neg c_1, if_neg c_14], h, Up.rf⟩
  · rw [z_eq, z_n (by decide)] at c_14
    have c_14 : x.toInt = 1 := c_14
    rw [show s_fau B x.toInt = s_on (s_bkk B).1 by unfold s_fau; rw [if_neg c_1, if_pos c_14]]
    refine q_aload_n (pc' := 18) dX10_fault_17 rfl rfl ?_
    refine h_getr (pc' := 21) dX10_fault_18 fX10_38 rfl rfl rfl ?_
    refine h_callV (pc' := 24) (M' := mX0_read) (As := []) dX10_fault_21 iX0_read lX10_109 rfl rfl rfl rfl (Nat.le_of_ble_eq_true rfl) (Nat.le_of_ble_eq_true rfl) rfl rfl ((c_readB (d := d) hD hO).up (by omega)) (fun r m' hq => ?_)
    obtain ⟨rfl, f1, -⟩ := hq
    refine q_iret dX10_fault_24 rfl rfl ⟨_, rfl, rfl, h.s f1 (by decide)⟩
def s_peek (B : List Nat) (x : Int) : Int64 := if (s_bkk B).1 = none ∧ 0 ≤ x ∧ x < ((s_bkk B).2.1 : Int) then (s_bkk B).2.2 x.toNat else -1000000
set_option maxHeartbeats 4000000 in
set_option maxRecDepth 20000 in
theorem c_peek {Z : q_Z} {m : q_Mm} {d : Nat} {t im : Bool} {B L : List Nat} {c ck : q_Cs} {us : List q_Cs} {rf : Nat → Int32} {x : Int32} (h : CI m t im B L c ck us rf) : q_V (q_g Z) mX10_peek (d+7) 0 0 0 [some (.ref (q_ad Z 0)), some (.int x)] [] (q_W Z m) (q_P Z fun r m2 => r = some (.long (s_peek B x.toInt)) ∧ CI m2 t im B L c ck us rf ∧ Up m m2) := by
  have hD := h.x.1
  have hO : Oct m 6 B := h.1.2.2.1
  have no : ∀ m1, CI m1 t im B L c ck us rf → Up m m1 → s_peek B x.toInt = -1000000 → q_V (q_g Z) mX10_peek (d+7) 0 0 26 [some (.ref (q_ad Z 0)), some (.int x)] [] (q_W Z (m1)) (q_P Z fun r m2 => r = some (.long (s_peek B x.toInt)) ∧ CI m2 t im B L c ck us rf ∧ Up m m2) := by
    intro m1 h1 u1 e
    refine q_ldc2 (pc' := 29) dX10_peek_26 kX10_132 rfl ?_
    refine q_lret dX10_peek_29 rfl ⟨_, rfl, by rw [e], h1, u1⟩
  refine q_aload_n (pc' := 1) dX10_peek_0 rfl rfl ?_
  refine h_getr (pc' := 4) dX10_peek_1 fX10_38 rfl rfl rfl ?_
  refine h_callV (pc' := 7) (M' := mX0_read) (As := []) dX10_peek_4 iX0_read lX10_109 rfl rfl rfl rfl (Nat.le_of_ble_eq_true rfl) (Nat.le_of_ble_eq_true rfl) rfl rfl ((c_readB (d := d) hD hO).up (by omega)) (fun r m' hq => ?_)
  obtain ⟨rfl, f1, b1, v1⟩ := hq
  obtain ⟨h1, u1⟩ := h.s f1 (by decide)
  refine q_iconst (pc' := 8) (v := (-1)) dX10_peek_7 rfl rfl ?_
  refine q_icmp_ne (tgt := 26) (pc' := 11) dX10_peek_8 (by decide) rfl (fun c_8 => ?_) (fun c_8 => ?_)
  · exact no m' h1 u1 (if_neg (fun z => c_8 ((s_on_no b1).mpr z.1)))
  have hn := (s_on_no b1).mp c_8
  obtain ⟨e3, le, ge, hv⟩ := v1 hn
  refine q_iload_n (pc' := 12) dX10_peek_11 rfl rfl ?_
  refine q_if_lt (tgt := 26) (pc' := 15) dX10_peek_12 (by decide) rfl (fun c_12 => ?_) (fun c_12 => ?_)
  · rw [z_lt, z_0] at c_12
    exact no m' h1 u1 (if_neg (fun z => by omega))
  rw [z_lt, z_0] at c_12
  refine q_iload_n (pc' := 16) dX10_peek_15 rfl rfl ?_
  refine q_aload_n (pc' := 17) dX10_peek_16 rfl rfl ?_
  refine h_getr (pc' := 20) dX10_peek_17 fX10_38 rfl rfl rfl ?_
  refine h_getiE (pc' := 23) dX10_peek_20 fX10_131 rfl rfl (e3) rfl ?_
  refine q_icmp_lt (tgt := 30) (pc' := 26) dX10_peek_23 (by decide) rfl (fun c_23 => ?_) (fun c_23 => ?_)
  rotate_left
  · rw [z_lt, z_n (by omega)] at c_23
    exact no m' h1 u1 (if_neg (fun z => by omega))
  rw [z_lt, z_n (by omega)] at c_23
  obtain ⟨j, hj, hx⟩ := z_ex (x := x) (n := (s_bkk B).2.1) (by omega) c_23 (by omega)
  have e : s_peek B x.toInt = (s_bkk B).2.2 j := by
    unfold s_peek
    rw [if_pos ⟨hn, by omega, c_23⟩, hx, z_n (by omega)]
    rfl
  rw [e, hx]
  refine q_aload_n (pc' := 31) dX10_peek_30 rfl rfl ?_
  refine h_getr (pc' := 34) dX10_peek_31 fX10_38 rfl rfl rfl ?_
  refine h_getr (pc' := 37) dX10_peek_34 fX10_134 rfl rfl rfl ?_
  refine q_iload_n (pc' := 38) dX10_peek_37 rfl rfl ?_
  refine h_laldE (pc' := 39) dX10_peek_38 rfl (rfl) (by omega) (by decide) (hv j hj) rfl ?_
  refine q_lret dX10_peek_39 rfl ⟨_, rfl, rfl, h1, u1⟩
def s_ap (xs : Nat → Int64) (n : Nat) (g : Nat → Int64) : Nat → Nat → Int64
  | 0 => xs
  | k + 1 => q_u (s_ap xs n g k) (n + k) (g k)
def s_wTake (t : Bool) (B : List Nat) (n : Nat) : Option Nat := if t = false then some 0 else if (s_bkk B).1 = none then (if n + (s_bkk B).2.1 ≤ 64 then none else some 3) else some 4
set_option maxHeartbeats 4000000 in
set_option maxRecDepth 20000 in
theorem c_take {Z : q_Z} {m : q_Mm} {d : Nat} {t im : Bool} {B L : List Nat} {c ck : q_Cs} {us : List q_Cs} {rf : Nat → Int32} (h : CI m t im B L c ck us rf) : q_V (q_g Z) mX10_take (d+7) 0 0 0 [some (.ref (q_ad Z 0)), none, none] [] (q_W Z m) (q_P Z fun r m2 => AP m2 m r t im B [] L c (s_act c (c.1 + (s_bkk B).2.1) (s_ap c.2.2.1 c.1 (s_bkk B).2.2 (s_bkk B).2.1) c.2.2.2.1 (nI 5) (nI (s_bkk B).2.1)) ck us rf (s_wTake t B c.1) (nI (s_bkk B).2.1)) := by
  have hc : Col m 19 c.1 c.2.1 c.2.2.1 c.2.2.2.1 c.2.2.2.2 := h.c
  have hn := hc.2.2.1
  have hD := h.x.1
  have hO : Oct m 6 B := h.1.2.2.1
  unfold s_wTake
  refine q_aload_n (pc' := 1) dX10_take_0 rfl rfl ?_
  refine h_getiE (pc' := 4) dX10_take_1 fX10_122 rfl rfl (h.1.1) rfl ?_
  refine q_if_neB (tgt := 13) (pc' := 7) dX10_take_4 (by decide) rfl (fun c_4 => ?_) (fun c_4 => ?_)
  rotate_left
  · rw [if_pos c_4]
    refine q_aload_n (pc' := 8) dX10_take_7 rfl rfl ?_
    refine q_iconst (pc' := 9) (v := nI 0) dX10_take_8 rfl rfl ?_
    refine h_callV (pc' := 12) (M' := mX10_refuse) (As := [_]) dX10_take_9 iX10_refuse lX10_355 rfl rfl rfl rfl (Nat.le_of_ble_eq_true rfl) (Nat.le_of_ble_eq_true rfl) rfl rfl ((c_ref Up.rf h (by decide)).up (Nat.zero_le _)) (fun r m' hq => ?_)
    obtain ⟨rfl⟩ : _ = r := hq.2.1.symm
    refine q_iret dX10_take_12 rfl rfl ⟨_, rfl, hq⟩
  rw [if_neg (by rw [c_4]; decide)]
  refine q_aload_n (pc' := 14) dX10_take_13 rfl rfl ?_
  refine h_getr (pc' := 17) dX10_take_14 fX10_38 rfl rfl rfl ?_
  refine h_callV (pc' := 20) (M' := mX0_read) (As := []) dX10_take_17 iX0_read lX10_109 rfl rfl rfl rfl (Nat.le_of_ble_eq_true rfl) (Nat.le_of_ble_eq_true rfl) rfl rfl ((c_readB (d := d) hD hO).up (by omega)) (fun r m' hq => ?_)
  obtain ⟨rfl, f0, b1, v1⟩ := hq
  obtain ⟨h0, u0⟩ := h.s f0 (by decide)
  obtain ⟨m0, hm0⟩ : ∃ z, z = m' := ⟨_, rfl⟩
  subst hm0
  refine q_iconst (pc' := 21) (v := (-1)) dX10_take_20 rfl rfl ?_
  refine q_icmp_eq (tgt := 30) (pc' := 24) dX10_take_21 (by decide) rfl (fun c_21 => ?_) (fun c_21 => ?_)
  rotate_left
  · rw [if_neg (fun z => c_21 ((s_on_no b1).mpr z))]
    refine q_aload_n (pc' := 25) dX10_take_24 rfl rfl ?_
    refine q_iconst (pc' := 26) (v := nI 4) dX10_take_25 rfl rfl ?_
    refine h_callV (pc' := 29) (M' := mX10_refuse) (As := [_]) dX10_take_26 iX10_refuse lX10_355 rfl rfl rfl rfl (Nat.le_of_ble_eq_true rfl) (Nat.le_of_ble_eq_true rfl) rfl rfl ((c_ref u0 h0 (by decide)).up (Nat.zero_le _)) (fun r m' hq => ?_)
    obtain ⟨rfl⟩ : _ = r := hq.2.1.symm
    refine q_iret dX10_take_29 rfl rfl ⟨_, rfl, hq⟩
  have hno := (s_on_no b1).mp c_21
  rw [if_pos hno]
  obtain ⟨e3, le, ge, hv⟩ := v1 hno
  generalize (s_bkk B).2.1 = sz at e3 le ge hv
  generalize (s_bkk B).2.2 = g at hv
  have hc0 : Col m0 19 c.1 c.2.1 c.2.2.1 c.2.2.2.1 c.2.2.2.2 := h0.c
  refine q_aload_n (pc' := 31) dX10_take_30 rfl rfl ?_
  refine h_getr (pc' := 34) dX10_take_31 fX10_38 rfl rfl rfl ?_
  refine h_getiE (pc' := 37) dX10_take_34 fX10_131 rfl rfl (e3) rfl ?_
  refine q_istore_n (pc' := 38) (lv' := [_, _, _]) dX10_take_37 (by decide) rfl rfl ?_
  refine q_aload_n (pc' := 39) dX10_take_38 rfl rfl ?_
  refine h_getr (pc' := 42) dX10_take_39 fX10_45 rfl rfl rfl ?_
  refine h_getiE (pc' := 45) dX10_take_42 fX10_128 rfl rfl (hc0.1) rfl ?_
  refine q_iload_n (pc' := 46) dX10_take_45 rfl rfl ?_
  refine q_iaddN (pc' := 47) dX10_take_46 rfl ?_
  refine q_bipush (pc' := 49) (v := nI 64) dX10_take_47 rfl rfl ?_
  refine q_icmp_leN (tgt := 58) (pc' := 52) dX10_take_49 (by decide) rfl (by omega) (fun c_49 => ?_) (fun c_49 => ?_)
  rotate_left
  · rw [if_neg (by omega)]
    refine q_aload_n (pc' := 53) dX10_take_52 rfl rfl ?_
    refine q_iconst (pc' := 54) (v := nI 3) dX10_take_53 rfl rfl ?_
    refine h_callV (pc' := 57) (M' := mX10_refuse) (As := [_]) dX10_take_54 iX10_refuse lX10_355 rfl rfl rfl rfl (Nat.le_of_ble_eq_true rfl) (Nat.le_of_ble_eq_true rfl) rfl rfl ((c_ref u0 h0 (by decide)).up (Nat.zero_le _)) (fun r m' hq => ?_)
    obtain ⟨rfl⟩ : _ = r := hq.2.1.symm
    refine q_iret dX10_take_57 rfl rfl ⟨_, rfl, hq⟩
  rw [if_pos c_49]
  refine q_aload_n (pc' := 59) dX10_take_58 rfl rfl ?_
  refine h_getr (pc' := 62) dX10_take_59 fX10_55 rfl rfl rfl ?_
  refine q_aload_n (pc' := 63) dX10_take_62 rfl rfl ?_
  refine h_getr (pc' := 66) dX10_take_63 fX10_45 rfl rfl rfl ?_
  refine h_callV (pc' := 69) (M' := mX7_keep) (As := [_]) dX10_take_66 iX7_keep lX10_358 rfl rfl rfl rfl (Nat.le_of_ble_eq_true rfl) (Nat.le_of_ble_eq_true rfl) rfl rfl ((c_keep (d := d) h0.c h0.1.2.2.2.2.2.1).up (by omega)) (fun r m' hq => ?_)
  obtain ⟨rfl, f1, P1⟩ := hq
  have C1 : Col m' 19 c.1 c.2.1 c.2.2.1 c.2.2.2.1 c.2.2.2.2 := past_c h0.c f1
  have hv1 : ∀ i, i < sz → m'.2.2.2.1 17 i = g i := fun i hi => (congrFun (f1.l (pl_nin (by decide))) i).trans (hv i hi)
  have hO1 := past_o (h0.1.2.2.1) f1
  refine q_iconst (pc' := 70) (v := nI 0) dX10_take_69 rfl rfl ?_
  refine q_istore_n (pc' := 71) (lv' := [_, _, _]) dX10_take_70 (by decide) rfl rfl ?_
  suffices hl : ∀ k j m1, j + k = sz → Fr [19, 20] m' m1 → Col m1 19 (c.1 + j) c.2.1 (s_ap c.2.2.1 c.1 g j) c.2.2.2.1 c.2.2.2.2 → q_V (q_g Z) mX10_take (d + 7) 0 0 71 [some (.ref (q_ad Z 0)), some (.int (nI sz)), some (.int (nI j))] [] (q_W Z m1) (q_P Z fun r m2 => AP m2 m r t im B [] L c (s_act c (c.1 + sz) (s_ap c.2.2.1 c.1 g sz) c.2.2.2.1 (nI 5) (nI sz)) ck us rf none (nI sz)) from hl sz 0 m' (by omega) Fr.rf C1
  intro k
  induction k with
  | zero =>
    intro j m1 hj f2 C2
    obtain rfl : j = sz := by omega
    refine q_iload_n (pc' := 72) dX10_take_71 rfl rfl ?_
    refine q_iload_n (pc' := 73) dX10_take_72 rfl rfl ?_
    refine q_icmp_geN (tgt := 98) (pc' := 76) dX10_take_73 (by decide) rfl (by omega) (fun c_73 => ?_) (fun c_73 => ?_)
    rotate_left
    · omega
    refine q_aload_n (pc' := 99) dX10_take_98 rfl rfl ?_
    refine h_getr (pc' := 102) dX10_take_99 fX10_19 rfl rfl rfl ?_
    refine q_iconst (pc' := 103) (v := nI 0) dX10_take_102 rfl rfl ?_
    refine h_puti (pc' := 106) dX10_take_103 fX10_97 rfl rfl rfl rfl rfl ?_
    have f3 : Fr [19, 20, 21, 6] m' (sI m1 6 1 (nI 0)) := (f2.mono (by decide)).I (by decide)
    have O3 : Oct (sI m1 6 1 (nI 0)) 6 [] := ⟨rfl, by decide, fun i hi => absurd hi (by simp), fun x hx => by cases hx⟩
    have C3 := C2.fr ((Fr.rf (S := [6])).I (by decide) : Fr [6] m1 (sI m1 6 1 (nI 0))) (by decide) (by decide) (by decide) (by decide)
    refine q_aload_n (pc' := 107) dX10_take_106 rfl rfl ?_
    refine q_iconst (pc' := 108) (v := nI 5) dX10_take_107 rfl rfl ?_
    refine q_iload_n (pc' := 109) dX10_take_108 rfl rfl ?_
    refine q_iload_n (pc' := 110) dX10_take_109 rfl rfl ?_
    refine h_callV (pc' := 113) (M' := mX10_done) (As := [_, _, _]) dX10_take_110 iX10_done lX10_365 rfl rfl rfl rfl (Nat.le_of_ble_eq_true rfl) (Nat.le_of_ble_eq_true rfl) rfl rfl ((c_doneA (d := d) u0 h0 f1 P1 f3 O3 C3).up (by omega)) (fun r m' hq => ?_)
    obtain ⟨x, rfl⟩ := ap_ret hq
    refine q_iret dX10_take_113 rfl rfl ⟨_, rfl, hq⟩
  | succ k ih =>
    intro j m1 hj f2 C2
    refine q_iload_n (pc' := 72) dX10_take_71 rfl rfl ?_
    refine q_iload_n (pc' := 73) dX10_take_72 rfl rfl ?_
    refine q_icmp_geN (tgt := 98) (pc' := 76) dX10_take_73 (by decide) rfl (by omega) (fun c_73 => ?_) (fun c_73 => ?_)
    · omega
    refine q_aload_n (pc' := 77) dX10_take_76 rfl rfl ?_
    refine h_getr (pc' := 80) dX10_take_77 fX10_45 rfl rfl rfl ?_
    refine q_aload_n (pc' := 81) dX10_take_80 rfl rfl ?_
    refine h_getr (pc' := 84) dX10_take_81 fX10_38 rfl rfl rfl ?_
    refine h_getr (pc' := 87) dX10_take_84 fX10_134 rfl rfl rfl ?_
    refine q_iload_n (pc' := 88) dX10_take_87 rfl rfl ?_
    refine h_laldE (pc' := 89) dX10_take_88 rfl (rfl) (by omega) (by decide) ((congrFun (f2.l (by decide)) j).trans (hv1 j (by omega))) rfl ?_
    refine h_callV (pc' := 92) (M' := mX2_append) (As := [_]) dX10_take_89 iX2_append lX10_361 rfl rfl rfl rfl (Nat.le_of_ble_eq_true rfl) (Nat.le_of_ble_eq_true rfl) rfl rfl ((c_colAppend_19 C2 (by omega)).up (Nat.zero_le _)) (fun r m' hq => ?_)
    obtain ⟨rfl, f3, C3⟩ := hq
    refine q_iincN (pc' := 95) (j := 1) (lv' := [_, _, _]) dX10_take_92 rfl (by decide) rfl rfl ?_
    refine q_goto (pc' := 71) dX10_take_95 (by decide) ?_
    exact ih (j + 1) _ (by omega) (f2.trans f3) C3

def UP (m2 m : q_Mm) (r : Option Value) (t im : Bool) (B L : List Nat) (c ck : q_Cs) (us : List q_Cs) (rf : Nat → Int32) : Prop := Up m m2 ∧ match us with
  | [] => r = some (.int (-1)) ∧ CI m2 t im B L c ck us rf
  | c0 :: us0 => r = some (.int (nI us0.length)) ∧ CI m2 t im B L c0 ck us0 rf
set_option maxHeartbeats 4000000 in
set_option maxRecDepth 20000 in
theorem c_undo {Z : q_Z} {m : q_Mm} {d : Nat} {t im : Bool} {B L : List Nat} {c ck : q_Cs} {us : List q_Cs} {rf : Nat → Int32} (h : CI m t im B L c ck us rf) : q_V (q_g Z) mX10_undo (d+3) 0 0 0 [some (.ref (q_ad Z 0))] [] (q_W Z m) (q_P Z fun r m2 => UP m2 m r t im B L c ck us rf) := by
  have hP : Pst m us := h.1.2.2.2.2.2.1
  have hx := h.x
  have hh := h
  obtain ⟨nx, hnx, p2, p3, p4, p5⟩ := hP
  refine q_aload_n (pc' := 1) dX10_undo_0 rfl rfl ?_
  refine h_getr (pc' := 4) dX10_undo_1 fX10_55 rfl rfl rfl ?_
  refine h_getiE (pc' := 7) dX10_undo_4 fX10_115 rfl rfl (p3) rfl ?_
  refine q_if_neN (tgt := 12) (pc' := 10) dX10_undo_7 (by decide) rfl (by omega) (fun c_7 => ?_) (fun c_7 => ?_)
  · cases us with
    | nil => exact absurd c_7 (by decide)
    | cons c0 us0 =>
      obtain ⟨⟨h1, h2, h3, h4, h5, h6, h7⟩, -⟩ := hh
      refine q_aload_n (pc' := 13) dX10_undo_12 rfl rfl ?_
      refine h_getr (pc' := 16) dX10_undo_13 fX10_55 rfl rfl rfl ?_
      refine q_aload_n (pc' := 17) dX10_undo_16 rfl rfl ?_
      refine h_getr (pc' := 20) dX10_undo_17 fX10_45 rfl rfl rfl ?_
      refine h_callV (pc' := 23) (M' := mX7_restore) (As := [_]) dX10_undo_20 iX7_restore lX10_369 rfl rfl rfl rfl (Nat.le_of_ble_eq_true rfl) (Nat.le_of_ble_eq_true rfl) rfl rfl (c_restore h.c h6) (fun r m' hq => ?_)
      obtain ⟨rfl, f1, P1, C1⟩ := hq
      obtain ⟨nx1, -, -, q3, -⟩ := id P1
      have f2 : Fr [0, 19, 20, 21, 22, 27] m (sI m' 0 16 (nI 1)) := (f1.mono (by decide)).I (by decide)
      have g2 : Fr [0] m' (sI m' 0 16 (nI 1)) := Fr.rf.I (by decide)
      have hx2 := hx.fr f2 (by decide)
      have k0 : ∀ j, j ≠ 16 → (sI m' 0 16 (nI 1)).1 0 j = m.1 0 j := fun j hj => (q_u_n (m'.1 0) (nI 1) hj).trans (congrFun (f1.i (by decide)) j)
      refine q_aload_n (pc' := 24) dX10_undo_23 rfl rfl ?_
      refine q_iconst (pc' := 25) (v := nI 1) dX10_undo_24 rfl rfl ?_
      refine h_puti (pc' := 28) dX10_undo_25 fX10_125 rfl rfl (rfl) rfl rfl ?_
      refine q_aload_n (pc' := 29) dX10_undo_28 rfl rfl ?_
      refine h_getr (pc' := 32) dX10_undo_29 fX10_55 rfl rfl rfl ?_
      refine h_getiE (pc' := 35) dX10_undo_32 fX10_115 rfl rfl (q3) rfl ?_
      refine q_iret dX10_undo_35 rfl rfl ⟨_, rfl, ?_⟩
      refine ⟨f2.upp (by decide), rfl, ⟨(k0 14 (by decide)).trans h1, (k0 15 (by decide)).trans h2, h3.fr f2 (by decide) (by decide), h4.fr f2 (by decide) (by decide) (by decide), fun z => (h5 z).fr f2 (by decide) (by decide) (by decide) (by decide), P1.fr g2 (by decide), fun i hi => (congrFun (f2.a (by decide)) i).trans (h7 i hi)⟩, true, hx2.1, hx2.2.1, hx2.2.2, C1.fr g2 (by decide) (by decide) (by decide) (by decide), fun _ => rfl, fun z => by cases z⟩
  · cases us with
    | nil =>
      refine q_iconst (pc' := 11) (v := (-1)) dX10_undo_10 rfl rfl ?_
      refine q_iret dX10_undo_11 rfl rfl ⟨_, rfl, ?_⟩
      exact ⟨Up.rf, rfl, h⟩
    | cons c0 us0 => exact absurd c_7 (by simp)
def s_img (t : Bool) (c : q_Cs) : Int32 := if t = true then nI c.1 else -1
set_option maxHeartbeats 4000000 in
set_option maxRecDepth 20000 in
theorem c_image {Z : q_Z} {m : q_Mm} {d : Nat} {t im : Bool} {B L : List Nat} {c ck : q_Cs} {us : List q_Cs} {rf : Nat → Int32} (h : CI m t im B L c ck us rf) : q_V (q_g Z) mX10_image (d+2) 0 0 0 [some (.ref (q_ad Z 0))] [] (q_W Z m) (q_P Z fun r m2 => r = some (.int (s_img t c)) ∧ CI m2 t (if t = true then true else im) B L c (if t = true then c else ck) us rf ∧ Up m m2) := by
  unfold s_img
  refine q_aload_n (pc' := 1) dX10_image_0 rfl rfl ?_
  refine h_getiE (pc' := 4) dX10_image_1 fX10_122 rfl rfl (h.1.1) rfl ?_
  refine q_if_neB (tgt := 9) (pc' := 7) dX10_image_4 (by decide) rfl (fun c_4 => ?_) (fun c_4 => ?_)
  rotate_left
  · rw [if_neg (by rw [c_4]; decide), if_neg (by rw [c_4]; decide), if_neg (by rw [c_4]; decide)]
    refine q_iconst (pc' := 8) (v := (-1)) dX10_image_7 rfl rfl ?_
    refine q_iret dX10_image_8 rfl rfl ⟨_, rfl, rfl, h, Up.rf⟩
  rw [if_pos c_4, if_pos c_4, if_pos c_4]
  refine q_aload_n (pc' := 10) dX10_image_9 rfl rfl ?_
  refine h_getr (pc' := 13) dX10_image_10 fX10_49 rfl rfl rfl ?_
  refine q_aload_n (pc' := 14) dX10_image_13 rfl rfl ?_
  refine h_getr (pc' := 17) dX10_image_14 fX10_45 rfl rfl rfl ?_
  refine h_callV (pc' := 20) (M' := mX2_become) (As := [_]) dX10_image_17 iX2_become lX10_111 rfl rfl rfl rfl (Nat.le_of_ble_eq_true rfl) (Nat.le_of_ble_eq_true rfl) rfl rfl (c_become cs_23 cs_19 (by decide) h.c) (fun r m' hq => ?_)
  obtain ⟨rfl, f1, C1⟩ := hq
  obtain ⟨⟨h1, h2, h3, h4, h5, h6, h7⟩, st, hc⟩ := h
  have f2 : Fr [0, 23, 24, 25, 26] m (sI m' 0 15 (nI 1)) := (f1.mono (by decide)).I (by decide)
  have g2 : Fr [0] m' (sI m' 0 15 (nI 1)) := Fr.rf.I (by decide)
  have k0 : ∀ j, j ≠ 15 → (sI m' 0 15 (nI 1)).1 0 j = m.1 0 j := fun j hj => (q_u_n (m'.1 0) (nI 1) hj).trans (congrFun (f1.i (by decide)) j)
  have C2 := C1.fr g2 (by decide) (by decide) (by decide) (by decide)
  have hc2 : Cls (sI m' 0 15 (nI 1)) st c.1 c.2.1 c.2.2.2.1 c.2.2.1 c.2.2.2.2 := by
    obtain ⟨a1, a2, a3, a4, a5, a6⟩ := hc
    have x2 := (show CX m from ⟨a1, a2, a3⟩).fr f2 (by decide)
    exact ⟨x2.1, x2.2.1, x2.2.2, a4.fr f2 (by decide) (by decide) (by decide) (by decide), fun z => (k0 16 (by decide)).trans (a5 ((k0 14 (by decide)).symm.trans z)), fun z => ⟨(a6 z).1.fr f2 (congrFun (f2.i (by decide)) 4) (by decide) (by decide) (by decide) (by decide), (a6 z).2.fr f2 (congrFun (f2.i (by decide)) 7) (by decide) (by decide)⟩⟩
  refine q_aload_n (pc' := 21) dX10_image_20 rfl rfl ?_
  refine q_iconst (pc' := 22) (v := nI 1) dX10_image_21 rfl rfl ?_
  refine h_puti (pc' := 25) dX10_image_22 fX10_118 rfl rfl (rfl) rfl rfl ?_
  refine q_aload_n (pc' := 26) dX10_image_25 rfl rfl ?_
  refine h_getr (pc' := 29) dX10_image_26 fX10_49 rfl rfl rfl ?_
  refine h_getiE (pc' := 32) dX10_image_29 fX10_128 rfl rfl (C2.1) rfl ?_
  refine q_iret dX10_image_32 rfl rfl ⟨_, rfl, rfl, ⟨⟨(k0 14 (by decide)).trans h1, rfl, h3.fr f2 (by decide) (by decide), h4.fr f2 (by decide) (by decide) (by decide), fun _ => C2, h6.fr f2 (by decide), fun i hi => (congrFun (f2.a (by decide)) i).trans (h7 i hi)⟩, st, hc2⟩, f2.upp (by decide)⟩
theorem pst_nil {m m2 : q_Mm} {us : List q_Cs} (h : Pst m us) (e : m2.1 27 1 = m.1 27 1) (e2 : m2.1 27 2 = nI 0) : Pst m2 [] := by
  obtain ⟨nx, h1, h2, -⟩ := h
  exact ⟨nx, h1, e.trans h2, e2, by decide, fun i c hc => by simp at hc⟩
set_option maxHeartbeats 4000000 in
set_option maxRecDepth 20000 in
theorem c_back {Z : q_Z} {m : q_Mm} {d : Nat} {t im : Bool} {B L : List Nat} {c ck : q_Cs} {us : List q_Cs} {rf : Nat → Int32} (h : CI m t im B L c ck us rf) : q_V (q_g Z) mX10_back (d+2) 0 0 0 [some (.ref (q_ad Z 0))] [] (q_W Z m) (q_P Z fun r m2 => r = some (.int (s_img im ck)) ∧ CI m2 t im B L (if im = true then ck else c) ck (if im = true then [] else us) rf ∧ Up m m2) := by
  unfold s_img
  refine q_aload_n (pc' := 1) dX10_back_0 rfl rfl ?_
  refine h_getiE (pc' := 4) dX10_back_1 fX10_118 rfl rfl (h.1.2.1) rfl ?_
  refine q_if_neB (tgt := 9) (pc' := 7) dX10_back_4 (by decide) rfl (fun c_4 => ?_) (fun c_4 => ?_)
  rotate_left
  · rw [if_neg (by rw [c_4]; decide), if_neg (by rw [c_4]; decide), if_neg (by rw [c_4]; decide)]
    refine q_iconst (pc' := 8) (v := (-1)) dX10_back_7 rfl rfl ?_
    refine q_iret dX10_back_8 rfl rfl ⟨_, rfl, rfl, h, Up.rf⟩
  rw [if_pos c_4, if_pos c_4, if_pos c_4]
  have hx := h.x
  obtain ⟨⟨h1, h2, h3, h4, h5, h6, h7⟩, -⟩ := h
  have K := h5 c_4
  refine q_aload_n (pc' := 10) dX10_back_9 rfl rfl ?_
  refine h_getr (pc' := 13) dX10_back_10 fX10_45 rfl rfl rfl ?_
  refine q_aload_n (pc' := 14) dX10_back_13 rfl rfl ?_
  refine h_getr (pc' := 17) dX10_back_14 fX10_49 rfl rfl rfl ?_
  refine h_callV (pc' := 20) (M' := mX2_become) (As := [_]) dX10_back_17 iX2_become lX10_111 rfl rfl rfl rfl (Nat.le_of_ble_eq_true rfl) (Nat.le_of_ble_eq_true rfl) rfl rfl (c_become cs_19 cs_23 (by decide) K) (fun r m' hq => ?_)
  obtain ⟨rfl, f1, C1⟩ := hq
  have f2 : Fr [0, 19, 20, 21, 22, 27] m (sI (sI m' 27 2 (nI 0)) 0 16 (nI 1)) := ((f1.mono (by decide)).I (by decide)).I (by decide)
  have g2 : Fr [0, 27] m' (sI (sI m' 27 2 (nI 0)) 0 16 (nI 1)) := (Fr.rf.I (by decide)).I (by decide)
  have k0 : ∀ j, j ≠ 16 → (sI (sI m' 27 2 (nI 0)) 0 16 (nI 1)).1 0 j = m.1 0 j := fun j hj => (q_u_n ((sI m' 27 2 (nI 0)).1 0) (nI 1) hj).trans (congrFun (f1.i (by decide)) j)
  have C2 := C1.fr g2 (by decide) (by decide) (by decide) (by decide)
  have hx2 := hx.fr f2 (by decide)
  have P2 : Pst (sI (sI m' 27 2 (nI 0)) 0 16 (nI 1)) [] := pst_nil h6 (congrFun (f1.i (by decide)) 1) rfl
  refine q_aload_n (pc' := 21) dX10_back_20 rfl rfl ?_
  refine h_getr (pc' := 24) dX10_back_21 fX10_55 rfl rfl rfl ?_
  refine q_iconst (pc' := 25) (v := nI 0) dX10_back_24 rfl rfl ?_
  refine h_puti (pc' := 28) dX10_back_25 fX10_115 rfl rfl rfl rfl rfl ?_
  refine q_aload_n (pc' := 29) dX10_back_28 rfl rfl ?_
  refine q_iconst (pc' := 30) (v := nI 1) dX10_back_29 rfl rfl ?_
  refine h_puti (pc' := 33) dX10_back_30 fX10_125 rfl rfl (rfl) rfl rfl ?_
  refine q_aload_n (pc' := 34) dX10_back_33 rfl rfl ?_
  refine h_getr (pc' := 37) dX10_back_34 fX10_45 rfl rfl rfl ?_
  refine h_getiE (pc' := 40) dX10_back_37 fX10_128 rfl rfl (C2.1) rfl ?_
  refine q_iret dX10_back_40 rfl rfl ⟨_, rfl, rfl, ⟨⟨(k0 14 (by decide)).trans h1, (k0 15 (by decide)).trans h2, h3.fr f2 (by decide) (by decide), h4.fr f2 (by decide) (by decide) (by decide), fun z => K.fr f2 (by decide) (by decide) (by decide) (by decide), P2, fun i hi => (congrFun (f2.a (by decide)) i).trans (h7 i hi)⟩, true, hx2.1, hx2.2.1, hx2.2.2, C2, fun _ => rfl, fun z => by cases z⟩, f2.upp (by decide)⟩
/-- the COLUMN that the TAPE tells -/
def s_tc (B : List Nat) : q_Cs := ((s_text B).2.1, 0, (s_text B).2.2.1, (s_text B).2.2.2, fun _ => 0)
set_option maxHeartbeats 4000000 in
set_option maxRecDepth 20000 in
theorem c_text {Z : q_Z} {m : q_Mm} {d : Nat} {t im : Bool} {B L : List Nat} {c ck : q_Cs} {us : List q_Cs} {rf : Nat → Int32} (h : CI m t im B L c ck us rf) : q_V (q_g Z) mX10_text (d+7) 0 0 0 [some (.ref (q_ad Z 0))] [] (q_W Z m) (q_P Z fun r m2 => Up m m2 ∧ ((s_text B).1 ≠ none → r = some (.int (-1)) ∧ CI m2 t im B L c ck us rf) ∧ ((s_text B).1 = none → r = some (.int (nI (s_text B).2.1)) ∧ CI m2 true false [] [] (s_tc B) ck [] rf)) := by
  have hD := h.x.1
  have hO : Oct m 6 B := h.1.2.2.1
  refine q_aload_n (pc' := 1) dX10_text_0 rfl rfl ?_
  refine h_getr (pc' := 4) dX10_text_1 fX10_31 rfl rfl rfl ?_
  refine h_callV (pc' := 7) (M' := mX9_read) (As := []) dX10_text_4 iX9_read lX10_105 rfl rfl rfl rfl (Nat.le_of_ble_eq_true rfl) (Nat.le_of_ble_eq_true rfl) rfl rfl (c_readT (nt := fun _ => 0) hD hO) (fun r m' hq => ?_)
  obtain ⟨rfl, f0, b1, v1⟩ := hq
  obtain ⟨hh, u0⟩ := h.s f0 (by decide)
  obtain ⟨m0, hm0⟩ : ∃ z, z = m' := ⟨_, rfl⟩
  subst hm0
  refine q_iconst (pc' := 8) (v := (-1)) dX10_text_7 rfl rfl ?_
  refine q_icmp_eq (tgt := 13) (pc' := 11) dX10_text_8 (by decide) rfl (fun c_8 => ?_) (fun c_8 => ?_)
  rotate_left
  · refine q_iconst (pc' := 12) (v := (-1)) dX10_text_11 rfl rfl ?_
    refine q_iret dX10_text_12 rfl rfl ⟨_, rfl, ?_⟩
    exact ⟨u0, fun _ => ⟨rfl, hh⟩, fun z => absurd ((s_on_no b1).mpr z) c_8⟩
  have hno := (s_on_no b1).mp c_8
  obtain ⟨C0, -⟩ := v1 hno
  have hx := hh.x
  obtain ⟨⟨h1, h2, h3, h4, h5, h6, h7⟩, -⟩ := hh
  refine q_aload_n (pc' := 14) dX10_text_13 rfl rfl ?_
  refine h_getr (pc' := 17) dX10_text_14 fX10_45 rfl rfl rfl ?_
  refine q_aload_n (pc' := 18) dX10_text_17 rfl rfl ?_
  refine h_getr (pc' := 21) dX10_text_18 fX10_31 rfl rfl rfl ?_
  refine h_getr (pc' := 24) dX10_text_21 fX10_110 rfl rfl rfl ?_
  refine h_callV (pc' := 27) (M' := mX2_become) (As := [_]) dX10_text_24 iX2_become lX10_111 rfl rfl rfl rfl (Nat.le_of_ble_eq_true rfl) (Nat.le_of_ble_eq_true rfl) rfl rfl (c_become (d := d + 5) cs_19 cs_11 (by decide) C0) (fun r m' hq => ?_)
  obtain ⟨rfl, f1, C1⟩ := hq
  refine q_aload_n (pc' := 28) dX10_text_27 rfl rfl ?_
  refine h_getr (pc' := 31) dX10_text_28 fX10_55 rfl rfl rfl ?_
  refine q_iconst (pc' := 32) (v := nI 0) dX10_text_31 rfl rfl ?_
  refine h_puti (pc' := 35) dX10_text_32 fX10_115 rfl rfl rfl rfl rfl ?_
  refine q_aload_n (pc' := 36) dX10_text_35 rfl rfl ?_
  refine q_iconst (pc' := 37) (v := nI 0) dX10_text_36 rfl rfl ?_
  refine h_puti (pc' := 40) dX10_text_37 fX10_118 rfl rfl (rfl) rfl rfl ?_
  refine q_aload_n (pc' := 41) dX10_text_40 rfl rfl ?_
  refine h_getr (pc' := 44) dX10_text_41 fX10_23 rfl rfl rfl ?_
  refine q_iconst (pc' := 45) (v := nI 0) dX10_text_44 rfl rfl ?_
  refine h_puti (pc' := 48) dX10_text_45 fX10_97 rfl rfl rfl rfl rfl ?_
  refine q_aload_n (pc' := 49) dX10_text_48 rfl rfl ?_
  refine h_getr (pc' := 52) dX10_text_49 fX10_19 rfl rfl rfl ?_
  refine q_iconst (pc' := 53) (v := nI 0) dX10_text_52 rfl rfl ?_
  refine h_puti (pc' := 56) dX10_text_53 fX10_97 rfl rfl rfl rfl rfl ?_
  refine q_aload_n (pc' := 57) dX10_text_56 rfl rfl ?_
  refine q_iconst (pc' := 58) (v := nI 1) dX10_text_57 rfl rfl ?_
  refine h_puti (pc' := 61) dX10_text_58 fX10_122 rfl rfl (rfl) rfl rfl ?_
  refine q_aload_n (pc' := 62) dX10_text_61 rfl rfl ?_
  refine q_iconst (pc' := 63) (v := nI 1) dX10_text_62 rfl rfl ?_
  refine h_puti (pc' := 66) dX10_text_63 fX10_125 rfl rfl (rfl) rfl rfl ?_
  generalize hm9 : sI (sI (sI (sI (sI (sI m' 27 2 (nI 0)) 0 15 (nI 0)) 8 1 (nI 0)) 6 1 (nI 0)) 0 14 (nI 1)) 0 16 (nI 1) = m9
  have g2 : Fr [0, 6, 8, 27] m' m9 := hm9 ▸ (((((Fr.rf.I (by decide)).I (by decide)).I (by decide)).I (by decide)).I (by decide)).I (by decide)
  have f2 : Fr [0, 6, 8, 19, 20, 21, 22, 27] m0 m9 := (f1.mono (by decide)).trans (g2.mono (by decide))
  have hx2 := hx.fr f2 (by decide)
  have C2 := C1.fr g2 (by decide) (by decide) (by decide) (by decide)
  have P2 : Pst m9 [] := pst_nil h6 (by rw [← hm9]; exact congrFun (f1.i (by decide)) 1) (by rw [← hm9]; rfl)
  have O2 : Oct m9 6 [] := ⟨by rw [← hm9]; rfl, by decide, fun i hi => absurd hi (by simp), fun x hx => by cases hx⟩
  have O3 : Oct m9 8 [] := ⟨by rw [← hm9]; rfl, by decide, fun i hi => absurd hi (by simp), fun x hx => by cases hx⟩
  refine q_aload_n (pc' := 67) dX10_text_66 rfl rfl ?_
  refine h_getr (pc' := 70) dX10_text_67 fX10_45 rfl rfl rfl ?_
  refine h_getiE (pc' := 73) dX10_text_70 fX10_128 rfl rfl (C2.1) rfl ?_
  refine q_iret dX10_text_73 rfl rfl ⟨_, rfl, ?_⟩
  refine ⟨u0.tr (f2.upp (by decide)), fun z => absurd hno z, fun _ => ⟨rfl, ⟨by rw [← hm9]; rfl, by rw [← hm9]; rfl, O2, ⟨O3, (congrFun (f2.i (by decide)) 1).trans h4.2.1, (congrFun (f2.i (by decide)) 2).trans h4.2.2.1, h4.2.2.2⟩, (fun z => by cases z), P2, fun i hi => (congrFun (f2.a (by decide)) i).trans (h7 i hi)⟩, true, hx2.1, hx2.2.1, hx2.2.2, C2, fun _ => by rw [← hm9]; rfl, fun z => by cases z⟩⟩
def s_count (B L : List Nat) (c : q_Cs) (us : List q_Cs) (x : Int) : Int32 := if x = 0 then nI c.1 else if x = 1 then nI B.length else if x = 2 then nI L.length else if x = 3 then nI c.2.1 else if x = 4 then nI us.length else -1000000
set_option maxHeartbeats 4000000 in
set_option maxRecDepth 20000 in
theorem c_count {Z : q_Z} {m : q_Mm} {d : Nat} {t im : Bool} {B L : List Nat} {c ck : q_Cs} {us : List q_Cs} {rf : Nat → Int32} {x : Int32} (h : CI m t im B L c ck us rf) : q_V (q_g Z) mX10_count (d) 0 0 0 [some (.ref (q_ad Z 0)), some (.int x)] [] (q_W Z m) (q_P Z fun r m2 => r = some (.int (s_count B L c us x.toInt)) ∧ m2 = m) := by
  have hc : Col m 19 c.1 c.2.1 c.2.2.1 c.2.2.2.1 c.2.2.2.2 := h.c
  obtain ⟨nx, -, -, p3, -⟩ := h.1.2.2.2.2.2.1
  unfold s_count
  refine q_iload_n (pc' := 1) dX10_count_0 rfl rfl ?_
  by_cases hy : x.toInt < 0 ∨ 4 < x.toInt
  · refine q_tabOut (tgt := 76) dX10_count_1 hy (by decide) ?_
    refine q_ldc (pc' := 78) dX10_count_76 kX10_157 rfl ?_
    refine q_iret dX10_count_78 rfl rfl ⟨_, rfl, by rw [if_neg (by omega), if_neg (by omega), if_neg (by omega), if_neg (by omega), if_neg (by omega)], rfl⟩
  have hy3 : x.toInt = 0 ∨ x.toInt = 1 ∨ x.toInt = 2 ∨ x.toInt = 3 ∨ x.toInt = 4 := by omega
  rcases hy3 with z | z | z | z | z
  · refine q_tabIn (tgt := 36) dX10_count_1 (by omega) (by omega) (by rw [z]; rfl) (by decide) ?_
    refine q_aload_n (pc' := 37) dX10_count_36 rfl rfl ?_
    refine h_getr (pc' := 40) dX10_count_37 fX10_45 rfl rfl rfl ?_
    refine h_getiE (pc' := 43) dX10_count_40 fX10_128 rfl rfl (hc.1) rfl ?_
    refine q_iret dX10_count_43 rfl rfl ⟨_, rfl, by rw [z]; rfl, rfl⟩
  · refine q_tabIn (tgt := 44) dX10_count_1 (by omega) (by omega) (by rw [z]; rfl) (by decide) ?_
    refine q_aload_n (pc' := 45) dX10_count_44 rfl rfl ?_
    refine h_getr (pc' := 48) dX10_count_45 fX10_19 rfl rfl rfl ?_
    refine h_getiE (pc' := 51) dX10_count_48 fX10_97 rfl rfl (h.1.2.2.1.1) rfl ?_
    refine q_iret dX10_count_51 rfl rfl ⟨_, rfl, by rw [z]; rfl, rfl⟩
  · refine q_tabIn (tgt := 52) dX10_count_1 (by omega) (by omega) (by rw [z]; rfl) (by decide) ?_
    refine q_aload_n (pc' := 53) dX10_count_52 rfl rfl ?_
    refine h_getr (pc' := 56) dX10_count_53 fX10_23 rfl rfl rfl ?_
    refine h_getiE (pc' := 59) dX10_count_56 fX10_97 rfl rfl (h.1.2.2.2.1.1.1) rfl ?_
    refine q_iret dX10_count_59 rfl rfl ⟨_, rfl, by rw [z]; rfl, rfl⟩
  · refine q_tabIn (tgt := 60) dX10_count_1 (by omega) (by omega) (by rw [z]; rfl) (by decide) ?_
    refine q_aload_n (pc' := 61) dX10_count_60 rfl rfl ?_
    refine h_getr (pc' := 64) dX10_count_61 fX10_45 rfl rfl rfl ?_
    refine h_getiE (pc' := 67) dX10_count_64 fX10_372 rfl rfl (hc.2.1) rfl ?_
    refine q_iret dX10_count_67 rfl rfl ⟨_, rfl, by rw [z]; rfl, rfl⟩
  · refine q_tabIn (tgt := 68) dX10_count_1 (by omega) (by omega) (by rw [z]; rfl) (by decide) ?_
    refine q_aload_n (pc' := 69) dX10_count_68 rfl rfl ?_
    refine h_getr (pc' := 72) dX10_count_69 fX10_55 rfl rfl rfl ?_
    refine h_getiE (pc' := 75) dX10_count_72 fX10_115 rfl rfl (p3) rfl ?_
    refine q_iret dX10_count_75 rfl rfl ⟨_, rfl, by rw [z]; rfl, rfl⟩
set_option maxHeartbeats 4000000 in
set_option maxRecDepth 20000 in
theorem c_value {Z : q_Z} {m : q_Mm} {d : Nat} {n k : Nat} {t : Bool} {x : Int32} {rl : Nat → Nat} {xs : Nat → Int64} {nt : Nat → Int32} (hC : Col m 19 n k xs rl nt) (ht : m.1 0 14 = q_b t) (hx : s_has t n x = true) : q_V (q_g Z) mX10_value (d+1) 0 0 0 [some (.ref (q_ad Z 0)), some (.int x)] [] (q_W Z m) (q_P Z fun r m2 => r = some (.long (xs (s_i x))) ∧ m2 = m) := by
  have hn := hC.2.2.1
  refine q_aload_n (pc' := 1) dX10_value_0 rfl rfl ?_
  refine q_iload_n (pc' := 2) dX10_value_1 rfl rfl ?_
  refine h_callV (pc' := 5) (M' := mX10_hasPlace) (As := [_]) dX10_value_2 iX10_hasPlace lX10_144 rfl rfl rfl rfl (Nat.le_of_ble_eq_true rfl) (Nat.le_of_ble_eq_true rfl) rfl rfl (c_hasPlace hC ht) (fun r m' hq => ?_)
  obtain ⟨rfl, hmm⟩ := hq
  subst m'
  refine q_if_neB (tgt := 18) (pc' := 8) dX10_value_5 (by decide) rfl (fun c_5 => ?_) (fun c_5 => ?_)
  rotate_left
  · rw [hx] at c_5; cases c_5
  obtain ⟨j, e, hj⟩ := z_has hx (by omega)
  rw [show s_i x = j by rw [e, s_i_n (by omega)], e]
  refine q_aload_n (pc' := 19) dX10_value_18 rfl rfl ?_
  refine h_getr (pc' := 22) dX10_value_19 fX10_45 rfl rfl rfl ?_
  refine h_getr (pc' := 25) dX10_value_22 fX10_154 rfl rfl rfl ?_
  refine q_iload_n (pc' := 26) dX10_value_25 rfl rfl ?_
  refine h_laldE (pc' := 27) dX10_value_26 rfl (rfl) (by omega) (by decide) (hC.2.2.2.2.1 j hj) rfl ?_
  refine q_lret dX10_value_27 rfl ⟨_, rfl, rfl, rfl⟩
/-- the sums and counts that most tells -/
def s_most (n : Nat) (rl : Nat → Nat) (xs : Nat → Int64) (w : Int) : Int32 := if w = 0 then nI (s_nb n rl) else if w = 1 then nI (s_tot n rl xs) else if w = 2 then nI (s_sum (fun b => 3 + 8 * s_sz n rl b) (s_nb n rl)) else if w = 3 then nI (s_cnt (s_new false xs) n) else if w = 4 then nI (s_cnt (s_runs xs) n) else if w = 5 then nI (s_cnt (fun j => s_fin (xs j)) n) else if w = 6 then nI (s_cnt (fun j => s_mis (xs j)) n) else if w = 7 then nI (s_cnt (s_new true xs) n) else if w = 8 then nI (s_cnt (fun j => decide (xs j = s_minus)) n) else if w = 9 then nI (s_sum (fun bk => s_cnt (s_ex n rl xs (s_ws xs) (s_wp n rl (s_ws xs) (s_five n rl xs) bk) bk (s_wf n rl xs (s_ws xs) (s_five n rl xs) bk).1) (s_sz n rl bk)) (s_nb n rl)) else if w = 10 then nI (s_cnt (fun i => decide (s_find (fun j => decide (s_part (xs j) (rl 3) = s_part (xs i) (rl 3))) i 0 = i)) n) else if 11 ≤ w ∧ w ≤ 13 then nI (s_sum (fun bk => if (s_wf n rl xs (s_ws xs) (s_five n rl xs) bk).1 = (w - 11).toNat then 1 else 0) (s_nb n rl)) else -1000000
set_option maxHeartbeats 4000000 in
set_option maxRecDepth 20000 in
theorem c_most {Z : q_Z} {m : q_Mm} {d : Nat} {n k : Nat} {st t : Bool} {x : Int32} {rl : Nat → Nat} {xs : Nat → Int64} {nt : Nat → Int32} (h : Cls m st n k rl xs nt) (ht : m.1 0 14 = q_b t) : q_V (q_g Z) mX10_most (d+6) 0 0 0 [some (.ref (q_ad Z 0)), some (.int x)] [] (q_W Z m) (q_P Z fun r m2 => r = some (.int (if t = true then s_most n rl xs x.toInt else -1000000)) ∧ (∃ st2, Cls m2 st2 n k rl xs nt) ∧ Fr s_S9 m m2 ∧ Kp 0 [16] m m2) := by
  have hc := h.2.2.2.1
  refine q_aload_n (pc' := 1) dX10_most_0 rfl rfl ?_
  refine h_getiE (pc' := 4) dX10_most_1 fX10_122 rfl rfl (ht) rfl ?_
  refine q_if_eqB (tgt := 11) (pc' := 7) dX10_most_4 (by decide) rfl (fun c_4 => ?_) (fun c_4 => ?_)
  · refine q_ldc (pc' := 13) dX10_most_11 kX10_157 rfl ?_
    refine q_iret dX10_most_13 rfl rfl ⟨_, rfl, by rw [if_neg (by rw [c_4]; decide)], ⟨st, h⟩, Fr.rf, Kp.rf⟩
  rw [if_pos c_4]
  unfold s_most
  refine q_iload_n (pc' := 8) dX10_most_7 rfl rfl ?_
  refine q_if_ge (tgt := 14) (pc' := 11) dX10_most_8 (by decide) rfl (fun c_8 => ?_) (fun c_8 => ?_)
  rotate_left
  · rw [z_le, z_0] at c_8
    refine q_ldc (pc' := 13) dX10_most_11 kX10_157 rfl ?_
    refine q_iret dX10_most_13 rfl rfl ⟨_, rfl, by rw [if_neg (by omega), if_neg (by omega), if_neg (by omega), if_neg (by omega), if_neg (by omega), if_neg (by omega), if_neg (by omega), if_neg (by omega), if_neg (by omega), if_neg (by omega), if_neg (by omega), if_neg (by omega)], ⟨st, h⟩, Fr.rf, Kp.rf⟩
  rw [z_le, z_0] at c_8
  refine q_iload_n (pc' := 15) dX10_most_14 rfl rfl ?_
  by_cases hy : 10 < x.toInt
  · refine q_tabOut (tgt := 162) dX10_most_15 (Or.inr hy) (by decide) ?_
    rw [if_neg (by omega), if_neg (by omega), if_neg (by omega), if_neg (by omega), if_neg (by omega), if_neg (by omega), if_neg (by omega), if_neg (by omega), if_neg (by omega), if_neg (by omega), if_neg (by omega)]
    refine q_iload_n (pc' := 163) dX10_most_162 rfl rfl ?_
    refine q_bipush (pc' := 165) (v := nI 13) dX10_most_163 rfl rfl ?_
    refine q_icmp_gt (tgt := 182) (pc' := 168) dX10_most_165 (by decide) rfl (fun c_165 => ?_) (fun c_165 => ?_)
    · rw [z_lt, z_n (by decide)] at c_165
      refine q_ldc (pc' := 184) dX10_most_182 kX10_157 rfl ?_
      refine q_iret dX10_most_184 rfl rfl ⟨_, rfl, by rw [if_neg (by omega)], ⟨st, h⟩, Fr.rf, Kp.rf⟩
    · rw [z_lt, z_n (by decide)] at c_165
      rw [if_pos (by omega)]
      obtain ⟨j, hj, hx⟩ := z_ex (x := x) (n := 14) (by omega) (by omega) (by omega)
      subst hx
      rw [z_n (by omega)] at hy c_165 c_8 ⊢
      rw [show ((j : Int) - 11).toNat = j - 11 by omega]
      have hto := told ht (by first | exact c_4 | exact s_has_t c_5 | assumption)
      refine q_aload_n (pc' := 169) dX10_most_168 rfl rfl ?_
      refine h_callV (pc' := 172) (M' := mX10_current) (As := []) dX10_most_169 iX10_current lX10_162 rfl rfl rfl rfl (Nat.le_of_ble_eq_true rfl) (Nat.le_of_ble_eq_true rfl) rfl rfl (c_cur h hto) (fun r m' hq => ?_)
      obtain ⟨rfl, f1, k1, h1⟩ := hq
      obtain ⟨m1, hm1⟩ : ∃ z, z = m' := ⟨_, rfl⟩
      subst hm1
      refine q_iload_n (pc' := 173) dX10_most_172 rfl rfl ?_
      refine q_bipush (pc' := 175) (v := nI 11) dX10_most_173 rfl rfl ?_
      refine q_isubN (pc' := 176) dX10_most_175 (by omega) rfl ?_
      refine h_callV (pc' := 179) (M' := mX8_blocksOf) (As := [_]) dX10_most_176 iX8_blocksOf lX10_328 rfl rfl rfl rfl (Nat.le_of_ble_eq_true rfl) (Nat.le_of_ble_eq_true rfl) rfl rfl (c_blocksOf_194 h1.pl h1.five (by omega)) (fun r m' hq => ?_)
      obtain ⟨rfl, f2, k2⟩ := hq
      refine q_goto (pc' := 184) dX10_most_179 (by decide) ?_
      refine q_iret dX10_most_184 rfl rfl ⟨_, rfl, rfl, ⟨false, h1.fr f2 (k2.mono (by decide)) (by decide)⟩, (f1.mono (by decide)).trans (f2.mono (by decide)), k1.trans (Kp.fr f2 (by decide))⟩
  have hy3 : x.toInt = 0 ∨ x.toInt = 1 ∨ x.toInt = 2 ∨ x.toInt = 3 ∨ x.toInt = 4 ∨ x.toInt = 5 ∨ x.toInt = 6 ∨ x.toInt = 7 ∨ x.toInt = 8 ∨ x.toInt = 9 ∨ x.toInt = 10 := by omega
  rcases hy3 with z | z | z | z | z | z | z | z | z | z | z
  · refine q_tabIn (tgt := 72) dX10_most_15 (by omega) (by omega) (by rw [z]; rfl) (by decide) ?_
    have hto := told ht (by first | exact c_4 | exact s_has_t c_5 | assumption)
    refine q_aload_n (pc' := 73) dX10_most_72 rfl rfl ?_
    refine h_callV (pc' := 76) (M' := mX10_current) (As := []) dX10_most_73 iX10_current lX10_162 rfl rfl rfl rfl (Nat.le_of_ble_eq_true rfl) (Nat.le_of_ble_eq_true rfl) rfl rfl (c_cur h hto) (fun r m' hq => ?_)
    obtain ⟨rfl, f1, k1, h1⟩ := hq
    obtain ⟨m1, hm1⟩ : ∃ z, z = m' := ⟨_, rfl⟩
    subst hm1
    refine h_callV (pc' := 79) (M' := mX8_blocks) (As := []) dX10_most_76 iX8_blocks lX10_297 rfl rfl rfl rfl (Nat.le_of_ble_eq_true rfl) (Nat.le_of_ble_eq_true rfl) rfl rfl ((c_plBlocks_194 (d := d) h1.pl).up (by omega)) (fun r m' hq => ?_)
    obtain ⟨rfl, hmm⟩ := hq
    subst m'
    refine q_iret dX10_most_79 rfl rfl ⟨_, rfl, by rw [z]; rfl, ⟨false, h1⟩, f1.mono (by decide), k1⟩
  · refine q_tabIn (tgt := 80) dX10_most_15 (by omega) (by omega) (by rw [z]; rfl) (by decide) ?_
    have hto := told ht (by first | exact c_4 | exact s_has_t c_5 | assumption)
    refine q_aload_n (pc' := 81) dX10_most_80 rfl rfl ?_
    refine h_callV (pc' := 84) (M' := mX10_current) (As := []) dX10_most_81 iX10_current lX10_162 rfl rfl rfl rfl (Nat.le_of_ble_eq_true rfl) (Nat.le_of_ble_eq_true rfl) rfl rfl (c_cur h hto) (fun r m' hq => ?_)
    obtain ⟨rfl, f1, k1, h1⟩ := hq
    obtain ⟨m1, hm1⟩ : ∃ z, z = m' := ⟨_, rfl⟩
    subst hm1
    refine h_callV (pc' := 87) (M' := mX8_total) (As := []) dX10_most_84 iX8_total lX10_300 rfl rfl rfl rfl (Nat.le_of_ble_eq_true rfl) (Nat.le_of_ble_eq_true rfl) rfl rfl (c_total_194 h1.pl h1.five) (fun r m' hq => ?_)
    obtain ⟨rfl, f2, k2⟩ := hq
    refine q_iret dX10_most_87 rfl rfl ⟨_, rfl, by rw [z]; rfl, ⟨false, h1.fr f2 (k2.mono (by decide)) (by decide)⟩, (f1.mono (by decide)).trans (f2.mono (by decide)), k1.trans (Kp.fr f2 (by decide))⟩
  · refine q_tabIn (tgt := 88) dX10_most_15 (by omega) (by omega) (by rw [z]; rfl) (by decide) ?_
    have hto := told ht (by first | exact c_4 | exact s_has_t c_5 | assumption)
    refine q_aload_n (pc' := 89) dX10_most_88 rfl rfl ?_
    refine h_callV (pc' := 92) (M' := mX10_current) (As := []) dX10_most_89 iX10_current lX10_162 rfl rfl rfl rfl (Nat.le_of_ble_eq_true rfl) (Nat.le_of_ble_eq_true rfl) rfl rfl (c_cur h hto) (fun r m' hq => ?_)
    obtain ⟨rfl, f1, k1, h1⟩ := hq
    obtain ⟨m1, hm1⟩ : ∃ z, z = m' := ⟨_, rfl⟩
    subst hm1
    refine h_callV (pc' := 95) (M' := mX8_rawTotal) (As := []) dX10_most_92 iX8_rawTotal lX10_303 rfl rfl rfl rfl (Nat.le_of_ble_eq_true rfl) (Nat.le_of_ble_eq_true rfl) rfl rfl ((c_rawTotal_194 (d := d) h1.pl).up (by omega)) (fun r m' hq => ?_)
    obtain ⟨rfl, hmm⟩ := hq
    subst m'
    refine q_iret dX10_most_95 rfl rfl ⟨_, rfl, by rw [z]; rfl, ⟨false, h1⟩, f1.mono (by decide), k1⟩
  · refine q_tabIn (tgt := 96) dX10_most_15 (by omega) (by omega) (by rw [z]; rfl) (by decide) ?_
    refine q_aload_n (pc' := 97) dX10_most_96 rfl rfl ?_
    refine h_getr (pc' := 100) dX10_most_97 fX10_45 rfl rfl rfl ?_
    refine q_iconst (pc' := 101) (v := nI 0) dX10_most_100 rfl rfl ?_
    refine h_callV (pc' := 104) (M' := mX2_patterns) (As := [_]) dX10_most_101 iX2_patterns lX10_306 rfl rfl rfl rfl (Nat.le_of_ble_eq_true rfl) (Nat.le_of_ble_eq_true rfl) rfl rfl ((c_patterns (d := d) (al := false) hc).up (by omega)) (fun r m' hq => ?_)
    obtain ⟨rfl, hmm⟩ := hq
    subst m'
    refine q_iret dX10_most_104 rfl rfl ⟨_, rfl, by rw [z]; rfl, ⟨st, h⟩, Fr.rf, Kp.rf⟩
  · refine q_tabIn (tgt := 105) dX10_most_15 (by omega) (by omega) (by rw [z]; rfl) (by decide) ?_
    refine q_aload_n (pc' := 106) dX10_most_105 rfl rfl ?_
    refine h_getr (pc' := 109) dX10_most_106 fX10_45 rfl rfl rfl ?_
    refine h_callV (pc' := 112) (M' := mX2_runs) (As := []) dX10_most_109 iX2_runs lX10_310 rfl rfl rfl rfl (Nat.le_of_ble_eq_true rfl) (Nat.le_of_ble_eq_true rfl) rfl rfl ((c_runs (d := d) hc).up (by omega)) (fun r m' hq => ?_)
    obtain ⟨rfl, hmm⟩ := hq
    subst m'
    refine q_iret dX10_most_112 rfl rfl ⟨_, rfl, by rw [z]; rfl, ⟨st, h⟩, Fr.rf, Kp.rf⟩
  · refine q_tabIn (tgt := 113) dX10_most_15 (by omega) (by omega) (by rw [z]; rfl) (by decide) ?_
    refine q_aload_n (pc' := 114) dX10_most_113 rfl rfl ?_
    refine h_getr (pc' := 117) dX10_most_114 fX10_45 rfl rfl rfl ?_
    refine h_callV (pc' := 120) (M' := mX2_finites) (As := []) dX10_most_117 iX2_finites lX10_313 rfl rfl rfl rfl (Nat.le_of_ble_eq_true rfl) (Nat.le_of_ble_eq_true rfl) rfl rfl ((c_finites (d := d) hc).up (by omega)) (fun r m' hq => ?_)
    obtain ⟨rfl, hmm⟩ := hq
    subst m'
    refine q_iret dX10_most_120 rfl rfl ⟨_, rfl, by rw [z]; rfl, ⟨st, h⟩, Fr.rf, Kp.rf⟩
  · refine q_tabIn (tgt := 121) dX10_most_15 (by omega) (by omega) (by rw [z]; rfl) (by decide) ?_
    refine q_aload_n (pc' := 122) dX10_most_121 rfl rfl ?_
    refine h_getr (pc' := 125) dX10_most_122 fX10_45 rfl rfl rfl ?_
    refine h_callV (pc' := 128) (M' := mX2_missing) (As := []) dX10_most_125 iX2_missing lX10_316 rfl rfl rfl rfl (Nat.le_of_ble_eq_true rfl) (Nat.le_of_ble_eq_true rfl) rfl rfl ((c_missing (d := d) hc).up (by omega)) (fun r m' hq => ?_)
    obtain ⟨rfl, hmm⟩ := hq
    subst m'
    refine q_iret dX10_most_128 rfl rfl ⟨_, rfl, by rw [z]; rfl, ⟨st, h⟩, Fr.rf, Kp.rf⟩
  · refine q_tabIn (tgt := 129) dX10_most_15 (by omega) (by omega) (by rw [z]; rfl) (by decide) ?_
    refine q_aload_n (pc' := 130) dX10_most_129 rfl rfl ?_
    refine h_getr (pc' := 133) dX10_most_130 fX10_45 rfl rfl rfl ?_
    refine q_iconst (pc' := 134) (v := nI 1) dX10_most_133 rfl rfl ?_
    refine h_callV (pc' := 137) (M' := mX2_patterns) (As := [_]) dX10_most_134 iX2_patterns lX10_306 rfl rfl rfl rfl (Nat.le_of_ble_eq_true rfl) (Nat.le_of_ble_eq_true rfl) rfl rfl ((c_patterns (d := d) (al := true) hc).up (by omega)) (fun r m' hq => ?_)
    obtain ⟨rfl, hmm⟩ := hq
    subst m'
    refine q_iret dX10_most_137 rfl rfl ⟨_, rfl, by rw [z]; rfl, ⟨st, h⟩, Fr.rf, Kp.rf⟩
  · refine q_tabIn (tgt := 138) dX10_most_15 (by omega) (by omega) (by rw [z]; rfl) (by decide) ?_
    refine q_aload_n (pc' := 139) dX10_most_138 rfl rfl ?_
    refine h_getr (pc' := 142) dX10_most_139 fX10_45 rfl rfl rfl ?_
    refine h_callV (pc' := 145) (M' := mX2_minusZeros) (As := []) dX10_most_142 iX2_minusZeros lX10_319 rfl rfl rfl rfl (Nat.le_of_ble_eq_true rfl) (Nat.le_of_ble_eq_true rfl) rfl rfl ((c_minusZeros (d := d) hc).up (by omega)) (fun r m' hq => ?_)
    obtain ⟨rfl, hmm⟩ := hq
    subst m'
    refine q_iret dX10_most_145 rfl rfl ⟨_, rfl, by rw [z]; rfl, ⟨st, h⟩, Fr.rf, Kp.rf⟩
  · refine q_tabIn (tgt := 146) dX10_most_15 (by omega) (by omega) (by rw [z]; rfl) (by decide) ?_
    have hto := told ht (by first | exact c_4 | exact s_has_t c_5 | assumption)
    refine q_aload_n (pc' := 147) dX10_most_146 rfl rfl ?_
    refine h_callV (pc' := 150) (M' := mX10_current) (As := []) dX10_most_147 iX10_current lX10_162 rfl rfl rfl rfl (Nat.le_of_ble_eq_true rfl) (Nat.le_of_ble_eq_true rfl) rfl rfl (c_cur h hto) (fun r m' hq => ?_)
    obtain ⟨rfl, f1, k1, h1⟩ := hq
    obtain ⟨m1, hm1⟩ : ∃ z, z = m' := ⟨_, rfl⟩
    subst hm1
    refine h_callV (pc' := 153) (M' := mX8_allExceptions) (As := []) dX10_most_150 iX8_allExceptions lX10_322 rfl rfl rfl rfl (Nat.le_of_ble_eq_true rfl) (Nat.le_of_ble_eq_true rfl) rfl rfl (c_allExceptions_194 h1.pl h1.five) (fun r m' hq => ?_)
    obtain ⟨rfl, f2, k2⟩ := hq
    refine q_iret dX10_most_153 rfl rfl ⟨_, rfl, by rw [z]; rfl, ⟨false, h1.fr f2 (k2.mono (by decide)) (by decide)⟩, (f1.mono (by decide)).trans (f2.mono (by decide)), k1.trans (Kp.fr f2 (by decide))⟩
  · refine q_tabIn (tgt := 154) dX10_most_15 (by omega) (by omega) (by rw [z]; rfl) (by decide) ?_
    have hto := told ht (by first | exact c_4 | exact s_has_t c_5 | assumption)
    refine q_aload_n (pc' := 155) dX10_most_154 rfl rfl ?_
    refine h_callV (pc' := 158) (M' := mX10_current) (As := []) dX10_most_155 iX10_current lX10_162 rfl rfl rfl rfl (Nat.le_of_ble_eq_true rfl) (Nat.le_of_ble_eq_true rfl) rfl rfl (c_cur h hto) (fun r m' hq => ?_)
    obtain ⟨rfl, f1, k1, h1⟩ := hq
    obtain ⟨m1, hm1⟩ : ∃ z, z = m' := ⟨_, rfl⟩
    subst hm1
    refine h_callV (pc' := 161) (M' := mX8_unlikeParts) (As := []) dX10_most_158 iX8_unlikeParts lX10_325 rfl rfl rfl rfl (Nat.le_of_ble_eq_true rfl) (Nat.le_of_ble_eq_true rfl) rfl rfl ((c_unlikeParts_194 (d := d) h1.pl).up (by omega)) (fun r m' hq => ?_)
    obtain ⟨rfl, hmm⟩ := hq
    subst m'
    refine q_iret dX10_most_161 rfl rfl ⟨_, rfl, by rw [z]; rfl, ⟨false, h1⟩, f1.mono (by decide), k1⟩
