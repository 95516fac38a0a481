/-! ===== BlockReader: RAW and DECIMAL ===== -/
theorem z_l2i {c : Nat} (h : c < 2 ^ 31) : (lN c).toInt32 = nI c := by rw [← nI_l h, Int32.toInt32_toInt64]
set_option maxHeartbeats 4000000 in
set_option maxRecDepth 20000 in
theorem c_rawIn {Z : q_Z} {m : q_Mm} {d : Nat} {B : List Nat} {a sz : Nat} (hO : Oct m 6 B) (ha : m.1 16 5 = nI a) (hl : a ≤ B.length) (hsz : m.1 16 3 = nI sz) (hz : sz ≤ 16) : q_V (q_g Z) mX0_rawIn (d+2) 0 0 0 [some (.ref (q_ad Z 16)), none] [] (q_W Z m) (q_P Z fun r m2 => r = some (.int (q_b (decide (a + 8 * sz ≤ B.length)))) ∧ Fr [16, 17] m m2 ∧ Kp 16 [5] m m2 ∧ m2.1 16 5 = nI (if a + 8 * sz ≤ B.length then a + 8 * sz else B.length) ∧ (a + 8 * sz ≤ B.length → ∀ i, i < sz → m2.2.2.2.1 17 i = lN (s_ln B (a + 8 * i) 8))) := by
  have hb := hO.2.1
  refine q_iconst (pc' := 1) (v := nI 0) dX0_rawIn_0 rfl rfl ?_
  refine q_istore_n (pc' := 2) (lv' := [_, _]) dX0_rawIn_1 (by decide) rfl rfl ?_
  suffices h : ∀ g j m1, j + g = sz → a + 8 * j ≤ B.length → Fr [16, 17] m m1 → Kp 16 [5] m m1 → m1.1 16 5 = nI (a + 8 * j) → (∀ i, i < j → m1.2.2.2.1 17 i = lN (s_ln B (a + 8 * i) 8)) → q_V (q_g Z) mX0_rawIn (d+2) 0 0 2 [some (.ref (q_ad Z 16)), some (.int (nI j))] [] (q_W Z (m1)) (q_P Z fun r m2 => r = some (.int (q_b (decide (a + 8 * sz ≤ B.length)))) ∧ Fr [16, 17] m m2 ∧ Kp 16 [5] m m2 ∧ m2.1 16 5 = nI (if a + 8 * sz ≤ B.length then a + 8 * sz else B.length) ∧ (a + 8 * sz ≤ B.length → ∀ i, i < sz → m2.2.2.2.1 17 i = lN (s_ln B (a + 8 * i) 8))) from h sz 0 m (by omega) hl Fr.rf Kp.rf ha (fun i hi => absurd hi (by omega))
  intro g
  induction g with
  | zero =>
    intro j m1 hj hle f1 k1 e5 hv
    obtain rfl : j = sz := by omega
    refine q_iload_n (pc' := 3) dX0_rawIn_2 rfl rfl ?_
    refine q_aload_n (pc' := 4) dX0_rawIn_3 rfl rfl ?_
    refine h_getiE (pc' := 7) dX0_rawIn_4 fX0_39 rfl rfl ((k1 3 (by decide)).trans hsz) rfl ?_
    refine q_icmp_geN (tgt := 35) (pc' := 10) dX0_rawIn_7 (by decide) rfl (by omega) (fun c_7 => ?_) (fun c_7 => ?_)
    · rw [if_pos hle]
      refine q_iconst (pc' := 36) (v := nI 1) dX0_rawIn_35 rfl rfl ?_
      refine q_iret dX0_rawIn_36 rfl (by first | exact q_nb0 | exact q_nb1 | exact q_nb _) ⟨_, rfl, z_t hle, f1, k1, e5, fun _ => hv⟩
    · omega
  | succ g ih =>
    intro j m1 hj hle f1 k1 e5 hv
    have hO1 := hO.fr f1 (by decide) (by decide)
    refine q_iload_n (pc' := 3) dX0_rawIn_2 rfl rfl ?_
    refine q_aload_n (pc' := 4) dX0_rawIn_3 rfl rfl ?_
    refine h_getiE (pc' := 7) dX0_rawIn_4 fX0_39 rfl rfl ((k1 3 (by decide)).trans hsz) rfl ?_
    refine q_icmp_geN (tgt := 35) (pc' := 10) dX0_rawIn_7 (by decide) rfl (by omega) (fun c_7 => ?_) (fun c_7 => ?_)
    · omega
    refine q_aload_n (pc' := 11) dX0_rawIn_10 rfl rfl ?_
    refine h_callV (pc' := 14) (M' := mX0_longIn) (As := []) dX0_rawIn_11 iX0_longIn lX0_77 rfl rfl rfl rfl (Nat.le_of_ble_eq_true rfl) (Nat.le_of_ble_eq_true rfl) rfl rfl (c_longIn hO1 e5 hle) (fun r m' hq => ?_)
    obtain ⟨rfl, t2, e2⟩ := hq
    refine q_if_neB (tgt := 19) (pc' := 17) dX0_rawIn_14 (by decide) rfl (fun c_14 => ?_) (fun c_14 => ?_)
    rotate_left
    · have c_14 := of_decide_eq_false c_14
      rw [if_neg c_14] at t2
      rw [if_neg (show ¬ a + 8 * sz ≤ B.length by omega)]
      refine q_iconst (pc' := 18) (v := nI 0) dX0_rawIn_17 rfl rfl ?_
      refine q_iret dX0_rawIn_18 rfl (by first | exact q_nb0 | exact q_nb1 | exact q_nb _) ⟨_, rfl, z_f (by omega), f1.trans (t2.1.mono (by decide)), k1.trans t2.2.1, t2.2.2, fun z => absurd z (by omega)⟩
    · have c_14 := of_decide_eq_true c_14
      rw [if_pos c_14] at t2
      have e2 := e2 c_14
      refine q_aload_n (pc' := 20) dX0_rawIn_19 rfl rfl ?_
      refine h_getr (pc' := 23) dX0_rawIn_20 fX0_9 rfl rfl rfl ?_
      refine q_iload_n (pc' := 24) dX0_rawIn_23 rfl rfl ?_
      refine q_aload_n (pc' := 25) dX0_rawIn_24 rfl rfl ?_
      refine h_getjE (pc' := 28) dX0_rawIn_25 fX0_35 rfl rfl (e2) rfl ?_
      refine h_last (pc' := 29) dX0_rawIn_28 rfl (rfl) (by omega) (by decide) rfl ?_
      refine q_iincN (pc' := 32) (j := 1) (lv' := [_, _]) dX0_rawIn_29 rfl (by decide) rfl rfl ?_
      refine q_goto (pc' := 2) dX0_rawIn_32 (by decide) ?_
      refine ih (j + 1) _ (by omega) (by omega) ((f1.trans (t2.1.mono (by decide))).L (by decide)) (k1.trans t2.2.1) t2.2.2 (fun i hi => ?_)
      show q_u (m'.2.2.2.1 17) j _ i = _
      by_cases z : i = j
      · rw [z, q_u_s]
      · rw [q_u_n _ _ z]
        exact (congrFun (t2.1.l (by decide)) i).trans (hv i (by omega))
/-- EXCEPTIONS of a DECIMAL: so many to come, the lowest place -/
def s_dxr (B : List Nat) (sz : Nat) : Nat → Nat → Nat → (Nat → Int64) → Bool × Nat × (Nat → Int64)
  | 0, _, a, g => (true, a, g)
  | k + 1, lo, a, g => if s_oc B a lo (sz - (k + 1)) = true then (if a + 1 + 8 ≤ B.length then s_dxr B sz k (s_sg B a + 1) (a + 1 + 8) (q_u g (s_sg B a) (lN (s_ln B (a + 1) 8))) else (false, B.length, g)) else (false, a, g)
set_option maxHeartbeats 4000000 in
set_option maxRecDepth 20000 in
theorem c_decExc {Z : q_Z} {m : q_Mm} {d : Nat} {B : List Nat} {a sz x : Nat} {g : Nat → Int64} (hO : Oct m 6 B) (ha : m.1 16 5 = nI a) (hl : a ≤ B.length) (hsz : m.1 16 3 = nI sz) (hz : sz ≤ 16) (hx : x ≤ sz) (hg : ∀ i, i < sz → m.2.2.2.1 17 i = g i) : q_V (q_g Z) mX0_decimalExceptionsIn (d+2) 0 0 0 [some (.ref (q_ad Z 16)), some (.int (nI x)), none, none, none] [] (q_W Z m) (q_P Z fun r m2 => r = some (.int (q_b (s_dxr B sz x 0 a g).1)) ∧ Fr [16, 17] m m2 ∧ Kp 16 [5] m m2 ∧ m2.1 16 5 = nI (s_dxr B sz x 0 a g).2.1 ∧ (s_dxr B sz x 0 a g).2.1 ≤ B.length ∧ ((s_dxr B sz x 0 a g).1 = true → ∀ i, i < sz → m2.2.2.2.1 17 i = (s_dxr B sz x 0 a g).2.2 i)) := by
  have hb := hO.2.1
  obtain ⟨R, hR⟩ : ∃ R, s_dxr B sz x 0 a g = R := ⟨_, rfl⟩
  rw [hR]
  refine q_iconst (pc' := 1) (v := nI 0) dX0_decimalExceptionsIn_0 rfl rfl ?_
  refine q_istore_n (pc' := 2) (lv' := [_, _, _, _, _]) dX0_decimalExceptionsIn_1 (by decide) rfl rfl ?_
  refine q_iload_n (pc' := 3) dX0_decimalExceptionsIn_2 rfl rfl ?_
  refine q_istore_n (pc' := 4) (lv' := [_, _, _, _, _]) dX0_decimalExceptionsIn_3 (by decide) rfl rfl ?_
  suffices h : ∀ k lo b G m1 w, k ≤ sz → b ≤ B.length → lo ≤ 300 → Fr [16, 17] m m1 → Kp 16 [5] m m1 → m1.1 16 5 = nI b → (∀ i, i < sz → m1.2.2.2.1 17 i = G i) → s_dxr B sz k lo b G = R → q_V (q_g Z) mX0_decimalExceptionsIn (d+2) 0 0 4 [some (.ref (q_ad Z 16)), some (.int (nI x)), some (.int (nI lo)), some (.int (nI k)), w] [] (q_W Z (m1)) (q_P Z fun r m2 => r = some (.int (q_b R.1)) ∧ Fr [16, 17] m m2 ∧ Kp 16 [5] m m2 ∧ m2.1 16 5 = nI R.2.1 ∧ R.2.1 ≤ B.length ∧ (R.1 = true → ∀ i, i < sz → m2.2.2.2.1 17 i = R.2.2 i)) from h x 0 a g m none hx hl (by decide) Fr.rf Kp.rf ha hg hR
  intro k
  induction k with
  | zero =>
    intro lo b G m1 w hk hbl hlo f1 k1 e5 hG hs
    have hs : (true, b, G) = R := hs
    subst hs
    refine q_iload_n (pc' := 5) dX0_decimalExceptionsIn_4 rfl rfl ?_
    refine q_if_leN (tgt := 62) (pc' := 8) dX0_decimalExceptionsIn_5 (by decide) rfl (by omega) (fun c_5 => ?_) (fun c_5 => ?_)
    · refine q_iconst (pc' := 63) (v := nI 1) dX0_decimalExceptionsIn_62 rfl rfl ?_
      refine q_iret dX0_decimalExceptionsIn_63 rfl (by first | exact q_nb0 | exact q_nb1 | exact q_nb _) ⟨_, rfl, rfl, f1, k1, e5, hbl, fun _ => hG⟩
    · omega
  | succ k ih =>
    intro lo b G m1 w hk hbl hlo f1 k1 e5 hG hs
    unfold s_dxr at hs
    have hO1 := hO.fr f1 (by decide) (by decide)
    have hcb := s_sg_lt hO b
    refine q_iload_n (pc' := 5) dX0_decimalExceptionsIn_4 rfl rfl ?_
    refine q_if_leN (tgt := 62) (pc' := 8) dX0_decimalExceptionsIn_5 (by decide) rfl (by omega) (fun c_5 => ?_) (fun c_5 => ?_)
    · omega
    refine q_aload_n (pc' := 9) dX0_decimalExceptionsIn_8 rfl rfl ?_
    refine q_iload_n (pc' := 10) dX0_decimalExceptionsIn_9 rfl rfl ?_
    refine q_aload_n (pc' := 11) dX0_decimalExceptionsIn_10 rfl rfl ?_
    refine h_getiE (pc' := 14) dX0_decimalExceptionsIn_11 fX0_39 rfl rfl ((k1 3 (by decide)).trans hsz) rfl ?_
    refine q_iload_n (pc' := 15) dX0_decimalExceptionsIn_14 rfl rfl ?_
    refine q_isubN (pc' := 16) dX0_decimalExceptionsIn_15 (by omega) rfl ?_
    refine h_callV (pc' := 19) (M' := mX0_octetIn) (As := [_, _]) dX0_decimalExceptionsIn_16 iX0_octetIn lX0_31 rfl rfl rfl rfl (Nat.le_of_ble_eq_true rfl) (Nat.le_of_ble_eq_true rfl) rfl rfl (c_octetIn hO1 e5 hbl (by omega) (by omega)) (fun r m' hq => ?_)
    obtain ⟨rfl, t2, e2⟩ := hq
    have f2 : Fr [16, 17] m m' := f1.trans (t2.1.mono (by decide))
    have k2 : Kp 16 [5] m m' := k1.trans t2.2.1
    refine q_if_neB (tgt := 24) (pc' := 22) dX0_decimalExceptionsIn_19 (by decide) rfl (fun c_19 => ?_) (fun c_19 => ?_)
    rotate_left
    · rw [if_neg (by rw [c_19]; decide)] at t2 hs
      subst hs
      refine q_iconst (pc' := 23) (v := nI 0) dX0_decimalExceptionsIn_22 rfl rfl ?_
      refine q_iret dX0_decimalExceptionsIn_23 rfl (by first | exact q_nb0 | exact q_nb1 | exact q_nb _) ⟨_, rfl, rfl, f2, k2, t2.2.2, hbl, fun z => by cases z⟩
    rw [if_pos c_19] at t2 hs
    have e2 := e2 c_19
    have hlt := s_oc_lt c_19
    have hO2 := hO1.fr t2.1 (by decide) (by decide)
    refine q_aload_n (pc' := 25) dX0_decimalExceptionsIn_24 rfl rfl ?_
    refine h_getjE (pc' := 28) dX0_decimalExceptionsIn_25 fX0_35 rfl rfl (e2) rfl ?_
    refine q_l2i (pc' := 29) dX0_decimalExceptionsIn_28 rfl ?_
    rw [z_l2i (by omega)]
    obtain ⟨m3, hm3⟩ : ∃ z, z = m' := ⟨_, rfl⟩
    subst hm3
    refine q_istore (pc' := 31) (lv' := [_, _, _, _, _]) dX0_decimalExceptionsIn_29 (by decide) rfl rfl ?_
    refine q_iload (pc' := 33) dX0_decimalExceptionsIn_31 rfl rfl ?_
    refine q_iconst (pc' := 34) (v := nI 1) dX0_decimalExceptionsIn_33 rfl rfl ?_
    refine q_iaddN (pc' := 35) dX0_decimalExceptionsIn_34 rfl ?_
    refine q_istore_n (pc' := 36) (lv' := [_, _, _, _, _]) dX0_decimalExceptionsIn_35 (by decide) rfl rfl ?_
    refine q_aload_n (pc' := 37) dX0_decimalExceptionsIn_36 rfl rfl ?_
    refine h_callV (pc' := 40) (M' := mX0_longIn) (As := []) dX0_decimalExceptionsIn_37 iX0_longIn lX0_77 rfl rfl rfl rfl (Nat.le_of_ble_eq_true rfl) (Nat.le_of_ble_eq_true rfl) rfl rfl (c_longIn hO2 t2.2.2 (by omega)) (fun r m' hq => ?_)
    obtain ⟨rfl, t3, e3⟩ := hq
    have f3 : Fr [16, 17] m m' := f2.trans (t3.1.mono (by decide))
    have k3 : Kp 16 [5] m m' := k2.trans t3.2.1
    refine q_if_neB (tgt := 45) (pc' := 43) dX0_decimalExceptionsIn_40 (by decide) rfl (fun c_40 => ?_) (fun c_40 => ?_)
    rotate_left
    · have c_40 := of_decide_eq_false c_40
      rw [if_neg c_40] at t3 hs
      subst hs
      refine q_iconst (pc' := 44) (v := nI 0) dX0_decimalExceptionsIn_43 rfl rfl ?_
      refine q_iret dX0_decimalExceptionsIn_44 rfl (by first | exact q_nb0 | exact q_nb1 | exact q_nb _) ⟨_, rfl, rfl, f3, k3, t3.2.2, Nat.le_refl _, fun z => by cases z⟩
    have c_40 := of_decide_eq_true c_40
    rw [if_pos c_40] at t3 hs
    have e3 := e3 c_40
    refine q_aload_n (pc' := 46) dX0_decimalExceptionsIn_45 rfl rfl ?_
    refine h_getr (pc' := 49) dX0_decimalExceptionsIn_46 fX0_9 rfl rfl rfl ?_
    refine q_iload (pc' := 51) dX0_decimalExceptionsIn_49 rfl rfl ?_
    refine q_aload_n (pc' := 52) dX0_decimalExceptionsIn_51 rfl rfl ?_
    refine h_getjE (pc' := 55) dX0_decimalExceptionsIn_52 fX0_35 rfl rfl (e3) rfl ?_
    refine h_last (pc' := 56) dX0_decimalExceptionsIn_55 rfl (rfl) (by omega) (by decide) rfl ?_
    refine q_idecN (pc' := 59) (lv' := [_, _, _, _, _]) dX0_decimalExceptionsIn_56 rfl (by decide) rfl rfl ?_
    refine q_goto (pc' := 4) dX0_decimalExceptionsIn_59 (by decide) ?_
    refine ih _ _ _ _ _ (by omega) c_40 (by omega) (f3.L (by decide)) k3 t3.2.2 (fun i hi => ?_) hs
    show q_u (m'.2.2.2.1 17) (s_sg B b) _ i = q_u G (s_sg B b) _ i
    by_cases z : i = s_sg B b
    · rw [z, q_u_s, q_u_s]
    · rw [q_u_n _ _ z, q_u_n _ _ z]
      exact (congrFun (t3.1.l (by decide)) i).trans ((congrFun (t2.1.l (by decide)) i).trans (hG i hi))
/-- BASE, WIDTH and the bits of a DECIMAL -/
def s_wg (B : List Nat) (a e f w i : Nat) : Int64 := s_b (s_dec (lN (s_ln B a 8) + lN (s_bn B (8 * (a + 8 + 1) + i * w) w)) e f)
def s_who (B : List Nat) (sz e f a : Nat) : Bool × Nat × (Nat → Int64) :=
  if a + 8 ≤ B.length then
    (if s_oc B (a + 8) 0 53 = true then
      (if 8 * (a + 8 + 1) + sz * s_sg B (a + 8) ≤ 8 * B.length then (s_fl B (8 * (a + 8 + 1) + sz * s_sg B (a + 8)), s_fat B (8 * (a + 8 + 1) + sz * s_sg B (a + 8)), s_wg B a e f (s_sg B (a + 8)))
      else (false, B.length, fun _ => 0))
    else (false, a + 8, fun _ => 0))
  else (false, B.length, fun _ => 0)
theorem s_fat_le {B : List Nat} {p n : Nat} (h : p ≤ 8 * n) : s_fat B p ≤ n := by
  unfold s_fat
  split <;> omega
theorem nn_dec (w : Int64) {e f : Nat} (he : e < 15) (hf : f < 15) : FP.Core.val64 (s_dec w e f) ≠ .nan := nn_mul (nn_mul (nn_l2d w) (nz_tn ⟨f, hf⟩)) (nz_th ⟨e, he⟩)
set_option maxHeartbeats 4000000 in
set_option maxRecDepth 20000 in
theorem c_wholesIn {Z : q_Z} {m : q_Mm} {d : Nat} {B : List Nat} {a sz e f : Nat} (hD : DblOk m) (hO : Oct m 6 B) (ha : m.1 16 5 = nI a) (hl : a ≤ B.length) (hsz : m.1 16 3 = nI sz) (hz : sz ≤ 16) (he : e < 15) (hf : f < 15) : q_V (q_g Z) mX0_wholesIn (d+2) 0 0 0 [some (.ref (q_ad Z 16)), some (.int (nI e)), some (.int (nI f)), none, none, none, none] [] (q_W Z m) (q_P Z fun r m2 => r = some (.int (q_b (s_who B sz e f a).1)) ∧ Fr [16, 17] m m2 ∧ Kp 16 [5, 6] m m2 ∧ m2.1 16 5 = nI (s_who B sz e f a).2.1 ∧ (s_who B sz e f a).2.1 ≤ B.length ∧ ((s_who B sz e f a).1 = true → ∀ i, i < sz → m2.2.2.2.1 17 i = (s_who B sz e f a).2.2 i)) := by
  have hb := hO.2.1
  obtain ⟨R, hR⟩ : ∃ R, s_who B sz e f a = R := ⟨_, rfl⟩
  rw [hR]
  unfold s_who at hR
  refine q_aload_n (pc' := 1) dX0_wholesIn_0 rfl rfl ?_
  refine h_callV (pc' := 4) (M' := mX0_longIn) (As := []) dX0_wholesIn_1 iX0_longIn lX0_77 rfl rfl rfl rfl (Nat.le_of_ble_eq_true rfl) (Nat.le_of_ble_eq_true rfl) rfl rfl (c_longIn hO ha hl) (fun r m' hq => ?_)
  obtain ⟨rfl, t1, e1⟩ := hq
  refine q_if_neB (tgt := 9) (pc' := 7) dX0_wholesIn_4 (by decide) rfl (fun c_4 => ?_) (fun c_4 => ?_)
  rotate_left
  · have c_4 := of_decide_eq_false c_4
    rw [if_neg c_4] at t1 hR
    subst hR
    refine q_iconst (pc' := 8) (v := nI 0) dX0_wholesIn_7 rfl rfl ?_
    refine q_iret dX0_wholesIn_8 rfl (by first | exact q_nb0 | exact q_nb1 | exact q_nb _) ⟨_, rfl, rfl, t1.1.mono (by decide), t1.2.1.mono (by decide), t1.2.2, Nat.le_refl _, fun z => by cases z⟩
  have c_4 := of_decide_eq_true c_4
  rw [if_pos c_4] at t1 hR
  have e1 := e1 c_4
  have hO1 := hO.fr t1.1 (by decide) (by decide)
  have hcw := s_sg_lt hO (a + 8)
  generalize hba : lN (s_ln B a 8) = ba at e1
  refine q_aload_n (pc' := 10) dX0_wholesIn_9 rfl rfl ?_
  refine h_getjE (pc' := 13) dX0_wholesIn_10 fX0_35 rfl rfl (e1) rfl ?_
  refine q_lstore_n (pc' := 14) (lv' := [_, _, _, _, _, _, _]) dX0_wholesIn_13 (by decide) rfl rfl ?_
  obtain ⟨m1, hm1⟩ : ∃ z, z = m' := ⟨_, rfl⟩
  subst hm1
  refine q_aload_n (pc' := 15) dX0_wholesIn_14 rfl rfl ?_
  refine q_iconst (pc' := 16) (v := nI 0) dX0_wholesIn_15 rfl rfl ?_
  refine q_bipush (pc' := 18) (v := nI 53) dX0_wholesIn_16 rfl rfl ?_
  refine h_callV (pc' := 21) (M' := mX0_octetIn) (As := [_, _]) dX0_wholesIn_18 iX0_octetIn lX0_31 rfl rfl rfl rfl (Nat.le_of_ble_eq_true rfl) (Nat.le_of_ble_eq_true rfl) rfl rfl ((c_octetIn hO1 t1.2.2 c_4 (by decide) (by decide)).up (Nat.zero_le _)) (fun r m' hq => ?_)
  obtain ⟨rfl, t2, e2⟩ := hq
  have t2 := t1.tr t2
  refine q_if_neB (tgt := 26) (pc' := 24) dX0_wholesIn_21 (by decide) rfl (fun c_21 => ?_) (fun c_21 => ?_)
  rotate_left
  · rw [if_neg (by rw [c_21]; decide)] at t2 hR
    subst hR
    refine q_iconst (pc' := 25) (v := nI 0) dX0_wholesIn_24 rfl rfl ?_
    refine q_iret dX0_wholesIn_25 rfl (by first | exact q_nb0 | exact q_nb1 | exact q_nb _) ⟨_, rfl, rfl, t2.1.mono (by decide), t2.2.1.mono (by decide), t2.2.2, c_4, fun z => by cases z⟩
  rw [if_pos c_21] at t2 hR
  have e2 := e2 c_21
  obtain ⟨hlt1, -, hlt2⟩ := s_oc_lt c_21
  have hO2 := hO.fr t2.1 (by decide) (by decide)
  generalize hw : s_sg B (a + 8) = w at e2 hR hlt2 hcw
  refine q_aload_n (pc' := 27) dX0_wholesIn_26 rfl rfl ?_
  refine h_getjE (pc' := 30) dX0_wholesIn_27 fX0_35 rfl rfl (e2) rfl ?_
  refine q_l2i (pc' := 31) dX0_wholesIn_30 rfl ?_
  rw [z_l2i (by omega)]
  refine q_istore (pc' := 33) (lv' := [_, _, _, _, _, _, _]) dX0_wholesIn_31 (by decide) rfl rfl ?_
  refine q_aload_n (pc' := 34) dX0_wholesIn_33 rfl rfl ?_
  refine q_bipush (pc' := 36) (v := nI 8) dX0_wholesIn_34 rfl rfl ?_
  refine q_aload_n (pc' := 37) dX0_wholesIn_36 rfl rfl ?_
  refine h_getiE (pc' := 40) dX0_wholesIn_37 fX0_27 rfl rfl (t2.2.2) rfl ?_
  refine q_imulN (pc' := 41) dX0_wholesIn_40 rfl ?_
  refine h_puti (pc' := 44) dX0_wholesIn_41 fX0_71 rfl rfl rfl rfl rfl ?_
  refine q_iconst (pc' := 45) (v := nI 0) dX0_wholesIn_44 rfl rfl ?_
  refine q_istore (pc' := 47) (lv' := [_, _, _, _, _, _, _]) dX0_wholesIn_45 (by decide) rfl rfl ?_
  have hmul : ∀ j, j ≤ 16 → j * w ≤ 16 * 53 := fun j hj => Nat.mul_le_mul hj hlt2
  have main : ∀ g j m2, j + g = sz → 8 * (a + 8 + 1) + j * w ≤ 8 * B.length → Fr [16, 17] m m2 → Kp 16 [5, 6] m m2 → m2.1 16 5 = nI (a + 8 + 1) → m2.1 16 6 = nI (8 * (a + 8 + 1) + j * w) → (∀ i, i < j → m2.2.2.2.1 17 i = s_wg B a e f w i) → q_V (q_g Z) mX0_wholesIn (d+2) 0 0 47 [some (.ref (q_ad Z 16)), some (.int (nI e)), some (.int (nI f)), some (.long ba), none, some (.int (nI w)), some (.int (nI j))] [] (q_W Z (m2)) (q_P Z fun r m2 => r = some (.int (q_b R.1)) ∧ Fr [16, 17] m m2 ∧ Kp 16 [5, 6] m m2 ∧ m2.1 16 5 = nI R.2.1 ∧ R.2.1 ≤ B.length ∧ (R.1 = true → ∀ i, i < sz → m2.2.2.2.1 17 i = R.2.2 i)) := by
    intro g
    induction g with
    | zero =>
      intro j m2 hj hle f2 k2 e5 e6 hv
      obtain rfl : j = sz := by omega
      have hO3 := hO.fr f2 (by decide) (by decide)
      rw [if_pos hle] at hR
      subst hR
      refine q_iload (pc' := 49) dX0_wholesIn_47 rfl rfl ?_
      refine q_aload_n (pc' := 50) dX0_wholesIn_49 rfl rfl ?_
      refine h_getiE (pc' := 53) dX0_wholesIn_50 fX0_39 rfl rfl ((k2 3 (by decide)).trans hsz) rfl ?_
      refine q_icmp_geN (tgt := 102) (pc' := 56) dX0_wholesIn_53 (by decide) rfl (by omega) (fun c_53 => ?_) (fun c_53 => ?_)
      rotate_left
      · omega
      refine q_aload_n (pc' := 103) dX0_wholesIn_102 rfl rfl ?_
      refine h_callV (pc' := 106) (M' := mX0_fillingIn) (As := []) dX0_wholesIn_103 iX0_fillingIn lX0_96 rfl rfl rfl rfl (Nat.le_of_ble_eq_true rfl) (Nat.le_of_ble_eq_true rfl) rfl rfl (c_fillingIn0 hO3 e5 e6 hle) (fun r m' hq => ?_)
      obtain ⟨rfl, f3, k3, e53⟩ := hq
      refine q_iret dX0_wholesIn_106 rfl (by first | exact q_nb0 | exact q_nb1 | exact q_nb _) ⟨_, rfl, rfl, f2.trans (f3.mono (by decide)), k2.trans k3, e53, s_fat_le hle, fun _ i hi => (congrFun (f3.l (by decide)) i).trans (hv i hi)⟩
    | succ g ih =>
      intro j m2 hj hle f2 k2 e5 e6 hv
      have hO3 := hO.fr f2 (by decide) (by decide)
      have hD3 := hD.fr f2 (by decide) (by decide) (by decide) (by decide)
      have hj16 := hmul j (by omega)
      have hsm : (j + 1) * w = j * w + w := Nat.succ_mul j w
      refine q_iload (pc' := 49) dX0_wholesIn_47 rfl rfl ?_
      refine q_aload_n (pc' := 50) dX0_wholesIn_49 rfl rfl ?_
      refine h_getiE (pc' := 53) dX0_wholesIn_50 fX0_39 rfl rfl ((k2 3 (by decide)).trans hsz) rfl ?_
      refine q_icmp_geN (tgt := 102) (pc' := 56) dX0_wholesIn_53 (by decide) rfl (by omega) (fun c_53 => ?_) (fun c_53 => ?_)
      · omega
      refine q_aload_n (pc' := 57) dX0_wholesIn_56 rfl rfl ?_
      refine q_iload (pc' := 59) dX0_wholesIn_57 rfl rfl ?_
      refine h_callV (pc' := 62) (M' := mX0_bitsIn) (As := [_]) dX0_wholesIn_59 iX0_bitsIn lX0_74 rfl rfl rfl rfl (Nat.le_of_ble_eq_true rfl) (Nat.le_of_ble_eq_true rfl) rfl rfl ((c_bitsIn0 hO3 e5 e6 hle (by omega)).up (Nat.zero_le _)) (fun r m' hq => ?_)
      obtain ⟨rfl, f3, k3, e53, e63⟩ := hq
      have f4 : Fr [16, 17] m m' := f2.trans (f3.mono (by decide))
      have k4 : Kp 16 [5, 6] m m' := k2.trans k3
      refine q_if_neB (tgt := 67) (pc' := 65) dX0_wholesIn_62 (by decide) rfl (fun c_62 => ?_) (fun c_62 => ?_)
      rotate_left
      · have c_62 := of_decide_eq_false c_62
        rw [if_neg c_62] at e53
        have hge : (j + 1) * w ≤ sz * w := Nat.mul_le_mul_right w (by omega)
        rw [hsm] at hge
        rw [if_neg (by omega)] at hR
        subst hR
        refine q_iconst (pc' := 66) (v := nI 0) dX0_wholesIn_65 rfl rfl ?_
        refine q_iret dX0_wholesIn_66 rfl (by first | exact q_nb0 | exact q_nb1 | exact q_nb _) ⟨_, rfl, rfl, f4, k4, e53, Nat.le_refl _, fun z => by cases z⟩
      have c_62 := of_decide_eq_true c_62
      rw [if_pos c_62] at e53
      obtain ⟨e63, e73⟩ := e63 c_62
      have hD4 := hD3.fr f3 (by decide) (by decide) (by decide) (by decide)
      obtain ⟨m4, hm4⟩ : ∃ z, z = m' := ⟨_, rfl⟩
      subst hm4
      refine q_aload_n (pc' := 68) dX0_wholesIn_67 rfl rfl ?_
      refine h_getr (pc' := 71) dX0_wholesIn_68 fX0_9 rfl rfl rfl ?_
      refine q_iload (pc' := 73) dX0_wholesIn_71 rfl rfl ?_
      refine q_aload_n (pc' := 74) dX0_wholesIn_73 rfl rfl ?_
      refine h_getr (pc' := 77) dX0_wholesIn_74 fX0_23 rfl rfl rfl ?_
      refine q_aload_n (pc' := 78) dX0_wholesIn_77 rfl rfl ?_
      refine h_getr (pc' := 81) dX0_wholesIn_78 fX0_23 rfl rfl rfl ?_
      refine q_lload_n (pc' := 82) dX0_wholesIn_81 rfl rfl ?_
      refine q_aload_n (pc' := 83) dX0_wholesIn_82 rfl rfl ?_
      refine h_getjE (pc' := 86) dX0_wholesIn_83 fX0_35 rfl rfl (e73) rfl ?_
      refine q_ladd (pc' := 87) dX0_wholesIn_86 rfl ?_
      refine q_iload_n (pc' := 88) dX0_wholesIn_87 rfl rfl ?_
      refine q_iload_n (pc' := 89) dX0_wholesIn_88 rfl rfl ?_
      refine h_callV (pc' := 92) (M' := mX3_decimal) (As := [_, _, _]) dX0_wholesIn_89 iX3_decimal lX0_86 rfl rfl rfl rfl (Nat.le_of_ble_eq_true rfl) (Nat.le_of_ble_eq_true rfl) rfl rfl ((c_decimal hD4 he hf).up (Nat.zero_le _)) (fun r m' hq => ?_)
      obtain ⟨rfl, hmm⟩ := hq
      subst m'
      refine h_callV (pc' := 95) (M' := mX3_bitsOf) (As := [_]) dX0_wholesIn_92 iX3_bitsOf lX0_92 rfl rfl rfl rfl (Nat.le_of_ble_eq_true rfl) (Nat.le_of_ble_eq_true rfl) rfl rfl (c_bitsOf hD4 (nn_dec _ he hf)) (fun r m' hq => ?_)
      obtain ⟨rfl, hmm⟩ := hq
      subst m'
      refine h_last (pc' := 96) dX0_wholesIn_95 rfl (rfl) (by omega) (by decide) rfl ?_
      refine q_iincN (pc' := 99) (j := 1) (lv' := [_, _, _, _, _, _, _]) dX0_wholesIn_96 rfl (by decide) rfl rfl ?_
      refine q_goto (pc' := 47) dX0_wholesIn_99 (by decide) ?_
      refine ih (j + 1) _ (by omega) (by rw [hsm]; omega) (f4.L (by decide)) k4 e53 (by rw [hsm, ← Nat.add_assoc]; exact e63) (fun i hi => ?_)
      show q_u (m4.2.2.2.1 17) j _ i = _
      by_cases z : i = j
      · rw [z, q_u_s, ← hba]; rfl
      · rw [q_u_n _ _ z]
        exact (congrFun (f3.l (by decide)) i).trans (hv i (by omega))
  exact main sz 0 _ (by omega) (by omega) ((t2.1.mono (by decide)).I (by decide)) (kp_I (t2.2.1.mono (by decide)) (by decide)) t2.2.2 (by rw [Nat.zero_mul]; rfl) (fun i hi => absurd hi (by omega))
def s_dIn (B : List Nat) (sz a : Nat) : Bool × Nat × (Nat → Int64) :=
  if s_oc B a 0 14 = true then
    (if s_oc B (a + 1) 0 (s_sg B a) = true then
      (if s_oc B (a + 1 + 1) 0 sz = true then
        (if (s_who B sz (s_sg B a) (s_sg B (a + 1)) (a + 1 + 1 + 1)).1 = true then s_dxr B sz (s_sg B (a + 1 + 1)) 0 (s_who B sz (s_sg B a) (s_sg B (a + 1)) (a + 1 + 1 + 1)).2.1 (s_who B sz (s_sg B a) (s_sg B (a + 1)) (a + 1 + 1 + 1)).2.2
        else (false, (s_who B sz (s_sg B a) (s_sg B (a + 1)) (a + 1 + 1 + 1)).2.1, fun _ => 0))
      else (false, a + 1 + 1, fun _ => 0))
    else (false, a + 1, fun _ => 0))
  else (false, a, fun _ => 0)
set_option maxHeartbeats 4000000 in
set_option maxRecDepth 20000 in
theorem c_decimalIn {Z : q_Z} {m : q_Mm} {d : Nat} {B : List Nat} {a sz : Nat} (hD : DblOk m) (hO : Oct m 6 B) (ha : m.1 16 5 = nI a) (hl : a ≤ B.length) (hsz : m.1 16 3 = nI sz) (hz : sz ≤ 16) : q_V (q_g Z) mX0_decimalIn (d+3) 0 0 0 [some (.ref (q_ad Z 16)), none, none, none] [] (q_W Z m) (q_P Z fun r m2 => r = some (.int (q_b (s_dIn B sz a).1)) ∧ Fr [16, 17] m m2 ∧ Kp 16 [5, 6] m m2 ∧ m2.1 16 5 = nI (s_dIn B sz a).2.1 ∧ (s_dIn B sz a).2.1 ≤ B.length ∧ ((s_dIn B sz a).1 = true → ∀ i, i < sz → m2.2.2.2.1 17 i = (s_dIn B sz a).2.2 i)) := by
  have hb := hO.2.1
  obtain ⟨R, hR⟩ : ∃ R, s_dIn B sz a = R := ⟨_, rfl⟩
  rw [hR]
  unfold s_dIn at hR
  have hc0 := s_sg_lt hO a
  have hc1 := s_sg_lt hO (a + 1)
  have hc2 := s_sg_lt hO (a + 1 + 1)
  refine q_aload_n (pc' := 1) dX0_decimalIn_0 rfl rfl ?_
  refine q_iconst (pc' := 2) (v := nI 0) dX0_decimalIn_1 rfl rfl ?_
  refine q_bipush (pc' := 4) (v := nI 14) dX0_decimalIn_2 rfl rfl ?_
  refine h_callV (pc' := 7) (M' := mX0_octetIn) (As := [_, _]) dX0_decimalIn_4 iX0_octetIn lX0_31 rfl rfl rfl rfl (Nat.le_of_ble_eq_true rfl) (Nat.le_of_ble_eq_true rfl) rfl rfl ((c_octetIn hO ha hl (by decide) (by decide)).up (Nat.zero_le _)) (fun r m' hq => ?_)
  obtain ⟨rfl, t1, e1⟩ := hq
  refine q_if_neB (tgt := 12) (pc' := 10) dX0_decimalIn_7 (by decide) rfl (fun c_7 => ?_) (fun c_7 => ?_)
  rotate_left
  · rw [if_neg (by rw [c_7]; decide)] at t1 hR
    subst hR
    refine q_iconst (pc' := 11) (v := nI 0) dX0_decimalIn_10 rfl rfl ?_
    refine q_iret dX0_decimalIn_11 rfl (by first | exact q_nb0 | exact q_nb1 | exact q_nb _) ⟨_, rfl, rfl, t1.1.mono (by decide), t1.2.1.mono (by decide), t1.2.2, hl, fun z => by cases z⟩
  rw [if_pos c_7] at t1 hR
  have e1 := e1 c_7
  have l1 := s_oc_lt c_7
  have hO1 := hO.fr t1.1 (by decide) (by decide)
  refine q_aload_n (pc' := 13) dX0_decimalIn_12 rfl rfl ?_
  refine h_getjE (pc' := 16) dX0_decimalIn_13 fX0_35 rfl rfl (e1) rfl ?_
  refine q_l2i (pc' := 17) dX0_decimalIn_16 rfl ?_
  rw [z_l2i (by omega)]
  obtain ⟨m1, hm1⟩ : ∃ z, z = m' := ⟨_, rfl⟩
  subst hm1
  refine q_istore_n (pc' := 18) (lv' := [_, _, _, _]) dX0_decimalIn_17 (by decide) rfl rfl ?_
  refine q_aload_n (pc' := 19) dX0_decimalIn_18 rfl rfl ?_
  refine q_iconst (pc' := 20) (v := nI 0) dX0_decimalIn_19 rfl rfl ?_
  refine q_iload_n (pc' := 21) dX0_decimalIn_20 rfl rfl ?_
  refine h_callV (pc' := 24) (M' := mX0_octetIn) (As := [_, _]) dX0_decimalIn_21 iX0_octetIn lX0_31 rfl rfl rfl rfl (Nat.le_of_ble_eq_true rfl) (Nat.le_of_ble_eq_true rfl) rfl rfl ((c_octetIn hO1 t1.2.2 (by omega) (by decide) (by omega)).up (Nat.zero_le _)) (fun r m' hq => ?_)
  obtain ⟨rfl, t2, e2⟩ := hq
  have t2 := t1.tr t2
  refine q_if_neB (tgt := 29) (pc' := 27) dX0_decimalIn_24 (by decide) rfl (fun c_24 => ?_) (fun c_24 => ?_)
  rotate_left
  · rw [if_neg (by rw [c_24]; decide)] at t2 hR
    subst hR
    refine q_iconst (pc' := 28) (v := nI 0) dX0_decimalIn_27 rfl rfl ?_
    refine q_iret dX0_decimalIn_28 rfl (by first | exact q_nb0 | exact q_nb1 | exact q_nb _) ⟨_, rfl, rfl, t2.1.mono (by decide), t2.2.1.mono (by decide), t2.2.2, by show a + 1 ≤ _; omega, fun z => by cases z⟩
  rw [if_pos c_24] at t2 hR
  have e2 := e2 c_24
  have l2 := s_oc_lt c_24
  have hO2 := hO.fr t2.1 (by decide) (by decide)
  refine q_aload_n (pc' := 30) dX0_decimalIn_29 rfl rfl ?_
  refine h_getjE (pc' := 33) dX0_decimalIn_30 fX0_35 rfl rfl (e2) rfl ?_
  refine q_l2i (pc' := 34) dX0_decimalIn_33 rfl ?_
  rw [z_l2i (by omega)]
  obtain ⟨m2, hm2⟩ : ∃ z, z = m' := ⟨_, rfl⟩
  subst hm2
  refine q_istore_n (pc' := 35) (lv' := [_, _, _, _]) dX0_decimalIn_34 (by decide) rfl rfl ?_
  refine q_aload_n (pc' := 36) dX0_decimalIn_35 rfl rfl ?_
  refine q_iconst (pc' := 37) (v := nI 0) dX0_decimalIn_36 rfl rfl ?_
  refine q_aload_n (pc' := 38) dX0_decimalIn_37 rfl rfl ?_
  refine h_getiE (pc' := 41) dX0_decimalIn_38 fX0_39 rfl rfl ((t2.2.1 3 (by decide)).trans hsz) rfl ?_
  refine h_callV (pc' := 44) (M' := mX0_octetIn) (As := [_, _]) dX0_decimalIn_41 iX0_octetIn lX0_31 rfl rfl rfl rfl (Nat.le_of_ble_eq_true rfl) (Nat.le_of_ble_eq_true rfl) rfl rfl ((c_octetIn hO2 t2.2.2 (by omega) (by decide) (by omega)).up (Nat.zero_le _)) (fun r m' hq => ?_)
  obtain ⟨rfl, t3, e3⟩ := hq
  have t3 := t2.tr t3
  refine q_if_neB (tgt := 49) (pc' := 47) dX0_decimalIn_44 (by decide) rfl (fun c_44 => ?_) (fun c_44 => ?_)
  rotate_left
  · rw [if_neg (by rw [c_44]; decide)] at t3 hR
    subst hR
    refine q_iconst (pc' := 48) (v := nI 0) dX0_decimalIn_47 rfl rfl ?_
    refine q_iret dX0_decimalIn_48 rfl (by first | exact q_nb0 | exact q_nb1 | exact q_nb _) ⟨_, rfl, rfl, t3.1.mono (by decide), t3.2.1.mono (by decide), t3.2.2, by show a + 1 + 1 ≤ _; omega, fun z => by cases z⟩
  rw [if_pos c_44] at t3 hR
  have e3 := e3 c_44
  have l3 := s_oc_lt c_44
  have hO3 := hO.fr t3.1 (by decide) (by decide)
  have hD3 := hD.fr t3.1 (by decide) (by decide) (by decide) (by decide)
  have hs3 := (t3.2.1 3 (by decide)).trans hsz
  refine q_aload_n (pc' := 50) dX0_decimalIn_49 rfl rfl ?_
  refine h_getjE (pc' := 53) dX0_decimalIn_50 fX0_35 rfl rfl (e3) rfl ?_
  refine q_l2i (pc' := 54) dX0_decimalIn_53 rfl ?_
  rw [z_l2i (by omega)]
  obtain ⟨m3, hm3⟩ : ∃ z, z = m' := ⟨_, rfl⟩
  subst hm3
  refine q_istore_n (pc' := 55) (lv' := [_, _, _, _]) dX0_decimalIn_54 (by decide) rfl rfl ?_
  refine q_aload_n (pc' := 56) dX0_decimalIn_55 rfl rfl ?_
  refine q_iload_n (pc' := 57) dX0_decimalIn_56 rfl rfl ?_
  refine q_iload_n (pc' := 58) dX0_decimalIn_57 rfl rfl ?_
  refine h_callV (pc' := 61) (M' := mX0_wholesIn) (As := [_, _]) dX0_decimalIn_58 iX0_wholesIn lX0_80 rfl rfl rfl rfl (Nat.le_of_ble_eq_true rfl) (Nat.le_of_ble_eq_true rfl) rfl rfl (c_wholesIn hD3 hO3 t3.2.2 (by omega) hs3 hz (by omega) (by omega)) (fun r m' hq => ?_)
  obtain ⟨rfl, f4, k4, e54, le4, v4⟩ := hq
  generalize s_who B sz (s_sg B a) (s_sg B (a + 1)) (a + 1 + 1 + 1) = S at hR e54 le4 v4
  have f5 : Fr [16, 17] m m' := (t3.1.mono (by decide)).trans f4
  have k5 : Kp 16 [5, 6] m m' := (t3.2.1.mono (by decide)).trans k4
  refine q_if_eqB (tgt := 76) (pc' := 64) dX0_decimalIn_61 (by decide) rfl (fun c_61 => ?_) (fun c_61 => ?_)
  · rw [if_neg (by rw [c_61]; decide)] at hR
    subst hR
    refine q_iconst (pc' := 77) (v := nI 0) dX0_decimalIn_76 rfl rfl ?_
    refine q_iret dX0_decimalIn_77 rfl (by first | exact q_nb0 | exact q_nb1 | exact q_nb _) ⟨_, rfl, rfl, f5, k5, e54, le4, fun z => by cases z⟩
  rw [if_pos c_61] at hR
  obtain ⟨m4, hm4⟩ : ∃ z, z = m' := ⟨_, rfl⟩
  subst hm4
  refine q_aload_n (pc' := 65) dX0_decimalIn_64 rfl rfl ?_
  refine q_iload_n (pc' := 66) dX0_decimalIn_65 rfl rfl ?_
  refine h_callV (pc' := 69) (M' := mX0_decimalExceptionsIn) (As := [_]) dX0_decimalIn_66 iX0_decimalExceptionsIn lX0_83 rfl rfl rfl rfl (Nat.le_of_ble_eq_true rfl) (Nat.le_of_ble_eq_true rfl) rfl rfl (c_decExc (hO.fr f5 (by decide) (by decide)) e54 le4 ((k5 3 (by decide)).trans hsz) hz l3.2.2 (v4 c_61)) (fun r m' hq => ?_)
  obtain ⟨rfl, f6, k6, e56, le6, v6⟩ := hq
  rw [hR] at e56 le6 v6 ⊢
  have f7 : Fr [16, 17] m m' := f5.trans f6
  have k7 : Kp 16 [5, 6] m m' := k5.trans (k6.mono (by decide))
  refine q_if_eqB (tgt := 76) (pc' := 72) dX0_decimalIn_69 (by decide) rfl (fun c_69 => ?_) (fun c_69 => ?_)
  · refine q_iconst (pc' := 77) (v := nI 0) dX0_decimalIn_76 rfl rfl ?_
    refine q_iret dX0_decimalIn_77 rfl (by first | exact q_nb0 | exact q_nb1 | exact q_nb _) ⟨_, rfl, by rw [c_69]; rfl, f7, k7, e56, le6, v6⟩
  · refine q_iconst (pc' := 73) (v := nI 1) dX0_decimalIn_72 rfl rfl ?_
    refine q_goto (pc' := 77) dX0_decimalIn_73 (by decide) ?_
    refine q_iret dX0_decimalIn_77 rfl (by first | exact q_nb0 | exact q_nb1 | exact q_nb _) ⟨_, rfl, by rw [c_69]; rfl, f7, k7, e56, le6, v6⟩
