/-! ===== BlockReader: SPLIT, the BLOCK ===== -/
theorem s_h2_lt {B : List Nat} {h a : Nat} (hk : s_hok2 B h a = true) : s_h2 B a < 2 ^ h := by
  unfold s_hok2 at hk
  rw [Bool.and_eq_true] at hk
  have h1 := (s_oc_lt hk.1).2.2
  have h2 := (s_oc_lt hk.2).2.2
  have hp := Nat.two_pow_pos h
  unfold s_h2
  omega
theorem s_hok2_at {B : List Nat} {h a : Nat} (hk : s_hok2 B h a = true) : s_hat B h a = a + 2 ∧ a + 2 ≤ B.length := by
  unfold s_hok2 at hk
  rw [Bool.and_eq_true] at hk
  have h2 := (s_oc_lt hk.2).1
  exact ⟨by unfold s_hat; rw [if_pos hk.1, if_pos hk.2], by omega⟩
/-- PARTS, so many to come -/
def s_prs (B : List Nat) (h : Nat) : Nat → Nat → Bool × Nat
  | 0, a => (true, a)
  | k + 1, a => if s_hok2 B h a = true then s_prs B h k (a + 2) else (false, s_hat B h a)
/-- CODES and LOW bits, so many to come, from the bit p on: what is well made, where the reader stands if not, the next bit, the VALUES -/
def s_cds (B : List Nat) (pt h cb : Nat) (hi : Nat → Nat) : Nat → Nat → Nat → (Nat → Int64) → Bool × Nat × Nat × (Nat → Int64)
  | 0, p, _, g => (true, 0, p, g)
  | k + 1, p, i, g =>
    if p + cb ≤ 8 * B.length then
      (if s_bn B p cb < pt then
        (if p + cb + (64 - h) ≤ 8 * B.length then s_cds B pt h cb hi k (p + cb + (64 - h)) (i + 1) (q_u g i (lN (hi (s_bn B p cb) * 2 ^ (64 - h) + s_bn B (p + cb) (64 - h))))
        else (false, B.length, p, g))
      else (false, (p + cb - 1) / 8, p, g))
    else (false, B.length, p, g)
theorem s_cds_p {B : List Nat} {pt h cb : Nat} {hi : Nat → Nat} : ∀ k p i g, p ≤ 8 * B.length → (s_cds B pt h cb hi k p i g).1 = true → (s_cds B pt h cb hi k p i g).2.2.1 ≤ 8 * B.length
  | 0, p, i, g, hp, _ => hp
  | k + 1, p, i, g, hp, h9 => by
    unfold s_cds at h9 ⊢
    split
    · rename_i q1
      rw [if_pos q1] at h9
      split
      · rename_i q2
        rw [if_pos q2] at h9
        split
        · rename_i q3
          rw [if_pos q3] at h9
          exact s_cds_p k _ _ _ q3 h9
        · rename_i q3
          rw [if_neg q3] at h9
          cases h9
      · rename_i q2
        rw [if_neg q2] at h9
        cases h9
    · rename_i q1
      rw [if_neg q1] at h9
      cases h9
def s_spx (h x : Nat) (v : Int64) : Int64 := lN x <<< ((nI (64 - h)).toInt64 &&& 63) ||| (v &&& (1 <<< ((nI (64 - h)).toInt64 &&& 63) - 1))
/-- EXCEPTIONS of a SPLIT -/
def s_sxr (B : List Nat) (sz h : Nat) : Nat → Nat → Nat → (Nat → Int64) → Bool × Nat × (Nat → Int64)
  | 0, _, a, g => (true, a, g)
  | k + 1, lo, a, g => if s_oc B a lo (sz - (k + 1)) = true then (if s_hok2 B h (a + 1) = true then s_sxr B sz h k (s_sg B a + 1) (a + 1 + 2) (q_u g (s_sg B a) (s_spx h (s_h2 B (a + 1)) (g (s_sg B a)))) else (false, s_hat B h (a + 1), g)) else (false, a, g)
set_option maxHeartbeats 4000000 in
set_option maxRecDepth 20000 in
theorem c_splitExc {Z : q_Z} {m : q_Mm} {d : Nat} {B : List Nat} {a sz x h : Nat} {g : Nat → Int64} (hO : Oct m 6 B) (ha : m.1 16 5 = nI a) (hl : a ≤ B.length) (hsz : m.1 16 3 = nI sz) (hz : sz ≤ 16) (hx : x ≤ sz) (hh : 4 ≤ h ∧ h ≤ 16) (hg : ∀ i, i < sz → m.2.2.2.1 17 i = g i) : q_V (q_g Z) mX0_splitExceptionsIn (d+2) 0 0 0 [some (.ref (q_ad Z 16)), some (.int (nI h)), some (.int (nI x)), none, none, none] [] (q_W Z m) (q_P Z fun r m2 => r = some (.int (q_b (s_sxr B sz h x 0 a g).1)) ∧ Fr [16, 17] m m2 ∧ Kp 16 [5] m m2 ∧ m2.1 16 5 = nI (s_sxr B sz h x 0 a g).2.1 ∧ (s_sxr B sz h x 0 a g).2.1 ≤ B.length ∧ ((s_sxr B sz h x 0 a g).1 = true → ∀ i, i < sz → m2.2.2.2.1 17 i = (s_sxr B sz h x 0 a g).2.2 i)) := by
  have hb := hO.2.1
  obtain ⟨R, hR⟩ : ∃ R, s_sxr B sz h x 0 a g = R := ⟨_, rfl⟩
  rw [hR]
  refine q_iconst (pc' := 1) (v := nI 0) dX0_splitExceptionsIn_0 rfl rfl ?_
  refine q_istore_n (pc' := 2) (lv' := [_, _, _, _, _, _]) dX0_splitExceptionsIn_1 (by decide) rfl rfl ?_
  refine q_iload_n (pc' := 3) dX0_splitExceptionsIn_2 rfl rfl ?_
  refine q_istore (pc' := 5) (lv' := [_, _, _, _, _, _]) dX0_splitExceptionsIn_3 (by decide) rfl rfl ?_
  suffices h : ∀ k lo b G m1 w, k ≤ sz → b ≤ B.length → lo ≤ 300 → Fr [16, 17] m m1 → Kp 16 [5] m m1 → m1.1 16 5 = nI b → (∀ i, i < sz → m1.2.2.2.1 17 i = G i) → s_sxr B sz h k lo b G = R → q_V (q_g Z) mX0_splitExceptionsIn (d+2) 0 0 5 [some (.ref (q_ad Z 16)), some (.int (nI h)), some (.int (nI x)), some (.int (nI lo)), some (.int (nI k)), w] [] (q_W Z (m1)) (q_P Z fun r m2 => r = some (.int (q_b R.1)) ∧ Fr [16, 17] m m2 ∧ Kp 16 [5] m m2 ∧ m2.1 16 5 = nI R.2.1 ∧ R.2.1 ≤ B.length ∧ (R.1 = true → ∀ i, i < sz → m2.2.2.2.1 17 i = R.2.2 i)) from h x 0 a g m none hx hl (by decide) Fr.rf Kp.rf ha hg hR
  intro k
  induction k with
  | zero =>
    intro lo b G m1 w hk hbl hlo f1 k1 e5 hG hs
    have hs : (true, b, G) = R := hs
    subst hs
    refine q_iload (pc' := 7) dX0_splitExceptionsIn_5 rfl rfl ?_
    refine q_if_leN (tgt := 88) (pc' := 10) dX0_splitExceptionsIn_7 (by decide) rfl (by omega) (fun c_7 => ?_) (fun c_7 => ?_)
    · refine q_iconst (pc' := 89) (v := nI 1) dX0_splitExceptionsIn_88 rfl rfl ?_
      refine q_iret dX0_splitExceptionsIn_89 rfl (by first | exact q_nb0 | exact q_nb1 | exact q_nb _) ⟨_, rfl, rfl, f1, k1, e5, hbl, fun _ => hG⟩
    · omega
  | succ k ih =>
    intro lo b G m1 w hk hbl hlo f1 k1 e5 hG hs
    unfold s_sxr at hs
    have hO1 := hO.fr f1 (by decide) (by decide)
    have hcb := s_sg_lt hO b
    refine q_iload (pc' := 7) dX0_splitExceptionsIn_5 rfl rfl ?_
    refine q_if_leN (tgt := 88) (pc' := 10) dX0_splitExceptionsIn_7 (by decide) rfl (by omega) (fun c_7 => ?_) (fun c_7 => ?_)
    · omega
    refine q_aload_n (pc' := 11) dX0_splitExceptionsIn_10 rfl rfl ?_
    refine q_iload_n (pc' := 12) dX0_splitExceptionsIn_11 rfl rfl ?_
    refine q_aload_n (pc' := 13) dX0_splitExceptionsIn_12 rfl rfl ?_
    refine h_getiE (pc' := 16) dX0_splitExceptionsIn_13 fX0_39 rfl rfl ((k1 3 (by decide)).trans hsz) rfl ?_
    refine q_iload (pc' := 18) dX0_splitExceptionsIn_16 rfl rfl ?_
    refine q_isubN (pc' := 19) dX0_splitExceptionsIn_18 (by omega) rfl ?_
    refine h_callV (pc' := 22) (M' := mX0_octetIn) (As := [_, _]) dX0_splitExceptionsIn_19 iX0_octetIn lX0_31 rfl rfl rfl rfl (Nat.le_of_ble_eq_true rfl) (Nat.le_of_ble_eq_true rfl) rfl rfl ((c_octetIn hO1 e5 hbl (by omega) (by omega)).up (Nat.zero_le _)) (fun r m' hq => ?_)
    obtain ⟨rfl, t2, e2⟩ := hq
    have f2 : Fr [16, 17] m m' := f1.trans (t2.1.mono (by decide))
    have k2 : Kp 16 [5] m m' := k1.trans t2.2.1
    refine q_if_neB (tgt := 27) (pc' := 25) dX0_splitExceptionsIn_22 (by decide) rfl (fun c_22 => ?_) (fun c_22 => ?_)
    rotate_left
    · rw [if_neg (by rw [c_22]; decide)] at t2 hs
      subst hs
      refine q_iconst (pc' := 26) (v := nI 0) dX0_splitExceptionsIn_25 rfl rfl ?_
      refine q_iret dX0_splitExceptionsIn_26 rfl (by first | exact q_nb0 | exact q_nb1 | exact q_nb _) ⟨_, rfl, rfl, f2, k2, t2.2.2, hbl, fun z => by cases z⟩
    rw [if_pos c_22] at t2 hs
    have e2 := e2 c_22
    have hlt := s_oc_lt c_22
    have hO2 := hO1.fr t2.1 (by decide) (by decide)
    refine q_aload_n (pc' := 28) dX0_splitExceptionsIn_27 rfl rfl ?_
    refine h_getjE (pc' := 31) dX0_splitExceptionsIn_28 fX0_35 rfl rfl (e2) rfl ?_
    refine q_l2i (pc' := 32) dX0_splitExceptionsIn_31 rfl ?_
    rw [z_l2i (by omega)]
    obtain ⟨m3, hm3⟩ : ∃ z, z = m' := ⟨_, rfl⟩
    subst hm3
    have hle3 := s_hat_le (B := B) (h := h) (a := s_sg B b) |> fun _ => s_hat_le (B := B) (h := h) (a := b + 1) (by omega)
    refine q_istore (pc' := 34) (lv' := [_, _, _, _, _, _]) dX0_splitExceptionsIn_32 (by decide) rfl rfl ?_
    refine q_iload (pc' := 36) dX0_splitExceptionsIn_34 rfl rfl ?_
    refine q_iconst (pc' := 37) (v := nI 1) dX0_splitExceptionsIn_36 rfl rfl ?_
    refine q_iaddN (pc' := 38) dX0_splitExceptionsIn_37 rfl ?_
    refine q_istore_n (pc' := 39) (lv' := [_, _, _, _, _, _]) dX0_splitExceptionsIn_38 (by decide) rfl rfl ?_
    refine q_aload_n (pc' := 40) dX0_splitExceptionsIn_39 rfl rfl ?_
    refine q_iload_n (pc' := 41) dX0_splitExceptionsIn_40 rfl rfl ?_
    refine h_callV (pc' := 44) (M' := mX0_highIn) (As := [_]) dX0_splitExceptionsIn_41 iX0_highIn lX0_99 rfl rfl rfl rfl (Nat.le_of_ble_eq_true rfl) (Nat.le_of_ble_eq_true rfl) rfl rfl (c_highIn hO2 t2.2.2 (by omega) hh) (fun r m' hq => ?_)
    obtain ⟨rfl, t3, e3⟩ := hq
    have f3 : Fr [16, 17] m m' := f2.trans (t3.1.mono (by decide))
    have k3 : Kp 16 [5] m m' := k2.trans t3.2.1
    refine q_if_neB (tgt := 49) (pc' := 47) dX0_splitExceptionsIn_44 (by decide) rfl (fun c_44 => ?_) (fun c_44 => ?_)
    rotate_left
    · rw [if_neg (by rw [c_44]; decide)] at hs
      subst hs
      refine q_iconst (pc' := 48) (v := nI 0) dX0_splitExceptionsIn_47 rfl rfl ?_
      refine q_iret dX0_splitExceptionsIn_48 rfl (by first | exact q_nb0 | exact q_nb1 | exact q_nb _) ⟨_, rfl, rfl, f3, k3, t3.2.2, hle3, fun z => by cases z⟩
    rw [if_pos c_44] at hs
    obtain ⟨hat, hale⟩ := s_hok2_at c_44
    have e3 := e3 c_44
    have hv3 : m'.2.2.2.1 17 (s_sg B b) = G (s_sg B b) := (congrFun (t3.1.l (by decide)) _).trans ((congrFun (t2.1.l (by decide)) _).trans (hG _ (by omega)))
    refine q_aload_n (pc' := 50) dX0_splitExceptionsIn_49 rfl rfl ?_
    refine h_getr (pc' := 53) dX0_splitExceptionsIn_50 fX0_9 rfl rfl rfl ?_
    refine q_iload (pc' := 55) dX0_splitExceptionsIn_53 rfl rfl ?_
    refine q_aload_n (pc' := 56) dX0_splitExceptionsIn_55 rfl rfl ?_
    refine h_getjE (pc' := 59) dX0_splitExceptionsIn_56 fX0_35 rfl rfl (e3) rfl ?_
    refine q_bipush (pc' := 61) (v := nI 64) dX0_splitExceptionsIn_59 rfl rfl ?_
    refine q_iload_n (pc' := 62) dX0_splitExceptionsIn_61 rfl rfl ?_
    refine q_isubN (pc' := 63) dX0_splitExceptionsIn_62 (by omega) rfl ?_
    refine q_lshl (pc' := 64) dX0_splitExceptionsIn_63 rfl rfl ?_
    refine q_aload_n (pc' := 65) dX0_splitExceptionsIn_64 rfl rfl ?_
    refine h_getr (pc' := 68) dX0_splitExceptionsIn_65 fX0_9 rfl rfl rfl ?_
    refine q_iload (pc' := 70) dX0_splitExceptionsIn_68 rfl rfl ?_
    refine h_laldE (pc' := 71) dX0_splitExceptionsIn_70 rfl (rfl) (by omega) (by decide) (hv3) rfl ?_
    refine q_lconst (pc' := 72) (v := 1) dX0_splitExceptionsIn_71 rfl rfl ?_
    refine q_bipush (pc' := 74) (v := nI 64) dX0_splitExceptionsIn_72 rfl rfl ?_
    refine q_iload_n (pc' := 75) dX0_splitExceptionsIn_74 rfl rfl ?_
    refine q_isubN (pc' := 76) dX0_splitExceptionsIn_75 (by omega) rfl ?_
    refine q_lshl (pc' := 77) dX0_splitExceptionsIn_76 rfl rfl ?_
    refine q_lconst (pc' := 78) (v := 1) dX0_splitExceptionsIn_77 rfl rfl ?_
    refine q_lsub (pc' := 79) dX0_splitExceptionsIn_78 rfl ?_
    refine q_land (pc' := 80) dX0_splitExceptionsIn_79 rfl ?_
    refine q_lor (pc' := 81) dX0_splitExceptionsIn_80 rfl ?_
    refine h_last (pc' := 82) dX0_splitExceptionsIn_81 rfl (rfl) (by omega) (by decide) rfl ?_
    refine q_idecN (pc' := 85) (lv' := [_, _, _, _, _, _]) dX0_splitExceptionsIn_82 rfl (by decide) rfl rfl ?_
    refine q_goto (pc' := 5) dX0_splitExceptionsIn_85 (by decide) ?_
    refine ih _ _ _ _ _ (by omega) hale (by omega) (f3.L (by decide)) k3 (by rw [← hat]; exact t3.2.2) (fun i hi => ?_) hs
    show q_u (m'.2.2.2.1 17) (s_sg B b) _ i = q_u G (s_sg B b) _ i
    by_cases z : i = s_sg B b
    · rw [z, q_u_s, q_u_s]; rfl
    · rw [q_u_n _ _ z, q_u_n _ _ z]
      exact (congrFun (t3.1.l (by decide)) i).trans ((congrFun (t2.1.l (by decide)) i).trans (hG i hi))
/-- CODES whole, with their filling -/
def s_cdw (B : List Nat) (sz h pt a : Nat) (hi : Nat → Nat) : Bool × Nat × (Nat → Int64) :=
  if (s_cds B pt h (s_bl (lN (pt - 1))) hi sz (8 * a) 0 (fun _ => 0)).1 = true then (s_fl B (s_cds B pt h (s_bl (lN (pt - 1))) hi sz (8 * a) 0 (fun _ => 0)).2.2.1, s_fat B (s_cds B pt h (s_bl (lN (pt - 1))) hi sz (8 * a) 0 (fun _ => 0)).2.2.1, (s_cds B pt h (s_bl (lN (pt - 1))) hi sz (8 * a) 0 (fun _ => 0)).2.2.2)
  else (false, (s_cds B pt h (s_bl (lN (pt - 1))) hi sz (8 * a) 0 (fun _ => 0)).2.1, fun _ => 0)
set_option maxHeartbeats 4000000 in
set_option maxRecDepth 20000 in
theorem c_codesIn {Z : q_Z} {m : q_Mm} {d : Nat} {B : List Nat} {a sz h pt : Nat} {hi : Nat → Nat} (hO : Oct m 6 B) (ha : m.1 16 5 = nI a) (hl : a ≤ B.length) (hsz : m.1 16 3 = nI sz) (hz : sz ≤ 16) (hh : 4 ≤ h ∧ h ≤ 16) (hpt : 1 ≤ pt ∧ pt ≤ 8) (hhi : ∀ j, j < pt → m.2.2.1 18 j = nI (hi j) ∧ hi j < 2 ^ h) : q_V (q_g Z) mX0_codesIn (d+2) 0 0 0 [some (.ref (q_ad Z 16)), some (.int (nI h)), some (.int (nI pt)), none, none, none] [] (q_W Z m) (q_P Z fun r m2 => r = some (.int (q_b (s_cdw B sz h pt a hi).1)) ∧ Fr [16, 17] m m2 ∧ Kp 16 [5, 6] m m2 ∧ m2.1 16 5 = nI (s_cdw B sz h pt a hi).2.1 ∧ (s_cdw B sz h pt a hi).2.1 ≤ B.length ∧ ((s_cdw B sz h pt a hi).1 = true → ∀ i, i < sz → m2.2.2.2.1 17 i = (s_cdw B sz h pt a hi).2.2 i)) := by
  have hb := hO.2.1
  obtain ⟨R, hR⟩ : ∃ R, s_cdw B sz h pt a hi = R := ⟨_, rfl⟩
  rw [hR]
  unfold s_cdw at hR
  have hp64 : 2 ^ h * 2 ^ (64 - h) = 2 ^ 64 := by rw [← Nat.pow_add]; congr 1; omega
  have hcb8 : s_bl (lN (pt - 1)) ≤ 3 := by
    have := s_bl8 ⟨pt - 1, by omega⟩
    rw [← nI_l (show pt - 1 < 2 ^ 31 by omega)]
    exact this
  refine q_iload_n (pc' := 1) dX0_codesIn_0 rfl rfl ?_
  refine q_iconst (pc' := 2) (v := nI 1) dX0_codesIn_1 rfl rfl ?_
  refine q_isubN (pc' := 3) dX0_codesIn_2 (by omega) rfl ?_
  refine q_i2l (pc' := 4) dX0_codesIn_3 rfl ?_
  refine h_callSN (pc' := 7) (M' := mX10_bitLength) (As := [_]) dX0_codesIn_4 iX10_bitLength nm_X0_108 rfl rfl (Nat.le_of_ble_eq_true rfl) (Nat.le_of_ble_eq_true rfl) rfl rfl (c_bitLength.up (Nat.zero_le _)) (fun r m' hq => ?_)
  obtain ⟨rfl, hmm⟩ := hq
  subst m'
  rw [nI_l (show pt - 1 < 2 ^ 31 by omega)]
  obtain ⟨cb, hcb⟩ : ∃ cb, s_bl (lN (pt - 1)) = cb := ⟨_, rfl⟩
  rw [hcb] at hR hcb8 ⊢
  refine q_istore_n (pc' := 8) (lv' := [_, _, _, _, _, _]) dX0_codesIn_7 (by decide) rfl rfl ?_
  refine q_aload_n (pc' := 9) dX0_codesIn_8 rfl rfl ?_
  refine q_bipush (pc' := 11) (v := nI 8) dX0_codesIn_9 rfl rfl ?_
  refine q_aload_n (pc' := 12) dX0_codesIn_11 rfl rfl ?_
  refine h_getiE (pc' := 15) dX0_codesIn_12 fX0_27 rfl rfl (ha) rfl ?_
  refine q_imulN (pc' := 16) dX0_codesIn_15 rfl ?_
  refine h_puti (pc' := 19) dX0_codesIn_16 fX0_71 rfl rfl rfl rfl rfl ?_
  refine q_iconst (pc' := 20) (v := nI 0) dX0_codesIn_19 rfl rfl ?_
  refine q_istore (pc' := 22) (lv' := [_, _, _, _, _, _]) dX0_codesIn_20 (by decide) rfl rfl ?_
  obtain ⟨S, hS⟩ : ∃ S, s_cds B pt h cb hi sz (8 * a) 0 (fun _ => 0) = S := ⟨_, rfl⟩
  have hSp : S.1 = true → S.2.2.1 ≤ 8 * B.length := fun z => by subst hS; exact s_cds_p _ _ _ _ (by omega) z
  rw [hS] at hR
  have main : ∀ k p i G m1 w, i + k = sz → p ≤ 8 * B.length → Fr [16, 17] m m1 → Kp 16 [5, 6] m m1 → m1.1 16 5 = nI a → m1.1 16 6 = nI p → (∀ j, j < i → m1.2.2.2.1 17 j = G j) → s_cds B pt h cb hi k p i G = S → q_V (q_g Z) mX0_codesIn (d+2) 0 0 22 [some (.ref (q_ad Z 16)), some (.int (nI h)), some (.int (nI pt)), some (.int (nI cb)), some (.int (nI i)), w] [] (q_W Z (m1)) (q_P Z fun r m2 => r = some (.int (q_b R.1)) ∧ Fr [16, 17] m m2 ∧ Kp 16 [5, 6] m m2 ∧ m2.1 16 5 = nI R.2.1 ∧ R.2.1 ≤ B.length ∧ (R.1 = true → ∀ i, i < sz → m2.2.2.2.1 17 i = R.2.2 i)) := by
    intro k
    induction k with
    | zero =>
      intro p i G m1 w hik hp f1 k1 e5 e6 hG hs
      have hs : (true, 0, p, G) = S := hs
      subst hs
      rw [if_pos rfl] at hR
      subst hR
      obtain rfl : i = sz := by omega
      refine q_iload (pc' := 24) dX0_codesIn_22 rfl rfl ?_
      refine q_aload_n (pc' := 25) dX0_codesIn_24 rfl rfl ?_
      refine h_getiE (pc' := 28) dX0_codesIn_25 fX0_39 rfl rfl ((k1 3 (by decide)).trans hsz) rfl ?_
      refine q_icmp_geN (tgt := 112) (pc' := 31) dX0_codesIn_28 (by decide) rfl (by omega) (fun c_28 => ?_) (fun c_28 => ?_)
      rotate_left
      · omega
      refine q_aload_n (pc' := 113) dX0_codesIn_112 rfl rfl ?_
      refine h_callV (pc' := 116) (M' := mX0_fillingIn) (As := []) dX0_codesIn_113 iX0_fillingIn lX0_96 rfl rfl rfl rfl (Nat.le_of_ble_eq_true rfl) (Nat.le_of_ble_eq_true rfl) rfl rfl (c_fillingIn0 (hO.fr f1 (by decide) (by decide)) e5 e6 hp) (fun r m' hq => ?_)
      obtain ⟨rfl, f3, k3, e53⟩ := hq
      refine q_iret dX0_codesIn_116 rfl (by first | exact q_nb0 | exact q_nb1 | exact q_nb _) ⟨_, rfl, rfl, f1.trans (f3.mono (by decide)), k1.trans k3, e53, s_fat_le hp, fun _ j hj => (congrFun (f3.l (by decide)) j).trans (hG j hj)⟩
    | succ k ih =>
      intro p i G m1 w hik hp f1 k1 e5 e6 hG hs
      unfold s_cds at hs
      have hO1 := hO.fr f1 (by decide) (by decide)
      refine q_iload (pc' := 24) dX0_codesIn_22 rfl rfl ?_
      refine q_aload_n (pc' := 25) dX0_codesIn_24 rfl rfl ?_
      refine h_getiE (pc' := 28) dX0_codesIn_25 fX0_39 rfl rfl ((k1 3 (by decide)).trans hsz) rfl ?_
      refine q_icmp_geN (tgt := 112) (pc' := 31) dX0_codesIn_28 (by decide) rfl (by omega) (fun c_28 => ?_) (fun c_28 => ?_)
      · omega
      refine q_aload_n (pc' := 32) dX0_codesIn_31 rfl rfl ?_
      refine q_iload_n (pc' := 33) dX0_codesIn_32 rfl rfl ?_
      refine h_callV (pc' := 36) (M' := mX0_bitsIn) (As := [_]) dX0_codesIn_33 iX0_bitsIn lX0_74 rfl rfl rfl rfl (Nat.le_of_ble_eq_true rfl) (Nat.le_of_ble_eq_true rfl) rfl rfl ((c_bitsIn0 hO1 e5 e6 hp (by omega)).up (Nat.zero_le _)) (fun r m' hq => ?_)
      obtain ⟨rfl, f2, k2, e52, e62⟩ := hq
      have f3 : Fr [16, 17] m m' := f1.trans (f2.mono (by decide))
      have k3 : Kp 16 [5, 6] m m' := k1.trans k2
      refine q_if_neB (tgt := 41) (pc' := 39) dX0_codesIn_36 (by decide) rfl (fun c_36 => ?_) (fun c_36 => ?_)
      rotate_left
      · have c_36 := of_decide_eq_false c_36
        rw [if_neg c_36] at e52 hs
        subst hs
        rw [if_neg (by simp)] at hR
        subst hR
        refine q_iconst (pc' := 40) (v := nI 0) dX0_codesIn_39 rfl rfl ?_
        refine q_iret dX0_codesIn_40 rfl (by first | exact q_nb0 | exact q_nb1 | exact q_nb _) ⟨_, rfl, rfl, f3, k3, e52, Nat.le_refl _, fun z => by cases z⟩
      have c_36 := of_decide_eq_true c_36
      rw [if_pos c_36] at e52 hs
      obtain ⟨e62, e72⟩ := e62 c_36
      have hbn := s_bn_lt B p cb
      have hpw : 2 ^ cb ≤ 2 ^ 3 := Nat.pow_le_pow_right (by decide) hcb8
      have hO2 := hO1.fr f2 (by decide) (by decide)
      obtain ⟨m2, hm2⟩ : ∃ z, z = m' := ⟨_, rfl⟩
      subst hm2
      refine q_aload_n (pc' := 42) dX0_codesIn_41 rfl rfl ?_
      refine h_getjE (pc' := 45) dX0_codesIn_42 fX0_35 rfl rfl (e72) rfl ?_
      refine q_l2i (pc' := 46) dX0_codesIn_45 rfl ?_
      rw [z_l2i (by omega)]
      refine q_istore (pc' := 48) (lv' := [_, _, _, _, _, _]) dX0_codesIn_46 (by decide) rfl rfl ?_
      refine q_iload (pc' := 50) dX0_codesIn_48 rfl rfl ?_
      refine q_iload_n (pc' := 51) dX0_codesIn_50 rfl rfl ?_
      refine q_icmp_ltN (tgt := 68) (pc' := 54) dX0_codesIn_51 (by decide) rfl (by omega) (fun c_51 => ?_) (fun c_51 => ?_)
      rotate_left
      · rw [if_neg (by omega)] at hs
        subst hs
        rw [if_neg (by simp)] at hR
        subst hR
        have hp1 : 1 ≤ p + cb := by
          rcases Nat.eq_zero_or_pos (p + cb) with q | q
          · have hc0 : cb = 0 := by omega
            rw [hc0] at c_51
            have : s_bn B p 0 = 0 := rfl
            omega
          · exact q
        refine q_aload_n (pc' := 55) dX0_codesIn_54 rfl rfl ?_
        refine q_aload_n (pc' := 56) dX0_codesIn_55 rfl rfl ?_
        refine h_getiE (pc' := 59) dX0_codesIn_56 fX0_71 rfl rfl (e62) rfl ?_
        refine q_iconst (pc' := 60) (v := nI 1) dX0_codesIn_59 rfl rfl ?_
        refine q_isubN (pc' := 61) dX0_codesIn_60 (by omega) rfl ?_
        rw [show nI (p + cb - 1) = nI (p + cb - 1) from rfl]
        refine q_iconst (pc' := 62) (v := nI 3) dX0_codesIn_61 rfl rfl ?_
        refine q_ishr (pc' := 63) dX0_codesIn_62 rfl ?_
        rw [pk_shrN (by omega) (nI 3 &&& 31) 3 rfl]
        refine h_puti (pc' := 66) dX0_codesIn_63 fX0_27 rfl rfl rfl rfl rfl ?_
        refine q_iconst (pc' := 67) (v := nI 0) dX0_codesIn_66 rfl rfl ?_
        refine q_iret dX0_codesIn_67 rfl (by first | exact q_nb0 | exact q_nb1 | exact q_nb _) ⟨_, rfl, rfl, f3.I (by decide), kp_I k3 (by decide), rfl, by show (p + cb - 1) / 8 ≤ _; omega, fun z => by cases z⟩
      rw [if_pos c_51] at hs
      refine q_aload_n (pc' := 69) dX0_codesIn_68 rfl rfl ?_
      refine q_bipush (pc' := 71) (v := nI 64) dX0_codesIn_69 rfl rfl ?_
      refine q_iload_n (pc' := 72) dX0_codesIn_71 rfl rfl ?_
      refine q_isubN (pc' := 73) dX0_codesIn_72 (by omega) rfl ?_
      refine h_callV (pc' := 76) (M' := mX0_bitsIn) (As := [_]) dX0_codesIn_73 iX0_bitsIn lX0_74 rfl rfl rfl rfl (Nat.le_of_ble_eq_true rfl) (Nat.le_of_ble_eq_true rfl) rfl rfl ((c_bitsIn0 hO2 e52 e62 c_36 (by omega)).up (Nat.zero_le _)) (fun r m' hq => ?_)
      obtain ⟨rfl, f4, k4, e54, e64⟩ := hq
      have f5 : Fr [16, 17] m m' := f3.trans (f4.mono (by decide))
      have k5 : Kp 16 [5, 6] m m' := k3.trans k4
      refine q_if_neB (tgt := 81) (pc' := 79) dX0_codesIn_76 (by decide) rfl (fun c_76 => ?_) (fun c_76 => ?_)
      rotate_left
      · have c_76 := of_decide_eq_false c_76
        rw [if_neg c_76] at e54 hs
        subst hs
        rw [if_neg (by simp)] at hR
        subst hR
        refine q_iconst (pc' := 80) (v := nI 0) dX0_codesIn_79 rfl rfl ?_
        refine q_iret dX0_codesIn_80 rfl (by first | exact q_nb0 | exact q_nb1 | exact q_nb _) ⟨_, rfl, rfl, f5, k5, e54, Nat.le_refl _, fun z => by cases z⟩
      have c_76 := of_decide_eq_true c_76
      rw [if_pos c_76] at e54 hs
      obtain ⟨e64, e74⟩ := e64 c_76
      obtain ⟨hv, hvl⟩ := hhi _ c_51
      have hbl := s_bn_lt B (p + cb) (64 - h)
      have hmul : (hi (s_bn B p cb) + 1) * 2 ^ (64 - h) ≤ 2 ^ h * 2 ^ (64 - h) := Nat.mul_le_mul_right _ hvl
      rw [hp64, Nat.succ_mul] at hmul
      have hpl := Nat.pow_le_pow_right (show 0 < 2 by decide) hh.2
      refine q_aload_n (pc' := 82) dX0_codesIn_81 rfl rfl ?_
      refine h_getr (pc' := 85) dX0_codesIn_82 fX0_9 rfl rfl rfl ?_
      refine q_iload (pc' := 87) dX0_codesIn_85 rfl rfl ?_
      refine q_aload_n (pc' := 88) dX0_codesIn_87 rfl rfl ?_
      refine h_getr (pc' := 91) dX0_codesIn_88 fX0_15 rfl rfl rfl ?_
      refine q_iload (pc' := 93) dX0_codesIn_91 rfl rfl ?_
      refine h_ialdE (pc' := 94) dX0_codesIn_93 rfl (rfl) (by omega) (by decide) ((congrFun (f5.a (by decide)) _).trans hv) rfl ?_
      refine q_i2l (pc' := 95) dX0_codesIn_94 rfl ?_
      rw [nI_l (by omega)]
      refine q_bipush (pc' := 97) (v := nI 64) dX0_codesIn_95 rfl rfl ?_
      refine q_iload_n (pc' := 98) dX0_codesIn_97 rfl rfl ?_
      refine q_isubN (pc' := 99) dX0_codesIn_98 (by omega) rfl ?_
      refine q_lshl (pc' := 100) dX0_codesIn_99 rfl rfl ?_
      refine q_aload_n (pc' := 101) dX0_codesIn_100 rfl rfl ?_
      refine h_getjE (pc' := 104) dX0_codesIn_101 fX0_35 rfl rfl (e74) rfl ?_
      refine q_lor (pc' := 105) dX0_codesIn_104 rfl ?_
      rw [z_lo (by omega) (by omega) hbl]
      refine h_last (pc' := 106) dX0_codesIn_105 rfl (rfl) (by omega) (by decide) rfl ?_
      refine q_iincN (pc' := 109) (j := 1) (lv' := [_, _, _, _, _, _]) dX0_codesIn_106 rfl (by decide) rfl rfl ?_
      refine q_goto (pc' := 22) dX0_codesIn_109 (by decide) ?_
      refine ih _ (i + 1) _ _ _ (by omega) c_76 (f5.L (by decide)) k5 e54 e64 (fun j hj => ?_) hs
      show q_u (m'.2.2.2.1 17) i _ j = q_u G i _ j
      by_cases z : j = i
      · rw [z, q_u_s, q_u_s]
      · rw [q_u_n _ _ z, q_u_n _ _ z]
        exact (congrFun (f4.l (by decide)) j).trans ((congrFun (f2.l (by decide)) j).trans (hG j (by omega)))
  exact main sz (8 * a) 0 (fun _ => 0) _ _ (by omega) (by omega) (Fr.rf.I (by decide)) (kp_I Kp.rf (by decide)) ha rfl (fun j hj => absurd hj (by omega)) hS
/-- a SPLIT -/
def s_sIn (B : List Nat) (sz a : Nat) : Bool × Nat × (Nat → Int64) :=
  if s_oc B a 4 16 = true then
    (if s_oc B (a + 1) 1 8 = true then
      (if (s_prs B (s_sg B a) (s_sg B (a + 1)) (a + 1 + 1)).1 = true then
        (if s_oc B (s_prs B (s_sg B a) (s_sg B (a + 1)) (a + 1 + 1)).2 0 sz = true then
          (if (s_cdw B sz (s_sg B a) (s_sg B (a + 1)) ((s_prs B (s_sg B a) (s_sg B (a + 1)) (a + 1 + 1)).2 + 1) (fun j => s_h2 B (a + 1 + 1 + 2 * j))).1 = true then s_sxr B sz (s_sg B a) (s_sg B (s_prs B (s_sg B a) (s_sg B (a + 1)) (a + 1 + 1)).2) 0 (s_cdw B sz (s_sg B a) (s_sg B (a + 1)) ((s_prs B (s_sg B a) (s_sg B (a + 1)) (a + 1 + 1)).2 + 1) (fun j => s_h2 B (a + 1 + 1 + 2 * j))).2.1 (s_cdw B sz (s_sg B a) (s_sg B (a + 1)) ((s_prs B (s_sg B a) (s_sg B (a + 1)) (a + 1 + 1)).2 + 1) (fun j => s_h2 B (a + 1 + 1 + 2 * j))).2.2
          else (false, (s_cdw B sz (s_sg B a) (s_sg B (a + 1)) ((s_prs B (s_sg B a) (s_sg B (a + 1)) (a + 1 + 1)).2 + 1) (fun j => s_h2 B (a + 1 + 1 + 2 * j))).2.1, fun _ => 0))
        else (false, (s_prs B (s_sg B a) (s_sg B (a + 1)) (a + 1 + 1)).2, fun _ => 0))
      else (false, (s_prs B (s_sg B a) (s_sg B (a + 1)) (a + 1 + 1)).2, fun _ => 0))
    else (false, a + 1, fun _ => 0))
  else (false, a, fun _ => 0)
set_option maxHeartbeats 4000000 in
set_option maxRecDepth 20000 in
theorem c_splitIn {Z : q_Z} {m : q_Mm} {d : Nat} {B : List Nat} {a sz : Nat} (hO : Oct m 6 B) (ha : m.1 16 5 = nI a) (hl : a ≤ B.length) (hsz : m.1 16 3 = nI sz) (hz : sz ≤ 16) : q_V (q_g Z) mX0_splitIn (d+3) 0 0 0 [some (.ref (q_ad Z 16)), none, none, none] [] (q_W Z m) (q_P Z fun r m2 => r = some (.int (q_b (s_sIn B sz a).1)) ∧ Fr [16, 17, 18] m m2 ∧ Kp 16 [5, 6] m m2 ∧ m2.1 16 5 = nI (s_sIn B sz a).2.1 ∧ (s_sIn B sz a).2.1 ≤ B.length ∧ ((s_sIn B sz a).1 = true → ∀ i, i < sz → m2.2.2.2.1 17 i = (s_sIn B sz a).2.2 i)) := by
  have hb := hO.2.1
  obtain ⟨R, hR⟩ : ∃ R, s_sIn B sz a = R := ⟨_, rfl⟩
  rw [hR]
  unfold s_sIn at hR
  have hc0 := s_sg_lt hO a
  have hc1 := s_sg_lt hO (a + 1)
  refine q_aload_n (pc' := 1) dX0_splitIn_0 rfl rfl ?_
  refine q_iconst (pc' := 2) (v := nI 4) dX0_splitIn_1 rfl rfl ?_
  refine q_bipush (pc' := 4) (v := nI 16) dX0_splitIn_2 rfl rfl ?_
  refine h_callV (pc' := 7) (M' := mX0_octetIn) (As := [_, _]) dX0_splitIn_4 iX0_octetIn lX0_31 rfl rfl rfl rfl (Nat.le_of_ble_eq_true rfl) (Nat.le_of_ble_eq_true rfl) rfl rfl ((c_octetIn hO ha hl (by decide) (by decide)).up (Nat.zero_le _)) (fun r m' hq => ?_)
  obtain ⟨rfl, t1, e1⟩ := hq
  refine q_if_neB (tgt := 12) (pc' := 10) dX0_splitIn_7 (by decide) rfl (fun c_7 => ?_) (fun c_7 => ?_)
  rotate_left
  · rw [if_neg (by rw [c_7]; decide)] at t1 hR
    subst hR
    refine q_iconst (pc' := 11) (v := nI 0) dX0_splitIn_10 rfl rfl ?_
    refine q_iret dX0_splitIn_11 rfl (by first | exact q_nb0 | exact q_nb1 | exact q_nb _) ⟨_, rfl, rfl, t1.1.mono (by decide), t1.2.1.mono (by decide), t1.2.2, hl, fun z => by cases z⟩
  rw [if_pos c_7] at t1 hR
  have e1 := e1 c_7
  have l1 := s_oc_lt c_7
  have hO1 := hO.fr t1.1 (by decide) (by decide)
  refine q_aload_n (pc' := 13) dX0_splitIn_12 rfl rfl ?_
  refine h_getjE (pc' := 16) dX0_splitIn_13 fX0_35 rfl rfl (e1) rfl ?_
  refine q_l2i (pc' := 17) dX0_splitIn_16 rfl ?_
  rw [z_l2i (by omega)]
  obtain ⟨m1, hm1⟩ : ∃ z, z = m' := ⟨_, rfl⟩
  subst hm1
  refine q_istore_n (pc' := 18) (lv' := [_, _, _, _]) dX0_splitIn_17 (by decide) rfl rfl ?_
  refine q_aload_n (pc' := 19) dX0_splitIn_18 rfl rfl ?_
  refine q_iconst (pc' := 20) (v := nI 1) dX0_splitIn_19 rfl rfl ?_
  refine q_bipush (pc' := 22) (v := nI 8) dX0_splitIn_20 rfl rfl ?_
  refine h_callV (pc' := 25) (M' := mX0_octetIn) (As := [_, _]) dX0_splitIn_22 iX0_octetIn lX0_31 rfl rfl rfl rfl (Nat.le_of_ble_eq_true rfl) (Nat.le_of_ble_eq_true rfl) rfl rfl ((c_octetIn hO1 t1.2.2 (by omega) (by decide) (by decide)).up (Nat.zero_le _)) (fun r m' hq => ?_)
  obtain ⟨rfl, t2, e2⟩ := hq
  have t2 := t1.tr t2
  refine q_if_neB (tgt := 30) (pc' := 28) dX0_splitIn_25 (by decide) rfl (fun c_25 => ?_) (fun c_25 => ?_)
  rotate_left
  · rw [if_neg (by rw [c_25]; decide)] at t2 hR
    subst hR
    refine q_iconst (pc' := 29) (v := nI 0) dX0_splitIn_28 rfl rfl ?_
    refine q_iret dX0_splitIn_29 rfl (by first | exact q_nb0 | exact q_nb1 | exact q_nb _) ⟨_, rfl, rfl, t2.1.mono (by decide), t2.2.1.mono (by decide), t2.2.2, by show a + 1 ≤ _; omega, fun z => by cases z⟩
  rw [if_pos c_25] at t2 hR
  have e2 := e2 c_25
  have l2 := s_oc_lt c_25
  have hO2 := hO.fr t2.1 (by decide) (by decide)
  generalize hh : s_sg B a = h at l1 hR hc0
  generalize hpt : s_sg B (a + 1) = pt at e2 l2 hR hc1
  refine q_aload_n (pc' := 31) dX0_splitIn_30 rfl rfl ?_
  refine h_getjE (pc' := 34) dX0_splitIn_31 fX0_35 rfl rfl (e2) rfl ?_
  refine q_l2i (pc' := 35) dX0_splitIn_34 rfl ?_
  rw [z_l2i (by omega)]
  obtain ⟨m2, hm2⟩ : ∃ z, z = m' := ⟨_, rfl⟩
  subst hm2
  refine q_istore_n (pc' := 36) (lv' := [_, _, _, _]) dX0_splitIn_35 (by decide) rfl rfl ?_
  refine q_iconst (pc' := 37) (v := nI 0) dX0_splitIn_36 rfl rfl ?_
  refine q_istore_n (pc' := 38) (lv' := [_, _, _, _]) dX0_splitIn_37 (by decide) rfl rfl ?_
  obtain ⟨S, hS⟩ : ∃ S, s_prs B h pt (a + 1 + 1) = S := ⟨_, rfl⟩
  rw [hS] at hR
  have rest : ∀ m3, Fr [16, 18] m m3 → Kp 16 [5, 6] m m3 → S.1 = true → m3.1 16 5 = nI S.2 → S.2 ≤ B.length → (∀ j, j < pt → m3.2.2.1 18 j = nI (s_h2 B (a + 1 + 1 + 2 * j)) ∧ s_h2 B (a + 1 + 1 + 2 * j) < 2 ^ h) → q_V (q_g Z) mX0_splitIn (d+3) 0 0 70 [some (.ref (q_ad Z 16)), some (.int (nI h)), some (.int (nI pt)), some (.int (nI pt))] [] (q_W Z (m3)) (q_P Z fun r m2 => r = some (.int (q_b R.1)) ∧ Fr [16, 17, 18] m m2 ∧ Kp 16 [5, 6] m m2 ∧ m2.1 16 5 = nI R.2.1 ∧ R.2.1 ≤ B.length ∧ (R.1 = true → ∀ i, i < sz → m2.2.2.2.1 17 i = R.2.2 i)) := by
    intro m3 f3 k3 s1 e53 le3 hv
    rw [if_pos s1] at hR
    have hO3 := hO.fr f3 (by decide) (by decide)
    have hs3 := (k3 3 (by decide)).trans hsz
    have hcs := s_sg_lt hO S.2
    refine q_aload_n (pc' := 71) dX0_splitIn_70 rfl rfl ?_
    refine q_iconst (pc' := 72) (v := nI 0) dX0_splitIn_71 rfl rfl ?_
    refine q_aload_n (pc' := 73) dX0_splitIn_72 rfl rfl ?_
    refine h_getiE (pc' := 76) dX0_splitIn_73 fX0_39 rfl rfl (hs3) rfl ?_
    refine h_callV (pc' := 79) (M' := mX0_octetIn) (As := [_, _]) dX0_splitIn_76 iX0_octetIn lX0_31 rfl rfl rfl rfl (Nat.le_of_ble_eq_true rfl) (Nat.le_of_ble_eq_true rfl) rfl rfl ((c_octetIn hO3 e53 le3 (by decide) (by omega)).up (Nat.zero_le _)) (fun r m' hq => ?_)
    obtain ⟨rfl, t4, e4⟩ := hq
    have f4 : Fr [16, 18] m m' := f3.trans (t4.1.mono (by decide))
    have k4 : Kp 16 [5, 6] m m' := k3.trans (t4.2.1.mono (by decide))
    refine q_if_neB (tgt := 84) (pc' := 82) dX0_splitIn_79 (by decide) rfl (fun c_79 => ?_) (fun c_79 => ?_)
    rotate_left
    · rw [if_neg (by rw [c_79]; decide)] at t4 hR
      subst hR
      refine q_iconst (pc' := 83) (v := nI 0) dX0_splitIn_82 rfl rfl ?_
      refine q_iret dX0_splitIn_83 rfl (by first | exact q_nb0 | exact q_nb1 | exact q_nb _) ⟨_, rfl, rfl, f4.mono (by decide), k4, t4.2.2, le3, fun z => by cases z⟩
    rw [if_pos c_79] at t4 hR
    have e4 := e4 c_79
    have l4 := s_oc_lt c_79
    have hO4 := hO.fr f4 (by decide) (by decide)
    refine q_aload_n (pc' := 85) dX0_splitIn_84 rfl rfl ?_
    refine h_getjE (pc' := 88) dX0_splitIn_85 fX0_35 rfl rfl (e4) rfl ?_
    refine q_l2i (pc' := 89) dX0_splitIn_88 rfl ?_
    rw [z_l2i (by omega)]
    obtain ⟨m5, hm5⟩ : ∃ z, z = m' := ⟨_, rfl⟩
    subst hm5
    refine q_istore_n (pc' := 90) (lv' := [_, _, _, _]) dX0_splitIn_89 (by decide) rfl rfl ?_
    refine q_aload_n (pc' := 91) dX0_splitIn_90 rfl rfl ?_
    refine q_iload_n (pc' := 92) dX0_splitIn_91 rfl rfl ?_
    refine q_iload_n (pc' := 93) dX0_splitIn_92 rfl rfl ?_
    refine h_callV (pc' := 96) (M' := mX0_codesIn) (As := [_, _]) dX0_splitIn_93 iX0_codesIn lX0_102 rfl rfl rfl rfl (Nat.le_of_ble_eq_true rfl) (Nat.le_of_ble_eq_true rfl) rfl rfl (c_codesIn (hi := fun j => s_h2 B (a + 1 + 1 + 2 * j)) hO4 t4.2.2 (by omega) ((k4 3 (by decide)).trans hsz) hz ⟨by omega, by omega⟩ ⟨by omega, by omega⟩ (fun j hj => ⟨(congrFun (t4.1.a (by decide)) j).trans (hv j hj).1, (hv j hj).2⟩)) (fun r m' hq => ?_)
    obtain ⟨rfl, f6, k6, e56, le6, v6⟩ := hq
    generalize s_cdw B sz h pt (S.2 + 1) (fun j => s_h2 B (a + 1 + 1 + 2 * j)) = Q at hR e56 le6 v6
    have f7 : Fr [16, 17, 18] m m' := (f4.mono (by decide)).trans (f6.mono (by decide))
    have k7 : Kp 16 [5, 6] m m' := k4.trans k6
    refine q_if_eqB (tgt := 112) (pc' := 99) dX0_splitIn_96 (by decide) rfl (fun c_96 => ?_) (fun c_96 => ?_)
    · rw [if_neg (by rw [c_96]; decide)] at hR
      subst hR
      refine q_iconst (pc' := 113) (v := nI 0) dX0_splitIn_112 rfl rfl ?_
      refine q_iret dX0_splitIn_113 rfl (by first | exact q_nb0 | exact q_nb1 | exact q_nb _) ⟨_, rfl, rfl, f7, k7, e56, le6, fun z => by cases z⟩
    rw [if_pos c_96] at hR
    obtain ⟨m8, hm8⟩ : ∃ z, z = m' := ⟨_, rfl⟩
    subst hm8
    refine q_aload_n (pc' := 100) dX0_splitIn_99 rfl rfl ?_
    refine q_iload_n (pc' := 101) dX0_splitIn_100 rfl rfl ?_
    refine q_iload_n (pc' := 102) dX0_splitIn_101 rfl rfl ?_
    refine h_callV (pc' := 105) (M' := mX0_splitExceptionsIn) (As := [_, _]) dX0_splitIn_102 iX0_splitExceptionsIn lX0_105 rfl rfl rfl rfl (Nat.le_of_ble_eq_true rfl) (Nat.le_of_ble_eq_true rfl) rfl rfl (c_splitExc (hO.fr f7 (by decide) (by decide)) e56 le6 ((k7 3 (by decide)).trans hsz) hz l4.2.2 ⟨by omega, by omega⟩ (v6 c_96)) (fun r m' hq => ?_)
    obtain ⟨rfl, f8, k8, e58, le8, v8⟩ := hq
    rw [hR] at e58 le8 v8 ⊢
    have f9 : Fr [16, 17, 18] m m' := f7.trans (f8.mono (by decide))
    have k9 : Kp 16 [5, 6] m m' := k7.trans (k8.mono (by decide))
    refine q_if_eqB (tgt := 112) (pc' := 108) dX0_splitIn_105 (by decide) rfl (fun c_105 => ?_) (fun c_105 => ?_)
    · refine q_iconst (pc' := 113) (v := nI 0) dX0_splitIn_112 rfl rfl ?_
      refine q_iret dX0_splitIn_113 rfl (by first | exact q_nb0 | exact q_nb1 | exact q_nb _) ⟨_, rfl, by rw [c_105]; rfl, f9, k9, e58, le8, v8⟩
    · refine q_iconst (pc' := 109) (v := nI 1) dX0_splitIn_108 rfl rfl ?_
      refine q_goto (pc' := 113) dX0_splitIn_109 (by decide) ?_
      refine q_iret dX0_splitIn_113 rfl (by first | exact q_nb0 | exact q_nb1 | exact q_nb _) ⟨_, rfl, by rw [c_105]; rfl, f9, k9, e58, le8, v8⟩
  suffices hl2 : ∀ k j b m3, j + k = pt → b = a + 1 + 1 + 2 * j → b ≤ B.length → Fr [16, 18] m m3 → Kp 16 [5, 6] m m3 → m3.1 16 5 = nI b → (∀ i, i < j → m3.2.2.1 18 i = nI (s_h2 B (a + 1 + 1 + 2 * i)) ∧ s_h2 B (a + 1 + 1 + 2 * i) < 2 ^ h) → s_prs B h k b = S → q_V (q_g Z) mX0_splitIn (d+3) 0 0 38 [some (.ref (q_ad Z 16)), some (.int (nI h)), some (.int (nI pt)), some (.int (nI j))] [] (q_W Z (m3)) (q_P Z fun r m2 => r = some (.int (q_b R.1)) ∧ Fr [16, 17, 18] m m2 ∧ Kp 16 [5, 6] m m2 ∧ m2.1 16 5 = nI R.2.1 ∧ R.2.1 ≤ B.length ∧ (R.1 = true → ∀ i, i < sz → m2.2.2.2.1 17 i = R.2.2 i)) from hl2 pt 0 (a + 1 + 1) m2 (by omega) rfl (by omega) (t2.1.mono (by decide)) (t2.2.1.mono (by decide)) t2.2.2 (fun i hi => absurd hi (by omega)) hS
  intro k
  induction k with
  | zero =>
    intro j b m3 hj hbj hbl f3 k3 e5 hv hs
    have hs : (true, b) = S := hs
    obtain rfl : j = pt := by omega
    refine q_iload_n (pc' := 39) dX0_splitIn_38 rfl rfl ?_
    refine q_iload_n (pc' := 40) dX0_splitIn_39 rfl rfl ?_
    refine q_icmp_geN (tgt := 70) (pc' := 43) dX0_splitIn_40 (by decide) rfl (by omega) (fun c_40 => ?_) (fun c_40 => ?_)
    · exact rest m3 f3 k3 (by rw [← hs]) (by rw [← hs]; exact e5) (by rw [← hs]; exact hbl) hv
    · omega
  | succ k ih =>
    intro j b m3 hj hbj hbl f3 k3 e5 hv hs
    unfold s_prs at hs
    have hO3 := hO.fr f3 (by decide) (by decide)
    have hle := s_hat_le (B := B) (h := h) hbl
    have hcb := s_sg_lt hO b
    have hcb1 := s_sg_lt hO (b + 1)
    refine q_iload_n (pc' := 39) dX0_splitIn_38 rfl rfl ?_
    refine q_iload_n (pc' := 40) dX0_splitIn_39 rfl rfl ?_
    refine q_icmp_geN (tgt := 70) (pc' := 43) dX0_splitIn_40 (by decide) rfl (by omega) (fun c_40 => ?_) (fun c_40 => ?_)
    · omega
    refine q_aload_n (pc' := 44) dX0_splitIn_43 rfl rfl ?_
    refine q_iload_n (pc' := 45) dX0_splitIn_44 rfl rfl ?_
    refine h_callV (pc' := 48) (M' := mX0_highIn) (As := [_]) dX0_splitIn_45 iX0_highIn lX0_99 rfl rfl rfl rfl (Nat.le_of_ble_eq_true rfl) (Nat.le_of_ble_eq_true rfl) rfl rfl ((c_highIn (d := d) hO3 e5 hbl ⟨by omega, by omega⟩).up (by omega)) (fun r m' hq => ?_)
    obtain ⟨rfl, t4, e4⟩ := hq
    have f4 : Fr [16, 18] m m' := f3.trans (t4.1.mono (by decide))
    have k4 : Kp 16 [5, 6] m m' := k3.trans (t4.2.1.mono (by decide))
    refine q_if_neB (tgt := 53) (pc' := 51) dX0_splitIn_48 (by decide) rfl (fun c_48 => ?_) (fun c_48 => ?_)
    rotate_left
    · rw [if_neg (by rw [c_48]; decide)] at hs
      subst hs
      rw [if_neg (by simp)] at hR
      subst hR
      refine q_iconst (pc' := 52) (v := nI 0) dX0_splitIn_51 rfl rfl ?_
      refine q_iret dX0_splitIn_52 rfl (by first | exact q_nb0 | exact q_nb1 | exact q_nb _) ⟨_, rfl, rfl, f4.mono (by decide), k4, t4.2.2, hle, fun z => by cases z⟩
    rw [if_pos c_48] at hs
    obtain ⟨hat, hale⟩ := s_hok2_at c_48
    have e4 := e4 c_48
    have hlt2 := s_h2_lt c_48
    refine q_aload_n (pc' := 54) dX0_splitIn_53 rfl rfl ?_
    refine h_getr (pc' := 57) dX0_splitIn_54 fX0_15 rfl rfl rfl ?_
    refine q_iload_n (pc' := 58) dX0_splitIn_57 rfl rfl ?_
    refine q_aload_n (pc' := 59) dX0_splitIn_58 rfl rfl ?_
    refine h_getjE (pc' := 62) dX0_splitIn_59 fX0_35 rfl rfl (e4) rfl ?_
    refine q_l2i (pc' := 63) dX0_splitIn_62 rfl ?_
    rw [z_l2i (by unfold s_h2; omega)]
    refine h_iast (pc' := 64) dX0_splitIn_63 rfl (rfl) (by omega) (by decide) rfl ?_
    refine q_iincN (pc' := 67) (j := 1) (lv' := [_, _, _, _]) dX0_splitIn_64 rfl (by decide) rfl rfl ?_
    refine q_goto (pc' := 38) dX0_splitIn_67 (by decide) ?_
    refine ih (j + 1) _ _ (by omega) (by omega) hale (f4.A (by decide)) k4 (by rw [← hat]; exact t4.2.2) (fun i hi => ?_) hs
    by_cases z : i = j
    · refine ⟨?_, by rw [z, ← hbj]; exact hlt2⟩
      show q_u (m'.2.2.1 18) j _ i = _
      rw [z, q_u_s, hbj]
    · refine ⟨?_, (hv i (by omega)).2⟩
      show q_u (m'.2.2.1 18) j _ i = _
      rw [q_u_n _ _ z]
      exact (congrFun (t4.1.a (by decide)) i).trans (hv i (by omega)).1
/-- the VALUES of a BLOCK in a FORM -/
def s_vIn (B : List Nat) (fm sz a : Nat) : Bool × Nat × (Nat → Int64) :=
  if fm = 0 then (decide (a + 8 * sz ≤ B.length), (if a + 8 * sz ≤ B.length then a + 8 * sz else B.length), fun i => lN (s_ln B (a + 8 * i) 8))
  else if fm = 1 then s_dIn B sz a else s_sIn B sz a
set_option maxHeartbeats 4000000 in
set_option maxRecDepth 20000 in
theorem c_valuesIn {Z : q_Z} {m : q_Mm} {d : Nat} {B : List Nat} {a fm sz : Nat} (hD : DblOk m) (hO : Oct m 6 B) (ha : m.1 16 5 = nI a) (hl : a ≤ B.length) (hsz : m.1 16 3 = nI sz) (hz : sz ≤ 16) (hfm : fm < 3) : q_V (q_g Z) mX0_valuesIn (d+4) 0 0 0 [some (.ref (q_ad Z 16)), some (.int (nI fm))] [] (q_W Z m) (q_P Z fun r m2 => r = some (.int (q_b (s_vIn B fm sz a).1)) ∧ Fr [16, 17, 18] m m2 ∧ Kp 16 [5, 6] m m2 ∧ m2.1 16 5 = nI (s_vIn B fm sz a).2.1 ∧ (s_vIn B fm sz a).2.1 ≤ B.length ∧ ((s_vIn B fm sz a).1 = true → ∀ i, i < sz → m2.2.2.2.1 17 i = (s_vIn B fm sz a).2.2 i)) := by
  unfold s_vIn
  refine q_iload_n (pc' := 1) dX0_valuesIn_0 rfl rfl ?_
  refine q_if_neN (tgt := 9) (pc' := 4) dX0_valuesIn_1 (by decide) rfl (by omega) (fun c_1 => ?_) (fun c_1 => ?_)
  rotate_left
  · rw [if_pos c_1]
    refine q_aload_n (pc' := 5) dX0_valuesIn_4 rfl rfl ?_
    refine h_callV (pc' := 8) (M' := mX0_rawIn) (As := []) dX0_valuesIn_5 iX0_rawIn lX0_55 rfl rfl rfl rfl (Nat.le_of_ble_eq_true rfl) (Nat.le_of_ble_eq_true rfl) rfl rfl ((c_rawIn (d := d) hO ha hl hsz hz).up (by omega)) (fun r m' hq => ?_)
    obtain ⟨rfl, f1, k1, e5, v1⟩ := hq
    refine q_iret dX0_valuesIn_8 rfl (by first | exact q_nb0 | exact q_nb1 | exact q_nb _) ⟨_, rfl, rfl, f1.mono (by decide), k1.mono (by decide), e5, by show (if _ then _ else _) ≤ _; split <;> omega, fun z => v1 (of_decide_eq_true z)⟩
  rw [if_neg (by omega)]
  refine q_iload_n (pc' := 10) dX0_valuesIn_9 rfl rfl ?_
  refine q_iconst (pc' := 11) (v := nI 1) dX0_valuesIn_10 rfl rfl ?_
  refine q_icmp_neN (tgt := 21) (pc' := 14) dX0_valuesIn_11 (by decide) rfl (by omega) (fun c_11 => ?_) (fun c_11 => ?_)
  · rw [if_neg c_11]
    refine q_aload_n (pc' := 22) dX0_valuesIn_21 rfl rfl ?_
    refine h_callV (pc' := 25) (M' := mX0_splitIn) (As := []) dX0_valuesIn_22 iX0_splitIn lX0_61 rfl rfl rfl rfl (Nat.le_of_ble_eq_true rfl) (Nat.le_of_ble_eq_true rfl) rfl rfl (c_splitIn hO ha hl hsz hz) (fun r m' hq => ?_)
    obtain ⟨rfl, h9⟩ := hq
    refine q_iret dX0_valuesIn_25 rfl (by first | exact q_nb0 | exact q_nb1 | exact q_nb _) ⟨_, rfl, rfl, h9⟩
  · rw [if_pos c_11]
    refine q_aload_n (pc' := 15) dX0_valuesIn_14 rfl rfl ?_
    refine h_callV (pc' := 18) (M' := mX0_decimalIn) (As := []) dX0_valuesIn_15 iX0_decimalIn lX0_58 rfl rfl rfl rfl (Nat.le_of_ble_eq_true rfl) (Nat.le_of_ble_eq_true rfl) rfl rfl (c_decimalIn hD hO ha hl hsz hz) (fun r m' hq => ?_)
    obtain ⟨rfl, f1, h9⟩ := hq
    refine q_goto (pc' := 25) dX0_valuesIn_18 (by decide) ?_
    refine q_iret dX0_valuesIn_25 rfl (by first | exact q_nb0 | exact q_nb1 | exact q_nb _) ⟨_, rfl, rfl, f1.mono (by decide), h9⟩
/-- a BLOCK: the FAULT, if there is one, how many VALUES, VALUES -/
def s_bkk (B : List Nat) : Option Nat × Nat × (Nat → Int64) :=
  if s_oc B 0 0 2 = true then
    (if s_oc B 1 1 16 = true then
      (if (s_vIn B (s_sg B 0) (s_sg B 1) 2).1 = true then
        (if s_oc B (s_vIn B (s_sg B 0) (s_sg B 1) 2).2.1 (s_cN B (s_vIn B (s_sg B 0) (s_sg B 1) 2).2.1) (s_cN B (s_vIn B (s_sg B 0) (s_sg B 1) 2).2.1) = true then
          (if (s_vIn B (s_sg B 0) (s_sg B 1) 2).2.1 + 1 < B.length then (some ((s_vIn B (s_sg B 0) (s_sg B 1) 2).2.1 + 1), 0, fun _ => 0)
          else (none, s_sg B 1, (s_vIn B (s_sg B 0) (s_sg B 1) 2).2.2))
        else (some (s_vIn B (s_sg B 0) (s_sg B 1) 2).2.1, 0, fun _ => 0))
      else (some (s_vIn B (s_sg B 0) (s_sg B 1) 2).2.1, 0, fun _ => 0))
    else (some 1, 0, fun _ => 0))
  else (some 0, 0, fun _ => 0)
set_option maxHeartbeats 4000000 in
set_option maxRecDepth 20000 in
theorem c_readB {Z : q_Z} {m : q_Mm} {d : Nat} {B : List Nat} (hD : DblOk m) (hO : Oct m 6 B) : q_V (q_g Z) mX0_read (d+5) 0 0 0 [some (.ref (q_ad Z 16)), none] [] (q_W Z m) (q_P Z fun r m2 => r = some (.int (s_on (s_bkk B).1)) ∧ Fr [16, 17, 18] m m2 ∧ (∀ a, (s_bkk B).1 = some a → a ≤ 320) ∧ ((s_bkk B).1 = none → m2.1 16 3 = nI (s_bkk B).2.1 ∧ (s_bkk B).2.1 ≤ 16 ∧ 1 ≤ (s_bkk B).2.1 ∧ ∀ i, i < (s_bkk B).2.1 → m2.2.2.2.1 17 i = (s_bkk B).2.2 i)) := by
  have hb := hO.2.1
  obtain ⟨R, hR⟩ : ∃ R, s_bkk B = R := ⟨_, rfl⟩
  rw [hR]
  unfold s_bkk at hR
  have hc0 := s_sg_lt hO 0
  have hc1 := s_sg_lt hO 1
  have fI : Fr [16] m (sI m 16 5 (nI 0)) := Fr.rf.I (by decide)
  have hO0 := hO.fr fI (by decide) (by decide)
  refine q_aload_n (pc' := 1) dX0_read_0 rfl rfl ?_
  refine q_iconst (pc' := 2) (v := nI 0) dX0_read_1 rfl rfl ?_
  refine h_puti (pc' := 5) dX0_read_2 fX0_27 rfl rfl rfl rfl rfl ?_
  refine q_aload_n (pc' := 6) dX0_read_5 rfl rfl ?_
  refine q_iconst (pc' := 7) (v := nI 0) dX0_read_6 rfl rfl ?_
  refine q_iconst (pc' := 8) (v := nI 2) dX0_read_7 rfl rfl ?_
  refine h_callV (pc' := 11) (M' := mX0_octetIn) (As := [_, _]) dX0_read_8 iX0_octetIn lX0_31 rfl rfl rfl rfl (Nat.le_of_ble_eq_true rfl) (Nat.le_of_ble_eq_true rfl) rfl rfl ((c_octetIn (a := 0) hO0 rfl (Nat.zero_le _) (by decide) (by decide)).up (Nat.zero_le _)) (fun r m' hq => ?_)
  obtain ⟨rfl, t1, e1⟩ := hq
  have f1 : Fr [16] m m' := fI.trans t1.1
  refine q_if_neB (tgt := 19) (pc' := 14) dX0_read_11 (by decide) rfl (fun c_11 => ?_) (fun c_11 => ?_)
  rotate_left
  · rw [if_neg (by rw [c_11]; decide)] at t1 hR
    subst hR
    refine q_aload_n (pc' := 15) dX0_read_14 rfl rfl ?_
    refine h_getiE (pc' := 18) dX0_read_15 fX0_27 rfl rfl (t1.2.2) rfl ?_
    refine q_iret dX0_read_18 rfl rfl ⟨_, rfl, rfl, f1.mono (by decide), fun z hz => by cases hz; decide, fun z => by cases z⟩
  rw [if_pos c_11] at t1 hR
  have e1 := e1 c_11
  have l1 := s_oc_lt c_11
  have hO1 := hO.fr f1 (by decide) (by decide)
  generalize hfm : s_sg B 0 = fm at e1 l1 hR hc0
  refine q_aload_n (pc' := 20) dX0_read_19 rfl rfl ?_
  refine h_getjE (pc' := 23) dX0_read_20 fX0_35 rfl rfl (e1) rfl ?_
  refine q_l2i (pc' := 24) dX0_read_23 rfl ?_
  rw [z_l2i (by omega)]
  obtain ⟨m1, hm1⟩ : ∃ z, z = m' := ⟨_, rfl⟩
  subst hm1
  refine q_istore_n (pc' := 25) (lv' := [_, _]) dX0_read_24 (by decide) rfl rfl ?_
  refine q_aload_n (pc' := 26) dX0_read_25 rfl rfl ?_
  refine q_iconst (pc' := 27) (v := nI 1) dX0_read_26 rfl rfl ?_
  refine q_bipush (pc' := 29) (v := nI 16) dX0_read_27 rfl rfl ?_
  refine h_callV (pc' := 32) (M' := mX0_octetIn) (As := [_, _]) dX0_read_29 iX0_octetIn lX0_31 rfl rfl rfl rfl (Nat.le_of_ble_eq_true rfl) (Nat.le_of_ble_eq_true rfl) rfl rfl ((c_octetIn (a := 1) hO1 t1.2.2 (by omega) (by decide) (by decide)).up (Nat.zero_le _)) (fun r m' hq => ?_)
  obtain ⟨rfl, t2, e2⟩ := hq
  have f2 : Fr [16] m m' := f1.trans t2.1
  refine q_if_neB (tgt := 40) (pc' := 35) dX0_read_32 (by decide) rfl (fun c_32 => ?_) (fun c_32 => ?_)
  rotate_left
  · rw [if_neg (by rw [c_32]; decide)] at t2 hR
    subst hR
    refine q_aload_n (pc' := 36) dX0_read_35 rfl rfl ?_
    refine h_getiE (pc' := 39) dX0_read_36 fX0_27 rfl rfl (t2.2.2) rfl ?_
    refine q_iret dX0_read_39 rfl rfl ⟨_, rfl, rfl, f2.mono (by decide), fun z hz => by cases hz; decide, fun z => by cases z⟩
  rw [if_pos c_32] at t2 hR
  have e2 := e2 c_32
  have l2 := s_oc_lt c_32
  generalize hsz : s_sg B 1 = sz at e2 l2 hR hc1
  refine q_aload_n (pc' := 41) dX0_read_40 rfl rfl ?_
  refine q_aload_n (pc' := 42) dX0_read_41 rfl rfl ?_
  refine h_getjE (pc' := 45) dX0_read_42 fX0_35 rfl rfl (e2) rfl ?_
  refine q_l2i (pc' := 46) dX0_read_45 rfl ?_
  rw [z_l2i (by omega)]
  generalize hm3 : m' = m3 at t2 f2
  refine h_puti (pc' := 49) dX0_read_46 fX0_39 rfl rfl rfl rfl rfl ?_
  have f3 : Fr [16] m (sI m3 16 3 (nI sz)) := f2.I (by decide)
  have e53 : (sI m3 16 3 (nI sz)).1 16 5 = nI 2 := t2.2.2
  have e33 : (sI m3 16 3 (nI sz)).1 16 3 = nI sz := rfl
  generalize sI m3 16 3 (nI sz) = m4 at f3 e53 e33
  refine q_aload_n (pc' := 50) dX0_read_49 rfl rfl ?_
  refine q_iload_n (pc' := 51) dX0_read_50 rfl rfl ?_
  refine h_callV (pc' := 54) (M' := mX0_valuesIn) (As := [_]) dX0_read_51 iX0_valuesIn lX0_42 rfl rfl rfl rfl (Nat.le_of_ble_eq_true rfl) (Nat.le_of_ble_eq_true rfl) rfl rfl (c_valuesIn (hD.fr f3 (by decide) (by decide) (by decide) (by decide)) (hO.fr f3 (by decide) (by decide)) e53 (by omega) e33 l2.2.2 (by omega)) (fun r m' hq => ?_)
  obtain ⟨rfl, f5, k5, e55, le5, v5⟩ := hq
  have f6 : Fr [16, 17, 18] m m' := (f3.mono (by decide)).trans f5
  generalize s_vIn B fm sz 2 = S at hR e55 le5 v5
  refine q_if_eqB (tgt := 64) (pc' := 57) dX0_read_54 (by decide) rfl (fun c_54 => ?_) (fun c_54 => ?_)
  · rw [if_neg (by rw [c_54]; decide)] at hR
    subst hR
    refine q_aload_n (pc' := 65) dX0_read_64 rfl rfl ?_
    refine h_getiE (pc' := 68) dX0_read_65 fX0_27 rfl rfl (e55) rfl ?_
    refine q_iret dX0_read_68 rfl rfl ⟨_, rfl, rfl, f6, fun z hz => by cases hz; omega, fun z => by cases z⟩
  rw [if_pos c_54] at hR
  have v5 := v5 c_54
  obtain ⟨m7, hm7⟩ : ∃ z, z = m' := ⟨_, rfl⟩
  subst hm7
  refine q_aload_n (pc' := 58) dX0_read_57 rfl rfl ?_
  refine h_callV (pc' := 61) (M' := mX0_checkIn) (As := []) dX0_read_58 iX0_checkIn lX0_46 rfl rfl rfl rfl (Nat.le_of_ble_eq_true rfl) (Nat.le_of_ble_eq_true rfl) rfl rfl ((c_checkIn (d := d) (hO.fr f6 (by decide) (by decide)) e55 le5).up (by omega)) (fun r m' hq => ?_)
  obtain ⟨rfl, t8⟩ := hq
  have f8 : Fr [16, 17, 18] m m' := f6.trans (t8.1.mono (by decide))
  refine q_if_neB (tgt := 69) (pc' := 64) dX0_read_61 (by decide) rfl (fun c_61 => ?_) (fun c_61 => ?_)
  rotate_left
  · rw [if_neg (by rw [c_61]; decide)] at hR t8
    subst hR
    refine q_aload_n (pc' := 65) dX0_read_64 rfl rfl ?_
    refine h_getiE (pc' := 68) dX0_read_65 fX0_27 rfl rfl (t8.2.2) rfl ?_
    refine q_iret dX0_read_68 rfl rfl ⟨_, rfl, rfl, f8, fun z hz => by cases hz; omega, fun z => by cases z⟩
  rw [if_pos c_61] at hR t8
  have l8 := s_oc_lt c_61
  have hO8 := hO.fr f8 (by decide) (by decide)
  refine q_aload_n (pc' := 70) dX0_read_69 rfl rfl ?_
  refine h_getiE (pc' := 73) dX0_read_70 fX0_27 rfl rfl (t8.2.2) rfl ?_
  refine q_aload_n (pc' := 74) dX0_read_73 rfl rfl ?_
  refine h_getr (pc' := 77) dX0_read_74 fX0_19 rfl rfl rfl ?_
  refine h_getiE (pc' := 80) dX0_read_77 fX0_50 rfl rfl (hO8.1) rfl ?_
  refine q_icmp_geN (tgt := 90) (pc' := 83) dX0_read_80 (by decide) rfl (by omega) (fun c_80 => ?_) (fun c_80 => ?_)
  · rw [if_neg (by omega)] at hR
    subst hR
    refine q_iconst (pc' := 91) (v := (-1)) dX0_read_90 rfl rfl ?_
    refine q_iret dX0_read_91 rfl rfl ⟨_, rfl, rfl, f8, (fun z hz => by cases hz), fun _ => ⟨(t8.2.1 3 (by decide)).trans ((k5 3 (by decide)).trans e33), l2.2.2, l2.2.1, fun i hi => (congrFun (t8.1.l (by decide)) i).trans (v5 i hi)⟩⟩
  · rw [if_pos c_80] at hR
    subst hR
    refine q_aload_n (pc' := 84) dX0_read_83 rfl rfl ?_
    refine h_getiE (pc' := 87) dX0_read_84 fX0_27 rfl rfl (t8.2.2) rfl ?_
    refine q_goto (pc' := 91) dX0_read_87 (by decide) ?_
    refine q_iret dX0_read_91 rfl rfl ⟨_, rfl, rfl, f8, fun z hz => by cases hz; omega, fun z => by cases z⟩
