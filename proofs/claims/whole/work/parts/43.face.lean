/-! ===== GuisePack's face: saved ===== -/
theorem s_bnd {w : Nat} {y : Int32} (hw : w < 5) (hb : s_isBound w y = true) : ∃ v, y = nI v ∧ v ≤ 16 ∧ ∀ rl, s_rok rl → s_rok (q_u rl w v) := by
  unfold s_isBound at hb
  have hb := of_decide_eq_true hb
  have key : ∀ lo hi : Nat, (q_low w).toInt = (lo : Int) → (q_high w).toInt = (hi : Int) → hi ≤ 16 → ∃ v, y = nI v ∧ lo ≤ v ∧ v ≤ hi := by
    intro lo hi h1 h2 h3
    rw [h1, h2] at hb
    obtain ⟨v, hv, rfl⟩ := z_ex (x := y) (n := 17) (by omega) (by omega) (by omega)
    rw [z_n (by omega)] at hb
    exact ⟨v, rfl, by omega, by omega⟩
  match w, hw with
  | 0, _ =>
    obtain ⟨v, rfl, a, b⟩ := key 2 16 (by decide) (by decide) (by omega)
    exact ⟨v, rfl, by omega, fun rl hr => ⟨⟨a, b⟩, hr.2.1, hr.2.2.1, hr.2.2.2.1, hr.2.2.2.2⟩⟩
  | 1, _ =>
    obtain ⟨v, rfl, a, b⟩ := key 1 16 (by decide) (by decide) (by omega)
    exact ⟨v, rfl, by omega, fun rl hr => ⟨hr.1, ⟨a, b⟩, hr.2.2.1, hr.2.2.2.1, hr.2.2.2.2⟩⟩
  | 2, _ =>
    obtain ⟨v, rfl, a, b⟩ := key 0 14 (by decide) (by decide) (by omega)
    exact ⟨v, rfl, by omega, fun rl hr => ⟨hr.1, hr.2.1, b, hr.2.2.2.1, hr.2.2.2.2⟩⟩
  | 3, _ =>
    obtain ⟨v, rfl, a, b⟩ := key 4 16 (by decide) (by decide) (by omega)
    exact ⟨v, rfl, by omega, fun rl hr => ⟨hr.1, hr.2.1, hr.2.2.1, ⟨a, b⟩, hr.2.2.2.2⟩⟩
  | 4, _ =>
    obtain ⟨v, rfl, a, b⟩ := key 1 8 (by decide) (by decide) (by omega)
    exact ⟨v, rfl, by omega, fun rl hr => ⟨hr.1, hr.2.1, hr.2.2.1, hr.2.2.2.1, ⟨a, b⟩⟩⟩
theorem z_rule {x : Int32} (h : s_isRule x = true) : ∃ w, x = nI w ∧ w < 5 := by
  unfold s_isRule at h
  have h := of_decide_eq_true h
  obtain ⟨w, hw, rfl⟩ := z_ex (x := x) (n := 5) h.1 (by have := h.2; omega) (by omega)
  exact ⟨w, rfl, hw⟩
set_option maxHeartbeats 4000000 in
set_option maxRecDepth 20000 in
theorem c_saved {Z : q_Z} {m : q_Mm} {d : Nat} {n k : Nat} {st t : Bool} {x y : Int32} {rl : Nat → Nat} {xs : Nat → Int64} {nt : Nat → Int32} (h : Cls m st n k rl xs nt) (ht : m.1 0 14 = q_b t) : q_V (q_g Z) mX10_saved (d+6) 0 0 0 [some (.ref (q_ad Z 0)), some (.int x), some (.int y), none] [] (q_W Z m) (q_P Z fun r m2 => r = some (.int (if t = true ∧ s_isRule x = true ∧ s_isBound (s_i x) y = true then nI (s_tot n rl xs) - nI (s_tot n (q_u rl (s_i x) (s_i y)) xs) else -1000000)) ∧ (∃ st2, Cls m2 st2 n k rl xs nt) ∧ Fr s_SA m m2 ∧ Kp 0 [16] m m2) := by
  have hn := h.2.2.2.1.2.2.1
  have hr := h.2.2.2.1.2.2.2.2.2.2.2
  refine q_aload_n (pc' := 1) dX10_saved_0 rfl rfl ?_
  refine h_getiE (pc' := 4) dX10_saved_1 fX10_122 rfl rfl (ht) rfl ?_
  refine q_if_eqB (tgt := 22) (pc' := 7) dX10_saved_4 (by decide) rfl (fun c_4 => ?_) (fun c_4 => ?_)
  · refine q_ldc (pc' := 24) dX10_saved_22 kX10_157 rfl ?_
    refine q_iret dX10_saved_24 rfl rfl ⟨_, rfl, by rw [if_neg (fun z => by rw [c_4] at z; exact absurd z.1 (by decide))], ⟨st, h⟩, Fr.rf, Kp.rf⟩
  refine q_iload_n (pc' := 8) dX10_saved_7 rfl rfl ?_
  refine h_callS (pc' := 11) (M' := mX10_isRule) (As := [_]) dX10_saved_8 iX10_isRule lX10_137 rfl rfl (Nat.le_of_ble_eq_true rfl) (Nat.le_of_ble_eq_true rfl) rfl rfl (c_isRule) (fun r m' hq => ?_)
  obtain ⟨rfl, hmm⟩ := hq
  subst m'
  refine q_if_eqB (tgt := 22) (pc' := 14) dX10_saved_11 (by decide) rfl (fun c_11 => ?_) (fun c_11 => ?_)
  · refine q_ldc (pc' := 24) dX10_saved_22 kX10_157 rfl ?_
    refine q_iret dX10_saved_24 rfl rfl ⟨_, rfl, by rw [if_neg (fun z => by rw [c_11] at z; exact absurd z.2.1 (by decide))], ⟨st, h⟩, Fr.rf, Kp.rf⟩
  obtain ⟨w, hx, hw⟩ := z_rule c_11
  have e1 : s_i x = w := by rw [hx, s_i_n (by omega)]
  rw [e1]
  rw [hx] at c_11
  rw [hx]
  refine q_iload_n (pc' := 15) dX10_saved_14 rfl rfl ?_
  refine q_iload_n (pc' := 16) dX10_saved_15 rfl rfl ?_
  refine h_callS (pc' := 19) (M' := mX10_isBound) (As := [_, _]) dX10_saved_16 iX10_isBound lX10_331 rfl rfl (Nat.le_of_ble_eq_true rfl) (Nat.le_of_ble_eq_true rfl) rfl rfl (c_isBound hw) (fun r m' hq => ?_)
  obtain ⟨rfl, hmm⟩ := hq
  subst m'
  refine q_if_neB (tgt := 25) (pc' := 22) dX10_saved_19 (by decide) rfl (fun c_19 => ?_) (fun c_19 => ?_)
  rotate_left
  · refine q_ldc (pc' := 24) dX10_saved_22 kX10_157 rfl ?_
    refine q_iret dX10_saved_24 rfl rfl ⟨_, rfl, by rw [if_neg (fun z => by rw [c_19] at z; exact absurd z.2.2 (by decide))], ⟨st, h⟩, Fr.rf, Kp.rf⟩
  obtain ⟨v, hv, hv16, hrok⟩ := s_bnd hw c_19
  have e2 : s_i y = v := by rw [hv, s_i_n (by omega)]
  rw [if_pos ⟨c_4, c_11, c_19⟩, e2, hv]
  have hto := told ht (by first | exact c_4 | exact s_has_t c_5 | assumption)
  refine q_aload_n (pc' := 26) dX10_saved_25 rfl rfl ?_
  refine h_callV (pc' := 29) (M' := mX10_current) (As := []) dX10_saved_26 iX10_current lX10_162 rfl rfl rfl rfl (Nat.le_of_ble_eq_true rfl) (Nat.le_of_ble_eq_true rfl) rfl rfl (c_cur h hto) (fun r m' hq => ?_)
  obtain ⟨rfl, f1, k1, h1⟩ := hq
  obtain ⟨m1, hm1⟩ : ∃ z, z = m' := ⟨_, rfl⟩
  subst hm1
  refine h_callV (pc' := 32) (M' := mX8_total) (As := []) dX10_saved_29 iX8_total lX10_300 rfl rfl rfl rfl (Nat.le_of_ble_eq_true rfl) (Nat.le_of_ble_eq_true rfl) rfl rfl (c_total_194 h1.pl h1.five) (fun r m' hq => ?_)
  obtain ⟨rfl, f2, k2⟩ := hq
  have h2 := h1.fr f2 (k2.mono (by decide)) (by decide)
  have k2 : Kp 0 [16] m m' := k1.trans (Kp.fr f2 (by decide))
  have f2 : Fr s_SA m m' := (f1.mono (by decide)).trans (f2.mono (by decide))
  obtain ⟨m2, hm2⟩ : ∃ z, z = m' := ⟨_, rfl⟩
  subst hm2
  refine q_istore_n (pc' := 33) (lv' := [_, _, _, _]) dX10_saved_32 (by decide) rfl rfl ?_
  refine q_aload_n (pc' := 34) dX10_saved_33 rfl rfl ?_
  refine q_iload_n (pc' := 35) dX10_saved_34 rfl rfl ?_
  refine q_iload_n (pc' := 36) dX10_saved_35 rfl rfl ?_
  refine h_callV (pc' := 39) (M' := mX10_layOther) (As := [_, _]) dX10_saved_36 iX10_layOther lX10_334 rfl rfl rfl rfl (Nat.le_of_ble_eq_true rfl) (Nat.le_of_ble_eq_true rfl) rfl rfl (c_layOther h2.2.2.2.1 h2.known hw (hrok rl hr)) (fun r m' hq => ?_)
  obtain ⟨rfl, f3, V3⟩ := hq
  have h3 := h2.fr f3 (Kp.fr f3 (by decide)) (by decide)
  have k3 : Kp 0 [16] m m' := k2.trans (Kp.fr f3 (by decide))
  have f3 : Fr s_SA m m' := f2.trans (f3.mono (by decide))
  obtain ⟨m3, hm3⟩ : ∃ z, z = m' := ⟨_, rfl⟩
  subst hm3
  refine q_iload_n (pc' := 40) dX10_saved_39 rfl rfl ?_
  refine q_aload_n (pc' := 41) dX10_saved_40 rfl rfl ?_
  refine h_getr (pc' := 44) dX10_saved_41 fX10_77 rfl rfl rfl ?_
  refine h_callV (pc' := 47) (M' := mX8_total) (As := []) dX10_saved_44 iX8_total lX10_300 rfl rfl rfl rfl (Nat.le_of_ble_eq_true rfl) (Nat.le_of_ble_eq_true rfl) rfl rfl (c_total_203 V3.1.pl V3.2) (fun r m' hq => ?_)
  obtain ⟨rfl, f4, k4⟩ := hq
  refine q_isub (pc' := 48) dX10_saved_47 rfl ?_
  refine q_iret dX10_saved_48 rfl rfl ⟨_, rfl, rfl, ⟨false, h3.fr f4 (Kp.fr f4 (by decide)) (by decide)⟩, f3.trans (f4.mono (by decide)), k3.trans (Kp.fr f4 (by decide))⟩
