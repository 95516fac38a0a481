/-! ===== GuisePack's face: best ===== -/
theorem q_lohi (w : Nat) (hw : w < 5) : ∃ lo hi, q_low w = nI lo ∧ q_high w = nI hi ∧ lo ≤ hi ∧ hi ≤ 16 ∧ ∀ rl v, s_rok rl → lo ≤ v → v ≤ hi → s_rok (q_u rl w v) := by
  match w, hw with
  | 0, _ => exact ⟨2, 16, by decide, by decide, by omega, by omega, fun rl v hr a b => ⟨⟨a, b⟩, hr.2.1, hr.2.2.1, hr.2.2.2.1, hr.2.2.2.2⟩⟩
  | 1, _ => exact ⟨1, 16, by decide, by decide, by omega, by omega, fun rl v hr a b => ⟨hr.1, ⟨a, b⟩, hr.2.2.1, hr.2.2.2.1, hr.2.2.2.2⟩⟩
  | 2, _ => exact ⟨0, 14, by decide, by decide, by omega, by omega, fun rl v hr a b => ⟨hr.1, hr.2.1, b, hr.2.2.2.1, hr.2.2.2.2⟩⟩
  | 3, _ => exact ⟨4, 16, by decide, by decide, by omega, by omega, fun rl v hr a b => ⟨hr.1, hr.2.1, hr.2.2.1, ⟨a, b⟩, hr.2.2.2.2⟩⟩
  | 4, _ => exact ⟨1, 8, by decide, by decide, by omega, by omega, fun rl v hr a b => ⟨hr.1, hr.2.1, hr.2.2.1, hr.2.2.2.1, ⟨a, b⟩⟩⟩
theorem s_tot_le {n : Nat} {rl : Nat → Nat} (hr : s_rok rl) (hn : n ≤ 64) (xs : Nat → Int64) : s_tot n rl xs ≤ 64000 := by
  have h1 := s_nb_le hr hn
  have h2 := s_sum_le (f := fun bk => (s_wf n rl xs (s_ws xs) (s_five n rl xs) bk).2) (c := 1000) (s_nb n rl) (fun i _ => (s_wf_le (n := n) hr xs (s_ws xs) (s_five n rl xs)).2)
  unfold s_tot
  omega
/-- what is best of lo, lo + 1 ..: the first of several; its cost -/
def s_be (f : Nat → Nat) (lo : Nat) : Nat → Nat × Nat
  | 0 => (lo, 0)
  | c + 1 => if c = 0 ∨ f (lo + c) < (s_be f lo c).2 then (lo + c, f (lo + c)) else s_be f lo c
theorem s_be_le {f : Nat → Nat} {lo b : Nat} : ∀ c, (∀ i, i < c → f (lo + i) ≤ b) → (s_be f lo c).2 ≤ b
  | 0, _ => Nat.zero_le _
  | c + 1, h => by
    have ih := s_be_le (f := f) (lo := lo) (b := b) c (fun i hi => h i (by omega))
    unfold s_be
    split
    · exact h c (by omega)
    · exact ih
def s_bst (n : Nat) (rl : Nat → Nat) (xs : Nat → Int64) (w : Nat) : Nat := (s_be (fun v => s_tot n (q_u rl w v) xs) (s_i (q_low w)) (s_i (q_high w) + 1 - s_i (q_low w))).1
set_option maxHeartbeats 4000000 in
set_option maxRecDepth 20000 in
theorem c_best {Z : q_Z} {m : q_Mm} {d : Nat} {n k : Nat} {st t : Bool} {x : Int32} {rl : Nat → Nat} {xs : Nat → Int64} {nt : Nat → Int32} (h : Cls m st n k rl xs nt) (ht : m.1 0 14 = q_b t) : q_V (q_g Z) mX10_best (d+6) 0 0 0 [some (.ref (q_ad Z 0)), some (.int x), none, none, none, none] [] (q_W Z m) (q_P Z fun r m2 => r = some (.int (if (t && s_isRule x) = true then nI (s_bst n rl xs (s_i x)) else -1)) ∧ (∃ st2, Cls m2 st2 n k rl xs nt) ∧ Fr s_SA m m2 ∧ Kp 0 [16] m m2) := by
  have hn := h.2.2.2.1.2.2.1
  have hr := h.2.2.2.1.2.2.2.2.2.2.2
  refine q_aload_n (pc' := 1) dX10_best_0 rfl rfl ?_
  refine h_getiE (pc' := 4) dX10_best_1 fX10_122 rfl rfl (ht) rfl ?_
  refine q_if_eqB (tgt := 14) (pc' := 7) dX10_best_4 (by decide) rfl (fun c_4 => ?_) (fun c_4 => ?_)
  · refine q_iconst (pc' := 15) (v := (-1)) dX10_best_14 rfl rfl ?_
    refine q_iret dX10_best_15 rfl rfl ⟨_, rfl, by rw [c_4, Bool.false_and, if_neg (by decide)], ⟨st, h⟩, Fr.rf, Kp.rf⟩
  refine q_iload_n (pc' := 8) dX10_best_7 rfl rfl ?_
  refine h_callS (pc' := 11) (M' := mX10_isRule) (As := [_]) dX10_best_8 iX10_isRule lX10_137 rfl rfl (Nat.le_of_ble_eq_true rfl) (Nat.le_of_ble_eq_true rfl) rfl rfl (c_isRule) (fun r m' hq => ?_)
  obtain ⟨rfl, hmm⟩ := hq
  subst m'
  refine q_if_neB (tgt := 16) (pc' := 14) dX10_best_11 (by decide) rfl (fun c_11 => ?_) (fun c_11 => ?_)
  rotate_left
  · refine q_iconst (pc' := 15) (v := (-1)) dX10_best_14 rfl rfl ?_
    refine q_iret dX10_best_15 rfl rfl ⟨_, rfl, by rw [c_4, c_11, if_neg (by decide)], ⟨st, h⟩, Fr.rf, Kp.rf⟩
  obtain ⟨w, hx, hw⟩ := z_rule c_11
  have e1 : s_i x = w := by rw [hx, s_i_n (by omega)]
  obtain ⟨lo, hi, hlo, hhi, hlh, h16, hrok⟩ := q_lohi w hw
  rw [c_4, c_11, Bool.and_self, if_pos rfl, e1, hx]
  have eb : s_bst n rl xs w = (s_be (fun v => s_tot n (q_u rl w v) xs) lo (hi + 1 - lo)).1 := by unfold s_bst; rw [hlo, hhi, s_i_n (by omega), s_i_n (by omega)]
  have hto := told ht (by first | exact c_4 | exact s_has_t c_5 | assumption)
  refine q_aload_n (pc' := 17) dX10_best_16 rfl rfl ?_
  refine h_callV (pc' := 20) (M' := mX10_current) (As := []) dX10_best_17 iX10_current lX10_162 rfl rfl rfl rfl (Nat.le_of_ble_eq_true rfl) (Nat.le_of_ble_eq_true rfl) rfl rfl (c_cur h hto) (fun r m' hq => ?_)
  obtain ⟨rfl, f1, k1, h1⟩ := hq
  have f1 : Fr s_SA m m' := f1.mono (by decide)
  refine q_pop (pc' := 21) dX10_best_20 rfl rfl ?_
  refine h_gets (pc' := 24) dX10_best_21 st_0 (by decide) fsX10_346 rfl ?_
  refine q_iload_n (pc' := 25) dX10_best_24 rfl rfl ?_
  refine h_ti (pc' := 26) dX10_best_25 ro_0 rfl hw rfl ?_
  rw [hlo]
  refine q_istore_n (pc' := 27) (lv' := [_, _, _, _, _, _]) dX10_best_26 (by decide) rfl rfl ?_
  refine q_iconst (pc' := 28) (v := nI 0) dX10_best_27 rfl rfl ?_
  refine q_istore_n (pc' := 29) (lv' := [_, _, _, _, _, _]) dX10_best_28 (by decide) rfl rfl ?_
  refine h_gets (pc' := 32) dX10_best_29 st_0 (by decide) fsX10_346 rfl ?_
  refine q_iload_n (pc' := 33) dX10_best_32 rfl rfl ?_
  refine h_ti (pc' := 34) dX10_best_33 ro_0 rfl hw rfl ?_
  rw [hlo]
  refine q_istore (pc' := 36) (lv' := [_, _, _, _, _, _]) dX10_best_34 (by decide) rfl rfl ?_
  suffices hl : ∀ g c (m3 : q_Mm) w5, c + g = hi + 1 - lo → Fr s_SA m m3 → Kp 0 [16] m m3 → Cls m3 false n k rl xs nt → q_V (q_g Z) mX10_best (d + 6) 0 0 36 [some (.ref (q_ad Z 0)), some (.int (nI w)), some (.int (nI (s_be (fun v => s_tot n (q_u rl w v) xs) lo c).1)), some (.int (nI (s_be (fun v => s_tot n (q_u rl w v) xs) lo c).2)), some (.int (nI (lo + c))), w5] [] (q_W Z m3) (q_P Z fun r m2 => r = some (.int (nI (s_bst n rl xs w))) ∧ (∃ st2, Cls m2 st2 n k rl xs nt) ∧ Fr s_SA m m2 ∧ Kp 0 [16] m m2) from hl (hi + 1 - lo) 0 m' _ (by omega) f1 k1 h1
  intro g
  induction g with
  | zero =>
    intro c m3 w5 hc f3 k3 h3
    obtain rfl : c = hi + 1 - lo := by omega
    refine q_iload (pc' := 38) dX10_best_36 rfl rfl ?_
    refine h_gets (pc' := 41) dX10_best_38 st_1 (by decide) fsX10_349 rfl ?_
    refine q_iload_n (pc' := 42) dX10_best_41 rfl rfl ?_
    refine h_ti (pc' := 43) dX10_best_42 ro_1 rfl hw rfl ?_
    rw [hhi]
    refine q_icmp_gtN (tgt := 90) (pc' := 46) dX10_best_43 (by decide) rfl (by omega) (fun c_43 => ?_) (fun c_43 => ?_)
    · refine q_iload_n (pc' := 91) dX10_best_90 rfl rfl ?_
      refine q_iret dX10_best_91 rfl rfl ⟨_, rfl, by rw [eb], ⟨false, h3⟩, f3, k3⟩
    · omega
  | succ g ih =>
    intro c m3 w5 hc f3 k3 h3
    have hok := hrok rl (lo + c) hr (by omega) (by omega)
    have hle := s_be_le (f := fun v => s_tot n (q_u rl w v) xs) (lo := lo) (b := 64000) c (fun i hi => s_tot_le (hrok rl (lo + i) hr (by omega) (by omega)) hn xs)
    have hl2 := s_tot_le hok hn xs
    refine q_iload (pc' := 38) dX10_best_36 rfl rfl ?_
    refine h_gets (pc' := 41) dX10_best_38 st_1 (by decide) fsX10_349 rfl ?_
    refine q_iload_n (pc' := 42) dX10_best_41 rfl rfl ?_
    refine h_ti (pc' := 43) dX10_best_42 ro_1 rfl hw rfl ?_
    rw [hhi]
    refine q_icmp_gtN (tgt := 90) (pc' := 46) dX10_best_43 (by decide) rfl (by omega) (fun c_43 => ?_) (fun c_43 => ?_)
    · omega
    refine q_aload_n (pc' := 47) dX10_best_46 rfl rfl ?_
    refine q_iload_n (pc' := 48) dX10_best_47 rfl rfl ?_
    refine q_iload (pc' := 50) dX10_best_48 rfl rfl ?_
    refine h_callV (pc' := 53) (M' := mX10_layOther) (As := [_, _]) dX10_best_50 iX10_layOther lX10_334 rfl rfl rfl rfl (Nat.le_of_ble_eq_true rfl) (Nat.le_of_ble_eq_true rfl) rfl rfl (c_layOther h3.2.2.2.1 h3.known hw hok) (fun r m' hq => ?_)
    obtain ⟨rfl, f4, V4⟩ := hq
    have h4 := h3.fr f4 (Kp.fr f4 (by decide)) (by decide)
    have k4 : Kp 0 [16] m m' := k3.trans (Kp.fr f4 (by decide))
    have f4 : Fr s_SA m m' := f3.trans (f4.mono (by decide))
    obtain ⟨m4, hm4⟩ : ∃ z, z = m' := ⟨_, rfl⟩
    subst hm4
    refine q_aload_n (pc' := 54) dX10_best_53 rfl rfl ?_
    refine h_getr (pc' := 57) dX10_best_54 fX10_77 rfl rfl rfl ?_
    refine h_callV (pc' := 60) (M' := mX8_total) (As := []) dX10_best_57 iX8_total lX10_300 rfl rfl rfl rfl (Nat.le_of_ble_eq_true rfl) (Nat.le_of_ble_eq_true rfl) rfl rfl (c_total_203 V4.1.pl V4.2) (fun r m' hq => ?_)
    obtain ⟨rfl, f5, k5⟩ := hq
    have h5 := h4.fr f5 (Kp.fr f5 (by decide)) (by decide)
    have k5 : Kp 0 [16] m m' := k4.trans (Kp.fr f5 (by decide))
    have f5 : Fr s_SA m m' := f4.trans (f5.mono (by decide))
    obtain ⟨m5, hm5⟩ : ∃ z, z = m' := ⟨_, rfl⟩
    subst hm5
    rw [show s_sum (fun bk => (s_wf n (q_u rl w (lo + c)) xs (s_ws xs) (s_five n (q_u rl w (lo + c)) xs) bk).2) (s_nb n (q_u rl w (lo + c))) = s_tot n (q_u rl w (lo + c)) xs from rfl]
    have ih := ih (c + 1) m5 (some (.int (nI (s_tot n (q_u rl w (lo + c)) xs)))) (by omega) f5 k5 h5
    refine q_istore (pc' := 62) (lv' := [_, _, _, _, _, _]) dX10_best_60 (by decide) rfl rfl ?_
    refine q_iload (pc' := 64) dX10_best_62 rfl rfl ?_
    refine h_gets (pc' := 67) dX10_best_64 st_0 (by decide) fsX10_346 rfl ?_
    refine q_iload_n (pc' := 68) dX10_best_67 rfl rfl ?_
    refine h_ti (pc' := 69) dX10_best_68 ro_0 rfl hw rfl ?_
    rw [hlo]
    refine q_icmp_eqN (tgt := 78) (pc' := 72) dX10_best_69 (by decide) rfl (by omega) (fun c_69 => ?_) (fun c_69 => ?_)
    · rw [show s_be (fun v => s_tot n (q_u rl w v) xs) lo (c + 1) = (lo + c, s_tot n (q_u rl w (lo + c)) xs) from if_pos (Or.inl (by omega))] at ih
      refine q_iload (pc' := 80) dX10_best_78 rfl rfl ?_
      refine q_istore_n (pc' := 81) (lv' := [_, _, _, _, _, _]) dX10_best_80 (by decide) rfl rfl ?_
      refine q_iload (pc' := 83) dX10_best_81 rfl rfl ?_
      refine q_istore_n (pc' := 84) (lv' := [_, _, _, _, _, _]) dX10_best_83 (by decide) rfl rfl ?_
      refine q_iincN (pc' := 87) (j := 1) (lv' := [_, _, _, _, _, _]) dX10_best_84 rfl (by decide) rfl rfl ?_
      refine q_goto (pc' := 36) dX10_best_87 (by decide) ?_
      exact ih
    refine q_iload (pc' := 74) dX10_best_72 rfl rfl ?_
    refine q_iload_n (pc' := 75) dX10_best_74 rfl rfl ?_
    refine q_icmp_geN (tgt := 84) (pc' := 78) dX10_best_75 (by decide) rfl (by omega) (fun c_75 => ?_) (fun c_75 => ?_)
    · rw [show s_be (fun v => s_tot n (q_u rl w v) xs) lo (c + 1) = s_be (fun v => s_tot n (q_u rl w v) xs) lo c from if_neg (fun z => z.elim (fun q => by omega) (fun q => by have q : s_tot n (q_u rl w (lo + c)) xs < _ := q; omega))] at ih
      refine q_iincN (pc' := 87) (j := 1) (lv' := [_, _, _, _, _, _]) dX10_best_84 rfl (by decide) rfl rfl ?_
      refine q_goto (pc' := 36) dX10_best_87 (by decide) ?_
      exact ih
    · rw [show s_be (fun v => s_tot n (q_u rl w v) xs) lo (c + 1) = (lo + c, s_tot n (q_u rl w (lo + c)) xs) from if_pos (Or.inr c_75)] at ih
      refine q_iload (pc' := 80) dX10_best_78 rfl rfl ?_
      refine q_istore_n (pc' := 81) (lv' := [_, _, _, _, _, _]) dX10_best_80 (by decide) rfl rfl ?_
      refine q_iload (pc' := 83) dX10_best_81 rfl rfl ?_
      refine q_istore_n (pc' := 84) (lv' := [_, _, _, _, _, _]) dX10_best_83 (by decide) rfl rfl ?_
      refine q_iincN (pc' := 87) (j := 1) (lv' := [_, _, _, _, _, _]) dX10_best_84 rfl (by decide) rfl rfl ?_
      refine q_goto (pc' := 36) dX10_best_87 (by decide) ?_
      exact ih
