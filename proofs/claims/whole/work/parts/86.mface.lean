/-! ===== the reference's face: saved, best, less ===== -/
abbrev s_Sy : List Nat := [215, 223, 224, 227, 228, 229, 230, 231]
theorem MV.ru {m m2 : q_Mm} {n w v : Nat} {x : Int32} {rl : Nat → Nat} {xs : Nat → Int64} (h : MV m n rl xs) (hok : s_rok (q_u rl w v)) (e : m2 = sA m 224 (q_u (m.2.2.1 224) w x)) (hx : x = nI v) : MV m2 n (q_u rl w v) xs := by
  subst e
  subst hx
  obtain ⟨h1, h2, h3, h4, h5⟩ := h
  refine ⟨h1, h2, h3, fun i hi => ?_, hok⟩
  show q_u (m.2.2.1 224) w (nI v) i = nI (q_u rl w v i)
  by_cases z : i = w
  · rw [z, q_u_s, q_u_s]
  · rw [q_u_n _ _ z, q_u_n _ _ z]; exact h4 i hi
theorem q_u_back {α : Type} (f : Nat → α) (w : Nat) (v : α) : q_u (q_u f w v) w (f w) = f := by
  funext i
  by_cases z : i = w
  · rw [z, q_u_s]
  · rw [q_u_n _ _ z, q_u_n _ _ z]
set_option maxHeartbeats 4000000 in
set_option maxRecDepth 20000 in
theorem k_costBy {Z : q_Z} {m : q_Mm} {d : Nat} {n w v : Nat} {rl : Nat → Nat} {xs : Nat → Int64} (hM : MD m) (hV : MV m n rl xs) (hw : w < 5) (hok : s_rok (q_u rl w v)) : q_V (q_g Z) mX11_costBy (d+8) 0 0 0 [some (.ref (q_ad Z 215)), some (.int (nI w)), some (.int (nI v)), none, none] [] (q_W Z m) (q_P Z fun r m2 => r = some (.int (nI (s_tot n (q_u rl w v) xs))) ∧ Fr s_Sy m m2 ∧ Kp 215 s_Jx m m2 ∧ MV m2 n rl xs) := by
  refine q_aload_n (pc' := 1) dX11_costBy_0 rfl rfl ?_
  refine h_getr (pc' := 4) dX11_costBy_1 fX11_36 rfl rfl rfl ?_
  refine q_iload_n (pc' := 5) dX11_costBy_4 rfl rfl ?_
  refine h_ialdE (pc' := 6) dX11_costBy_5 rfl (rfl) (by omega) (by decide) (hV.2.2.2.1 w hw) rfl ?_
  refine q_istore_n (pc' := 7) (lv' := [_, _, _, _, _]) dX11_costBy_6 (by decide) rfl rfl ?_
  refine q_aload_n (pc' := 8) dX11_costBy_7 rfl rfl ?_
  refine h_getr (pc' := 11) dX11_costBy_8 fX11_36 rfl rfl rfl ?_
  refine q_iload_n (pc' := 12) dX11_costBy_11 rfl rfl ?_
  refine q_iload_n (pc' := 13) dX11_costBy_12 rfl rfl ?_
  refine h_iast (pc' := 14) dX11_costBy_13 rfl (rfl) (by omega) (by decide) rfl ?_
  have hV1 := hV.ru (x := nI v) hok rfl rfl
  generalize hm1 : sA m 224 (q_u (m.2.2.1 224) w (nI v)) = m1 at hV1 ⊢
  have f1 : Fr s_Sy m m1 := hm1 ▸ Fr.rf.A (by decide)
  have k1 : Kp 215 s_Jx m m1 := hm1 ▸ Kp.rf
  have hM1 := hM.fr f1 (by decide) (by decide)
  refine q_aload_n (pc' := 15) dX11_costBy_14 rfl rfl ?_
  refine h_callV (pc' := 18) (M' := mX11_costOfAll) (As := []) dX11_costBy_15 iX11_costOfAll lX11_452 rfl rfl rfl rfl (Nat.le_of_ble_eq_true rfl) (Nat.le_of_ble_eq_true rfl) rfl rfl (k_costOfAll hM1 hV1) (fun r m' hq => ?_)
  obtain ⟨rfl, f2, k2⟩ := hq
  have hV2 := hV1.fr f2 (k2 20 (by decide)) (by decide) (by decide)
  have hV3 := hV2.ru (w := w) (v := rl w) (x := nI (rl w)) (by rw [q_u_back]; exact hV.2.2.2.2) rfl rfl
  rw [q_u_back] at hV3
  refine q_istore (pc' := 20) (lv' := [_, _, _, _, _]) dX11_costBy_18 (by decide) rfl rfl ?_
  refine q_aload_n (pc' := 21) dX11_costBy_20 rfl rfl ?_
  refine h_getr (pc' := 24) dX11_costBy_21 fX11_36 rfl rfl rfl ?_
  refine q_iload_n (pc' := 25) dX11_costBy_24 rfl rfl ?_
  refine q_iload_n (pc' := 26) dX11_costBy_25 rfl rfl ?_
  refine h_iast (pc' := 27) dX11_costBy_26 rfl (rfl) (by omega) (by decide) rfl ?_
  refine q_iload (pc' := 29) dX11_costBy_27 rfl rfl ?_
  refine q_iret dX11_costBy_29 rfl rfl ⟨_, rfl, rfl, (f1.trans (f2.mono (by decide))).A (by decide), k1.trans k2, hV3⟩
set_option maxHeartbeats 4000000 in
set_option maxRecDepth 20000 in
theorem k_saved {Z : q_Z} {m : q_Mm} {d : Nat} {n : Nat} {t : Bool} {x y : Int32} {rl : Nat → Nat} {xs : Nat → Int64} (h : MAsk m t n rl xs) : q_V (q_g Z) mX11_saved (d+9) 0 0 0 [some (.ref (q_ad Z 215)), some (.int x), some (.int y)] [] (q_W Z m) (q_P Z fun r m2 => r = some (.int (if t = true ∧ s_isRule x = true ∧ s_isBound (s_i x) y = true then nI (s_tot n rl xs) - nI (s_tot n (q_u rl (s_i x) (s_i y)) xs) else -1000000)) ∧ Fr s_Sy m m2 ∧ Kp 215 s_Jx m m2 ∧ (t = true → MV m2 n rl xs) ∧ (t = false → m2 = m)) := by
  obtain ⟨hM, hV, ht, hn, hn6⟩ := h
  refine q_aload_n (pc' := 1) dX11_saved_0 rfl rfl ?_
  refine q_iload_n (pc' := 2) dX11_saved_1 rfl rfl ?_
  refine h_callV (pc' := 5) (M' := mX11_isRule) (As := [_]) dX11_saved_2 iX11_isRule lX11_439 rfl rfl rfl rfl (Nat.le_of_ble_eq_true rfl) (Nat.le_of_ble_eq_true rfl) rfl rfl ((k_isRule (d := d) ht).up (by omega)) (fun r m' hq => ?_)
  obtain ⟨rfl, hmm⟩ := hq
  subst m'
  refine q_if_eqB (tgt := 37) (pc' := 8) dX11_saved_5 (by decide) rfl (fun c_5 => ?_) (fun c_5 => ?_)
  · refine q_ldcw (pc' := 40) dX11_saved_37 kX11_382 rfl ?_
    refine q_iret dX11_saved_40 rfl rfl ⟨_, rfl, by rw [if_neg (fun z => by rw [z.1, z.2.1] at c_5; cases c_5)], Fr.rf, Kp.rf, hV, fun _ => rfl⟩
  rw [Bool.and_eq_true] at c_5
  have hVt := hV c_5.1
  obtain ⟨w, hx, hw⟩ := z_rule c_5.2
  have e1 : s_i x = w := by rw [hx, s_i_n (by omega)]
  rw [e1]
  have hr := c_5.2
  rw [hx] at hr ⊢
  refine q_iload_n (pc' := 9) dX11_saved_8 rfl rfl ?_
  refine q_iload_n (pc' := 10) dX11_saved_9 rfl rfl ?_
  refine h_callS (pc' := 13) (M' := mX11_lowest) (As := [_]) dX11_saved_10 iX11_lowest lX11_131 rfl rfl (Nat.le_of_ble_eq_true rfl) (Nat.le_of_ble_eq_true rfl) rfl rfl ((k_lowest (d := d) hw).up (by omega)) (fun r m' hq => ?_)
  obtain ⟨rfl, hmm⟩ := hq
  subst m'
  refine q_iload_n (pc' := 14) dX11_saved_13 rfl rfl ?_
  refine h_callS (pc' := 17) (M' := mX11_highest) (As := [_]) dX11_saved_14 iX11_highest lX11_134 rfl rfl (Nat.le_of_ble_eq_true rfl) (Nat.le_of_ble_eq_true rfl) rfl rfl ((k_highest (d := d) hw).up (by omega)) (fun r m' hq => ?_)
  obtain ⟨rfl, hmm⟩ := hq
  subst m'
  refine h_callS (pc' := 20) (M' := mX11_in) (As := [_, _, _]) dX11_saved_17 iX11_in lX11_99 rfl rfl (Nat.le_of_ble_eq_true rfl) (Nat.le_of_ble_eq_true rfl) rfl rfl (k_in.up (Nat.zero_le _)) (fun r m' hq => ?_)
  obtain ⟨rfl, hmm⟩ := hq
  subst m'
  rw [show decide ((q_low w).toInt ≤ y.toInt ∧ y.toInt ≤ (q_high w).toInt) = s_isBound w y from rfl]
  refine q_if_eqB (tgt := 37) (pc' := 23) dX11_saved_20 (by decide) rfl (fun c_20 => ?_) (fun c_20 => ?_)
  · refine q_ldcw (pc' := 40) dX11_saved_37 kX11_382 rfl ?_
    refine q_iret dX11_saved_40 rfl rfl ⟨_, rfl, by rw [if_neg (fun z => by rw [z.2.2] at c_20; cases c_20)], Fr.rf, Kp.rf, hV, fun _ => rfl⟩
  rw [if_pos ⟨c_5.1, hr, c_20⟩]
  obtain ⟨v, hy, hv, hok⟩ := s_bnd hw c_20
  have e2 : s_i y = v := by rw [hy, s_i_n (by omega)]
  rw [e2, hy]
  refine q_aload_n (pc' := 24) dX11_saved_23 rfl rfl ?_
  refine h_callV (pc' := 27) (M' := mX11_costOfAll) (As := []) dX11_saved_24 iX11_costOfAll lX11_452 rfl rfl rfl rfl (Nat.le_of_ble_eq_true rfl) (Nat.le_of_ble_eq_true rfl) rfl rfl ((k_costOfAll (d := d) hM hVt).up (by omega)) (fun r m' hq => ?_)
  obtain ⟨rfl, f1, k1⟩ := hq
  have hV1 := hVt.fr f1 (k1 20 (by decide)) (by decide) (by decide)
  have hM1 := hM.fr f1 (by decide) (by decide)
  have f1 : Fr s_Sy m m' := f1.mono (by decide)
  obtain ⟨m1, hm1⟩ : ∃ z, z = m' := ⟨_, rfl⟩
  subst hm1
  refine q_aload_n (pc' := 28) dX11_saved_27 rfl rfl ?_
  refine q_iload_n (pc' := 29) dX11_saved_28 rfl rfl ?_
  refine q_iload_n (pc' := 30) dX11_saved_29 rfl rfl ?_
  refine h_callV (pc' := 33) (M' := mX11_costBy) (As := [_, _]) dX11_saved_30 iX11_costBy lX11_455 rfl rfl rfl rfl (Nat.le_of_ble_eq_true rfl) (Nat.le_of_ble_eq_true rfl) rfl rfl (k_costBy hM1 hV1 hw (hok rl hVt.2.2.2.2)) (fun r m' hq => ?_)
  obtain ⟨rfl, f2, k2, hV2⟩ := hq
  refine q_isub (pc' := 34) dX11_saved_33 rfl ?_
  refine q_goto (pc' := 40) dX11_saved_34 (by decide) ?_
  refine q_iret dX11_saved_40 rfl rfl ⟨_, rfl, rfl, f1.trans f2, k1.trans k2, fun _ => hV2, fun z => by rw [c_5.1] at z; cases z⟩
set_option maxHeartbeats 4000000 in
set_option maxRecDepth 20000 in
theorem k_best {Z : q_Z} {m : q_Mm} {d : Nat} {n : Nat} {t : Bool} {x : Int32} {rl : Nat → Nat} {xs : Nat → Int64} (h : MAsk m t n rl xs) : q_V (q_g Z) mX11_best (d+9) 0 0 0 [some (.ref (q_ad Z 215)), some (.int x), none, none, none, none] [] (q_W Z m) (q_P Z fun r m2 => r = some (.int (if (t && s_isRule x) = true then nI (s_bst n rl xs (s_i x)) else -1)) ∧ Fr s_Sy m m2 ∧ Kp 215 s_Jx m m2 ∧ (t = true → MV m2 n rl xs) ∧ (t = false → m2 = m)) := by
  obtain ⟨hM, hV, ht, hn, hn6⟩ := h
  refine q_aload_n (pc' := 1) dX11_best_0 rfl rfl ?_
  refine q_iload_n (pc' := 2) dX11_best_1 rfl rfl ?_
  refine h_callV (pc' := 5) (M' := mX11_isRule) (As := [_]) dX11_best_2 iX11_isRule lX11_439 rfl rfl rfl rfl (Nat.le_of_ble_eq_true rfl) (Nat.le_of_ble_eq_true rfl) rfl rfl ((k_isRule (d := d) ht).up (by omega)) (fun r m' hq => ?_)
  obtain ⟨rfl, hmm⟩ := hq
  subst m'
  refine q_if_neB (tgt := 10) (pc' := 8) dX11_best_5 (by decide) rfl (fun c_5 => ?_) (fun c_5 => ?_)
  rotate_left
  · refine q_iconst (pc' := 9) (v := (-1)) dX11_best_8 rfl rfl ?_
    refine q_iret dX11_best_9 rfl rfl ⟨_, rfl, by rw [if_neg (by rw [c_5]; decide)], Fr.rf, Kp.rf, hV, fun _ => rfl⟩
  rw [if_pos c_5]
  rw [Bool.and_eq_true] at c_5
  have hVt := hV c_5.1
  have hok0 := hVt.2.2.2.2
  obtain ⟨w, hx, hw⟩ := z_rule c_5.2
  have e1 : s_i x = w := by rw [hx, s_i_n (by omega)]
  obtain ⟨lo, hi, hlo, hhi, hlh, h16, hrok⟩ := q_lohi w hw
  rw [e1, hx]
  have eb : s_bst n rl xs w = (s_be (fun v => s_tot n (q_u rl w v) xs) lo (hi + 1 - lo)).1 := by unfold s_bst; rw [hlo, hhi, s_i_n (by omega), s_i_n (by omega)]
  refine q_iconst (pc' := 11) (v := (-1)) dX11_best_10 rfl rfl ?_
  refine q_istore_n (pc' := 12) (lv' := [_, _, _, _, _, _]) dX11_best_11 (by decide) rfl rfl ?_
  refine q_iconst (pc' := 13) (v := nI 0) dX11_best_12 rfl rfl ?_
  refine q_istore_n (pc' := 14) (lv' := [_, _, _, _, _, _]) dX11_best_13 (by decide) rfl rfl ?_
  refine q_iload_n (pc' := 15) dX11_best_14 rfl rfl ?_
  refine h_callS (pc' := 18) (M' := mX11_lowest) (As := [_]) dX11_best_15 iX11_lowest lX11_131 rfl rfl (Nat.le_of_ble_eq_true rfl) (Nat.le_of_ble_eq_true rfl) rfl rfl ((k_lowest (d := d) hw).up (by omega)) (fun r m' hq => ?_)
  obtain ⟨rfl, hmm⟩ := hq
  subst m'
  rw [hlo]
  refine q_istore (pc' := 20) (lv' := [_, _, _, _, _, _]) dX11_best_18 (by decide) rfl rfl ?_
  have fin : ∀ m2 : q_Mm, MV m2 n rl xs → (t = true → MV m2 n rl xs) ∧ (t = false → m2 = m) := fun m2 h => ⟨fun _ => h, fun z => by rw [c_5.1] at z; cases z⟩
  suffices hl : ∀ g c (m3 : q_Mm) u, c + g = hi + 1 - lo → Fr s_Sy m m3 → Kp 215 s_Jx m m3 → MV m3 n rl xs → q_V (q_g Z) mX11_best (d+9) 0 0 20 [some (.ref (q_ad Z 215)), some (.int (nI w)), some (.int (if c = 0 then -1 else nI (s_be (fun v => s_tot n (q_u rl w v) xs) lo c).1)), some (.int (nI (s_be (fun v => s_tot n (q_u rl w v) xs) lo c).2)), some (.int (nI (lo + c))), u] [] (q_W Z (m3)) (q_P Z fun r m2 => r = some (.int (nI (s_bst n rl xs w))) ∧ Fr s_Sy m m2 ∧ Kp 215 s_Jx m m2 ∧ (t = true → MV m2 n rl xs) ∧ (t = false → m2 = m)) from hl (hi + 1 - lo) 0 m _ (by omega) Fr.rf Kp.rf hVt
  intro g
  induction g with
  | zero =>
    intro c m3 u hc f3 k3 hV3
    obtain rfl : c = hi + 1 - lo := by omega
    refine q_iload (pc' := 22) dX11_best_20 rfl rfl ?_
    refine q_iload_n (pc' := 23) dX11_best_22 rfl rfl ?_
    refine h_callS (pc' := 26) (M' := mX11_highest) (As := [_]) dX11_best_23 iX11_highest lX11_134 rfl rfl (Nat.le_of_ble_eq_true rfl) (Nat.le_of_ble_eq_true rfl) rfl rfl ((k_highest (d := d) hw).up (by omega)) (fun r m' hq => ?_)
    obtain ⟨rfl, hmm⟩ := hq
    subst m'
    rw [hhi]
    refine q_icmp_gtN (tgt := 61) (pc' := 29) dX11_best_26 (by decide) rfl (by omega) (fun c_26 => ?_) (fun c_26 => ?_)
    · refine q_iload_n (pc' := 62) dX11_best_61 rfl rfl ?_
      refine q_iret dX11_best_62 rfl rfl ⟨_, rfl, by rw [if_neg (by omega), eb], f3, k3, fin _ hV3⟩
    · omega
  | succ g ih =>
    intro c m3 u hc f3 k3 hV3
    have hM3 := hM.fr f3 (by decide) (by decide)
    have hok := hrok rl (lo + c) hok0 (by omega) (by omega)
    have hle := s_be_le (f := fun v => s_tot n (q_u rl w v) xs) (lo := lo) (b := 64000) c (fun i hi => s_tot_le (hrok rl (lo + i) hok0 (by omega) (by omega)) hn6 xs)
    have hl2 := s_tot_le hok hn6 xs
    have ih := fun m4 u => ih (c + 1) m4 u (by omega)
    rw [show s_be (fun v => s_tot n (q_u rl w v) xs) lo (c + 1) = if c = 0 ∨ s_tot n (q_u rl w (lo + c)) xs < (s_be (fun v => s_tot n (q_u rl w v) xs) lo c).2 then (lo + c, s_tot n (q_u rl w (lo + c)) xs) else s_be (fun v => s_tot n (q_u rl w v) xs) lo c from rfl, if_neg (Nat.succ_ne_zero c)] at ih
    have hb1 : c ≠ 0 → (s_be (fun v => s_tot n (q_u rl w v) xs) lo c).1 < 2 ^ 31 := by
      have aux : ∀ c, (s_be (fun v => s_tot n (q_u rl w v) xs) lo c).1 ≤ lo + c := by
        intro c
        induction c with
        | zero => exact Nat.le_refl _
        | succ c ih =>
          unfold s_be
          split
          · show lo + c ≤ _; omega
          · omega
      intro _
      have := aux c
      omega
    refine q_iload (pc' := 22) dX11_best_20 rfl rfl ?_
    refine q_iload_n (pc' := 23) dX11_best_22 rfl rfl ?_
    refine h_callS (pc' := 26) (M' := mX11_highest) (As := [_]) dX11_best_23 iX11_highest lX11_134 rfl rfl (Nat.le_of_ble_eq_true rfl) (Nat.le_of_ble_eq_true rfl) rfl rfl ((k_highest (d := d) hw).up (by omega)) (fun r m' hq => ?_)
    obtain ⟨rfl, hmm⟩ := hq
    subst m'
    rw [hhi]
    refine q_icmp_gtN (tgt := 61) (pc' := 29) dX11_best_26 (by decide) rfl (by omega) (fun c_26 => ?_) (fun c_26 => ?_)
    · omega
    refine q_aload_n (pc' := 30) dX11_best_29 rfl rfl ?_
    refine q_iload_n (pc' := 31) dX11_best_30 rfl rfl ?_
    refine q_iload (pc' := 33) dX11_best_31 rfl rfl ?_
    refine h_callV (pc' := 36) (M' := mX11_costBy) (As := [_, _]) dX11_best_33 iX11_costBy lX11_455 rfl rfl rfl rfl (Nat.le_of_ble_eq_true rfl) (Nat.le_of_ble_eq_true rfl) rfl rfl (k_costBy hM3 hV3 hw hok) (fun r m' hq => ?_)
    obtain ⟨rfl, f4, k4, hV4⟩ := hq
    have f4 := f3.trans f4
    have k4 : Kp 215 s_Jx m m' := k3.trans k4
    have take : (c = 0 ∨ s_tot n (q_u rl w (lo + c)) xs < (s_be (fun v => s_tot n (q_u rl w v) xs) lo c).2) → ∀ y z, q_V (q_g Z) mX11_best (d+9) 0 0 49 [some (.ref (q_ad Z 215)), some (.int (nI w)), some (.int y), some (.int z), some (.int (nI (lo + c))), some (.int (nI (s_tot n (q_u rl w (lo + c)) xs)))] [] (q_W Z (m')) (q_P Z fun r m2 => r = some (.int (nI (s_bst n rl xs w))) ∧ Fr s_Sy m m2 ∧ Kp 215 s_Jx m m2 ∧ (t = true → MV m2 n rl xs) ∧ (t = false → m2 = m)) := by
      intro hc y z
      rw [if_pos hc] at ih
      refine q_iload (pc' := 51) dX11_best_49 rfl rfl ?_
      refine q_istore_n (pc' := 52) (lv' := [_, _, _, _, _, _]) dX11_best_51 (by decide) rfl rfl ?_
      refine q_iload (pc' := 54) dX11_best_52 rfl rfl ?_
      refine q_istore_n (pc' := 55) (lv' := [_, _, _, _, _, _]) dX11_best_54 (by decide) rfl rfl ?_
      refine q_iincN (pc' := 58) (j := 1) (lv' := [_, _, _, _, _, _]) dX11_best_55 rfl (by decide) rfl rfl ?_
      refine q_goto (pc' := 20) dX11_best_58 (by decide) ?_
      exact ih m' _ f4 k4 hV4
    by_cases h0 : c = 0
    · rw [if_pos h0]
      refine q_istore (pc' := 38) (lv' := [_, _, _, _, _, _]) dX11_best_36 (by decide) rfl rfl ?_
      refine q_iload_n (pc' := 39) dX11_best_38 rfl rfl ?_
      refine q_iconst (pc' := 40) (v := (-1)) dX11_best_39 rfl rfl ?_
      refine q_icmp_eq (tgt := 49) (pc' := 43) dX11_best_40 (by decide) rfl (fun c_40 => ?_) (fun c_40 => ?_)
      · exact take (Or.inl h0) _ _
      · exact absurd rfl c_40
    · rw [if_neg h0]
      refine q_istore (pc' := 38) (lv' := [_, _, _, _, _, _]) dX11_best_36 (by decide) rfl rfl ?_
      refine q_iload_n (pc' := 39) dX11_best_38 rfl rfl ?_
      refine q_iconst (pc' := 40) (v := (-1)) dX11_best_39 rfl rfl ?_
      refine q_icmp_eq (tgt := 49) (pc' := 43) dX11_best_40 (by decide) rfl (fun c_40 => ?_) (fun c_40 => ?_)
      · exact absurd c_40 (z_m1n (hb1 h0))
      refine q_iload (pc' := 45) dX11_best_43 rfl rfl ?_
      refine q_iload_n (pc' := 46) dX11_best_45 rfl rfl ?_
      refine q_icmp_geN (tgt := 55) (pc' := 49) dX11_best_46 (by decide) rfl (by omega) (fun c_46 => ?_) (fun c_46 => ?_)
      · rw [if_neg (by omega)] at ih
        refine q_iincN (pc' := 58) (j := 1) (lv' := [_, _, _, _, _, _]) dX11_best_55 rfl (by decide) rfl rfl ?_
        refine q_goto (pc' := 20) dX11_best_58 (by decide) ?_
        exact ih m' _ f4 k4 hV4
      · exact take (Or.inr (by omega)) _ _
set_option maxHeartbeats 4000000 in
set_option maxRecDepth 20000 in
theorem k_less {Z : q_Z} {m : q_Mm} {d : Nat} {n : Nat} {t : Bool} {x : Int32} {rl : Nat → Nat} {xs : Nat → Int64} (h : MAsk m t n rl xs) : q_V (q_g Z) mX11_less (d+8) 0 0 0 [some (.ref (q_ad Z 215)), some (.int x), none, none, none, none, none] [] (q_W Z m) (q_P Z fun r m2 => r = some (.int (if s_has t n x = true then nI (s_tot n rl xs) - nI (s_tot (n - 1) rl (s_skip xs (s_i x))) else -1000000)) ∧ Fr s_Sy m m2 ∧ Kp 215 s_Jx m m2 ∧ (t = true → MV m2 n rl xs) ∧ (t = false → m2 = m)) := by
  obtain ⟨hM, hV, ht, hn, hn6⟩ := h
  refine q_aload_n (pc' := 1) dX11_less_0 rfl rfl ?_
  refine q_iload_n (pc' := 2) dX11_less_1 rfl rfl ?_
  refine h_callV (pc' := 5) (M' := mX11_isPlace) (As := [_]) dX11_less_2 iX11_isPlace lX11_375 rfl rfl rfl rfl (Nat.le_of_ble_eq_true rfl) (Nat.le_of_ble_eq_true rfl) rfl rfl ((k_isPlace (d := d) ht hn hn6).up (by omega)) (fun r m' hq => ?_)
  obtain ⟨rfl, hmm⟩ := hq
  subst m'
  refine q_if_neB (tgt := 12) (pc' := 8) dX11_less_5 (by decide) rfl (fun c_5 => ?_) (fun c_5 => ?_)
  rotate_left
  · refine q_ldcw (pc' := 11) dX11_less_8 kX11_382 rfl ?_
    refine q_iret dX11_less_11 rfl rfl ⟨_, rfl, by rw [if_neg (by rw [c_5]; decide)], Fr.rf, Kp.rf, hV, fun _ => rfl⟩
  rw [if_pos c_5]
  have htt : t = true := by
    unfold s_has at c_5
    rw [Bool.and_eq_true] at c_5
    exact c_5.1
  have hVt := hV htt
  obtain ⟨i, hx, hi⟩ := z_has c_5 (by omega)
  have e1 : s_i x = i := by rw [hx, s_i_n (by omega)]
  rw [e1, hx]
  have fin : ∀ m2 : q_Mm, MV m2 n rl xs → (t = true → MV m2 n rl xs) ∧ (t = false → m2 = m) := fun m2 h => ⟨fun _ => h, fun z => by rw [htt] at z; cases z⟩
  refine q_aload_n (pc' := 13) dX11_less_12 rfl rfl ?_
  refine h_callV (pc' := 16) (M' := mX11_costOfAll) (As := []) dX11_less_13 iX11_costOfAll lX11_452 rfl rfl rfl rfl (Nat.le_of_ble_eq_true rfl) (Nat.le_of_ble_eq_true rfl) rfl rfl (k_costOfAll hM hVt) (fun r m' hq => ?_)
  obtain ⟨rfl, f1, k1⟩ := hq
  have hV1 := hVt.fr f1 (k1 20 (by decide)) (by decide) (by decide)
  have f1 : Fr s_Sy m m' := f1.mono (by decide)
  have k1 : Kp 215 (20 :: s_Jx) m m' := k1.mono (by decide)
  have e20 := hV1.1
  have hx1 := hV1.2.2.1
  refine q_istore_n (pc' := 17) (lv' := [_, _, _, _, _, _, _]) dX11_less_16 (by decide) rfl rfl ?_
  refine q_aload_n (pc' := 18) dX11_less_17 rfl rfl ?_
  refine h_getr (pc' := 21) dX11_less_18 fX11_33 rfl rfl rfl ?_
  refine q_iload_n (pc' := 22) dX11_less_21 rfl rfl ?_
  refine h_laldE (pc' := 23) dX11_less_22 rfl (rfl) (by omega) (by decide) (hx1 i hi) rfl ?_
  refine q_lstore_n (pc' := 24) (lv' := [_, _, _, _, _, _, _]) dX11_less_23 (by decide) rfl rfl ?_
  refine q_iload_n (pc' := 25) dX11_less_24 rfl rfl ?_
  refine q_iconst (pc' := 26) (v := nI 1) dX11_less_25 rfl rfl ?_
  refine q_iaddN (pc' := 27) dX11_less_26 rfl ?_
  refine q_istore (pc' := 29) (lv' := [_, _, _, _, _, _, _]) dX11_less_27 (by decide) rfl rfl ?_
  suffices h : ∀ g k m2 u, k + g = n → i + 1 ≤ k → Fr s_Sy m m2 → Kp 215 (20 :: s_Jx) m m2 → m2.1 215 20 = nI n → (∀ l, l < 5 → m2.2.2.1 224 l = nI (rl l)) → (∀ l, l < n → m2.2.2.2.1 223 l = if i ≤ l ∧ l + 1 < k then xs (l + 1) else xs l) → q_V (q_g Z) mX11_less (d+8) 0 0 29 [some (.ref (q_ad Z 215)), some (.int (nI i)), some (.int (nI (s_tot n rl xs))), some (.long (xs i)), none, some (.int (nI k)), u] [] (q_W Z (m2)) (q_P Z fun r m2 => r = some (.int (nI (s_tot n rl xs) - nI (s_tot (n - 1) rl (s_skip xs i)))) ∧ Fr s_Sy m m2 ∧ Kp 215 s_Jx m m2 ∧ (t = true → MV m2 n rl xs) ∧ (t = false → m2 = m)) from h (n - (i + 1)) (i + 1) m' _ (by omega) (Nat.le_refl _) f1 k1 e20 hV1.2.2.2.1 (fun l hl => by rw [if_neg (by omega)]; exact hx1 l hl)
  intro g
  induction g with
  | succ g ih =>
    intro k m2 u hk h1 f2 k2 e2 hr2 hx2
    refine q_iload (pc' := 31) dX11_less_29 rfl rfl ?_
    refine q_aload_n (pc' := 32) dX11_less_31 rfl rfl ?_
    refine h_getiE (pc' := 35) dX11_less_32 fX11_242 rfl rfl (e2) rfl ?_
    refine q_icmp_geN (tgt := 60) (pc' := 38) dX11_less_35 (by decide) rfl (by omega) (fun c_35 => ?_) (fun c_35 => ?_)
    · omega
    refine q_aload_n (pc' := 39) dX11_less_38 rfl rfl ?_
    refine h_getr (pc' := 42) dX11_less_39 fX11_33 rfl rfl rfl ?_
    refine q_iload (pc' := 44) dX11_less_42 rfl rfl ?_
    refine q_iconst (pc' := 45) (v := nI 1) dX11_less_44 rfl rfl ?_
    refine q_isubN (pc' := 46) dX11_less_45 (by omega) rfl ?_
    refine q_aload_n (pc' := 47) dX11_less_46 rfl rfl ?_
    refine h_getr (pc' := 50) dX11_less_47 fX11_33 rfl rfl rfl ?_
    refine q_iload (pc' := 52) dX11_less_50 rfl rfl ?_
    refine h_laldE (pc' := 53) dX11_less_52 rfl (rfl) (by omega) (by decide) (hx2 k (by omega)) rfl ?_
    refine h_last (pc' := 54) dX11_less_53 rfl (rfl) (by omega) (by decide) rfl ?_
    refine q_iincN (pc' := 57) (j := 1) (lv' := [_, _, _, _, _, _, _]) dX11_less_54 rfl (by decide) rfl rfl ?_
    refine q_goto (pc' := 29) dX11_less_57 (by decide) ?_
    refine ih (k + 1) _ _ (by omega) (by omega) (f2.L (by decide)) k2 e2 hr2 (fun l hl => ?_)
    show q_u (m2.2.2.2.1 223) (k - 1) (if i ≤ k ∧ k + 1 < k then xs (k + 1) else xs k) l = _
    by_cases z : l = k - 1
    · rw [z, q_u_s, if_neg (by omega), if_pos (by omega), show k - 1 + 1 = k by omega]
    · rw [q_u_n _ _ z, hx2 l hl]
      by_cases y : i ≤ l ∧ l + 1 < k
      · rw [if_pos y, if_pos (by omega)]
      · rw [if_neg y, if_neg (by omega)]
  | zero =>
    intro k m2 u hk h1 f2 k2 e2 hr2 hx2
    obtain rfl : n = k := by omega
    refine q_iload (pc' := 31) dX11_less_29 rfl rfl ?_
    refine q_aload_n (pc' := 32) dX11_less_31 rfl rfl ?_
    refine h_getiE (pc' := 35) dX11_less_32 fX11_242 rfl rfl (e2) rfl ?_
    refine q_icmp_geN (tgt := 60) (pc' := 38) dX11_less_35 (by decide) rfl (by omega) (fun c_35 => ?_) (fun c_35 => ?_)
    rotate_left
    · omega
    refine q_aload_n (pc' := 61) dX11_less_60 rfl rfl ?_
    refine q_dup (pc' := 62) dX11_less_61 rfl rfl ?_
    refine h_getiE (pc' := 65) dX11_less_62 fX11_242 rfl rfl (e2) rfl ?_
    refine q_iconst (pc' := 66) (v := nI 1) dX11_less_65 rfl rfl ?_
    refine q_isubN (pc' := 67) dX11_less_66 (by omega) rfl ?_
    refine h_puti (pc' := 70) dX11_less_67 fX11_242 rfl rfl rfl rfl rfl ?_
    generalize hm3 : sI m2 215 20 (nI (n - 1)) = m3
    have g3 : Fr [215] m2 m3 := hm3 ▸ Fr.rf.I (by decide)
    have f3 : Fr s_Sy m m3 := f2.trans (g3.mono (by decide))
    have k3 : Kp 215 (20 :: s_Jx) m m3 := hm3 ▸ kp_I k2 (by decide)
    have e3 : m3.1 215 20 = nI (n - 1) := hm3 ▸ rfl
    have hx3 : ∀ l, l < n → m3.2.2.2.1 223 l = if i ≤ l ∧ l + 1 < n then xs (l + 1) else xs l := fun l hl => by rw [← hm3]; exact hx2 l hl
    have hM3 := hM.fr f3 (by decide) (by decide)
    have hr3 : ∀ l, l < 5 → m3.2.2.1 224 l = nI (rl l) := fun l hl => by rw [← hm3]; exact hr2 l hl
    have hV3 : MV m3 (n - 1) rl (s_skip xs i) := ⟨e3, by omega, fun l hl => by
      rw [hx3 l (by omega)]
      unfold s_skip
      by_cases z : l < i
      · rw [if_neg (by omega), if_pos z]
      · rw [if_pos (by omega), if_neg z], hr3, hVt.2.2.2.2⟩
    refine q_aload_n (pc' := 71) dX11_less_70 rfl rfl ?_
    refine h_callV (pc' := 74) (M' := mX11_costOfAll) (As := []) dX11_less_71 iX11_costOfAll lX11_452 rfl rfl rfl rfl (Nat.le_of_ble_eq_true rfl) (Nat.le_of_ble_eq_true rfl) rfl rfl (k_costOfAll hM3 hV3) (fun r m' hq => ?_)
    obtain ⟨rfl, f4, k4⟩ := hq
    have e4 : m'.1 215 20 = nI (n - 1) := (k4 20 (by decide)).trans e3
    have hx4 : ∀ l, l < n → m'.2.2.2.1 223 l = if i ≤ l ∧ l + 1 < n then xs (l + 1) else xs l := fun l hl => (congrFun (f4.l (by decide)) l).trans (hx3 l hl)
    have hr4 : ∀ l, l < 5 → m'.2.2.1 224 l = nI (rl l) := fun l hl => (congrFun (f4.a (by decide)) l).trans (hr3 l hl)
    have f4 : Fr s_Sy m m' := f3.trans (f4.mono (by decide))
    have k4 : Kp 215 (20 :: s_Jx) m m' := k3.trans (k4.mono (by decide))
    refine q_istore (pc' := 76) (lv' := [_, _, _, _, _, _, _]) dX11_less_74 (by decide) rfl rfl ?_
    refine q_aload_n (pc' := 77) dX11_less_76 rfl rfl ?_
    refine h_getiE (pc' := 80) dX11_less_77 fX11_242 rfl rfl (e4) rfl ?_
    refine q_istore (pc' := 82) (lv' := [_, _, _, _, _, _, _]) dX11_less_80 (by decide) rfl rfl ?_
    suffices h : ∀ g j m5, i + g = j → j < n → Fr s_Sy m m5 → Kp 215 (20 :: s_Jx) m m5 → m5.1 215 20 = nI (n - 1) → (∀ l, l < 5 → m5.2.2.1 224 l = nI (rl l)) → (∀ l, l < n → m5.2.2.2.1 223 l = if j < l then xs l else if i ≤ l ∧ l + 1 < n then xs (l + 1) else xs l) → q_V (q_g Z) mX11_less (d+8) 0 0 82 [some (.ref (q_ad Z 215)), some (.int (nI i)), some (.int (nI (s_tot n rl xs))), some (.long (xs i)), none, some (.int (nI (s_tot (n - 1) rl (s_skip xs i)))), some (.int (nI j))] [] (q_W Z (m5)) (q_P Z fun r m2 => r = some (.int (nI (s_tot n rl xs) - nI (s_tot (n - 1) rl (s_skip xs i)))) ∧ Fr s_Sy m m2 ∧ Kp 215 s_Jx m m2 ∧ (t = true → MV m2 n rl xs) ∧ (t = false → m2 = m)) from h (n - 1 - i) (n - 1) m' (by omega) (by omega) f4 k4 e4 hr4 (fun l hl => by rw [if_neg (by omega)]; exact hx4 l hl)
    intro g
    induction g with
    | zero =>
      intro j m5 hj hjk f5 k5 e5 hr5 hx5
      obtain rfl : i = j := by omega
      refine q_iload (pc' := 84) dX11_less_82 rfl rfl ?_
      refine q_iload_n (pc' := 85) dX11_less_84 rfl rfl ?_
      refine q_icmp_leN (tgt := 110) (pc' := 88) dX11_less_85 (by decide) rfl (by omega) (fun c_85 => ?_) (fun c_85 => ?_)
      rotate_left
      · omega
      refine q_aload_n (pc' := 111) dX11_less_110 rfl rfl ?_
      refine h_getr (pc' := 114) dX11_less_111 fX11_33 rfl rfl rfl ?_
      refine q_iload_n (pc' := 115) dX11_less_114 rfl rfl ?_
      refine q_lload_n (pc' := 116) dX11_less_115 rfl rfl ?_
      refine h_last (pc' := 117) dX11_less_116 rfl (rfl) (by omega) (by decide) rfl ?_
      refine q_aload_n (pc' := 118) dX11_less_117 rfl rfl ?_
      refine q_dup (pc' := 119) dX11_less_118 rfl rfl ?_
      refine h_getiE (pc' := 122) dX11_less_119 fX11_242 rfl rfl (e5) rfl ?_
      refine q_iconst (pc' := 123) (v := nI 1) dX11_less_122 rfl rfl ?_
      refine q_iaddN (pc' := 124) dX11_less_123 rfl ?_
      refine h_puti (pc' := 127) dX11_less_124 fX11_242 rfl rfl rfl rfl rfl ?_
      have hV9 : MV (sI (sL m5 223 (q_u (m5.2.2.2.1 223) i (xs i))) 215 20 (nI (n - 1 + 1))) n rl xs := ⟨show nI (n - 1 + 1) = nI n by rw [show n - 1 + 1 = n by omega], hn6, fun l hl => by
        show q_u (m5.2.2.2.1 223) i (xs i) l = xs l
        by_cases z : l = i
        · rw [z, q_u_s]
        · rw [q_u_n _ _ z, hx5 l hl]
          by_cases y : i < l
          · rw [if_pos y]
          · rw [if_neg y, if_neg (by omega)], hr5, hVt.2.2.2.2⟩
      have k9 : Kp 215 s_Jx m (sI (sL m5 223 (q_u (m5.2.2.2.1 223) i (xs i))) 215 20 (nI (n - 1 + 1))) := fun j hj => by
        by_cases z : j = 20
        · rw [z, hV9.1, hn]
        · exact (q_u_n (m5.1 215) _ z).trans (k5 j (fun w => by
            rcases List.mem_cons.mp w with v | v
            · exact z v
            · exact hj v))
      refine q_iload_n (pc' := 128) dX11_less_127 rfl rfl ?_
      refine q_iload (pc' := 130) dX11_less_128 rfl rfl ?_
      refine q_isub (pc' := 131) dX11_less_130 rfl ?_
      refine q_iret dX11_less_131 rfl rfl ⟨_, rfl, rfl, (f5.L (by decide)).I (by decide), k9, fin _ hV9⟩
    | succ g ih =>
      intro j m5 hj hjk f5 k5 e5 hr5 hx5
      obtain ⟨j', rfl⟩ : ∃ j', j = j' + 1 := ⟨j - 1, by omega⟩
      have e6 : m5.2.2.2.1 223 j' = xs (j' + 1) := by rw [hx5 j' (by omega), if_neg (by omega), if_pos (by omega)]
      refine q_iload (pc' := 84) dX11_less_82 rfl rfl ?_
      refine q_iload_n (pc' := 85) dX11_less_84 rfl rfl ?_
      refine q_icmp_leN (tgt := 110) (pc' := 88) dX11_less_85 (by decide) rfl (by omega) (fun c_85 => ?_) (fun c_85 => ?_)
      · omega
      refine q_aload_n (pc' := 89) dX11_less_88 rfl rfl ?_
      refine h_getr (pc' := 92) dX11_less_89 fX11_33 rfl rfl rfl ?_
      refine q_iload (pc' := 94) dX11_less_92 rfl rfl ?_
      refine q_aload_n (pc' := 95) dX11_less_94 rfl rfl ?_
      refine h_getr (pc' := 98) dX11_less_95 fX11_33 rfl rfl rfl ?_
      refine q_iload (pc' := 100) dX11_less_98 rfl rfl ?_
      refine q_iconst (pc' := 101) (v := nI 1) dX11_less_100 rfl rfl ?_
      refine q_isubN (pc' := 102) dX11_less_101 (by omega) rfl ?_
      refine h_laldE (pc' := 103) dX11_less_102 rfl (rfl) (by omega) (by decide) (e6) rfl ?_
      refine h_last (pc' := 104) dX11_less_103 rfl (rfl) (by omega) (by decide) rfl ?_
      refine q_idecN (pc' := 107) (lv' := [_, _, _, _, _, _, _]) dX11_less_104 rfl (by decide) rfl rfl ?_
      refine q_goto (pc' := 82) dX11_less_107 (by decide) ?_
      refine ih j' _ (by omega) (by omega) (f5.L (by decide)) k5 e5 hr5 (fun l hl => ?_)
      show q_u (m5.2.2.2.1 223) (j' + 1) (xs (j' + 1)) l = _
      by_cases z : l = j' + 1
      · rw [z, q_u_s, if_pos (by omega)]
      · rw [q_u_n _ _ z, hx5 l hl]
        by_cases y : j' + 1 < l
        · rw [if_pos y, if_pos (by omega)]
        · rw [if_neg y]
          by_cases y2 : j' < l
          · omega
          · rw [if_neg y2]
