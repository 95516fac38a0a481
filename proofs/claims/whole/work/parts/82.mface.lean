/-! ===== the reference's face: about, block, whole ===== -/
set_option maxHeartbeats 4000000 in
set_option maxRecDepth 20000 in
theorem k_placesOf {Z : q_Z} {m : q_Mm} {d : Nat} {n : Nat} {v : Int64} {rl : Nat → Nat} {xs : Nat → Int64} (hM : MD m) (hV : MV m n rl xs) : q_V (q_g Z) mX11_placesOf (d+4) 0 0 0 [some (.ref (q_ad Z 215)), some (.long v), none, none, none] [] (q_W Z m) (q_P Z fun r m2 => r = some (.int (if s_find (fun p => !decide (s_wv v p = s_no)) (s_pn (rl 2 + 1) 0) 0 < s_pn (rl 2 + 1) 0 then nI (s_cd (s_find (fun p => !decide (s_wv v p = s_no)) (s_pn (rl 2 + 1) 0) 0) / 16) else -1)) ∧ Fr [215] m m2 ∧ Kp 215 [23] m m2) := by
  have hok := hV.2.2.2.2
  have h2 := hok.2.2.1
  obtain ⟨P, hP⟩ : ∃ P, (fun p => !decide (s_wv v p = s_no)) = P := ⟨_, rfl⟩
  rw [hP]
  obtain ⟨G, hG⟩ : ∃ G, s_pn (rl 2 + 1) 0 = G := ⟨_, rfl⟩
  rw [hG]
  have hpe : ∀ e f, e < 15 → f ≤ e → (!decide (s_w2 v e f = s_no)) = P (s_pn e f) := fun e f he hf => by
    rw [← hP]
    show _ = !decide (s_wv v (s_pn e f) = s_no)
    rw [s_wv_2, k_cd_pn he hf, show (16 * e + f) / 16 = e by omega, show (16 * e + f) % 16 = f by omega]
  refine q_iconst (pc' := 1) (v := nI 0) dX11_placesOf_0 rfl rfl ?_
  refine q_istore_n (pc' := 2) (lv' := [_, _, _, _, _]) dX11_placesOf_1 (by decide) rfl rfl ?_
  suffices h : ∀ g e m1 u, e + g = rl 2 + 1 → Fr [215] m m1 → Kp 215 [23] m m1 → (∃ c, s_pn e 0 + c = G ∧ s_find P c (s_pn e 0) = s_find P G 0) → q_V (q_g Z) mX11_placesOf (d+4) 0 0 2 [some (.ref (q_ad Z 215)), some (.long v), none, some (.int (nI e)), u] [] (q_W Z (m1)) (q_P Z fun r m2 => r = some (.int (if s_find P G 0 < G then nI (s_cd (s_find P G 0) / 16) else -1)) ∧ Fr [215] m m2 ∧ Kp 215 [23] m m2) from h _ 0 m _ (Nat.zero_add _) Fr.rf Kp.rf ⟨G, Nat.zero_add _, rfl⟩
  intro g
  induction g with
  | zero =>
    intro e m1 u he f1 k1 hs
    obtain rfl : e = rl 2 + 1 := by omega
    obtain ⟨c, hc, hs⟩ := hs
    have hr1 : m1.2.2.1 224 2 = nI (rl 2) := (congrFun (f1.a (by decide)) 2).trans (hV.2.2.2.1 2 (by decide))
    refine q_iload_n (pc' := 3) dX11_placesOf_2 rfl rfl ?_
    refine q_aload_n (pc' := 4) dX11_placesOf_3 rfl rfl ?_
    refine h_getr (pc' := 7) dX11_placesOf_4 fX11_36 rfl rfl rfl ?_
    refine q_iconst (pc' := 8) (v := nI 2) dX11_placesOf_7 rfl rfl ?_
    refine h_ialdE (pc' := 9) dX11_placesOf_8 rfl (rfl) (by omega) (by decide) (hr1) rfl ?_
    refine q_icmp_gtN (tgt := 46) (pc' := 12) dX11_placesOf_9 (by decide) rfl (by omega) (fun c_9 => ?_) (fun c_9 => ?_)
    rotate_left
    · omega
    have hs : G = s_find P G 0 := by
      rw [show c = 0 by omega] at hs
      exact (show s_find P 0 (s_pn (rl 2 + 1) 0) = G from hG).symm.trans hs
    refine q_iconst (pc' := 47) (v := (-1)) dX11_placesOf_46 rfl rfl ?_
    refine q_iret dX11_placesOf_47 rfl rfl ⟨_, rfl, by rw [if_neg (by omega)], f1, k1⟩
  | succ g ih =>
    intro e m1 u he f1 k1 hs
    have hr1 : m1.2.2.1 224 2 = nI (rl 2) := (congrFun (f1.a (by decide)) 2).trans (hV.2.2.2.1 2 (by decide))
    refine q_iload_n (pc' := 3) dX11_placesOf_2 rfl rfl ?_
    refine q_aload_n (pc' := 4) dX11_placesOf_3 rfl rfl ?_
    refine h_getr (pc' := 7) dX11_placesOf_4 fX11_36 rfl rfl rfl ?_
    refine q_iconst (pc' := 8) (v := nI 2) dX11_placesOf_7 rfl rfl ?_
    refine h_ialdE (pc' := 9) dX11_placesOf_8 rfl (rfl) (by omega) (by decide) (hr1) rfl ?_
    refine q_icmp_gtN (tgt := 46) (pc' := 12) dX11_placesOf_9 (by decide) rfl (by omega) (fun c_9 => ?_) (fun c_9 => ?_)
    · omega
    refine q_iconst (pc' := 13) (v := nI 0) dX11_placesOf_12 rfl rfl ?_
    refine q_istore (pc' := 15) (lv' := [_, _, _, _, _]) dX11_placesOf_13 (by decide) rfl rfl ?_
    suffices h : ∀ g2 f m1, f + g2 = e + 1 → Fr [215] m m1 → Kp 215 [23] m m1 → (∃ c, s_pn e f + c = G ∧ s_find P c (s_pn e f) = s_find P G 0) → q_V (q_g Z) mX11_placesOf (d+4) 0 0 15 [some (.ref (q_ad Z 215)), some (.long v), none, some (.int (nI e)), some (.int (nI f))] [] (q_W Z (m1)) (q_P Z fun r m2 => r = some (.int (if s_find P G 0 < G then nI (s_cd (s_find P G 0) / 16) else -1)) ∧ Fr [215] m m2 ∧ Kp 215 [23] m m2) from h _ 0 m1 (Nat.zero_add _) f1 k1 hs
    intro g2
    induction g2 with
    | zero =>
      intro f m1 hf f1 k1 hs
      obtain rfl : f = e + 1 := by omega
      rw [k_pn_next0 ⟨e, by omega⟩] at hs
      refine q_iload (pc' := 17) dX11_placesOf_15 rfl rfl ?_
      refine q_iload_n (pc' := 18) dX11_placesOf_17 rfl rfl ?_
      refine q_icmp_gtN (tgt := 40) (pc' := 21) dX11_placesOf_18 (by decide) rfl (by omega) (fun c_18 => ?_) (fun c_18 => ?_)
      rotate_left
      · omega
      refine q_iincN (pc' := 43) (j := 1) (lv' := [_, _, _, _, _]) dX11_placesOf_40 rfl (by decide) rfl rfl ?_
      refine q_goto (pc' := 2) dX11_placesOf_43 (by decide) ?_
      exact ih (e + 1) m1 _ (by omega) f1 k1 hs
    | succ g2 ih2 =>
      intro f m1 hf f1 k1 hs
      have hM1 := hM.fr f1 (by decide) (by decide)
      have hcd := k_cd_pn (e := e) (f := f) (by omega) (by omega)
      have hlt : s_pn e f < G := by
        rw [← hG]
        show e * (e + 1) / 2 + f < (rl 2 + 1) * (rl 2 + 1 + 1) / 2 + 0
        have a1 : (e + 1) * (e + 1 + 1) ≤ (rl 2 + 1) * (rl 2 + 1 + 1) := Nat.mul_le_mul (by omega) (by omega)
        have a2 : (e + 1) * (e + 1 + 1) = e * (e + 1) + 2 * (e + 1) := by rw [Nat.mul_comm (e + 1), show e + 1 + 1 = e + 2 from rfl, Nat.add_mul]
        omega
      refine q_iload (pc' := 17) dX11_placesOf_15 rfl rfl ?_
      refine q_iload_n (pc' := 18) dX11_placesOf_17 rfl rfl ?_
      refine q_icmp_gtN (tgt := 40) (pc' := 21) dX11_placesOf_18 (by decide) rfl (by omega) (fun c_18 => ?_) (fun c_18 => ?_)
      · omega
      refine q_aload_n (pc' := 22) dX11_placesOf_21 rfl rfl ?_
      refine q_lload_n (pc' := 23) dX11_placesOf_22 rfl rfl ?_
      refine q_iload_n (pc' := 24) dX11_placesOf_23 rfl rfl ?_
      refine q_iload (pc' := 26) dX11_placesOf_24 rfl rfl ?_
      refine h_callV (pc' := 29) (M' := mX11_isFit) (As := [_, _, _]) dX11_placesOf_26 iX11_isFit lX11_378 rfl rfl rfl rfl (Nat.le_of_ble_eq_true rfl) (Nat.le_of_ble_eq_true rfl) rfl rfl (k_isFit hM1 (by omega) (by omega)) (fun r m' hq => ?_)
      obtain ⟨rfl, f2, k2⟩ := hq
      rw [hpe e f (by omega) (by omega)]
      obtain ⟨c, hc, hs⟩ := hs
      obtain ⟨c', rfl⟩ : ∃ c', c = c' + 1 := ⟨c - 1, by omega⟩
      refine q_if_eqB (tgt := 34) (pc' := 32) dX11_placesOf_29 (by decide) rfl (fun c_29 => ?_) (fun c_29 => ?_)
      · rw [s_find_f c_29] at hs
        refine q_iincN (pc' := 37) (j := 1) (lv' := [_, _, _, _, _]) dX11_placesOf_34 rfl (by decide) rfl rfl ?_
        refine q_goto (pc' := 15) dX11_placesOf_37 (by decide) ?_
        exact ih2 (f + 1) m' (by omega) (f1.trans f2) (k1.trans k2) ⟨c', by show s_pn e f + 1 + c' = G; omega, hs⟩
      · rw [s_find_t c_29] at hs
        refine q_iload_n (pc' := 33) dX11_placesOf_32 rfl rfl ?_
        refine q_iret dX11_placesOf_33 rfl rfl ⟨_, rfl, by rw [← hs, if_pos hlt, hcd, show (16 * e + f) / 16 = e by omega], f1.trans f2, k1.trans k2⟩
