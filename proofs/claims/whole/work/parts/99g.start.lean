/-! ===== the law, from its entry to its loop ===== -/
theorem B_cols_get {Z : q_Z} {ad : Nat → Nat} {j : Nat} : ∀ i, j < i → ∀ r, r < 4 → (B_cols Z ad i)[4 * j + r]? = (B_col Z (ad (4 * j)) (ad (4 * j + 1)) (ad (4 * j + 2)) (ad (4 * j + 3)))[r]?
  | 0, h, _, _ => absurd h (Nat.not_lt_zero j)
  | i + 1, h, r, hr => by
    have hl := B_cols_len (Z := Z) (ad := ad) i
    show (B_cols Z ad i ++ B_col Z _ _ _ _)[4 * j + r]? = _
    by_cases z : j = i
    · subst z
      rw [List.getElem?_append_right (by omega), hl, Nat.add_sub_cancel_left]
    · rw [List.getElem?_append_left (by omega)]
      exact B_cols_get i (by omega) r hr
def s_as (a d0 d1 d2 d3 d4 o0 o1 w0 w1 r0 r1 r2 r3 r4 r5 b0 b1 b2 c0 c1 c2 c3 k0 k1 k2 k3 s0 s1 f0 f1 f2 f3 f4 x0 x1 x2 x3 x4 x5 x6 x7 x8 y0 y1 y2 y3 y4 y5 y6 y7 y8 v0 z0 z1 g u : Nat) (sa qm : Nat → Nat) : List Nat := [a, d0, d1, d2, d3, d4, o0, o1, w0, w1, r0, r1, r2, r3, r4, r5, b0, b1, b2, c0, c1, c2, c3, k0, k1, k2, k3, s0, s1] ++ ((List.range 160).map sa ++ [f0, f1, f2, f3, f4, x0, x1, x2, x3, x4, x5, x6, x7, x8, y0, y1, y2, y3, y4, y5, y6, y7, y8, v0, z0, z1, g, (qm 0), (qm 1), (qm 2), (qm 3), (qm 4), (qm 5), (qm 6), (qm 7), (qm 8), (qm 9), (qm 10), (qm 11), (qm 12), (qm 13), (qm 14), (qm 15), (qm 16), (qm 17), (qm 18), (qm 19), (qm 20), (qm 21), (qm 22), (qm 23), (qm 24), (qm 25), u])
def s_wd (Z : q_Z) (a d0 d1 d2 d3 d4 o0 o1 w0 w1 r0 r1 r2 r3 r4 r5 b0 b1 b2 c0 c1 c2 c3 k0 k1 k2 k3 s0 s1 f0 f1 f2 f3 f4 x0 x1 x2 x3 x4 x5 x6 x7 x8 y0 y1 y2 y3 y4 y5 y6 y7 y8 v0 z0 z1 g u : Nat) (sa qm : Nat → Nat) (fp : Nat → Option Nat) (ff : Nat → Int32) (ft fh fu fw mt mh : Nat → UInt64) : va_W := ((a, .inr (10, [.ref d0, .ref o0, .ref w0, .ref r0, .ref b0, .ref c0, .ref k0, .ref s0, .ref f0, .ref x0, .ref y0, .ref v0, .ref z0, .ref z1, .int 0, .int 0, .int 0])) :: (B_dbl Z d0 d1 d2 d3 d4 ft fh fu fw ++ (B_oct Z o0 o1 ++ (B_oct Z w0 w1 ++ (B_trd Z r0 o0 d0 r1 r2 r3 r4 r5 ++ (B_brd Z b0 o0 d0 b1 b2 ++ (B_col Z c0 c1 c2 c3 ++ (B_col Z k0 k1 k2 k3 ++ (((s0, .inr (7, [.ref s1, .int 0, .int 0])) :: (s1, .inl (Z.2.2.1 4, 40, .inr (.inr (.inr (.inr fp))))) :: B_cols Z sa 40) ++ (B_fits Z f0 d0 f1 f2 f3 f4 ff ++ (B_pln Z x0 f0 c0 x1 x2 x3 x4 x5 x6 x7 x8 s_rx ++ (B_pln Z y0 f0 c0 y1 y2 y3 y4 y5 y6 y7 y8 s_rx ++ ([(v0, .inr (1, [.ref w0, .int 0, .int 0]))] ++ [(z0, .inl (Z.2.2.1 0, 5, .inl (fun _ => 0))), (z1, .inl (Z.2.2.1 1, 64, .inr (.inl (fun _ => 0))))]))))))))))))) ++ (B_mod Z g qm mt mh ++ [(u, .inl (Z.2.2.1 1, 1, .inr (.inl (fun _ => 0))))])
def s_m0 (ff : Nat → Int32) (ft fh fu fw mt mh : Nat → UInt64) : q_Mm := (fun _ _ => 0, fun _ _ => 0, fun p => if p = 190 then ff else if p = 195 ∨ p = 204 then s_rx else if p = 13 ∨ p = 21 ∨ p = 25 ∨ (29 ≤ p ∧ p < 189 ∧ (p - 29) % 4 = 2) then s_ru else fun _ => 0, fun _ _ => 0, fun p => if p = 2 then ft else if p = 3 then fh else if p = 4 then fu else if p = 5 then fw else if p = 216 then mt else if p = 217 then mh else fun _ => 0)
def s_Z (Z : q_Z) (ad : Nat → Nat) : q_Z := (Z.1, Z.2.1, Z.2.2.1, ad, Z.2.2.2.2)
set_option maxHeartbeats 40000000 in
set_option maxRecDepth 100000 in
theorem s_wd_is {Z : q_Z} {a d0 d1 d2 d3 d4 o0 o1 w0 w1 r0 r1 r2 r3 r4 r5 b0 b1 b2 c0 c1 c2 c3 k0 k1 k2 k3 s0 s1 f0 f1 f2 f3 f4 x0 x1 x2 x3 x4 x5 x6 x7 x8 y0 y1 y2 y3 y4 y5 y6 y7 y8 v0 z0 z1 g u : Nat} {sa qm : Nat → Nat} {ff : Nat → Int32} {ft fh fu fw mt mh : Nat → UInt64} : s_wd Z a d0 d1 d2 d3 d4 o0 o1 w0 w1 r0 r1 r2 r3 r4 r5 b0 b1 b2 c0 c1 c2 c3 k0 k1 k2 k3 s0 s1 f0 f1 f2 f3 f4 x0 x1 x2 x3 x4 x5 x6 x7 x8 y0 y1 y2 y3 y4 y5 y6 y7 y8 v0 z0 z1 g u sa qm (fun i => some ((s_as a d0 d1 d2 d3 d4 o0 o1 w0 w1 r0 r1 r2 r3 r4 r5 b0 b1 b2 c0 c1 c2 c3 k0 k1 k2 k3 s0 s1 f0 f1 f2 f3 f4 x0 x1 x2 x3 x4 x5 x6 x7 x8 y0 y1 y2 y3 y4 y5 y6 y7 y8 v0 z0 z1 g u sa qm).getD (29 + 4 * i) 0)) ff ft fh fu fw mt mh = q_W (s_Z Z (fun p => (s_as a d0 d1 d2 d3 d4 o0 o1 w0 w1 r0 r1 r2 r3 r4 r5 b0 b1 b2 c0 c1 c2 c3 k0 k1 k2 k3 s0 s1 f0 f1 f2 f3 f4 x0 x1 x2 x3 x4 x5 x6 x7 x8 y0 y1 y2 y3 y4 y5 y6 y7 y8 v0 z0 z1 g u sa qm).getD p 0)) (s_m0 ff ft fh fu fw mt mh) := by
  rfl
theorem s_R0 {ff : Nat → Int32} {ft fh fu fw mt mh : Nat → UInt64} (h1 : (∀ k, k < 10 → q_dv (fu k) false (2 ^ (1074 + 2 ^ k)) ∧ q_dv (fw k) false (2 ^ (1074 - 2 ^ k))) ∧ ∀ k, k < 15 → ft k = s_tn k ∧ fh k = s_th k) (h2 : ∀ p, p < 120 → ff p = nI (s_cd p)) (h3 : ∀ k, k < 15 → mt k = s_tn k ∧ mh k = s_th k) : q_R (s_m0 ff ft fh fu fw mt mh) := by
  have hO : Oct (s_m0 ff ft fh fu fw mt mh) 6 [] := ⟨rfl, by decide, fun i hi => absurd hi (by simp), fun x hx => by cases hx⟩
  have hO8 : Oct (s_m0 ff ft fh fu fw mt mh) 8 [] := ⟨rfl, by decide, fun i hi => absurd hi (by simp), fun x hx => by cases hx⟩
  refine ⟨false, false, [], [], (0, 0, fun _ => 0, s_usual, fun _ => 0), (0, 0, fun _ => 0, s_usual, fun _ => 0), [], fun _ => 0, ⟨⟨rfl, rfl, hO, ⟨hO8, rfl, rfl, by decide, by decide⟩, (fun z => by cases z), ⟨0, by decide, rfl, rfl, by decide, fun i c hc => by simp at hc⟩, fun i hi => rfl⟩, true, ⟨fun k hk => h1.1 k hk, fun k hk => h1.2 k hk⟩, h2, fun i hi => Or.inl rfl, ⟨rfl, rfl, by decide, by decide, fun i hi => absurd hi (Nat.not_lt_zero i), fun i hi => s_ru_is hi, fun i hi => absurd hi (Nat.not_lt_zero i), s_usual_ok⟩, fun z => absurd z (show ¬ (0 : Int32) = q_b true by decide), fun z => by cases z⟩, ?_⟩
  exact ⟨fun k hk => h3 k hk, ⟨rfl, by decide, fun i hi => absurd hi (by simp), fun x hx => by cases hx⟩, rfl, rfl, MO.nil rfl, ⟨rfl, rfl, by decide, by decide, fun i hi => absurd hi (Nat.not_lt_zero i), (fun z => by cases z), fun i hi => absurd hi (Nat.not_lt_zero i), s_usual_ok⟩, (fun z => by cases z), ⟨rfl, by decide, fun i c hc => by simp at hc⟩, fun i hi => rfl⟩
set_option maxHeartbeats 40000000 in
set_option maxRecDepth 100000 in
theorem law_start {Z : q_Z} {nm : String} (hst : Z.1.stackTraces = false) (hL : Z.2.2.2.2.2.1 ≤ 3072) : q_V (q_g Z) (mL nm) 12 755 34672 0 [some (.ref (Z.2.2.2.2.1 4)), none, none, none, none, none, none, none] [] (([] : va_W) ++ []) (fun r _ => r = some (.int 1)) := by
  refine n_new (pc' := 3) (ci := 10) (C := RX10) (T := TX10) (N := 17) (ty := tyX10) dL_law_0 clL_8 iwX10 tyX10_ok izX10 itX10 rfl rfl (fun _ => rfl) rfl (fun q0 => ?_)
  refine q_dup (pc' := 4) dL_law_3 rfl rfl ?_
  refine n_callI (mc1 := 214) (ms1 := 19994) (pc' := 7) (M' := mX10_init) (As := []) dL_law_4 iX10_init lL_15 rfl rfl (Nat.le_of_ble_eq_true rfl) (Nat.le_of_ble_eq_true rfl) rfl rfl (n_gp (a := q0)) (fun B hB => ?_)
  obtain ⟨d0, o0, w0, r0, b0, c0, k0, s0, f0, x0, y0, v0, z0, z1, Bd, Bo, Bw, Br, Bb, Bc, Bk, Bs, Bf, Bx, By, Bv, ⟨d1, d2, d3, d4, ft, fh, fu, fw, hdd, rfl⟩, ⟨o1, rfl⟩, ⟨w1, rfl⟩, ⟨r1, r2, r3, r4, r5, rfl⟩, ⟨b1, b2, rfl⟩, ⟨c1, c2, c3, rfl⟩, ⟨k1, k2, k3, rfl⟩, ⟨s1, sa, rfl⟩, ⟨f1, f2, f3, f4, ff, hff, rfl⟩, ⟨x1, x2, x3, x4, x5, x6, x7, x8, rfl⟩, ⟨y1, y2, y3, y4, y5, y6, y7, y8, rfl⟩, rfl, rfl⟩ := hB
  refine q_astore_n (pc' := 8) (lv' := [_, _, _, _, _, _, _, _]) dL_law_7 (by decide) rfl rfl ?_
  refine n_new (pc' := 11) (ci := 11) (C := RX11) (T := TX11) (N := 56) (ty := tyX11) dL_law_8 clL_16 iwX11 tyX11_ok izX11 itX11 rfl rfl (fun _ => rfl) rfl (fun q8 => ?_)
  refine q_dup (pc' := 12) dL_law_11 rfl rfl ?_
  refine n_callI (mc1 := 26) (ms1 := 11532) (pc' := 15) (M' := mX11_init) (As := []) dL_law_12 iX11_init lL_18 rfl rfl (Nat.le_of_ble_eq_true rfl) (Nat.le_of_ble_eq_true rfl) rfl rfl (n_mod (a := q8)) (fun B hB => ?_)
  obtain ⟨qm, mt, mh, hmm, rfl⟩ := hB
  refine q_astore_n (pc' := 16) (lv' := [_, _, _, _, _, _, _, _]) dL_law_15 (by decide) rfl rfl ?_
  refine q_iconst (pc' := 17) (v := nI 1) dL_law_16 rfl rfl ?_
  refine n_newl (N := 1) (t := 1) (pc' := 19) dL_law_17 rfl rfl (by decide) (fun _ => rfl) rfl (fun q17 => ?_)
  refine q_astore_n (pc' := 20) (lv' := [_, _, _, _, _, _, _, _]) dL_law_19 (by decide) rfl rfl ?_
  refine q_iconst (pc' := 21) (v := nI 0) dL_law_20 rfl rfl ?_
  refine q_istore (pc' := 23) (lv' := [_, _, _, _, _, _, _, _]) dL_law_21 (by decide) rfl rfl ?_
  obtain ⟨a, ha⟩ : ∃ z, z = q0 := ⟨_, rfl⟩
  obtain ⟨g, hg⟩ : ∃ z, z = q8 := ⟨_, rfl⟩
  obtain ⟨u, hu⟩ : ∃ z, z = q17 := ⟨_, rfl⟩
  subst ha
  subst hg
  subst hu
  have key : q_V (q_g Z) (mL nm) 12 512 3072 23 [some (.ref (Z.2.2.2.2.1 4)), some (.ref a), some (.ref g), some (.ref u), some (.int (nI 0)), none, none, none] [] (s_wd Z a d0 d1 d2 d3 d4 o0 o1 w0 w1 r0 r1 r2 r3 r4 r5 b0 b1 b2 c0 c1 c2 c3 k0 k1 k2 k3 s0 s1 f0 f1 f2 f3 f4 x0 x1 x2 x3 x4 x5 x6 x7 x8 y0 y1 y2 y3 y4 y5 y6 y7 y8 v0 z0 z1 g u sa qm (fun i => some (sa (4 * i))) ff ft fh fu fw mt mh) (fun r _ => r = some (.int 1)) := by
    refine q_same (k := 28) (a := s1) (e := .inl (Z.2.2.1 4, 40, .inr (.inr (.inr (.inr (fun i => some (sa (4 * i)))))))) (e2 := .inl (Z.2.2.1 4, 40, .inr (.inr (.inr (.inr (fun i => some ((s_as a d0 d1 d2 d3 d4 o0 o1 w0 w1 r0 r1 r2 r3 r4 r5 b0 b1 b2 c0 c1 c2 c3 k0 k1 k2 k3 s0 s1 f0 f1 f2 f3 f4 x0 x1 x2 x3 x4 x5 x6 x7 x8 y0 y1 y2 y3 y4 y5 y6 y7 y8 v0 z0 z1 g u sa qm).getD (29 + 4 * i) 0)))))))  rfl (fun H hH => ?_) ?_
    · have hH : H[s1]? = some (arrV (Z.2.2.1 4) 40 (fun j => va_rf (some (sa (4 * j))))) := hH
      show H[s1]? = some (arrV (Z.2.2.1 4) 40 (fun j => va_rf (some ((s_as a d0 d1 d2 d3 d4 o0 o1 w0 w1 r0 r1 r2 r3 r4 r5 b0 b1 b2 c0 c1 c2 c3 k0 k1 k2 k3 s0 s1 f0 f1 f2 f3 f4 x0 x1 x2 x3 x4 x5 x6 x7 x8 y0 y1 y2 y3 y4 y5 y6 y7 y8 v0 z0 z1 g u sa qm).getD (29 + 4 * j) 0))))
      rw [hH, arr_congr (fun j hj => ?_)]
      have e : (s_as a d0 d1 d2 d3 d4 o0 o1 w0 w1 r0 r1 r2 r3 r4 r5 b0 b1 b2 c0 c1 c2 c3 k0 k1 k2 k3 s0 s1 f0 f1 f2 f3 f4 x0 x1 x2 x3 x4 x5 x6 x7 x8 y0 y1 y2 y3 y4 y5 y6 y7 y8 v0 z0 z1 g u sa qm).getD (29 + 4 * j) 0 = sa (4 * j) := by
        unfold s_as
        rw [List.getD_eq_getElem?_getD, List.getElem?_append_right (by show 29 ≤ _; omega)]
        show (((List.range 160).map sa ++ _)[29 + 4 * j - 29]?).getD 0 = _
        rw [Nat.add_sub_cancel_left, List.getElem?_append_left (by rw [List.length_map, List.length_range]; omega), List.getElem?_map, List.getElem?_range (by omega)]
        rfl
      rw [e]
    · have e1 : (s_wd Z a d0 d1 d2 d3 d4 o0 o1 w0 w1 r0 r1 r2 r3 r4 r5 b0 b1 b2 c0 c1 c2 c3 k0 k1 k2 k3 s0 s1 f0 f1 f2 f3 f4 x0 x1 x2 x3 x4 x5 x6 x7 x8 y0 y1 y2 y3 y4 y5 y6 y7 y8 v0 z0 z1 g u sa qm (fun i => some (sa (4 * i))) ff ft fh fu fw mt mh).set 28 (s1, .inl (Z.2.2.1 4, 40, .inr (.inr (.inr (.inr (fun i => some ((s_as a d0 d1 d2 d3 d4 o0 o1 w0 w1 r0 r1 r2 r3 r4 r5 b0 b1 b2 c0 c1 c2 c3 k0 k1 k2 k3 s0 s1 f0 f1 f2 f3 f4 x0 x1 x2 x3 x4 x5 x6 x7 x8 y0 y1 y2 y3 y4 y5 y6 y7 y8 v0 z0 z1 g u sa qm).getD (29 + 4 * i) 0))))))) = s_wd Z a d0 d1 d2 d3 d4 o0 o1 w0 w1 r0 r1 r2 r3 r4 r5 b0 b1 b2 c0 c1 c2 c3 k0 k1 k2 k3 s0 s1 f0 f1 f2 f3 f4 x0 x1 x2 x3 x4 x5 x6 x7 x8 y0 y1 y2 y3 y4 y5 y6 y7 y8 v0 z0 z1 g u sa qm (fun i => some ((s_as a d0 d1 d2 d3 d4 o0 o1 w0 w1 r0 r1 r2 r3 r4 r5 b0 b1 b2 c0 c1 c2 c3 k0 k1 k2 k3 s0 s1 f0 f1 f2 f3 f4 x0 x1 x2 x3 x4 x5 x6 x7 x8 y0 y1 y2 y3 y4 y5 y6 y7 y8 v0 z0 z1 g u sa qm).getD (29 + 4 * i) 0)) ff ft fh fu fw mt mh := rfl
      rw [e1, s_wd_is]
      have hl := law_loop (Z := s_Z Z (fun p => (s_as a d0 d1 d2 d3 d4 o0 o1 w0 w1 r0 r1 r2 r3 r4 r5 b0 b1 b2 c0 c1 c2 c3 k0 k1 k2 k3 s0 s1 f0 f1 f2 f3 f4 x0 x1 x2 x3 x4 x5 x6 x7 x8 y0 y1 y2 y3 y4 y5 y6 y7 y8 v0 z0 z1 g u sa qm).getD p 0)) (nm := nm) hst hL 512 0 (s_m0 ff ft fh fu fw mt mh) none none none (by show Z.2.2.2.2.2.1 < _; omega) (by decide) (s_R0 hdd hff hmm)
      exact hl
  exact key
