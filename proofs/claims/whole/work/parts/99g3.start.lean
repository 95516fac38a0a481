/-! ===== the law, from its entry to its loop ===== -/
def s_ad (a d0 d1 d2 d3 d4 o0 o1 w0 w1 r0 r1 r2 r3 r4 r5 b0 b1 b2 c0 c1 c2 c3 k0 k1 k2 k3 s0 s1 f0 f1 f2 f3 f4 x0 x1 x2 x3 x4 x5 x6 x7 x8 y0 y1 y2 y3 y4 y5 y6 y7 y8 v0 z0 z1 g u : Nat) (sa qm : Nat → Nat) : Nat → Nat := fun p => if p < 29 then [a, d0, d1, d2, d3, d4, o0, o1, w0, w1, r0, r1, r2, r3, r4, r5, b0, b1, b2, c0, c1, c2, c3, k0, k1, k2, k3, s0, s1].getD p 0 else if p < 189 then sa (p - 29) else if p < 216 then [f0, f1, f2, f3, f4, x0, x1, x2, x3, x4, x5, x6, x7, x8, y0, y1, y2, y3, y4, y5, y6, y7, y8, v0, z0, z1, g].getD (p - 189) 0 else if p < 242 then qm (p - 216) else u
theorem s_ad_c {a d0 d1 d2 d3 d4 o0 o1 w0 w1 r0 r1 r2 r3 r4 r5 b0 b1 b2 c0 c1 c2 c3 k0 k1 k2 k3 s0 s1 f0 f1 f2 f3 f4 x0 x1 x2 x3 x4 x5 x6 x7 x8 y0 y1 y2 y3 y4 y5 y6 y7 y8 v0 z0 z1 g u : Nat} {sa qm : Nat → Nat} {j : Nat} (h : j < 160) : s_ad a d0 d1 d2 d3 d4 o0 o1 w0 w1 r0 r1 r2 r3 r4 r5 b0 b1 b2 c0 c1 c2 c3 k0 k1 k2 k3 s0 s1 f0 f1 f2 f3 f4 x0 x1 x2 x3 x4 x5 x6 x7 x8 y0 y1 y2 y3 y4 y5 y6 y7 y8 v0 z0 z1 g u sa qm (29 + j) = sa j := by
  unfold s_ad
  rw [if_neg (by omega), if_pos (by omega), Nat.add_sub_cancel_left]
theorem s_ad_q {a d0 d1 d2 d3 d4 o0 o1 w0 w1 r0 r1 r2 r3 r4 r5 b0 b1 b2 c0 c1 c2 c3 k0 k1 k2 k3 s0 s1 f0 f1 f2 f3 f4 x0 x1 x2 x3 x4 x5 x6 x7 x8 y0 y1 y2 y3 y4 y5 y6 y7 y8 v0 z0 z1 g u : Nat} {sa qm : Nat → Nat} {j : Nat} (h : j < 26) : s_ad a d0 d1 d2 d3 d4 o0 o1 w0 w1 r0 r1 r2 r3 r4 r5 b0 b1 b2 c0 c1 c2 c3 k0 k1 k2 k3 s0 s1 f0 f1 f2 f3 f4 x0 x1 x2 x3 x4 x5 x6 x7 x8 y0 y1 y2 y3 y4 y5 y6 y7 y8 v0 z0 z1 g u sa qm (216 + j) = qm j := by
  unfold s_ad
  rw [if_neg (by omega), if_neg (by omega), if_neg (by omega), if_pos (by omega), Nat.add_sub_cancel_left]
theorem s_wB1_ext {Z : q_Z} {a d0 d1 d2 d3 d4 o0 o1 w0 w1 r0 r1 r2 r3 r4 r5 b0 b1 b2 c0 c1 c2 c3 k0 k1 k2 k3 s0 s1 f0 f1 f2 f3 f4 x0 x1 x2 x3 x4 x5 x6 x7 x8 y0 y1 y2 y3 y4 y5 y6 y7 y8 v0 z0 z1 g u : Nat} {qm qm2 : Nat → Nat} {ff : Nat → Int32} {mt mh : Nat → UInt64} (h : ∀ j, j < 26 → qm j = qm2 j) : s_wB1 Z a d0 d1 d2 d3 d4 o0 o1 w0 w1 r0 r1 r2 r3 r4 r5 b0 b1 b2 c0 c1 c2 c3 k0 k1 k2 k3 s0 s1 f0 f1 f2 f3 f4 x0 x1 x2 x3 x4 x5 x6 x7 x8 y0 y1 y2 y3 y4 y5 y6 y7 y8 v0 z0 z1 g u qm ff mt mh = s_wB1 Z a d0 d1 d2 d3 d4 o0 o1 w0 w1 r0 r1 r2 r3 r4 r5 b0 b1 b2 c0 c1 c2 c3 k0 k1 k2 k3 s0 s1 f0 f1 f2 f3 f4 x0 x1 x2 x3 x4 x5 x6 x7 x8 y0 y1 y2 y3 y4 y5 y6 y7 y8 v0 z0 z1 g u qm2 ff mt mh := by
  unfold s_wB1
  rw [h 0 (by decide), h 1 (by decide), h 2 (by decide), h 3 (by decide), h 4 (by decide), h 5 (by decide), h 6 (by decide), h 7 (by decide), h 8 (by decide), h 9 (by decide), h 10 (by decide), h 11 (by decide), h 12 (by decide), h 13 (by decide), h 14 (by decide), h 15 (by decide), h 16 (by decide), h 17 (by decide), h 18 (by decide), h 19 (by decide), h 20 (by decide), h 21 (by decide), h 22 (by decide), h 23 (by decide), h 24 (by decide), h 25 (by decide)]
set_option maxHeartbeats 4000000 in
set_option maxRecDepth 100000 in
theorem law_fin {Z : q_Z} {nm : String} (hst : Z.1.stackTraces = false) (hL : Z.2.2.2.2.2.1 ≤ 3072) {a d0 d1 d2 d3 d4 o0 o1 w0 w1 r0 r1 r2 r3 r4 r5 b0 b1 b2 c0 c1 c2 c3 k0 k1 k2 k3 s0 s1 f0 f1 f2 f3 f4 x0 x1 x2 x3 x4 x5 x6 x7 x8 y0 y1 y2 y3 y4 y5 y6 y7 y8 v0 z0 z1 g u : Nat} {sa qm : Nat → Nat} {ff : Nat → Int32} {ft fh fu fw mt mh : Nat → UInt64} (hdd : (∀ k, k < 10 → q_dv (fu k) false (2 ^ (1074 + 2 ^ k)) ∧ q_dv (fw k) false (2 ^ (1074 - 2 ^ k))) ∧ ∀ k, k < 15 → ft k = s_tn k ∧ fh k = s_th k) (hff : ∀ p, p < 120 → ff p = nI (s_cd p)) (hmm : ∀ k, k < 15 → mt k = s_tn k ∧ mh k = s_th k) (ad : Nat → Nat) (hsa : ∀ j, j < 160 → ad (29 + j) = sa j) (hqm : ∀ j, j < 26 → ad (216 + j) = qm j) (e_a : a = ad 0) (e_d0 : d0 = ad 1) (e_d1 : d1 = ad 2) (e_d2 : d2 = ad 3) (e_d3 : d3 = ad 4) (e_d4 : d4 = ad 5) (e_o0 : o0 = ad 6) (e_o1 : o1 = ad 7) (e_w0 : w0 = ad 8) (e_w1 : w1 = ad 9) (e_r0 : r0 = ad 10) (e_r1 : r1 = ad 11) (e_r2 : r2 = ad 12) (e_r3 : r3 = ad 13) (e_r4 : r4 = ad 14) (e_r5 : r5 = ad 15) (e_b0 : b0 = ad 16) (e_b1 : b1 = ad 17) (e_b2 : b2 = ad 18) (e_c0 : c0 = ad 19) (e_c1 : c1 = ad 20) (e_c2 : c2 = ad 21) (e_c3 : c3 = ad 22) (e_k0 : k0 = ad 23) (e_k1 : k1 = ad 24) (e_k2 : k2 = ad 25) (e_k3 : k3 = ad 26) (e_s0 : s0 = ad 27) (e_s1 : s1 = ad 28) (e_f0 : f0 = ad 189) (e_f1 : f1 = ad 190) (e_f2 : f2 = ad 191) (e_f3 : f3 = ad 192) (e_f4 : f4 = ad 193) (e_x0 : x0 = ad 194) (e_x1 : x1 = ad 195) (e_x2 : x2 = ad 196) (e_x3 : x3 = ad 197) (e_x4 : x4 = ad 198) (e_x5 : x5 = ad 199) (e_x6 : x6 = ad 200) (e_x7 : x7 = ad 201) (e_x8 : x8 = ad 202) (e_y0 : y0 = ad 203) (e_y1 : y1 = ad 204) (e_y2 : y2 = ad 205) (e_y3 : y3 = ad 206) (e_y4 : y4 = ad 207) (e_y5 : y5 = ad 208) (e_y6 : y6 = ad 209) (e_y7 : y7 = ad 210) (e_y8 : y8 = ad 211) (e_v0 : v0 = ad 212) (e_z0 : z0 = ad 213) (e_z1 : z1 = ad 214) (e_g : g = ad 215) (e_u : u = ad 242) : q_V (q_g Z) (mL nm) 12 512 3072 23 [some (.ref (Z.2.2.2.2.1 4)), some (.ref a), some (.ref g), some (.ref u), some (.int (nI 0)), none, none, none] [] (s_wA1 Z a d0 d1 d2 d3 d4 o0 o1 w0 w1 r0 r1 r2 r3 r4 r5 b0 b1 b2 c0 c1 c2 c3 k0 k1 k2 k3 s0 s1 f0 f1 f2 f3 f4 x0 x1 x2 x3 x4 x5 x6 x7 x8 y0 y1 y2 y3 y4 y5 y6 y7 y8 v0 z0 z1 g u (fun i => some (sa (4 * i))) ft fh fu fw ++ (B_cols Z sa 40 ++ s_wB1 Z a d0 d1 d2 d3 d4 o0 o1 w0 w1 r0 r1 r2 r3 r4 r5 b0 b1 b2 c0 c1 c2 c3 k0 k1 k2 k3 s0 s1 f0 f1 f2 f3 f4 x0 x1 x2 x3 x4 x5 x6 x7 x8 y0 y1 y2 y3 y4 y5 y6 y7 y8 v0 z0 z1 g u qm ff mt mh)) (fun r _ => r = some (.int 1)) := by
  subst e_a
  subst e_d0
  subst e_d1
  subst e_d2
  subst e_d3
  subst e_d4
  subst e_o0
  subst e_o1
  subst e_w0
  subst e_w1
  subst e_r0
  subst e_r1
  subst e_r2
  subst e_r3
  subst e_r4
  subst e_r5
  subst e_b0
  subst e_b1
  subst e_b2
  subst e_c0
  subst e_c1
  subst e_c2
  subst e_c3
  subst e_k0
  subst e_k1
  subst e_k2
  subst e_k3
  subst e_s0
  subst e_s1
  subst e_f0
  subst e_f1
  subst e_f2
  subst e_f3
  subst e_f4
  subst e_x0
  subst e_x1
  subst e_x2
  subst e_x3
  subst e_x4
  subst e_x5
  subst e_x6
  subst e_x7
  subst e_x8
  subst e_y0
  subst e_y1
  subst e_y2
  subst e_y3
  subst e_y4
  subst e_y5
  subst e_y6
  subst e_y7
  subst e_y8
  subst e_v0
  subst e_z0
  subst e_z1
  subst e_g
  subst e_u
  refine q_same (k := 28) (a := ad 28) (e := .inl (Z.2.2.1 4, 40, .inr (.inr (.inr (.inr (fun i => some (sa (4 * i)))))))) (e2 := .inl (Z.2.2.1 4, 40, .inr (.inr (.inr (.inr (fun i => some (ad (29 + 4 * i)))))))) rfl (fun H hH => ?_) ?_
  · have hH : H[ad 28]? = some (arrV (Z.2.2.1 4) 40 (fun j => va_rf (some (sa (4 * j))))) := hH
    show H[ad 28]? = some (arrV (Z.2.2.1 4) 40 (fun j => va_rf (some (ad (29 + 4 * j)))))
    exact hH.trans (congrArg some (arr_congr (fun j hj => by
      show va_rf (some (sa (4 * j))) = va_rf (some (ad (29 + 4 * j)))
      rw [hsa (4 * j) (by omega)])))
  · rw [show (s_wA1 Z (ad 0) (ad 1) (ad 2) (ad 3) (ad 4) (ad 5) (ad 6) (ad 7) (ad 8) (ad 9) (ad 10) (ad 11) (ad 12) (ad 13) (ad 14) (ad 15) (ad 16) (ad 17) (ad 18) (ad 19) (ad 20) (ad 21) (ad 22) (ad 23) (ad 24) (ad 25) (ad 26) (ad 27) (ad 28) (ad 189) (ad 190) (ad 191) (ad 192) (ad 193) (ad 194) (ad 195) (ad 196) (ad 197) (ad 198) (ad 199) (ad 200) (ad 201) (ad 202) (ad 203) (ad 204) (ad 205) (ad 206) (ad 207) (ad 208) (ad 209) (ad 210) (ad 211) (ad 212) (ad 213) (ad 214) (ad 215) (ad 242) (fun i => some (sa (4 * i))) ft fh fu fw ++ (B_cols Z sa 40 ++ s_wB1 Z (ad 0) (ad 1) (ad 2) (ad 3) (ad 4) (ad 5) (ad 6) (ad 7) (ad 8) (ad 9) (ad 10) (ad 11) (ad 12) (ad 13) (ad 14) (ad 15) (ad 16) (ad 17) (ad 18) (ad 19) (ad 20) (ad 21) (ad 22) (ad 23) (ad 24) (ad 25) (ad 26) (ad 27) (ad 28) (ad 189) (ad 190) (ad 191) (ad 192) (ad 193) (ad 194) (ad 195) (ad 196) (ad 197) (ad 198) (ad 199) (ad 200) (ad 201) (ad 202) (ad 203) (ad 204) (ad 205) (ad 206) (ad 207) (ad 208) (ad 209) (ad 210) (ad 211) (ad 212) (ad 213) (ad 214) (ad 215) (ad 242) qm ff mt mh)).set 28 (ad 28, .inl (Z.2.2.1 4, 40, .inr (.inr (.inr (.inr (fun i => some (ad (29 + 4 * i)))))))) = s_wA1 Z (ad 0) (ad 1) (ad 2) (ad 3) (ad 4) (ad 5) (ad 6) (ad 7) (ad 8) (ad 9) (ad 10) (ad 11) (ad 12) (ad 13) (ad 14) (ad 15) (ad 16) (ad 17) (ad 18) (ad 19) (ad 20) (ad 21) (ad 22) (ad 23) (ad 24) (ad 25) (ad 26) (ad 27) (ad 28) (ad 189) (ad 190) (ad 191) (ad 192) (ad 193) (ad 194) (ad 195) (ad 196) (ad 197) (ad 198) (ad 199) (ad 200) (ad 201) (ad 202) (ad 203) (ad 204) (ad 205) (ad 206) (ad 207) (ad 208) (ad 209) (ad 210) (ad 211) (ad 212) (ad 213) (ad 214) (ad 215) (ad 242) (fun i => some (ad (29 + 4 * i))) ft fh fu fw ++ (B_cols Z sa 40 ++ s_wB1 Z (ad 0) (ad 1) (ad 2) (ad 3) (ad 4) (ad 5) (ad 6) (ad 7) (ad 8) (ad 9) (ad 10) (ad 11) (ad 12) (ad 13) (ad 14) (ad 15) (ad 16) (ad 17) (ad 18) (ad 19) (ad 20) (ad 21) (ad 22) (ad 23) (ad 24) (ad 25) (ad 26) (ad 27) (ad 28) (ad 189) (ad 190) (ad 191) (ad 192) (ad 193) (ad 194) (ad 195) (ad 196) (ad 197) (ad 198) (ad 199) (ad 200) (ad 201) (ad 202) (ad 203) (ad 204) (ad 205) (ad 206) (ad 207) (ad 208) (ad 209) (ad 210) (ad 211) (ad 212) (ad 213) (ad 214) (ad 215) (ad 242) qm ff mt mh) from rfl]
    rw [B_cols_ext (ad := sa) (ad' := fun j => ad (29 + j)) 40 (fun j hj => (hsa j (by omega)).symm), s_wB1_ext (qm := qm) (qm2 := fun i => ad (216 + i)) (fun j hj => (hqm j hj).symm), s_wD1_is]
    exact law_loop (Z := s_Z Z ad) (nm := nm) hst hL 512 0 (s_m0 ff ft fh fu fw mt mh) none none none (by show Z.2.2.2.2.2.1 < _; omega) (by decide) (s_R0 hdd hff hmm)
set_option maxHeartbeats 4000000 in
set_option maxRecDepth 100000 in
theorem law_start {Z : q_Z} {nm : String} (hst : Z.1.stackTraces = false) (hL : Z.2.2.2.2.2.1 ≤ 3072) : q_V (q_g Z) (mL nm) 12 755 34672 0 [some (.ref (Z.2.2.2.2.1 4)), none, none, none, none, none, none, none] [] (([] : va_W) ++ []) (fun r _ => r = some (.int 1)) := by
  refine n_new (pc' := 3) (ci := 10) (C := RX10) (T := TX10) (N := 17) (ty := tyX10) dL_law_0 clL_8 iwX10 tyX10_ok izX10 itX10 rfl rfl (fun _ => rfl) rfl (fun q0 => ?_)
  refine q_dup (pc' := 4) dL_law_3 rfl rfl ?_
  refine n_callI (mc1 := 214) (ms1 := 19994) (pc' := 7) (M' := mX10_init) (As := []) dL_law_4 iX10_init lL_15 rfl rfl (Nat.le_of_ble_eq_true rfl) (Nat.le_of_ble_eq_true rfl) rfl rfl (n_gp (a := q0)) (fun B hB => ?_)
  obtain ⟨d0, o0, w0, r0, b0, c0, k0, s0, f0, x0, y0, v0, z0, z1, Bd, Bo, Bw, Br, Bb, Bc, Bk, Bs, Bf, Bx, By, Bv, ⟨d1, d2, d3, d4, ft, fh, fu, fw, hdd, hBd⟩, ⟨o1, hBo⟩, ⟨w1, hBw⟩, ⟨r1, r2, r3, r4, r5, hBr⟩, ⟨b1, b2, hBb⟩, ⟨c1, c2, c3, hBc⟩, ⟨k1, k2, k3, hBk⟩, ⟨s1, sa, hBs⟩, ⟨f1, f2, f3, f4, ff, hff, hBf⟩, ⟨x1, x2, x3, x4, x5, x6, x7, x8, hBx⟩, ⟨y1, y2, y3, y4, y5, y6, y7, y8, hBy⟩, hBv, hB⟩ := hB
  obtain ⟨G1, hG1⟩ : ∃ z : va_W, z = B := ⟨_, rfl⟩
  rw [List.nil_append, ← hG1]
  have hG := hG1.trans hB
  refine q_astore_n (pc' := 8) (lv' := [_, _, _, _, _, _, _, _]) dL_law_7 (Nat.le_of_ble_eq_true rfl) rfl rfl ?_
  refine n_new (pc' := 11) (ci := 11) (C := RX11) (T := TX11) (N := 56) (ty := tyX11) dL_law_8 clL_16 iwX11 tyX11_ok izX11 itX11 rfl rfl (fun _ => rfl) rfl (fun q8 => ?_)
  refine q_dup (pc' := 12) dL_law_11 rfl rfl ?_
  refine n_callI (mc1 := 26) (ms1 := 11532) (pc' := 15) (M' := mX11_init) (As := []) dL_law_12 iX11_init lL_18 rfl rfl (Nat.le_of_ble_eq_true rfl) (Nat.le_of_ble_eq_true rfl) rfl rfl (n_mod (a := q8)) (fun B hB => ?_)
  obtain ⟨qm, mt, mh, hmm, hB2⟩ := hB
  subst hB2
  refine q_astore_n (pc' := 16) (lv' := [_, _, _, _, _, _, _, _]) dL_law_15 (Nat.le_of_ble_eq_true rfl) rfl rfl ?_
  refine q_iconst (pc' := 17) (v := nI 1) dL_law_16 rfl rfl ?_
  refine n_newl (N := 1) (t := 1) (pc' := 19) dL_law_17 rfl rfl (by decide) (fun _ => rfl) rfl (fun q17 => ?_)
  refine q_astore_n (pc' := 20) (lv' := [_, _, _, _, _, _, _, _]) dL_law_19 (Nat.le_of_ble_eq_true rfl) rfl rfl ?_
  refine q_iconst (pc' := 21) (v := nI 0) dL_law_20 rfl rfl ?_
  refine q_istore (pc' := 23) (lv' := [_, _, _, _, _, _, _, _]) dL_law_21 (Nat.le_of_ble_eq_true rfl) rfl rfl ?_
  have e : ([] : va_W) ++ ((G1 ++ B_mod Z q8 qm mt mh) ++ [(q17, .inl (Z.2.2.1 1, 1, .inr (.inl (fun _ => 0))))]) = s_wA1 Z q0 d0 d1 d2 d3 d4 o0 o1 w0 w1 r0 r1 r2 r3 r4 r5 b0 b1 b2 c0 c1 c2 c3 k0 k1 k2 k3 s0 s1 f0 f1 f2 f3 f4 x0 x1 x2 x3 x4 x5 x6 x7 x8 y0 y1 y2 y3 y4 y5 y6 y7 y8 v0 z0 z1 q8 q17 (fun i => some (sa (4 * i))) ft fh fu fw ++ (B_cols Z sa 40 ++ s_wB1 Z q0 d0 d1 d2 d3 d4 o0 o1 w0 w1 r0 r1 r2 r3 r4 r5 b0 b1 b2 c0 c1 c2 c3 k0 k1 k2 k3 s0 s1 f0 f1 f2 f3 f4 x0 x1 x2 x3 x4 x5 x6 x7 x8 y0 y1 y2 y3 y4 y5 y6 y7 y8 v0 z0 z1 q8 q17 qm ff mt mh) := by
    rw [hG, hBd, hBo, hBw, hBr, hBb, hBc, hBk, hBs, hBf, hBx, hBy, hBv]
    simp only [s_wA1, s_wB1, B_gp, B_dbl, B_oct, B_trd, B_brd, B_col, B_fits, B_pln, B_par, B_mod, List.nil_append, List.cons_append, List.append_assoc]
  rw [e]
  exact law_fin hst hL hdd hff hmm (s_ad q0 d0 d1 d2 d3 d4 o0 o1 w0 w1 r0 r1 r2 r3 r4 r5 b0 b1 b2 c0 c1 c2 c3 k0 k1 k2 k3 s0 s1 f0 f1 f2 f3 f4 x0 x1 x2 x3 x4 x5 x6 x7 x8 y0 y1 y2 y3 y4 y5 y6 y7 y8 v0 z0 z1 q8 q17 sa qm) (fun j h => s_ad_c h) (fun j h => s_ad_q h) rfl rfl rfl rfl rfl rfl rfl rfl rfl rfl rfl rfl rfl rfl rfl rfl rfl rfl rfl rfl rfl rfl rfl rfl rfl rfl rfl rfl rfl rfl rfl rfl rfl rfl rfl rfl rfl rfl rfl rfl rfl rfl rfl rfl rfl rfl rfl rfl rfl rfl rfl rfl rfl rfl rfl rfl rfl
