/-! ===== the reference's ACTS ===== -/
theorem MI.mc {m : q_Mm} {t im : Bool} {B L : List Nat} {c ck : q_Cs} {us : List q_Cs} {rf : Nat → Int32} (h : MI m t im B L c ck us rf) : MC m t c := h.2.2.2.2.2.1
theorem MI.mk {m : q_Mm} {t im : Bool} {B L : List Nat} {c ck : q_Cs} {us : List q_Cs} {rf : Nat → Int32} (h : MI m t im B L c ck us rf) : MKp m us := h.2.2.2.2.2.2.2.1
theorem MI.ref {m : q_Mm} {t im : Bool} {B L : List Nat} {c ck : q_Cs} {us : List q_Cs} {rf : Nat → Int32} {w : Nat} (h : MI m t im B L c ck us rf) (hw : w < 5) : MI (sA m 226 (q_u (m.2.2.1 226) w (m.2.2.1 226 w + nI 1))) t im B L c ck us (s_rf rf w) ∧ Dn m (sA m 226 (q_u (m.2.2.1 226) w (m.2.2.1 226 w + nI 1))) := by
  have f : Fr [226] m (sA m 226 (q_u (m.2.2.1 226) w (m.2.2.1 226 w + nI 1))) := Fr.rf.A (by decide)
  have k : ∀ j, (sA m 226 (q_u (m.2.2.1 226) w (m.2.2.1 226 w + nI 1))).1 215 j = m.1 215 j := fun j => congrFun (f.i (by decide)) j
  obtain ⟨h1, h2, h3, h4, h5, h6, h7, h8, h9⟩ := h
  refine ⟨⟨h1.fr f (by decide) (by decide), h2.fr f (k _) (by decide), (k _).trans h3, (k _).trans h4, h5.fr f (k _) (by decide), h6.fr f (k _) (k _) (by decide) (by decide) (by decide), fun z => (h7 z).fr f (k _) (k _) (by decide) (by decide) (by decide), h8.fr f (k _) (by decide) (by decide) (by decide) (by decide) (by decide), fun i hi => ?_⟩, f.dnn (by decide)⟩
  show q_u (m.2.2.1 226) w (m.2.2.1 226 w + nI 1) i = q_u rf w (rf w + nI 1) i
  by_cases z : i = w
  · rw [z, q_u_s, q_u_s, h9 w hw]
  · rw [q_u_n _ _ z, q_u_n _ _ z]; exact h9 i hi
theorem MI.act {m m1 m2 m3 : q_Mm} {t im : Bool} {B B' L : List Nat} {c c' ck : q_Cs} {us us' : List q_Cs} {rf : Nat → Int32} (h : MI m t im B L c ck us rf) (f1 : Fr [215, 233, 234, 235, 236, 237] m m1) (k1 : Kp 215 [48] m m1) (P1 : MKp m1 us') (f2 : Fr [215, 223, 224] m1 m2) (k2 : Kp 215 [4, 20] m1 m2) (T2 : MT m2 B') (f3 : Fr [215, 225] m2 m3) (k3 : Kp 215 [21] m2 m3) (C3 : MC m3 t c') : MI m3 t im B' L c' ck us' rf ∧ Dn m m3 := by
  obtain ⟨h1, h2, h3, h4, h5, h6, h7, h8, h9⟩ := h
  have f23 : Fr [215, 223, 224, 225] m1 m3 := (f2.mono (by decide)).trans (f3.mono (by decide))
  have k23 : Kp 215 [4, 20, 21] m1 m3 := (k2.mono (by decide)).trans (k3.mono (by decide))
  have f : Fr [215, 223, 224, 225, 233, 234, 235, 236, 237] m m3 := (f1.mono (by decide)).trans (f23.mono (by decide))
  have k : Kp 215 [4, 20, 21, 48] m m3 := (k1.mono (by decide)).trans (k23.mono (by decide))
  exact ⟨⟨h1.fr f (by decide) (by decide), T2.fr f3 (k3 _ (by decide)) (by decide), (k _ (by decide)).trans h3, (k _ (by decide)).trans h4, h5.fr f (k _ (by decide)) (by decide), C3, fun z => (h7 z).fr f (k _ (by decide)) (k _ (by decide)) (by decide) (by decide) (by decide), P1.fr f23 (k23 _ (by decide)) (by decide) (by decide) (by decide) (by decide) (by decide), fun i hi => (congrFun (f.a (by decide)) i).trans (h9 i hi)⟩, f.dnn (by decide)⟩
/-- what an ACT of the reference answers and leaves -/
def MP (m2 m : q_Mm) (r : Option Value) (t im : Bool) (B B' L : List Nat) (c c' ck : q_Cs) (us : List q_Cs) (rf : Nat → Int32) (why : Option Nat) (ans : Int32) : Prop := Dn m m2 ∧ match why with
  | some w => r = some (.int (-1)) ∧ MI m2 t im B L c ck us (s_rf rf w)
  | none => r = some (.int ans) ∧ MI m2 t im B' L c' ck ((c :: us).take 40) rf
theorem mc_put {m : q_Mm} {t : Bool} {c : q_Cs} {j : Nat} {v : Int64} (h : MC m t c) : MC (sL m 223 (q_u (m.2.2.2.1 223) j v)) t (c.1, c.2.1, q_u c.2.2.1 j v, c.2.2.2.1, c.2.2.2.2) := by
  obtain ⟨h1, h2, h3, h4, h5, h6, h7, h8⟩ := h
  refine ⟨h1, h2, h3, h4, fun i hi => ?_, h6, h7, h8⟩
  show q_u (m.2.2.2.1 223) j v i = q_u c.2.2.1 j v i
  by_cases z : i = j
  · rw [z, q_u_s, q_u_s]
  · rw [q_u_n _ _ z, q_u_n _ _ z]; exact h5 i hi
theorem mc_many {m : q_Mm} {t : Bool} {c : q_Cs} {n : Nat} {xs : Nat → Int64} (h : MC m t c) (hn : n ≤ 64) (hx : ∀ i, i < n → m.2.2.2.1 223 i = xs i) : MC (sI m 215 20 (nI n)) t (n, c.2.1, xs, c.2.2.2.1, c.2.2.2.2) := ⟨rfl, h.2.1, hn, h.2.2.2.1, hx, h.2.2.2.2.2.1, h.2.2.2.2.2.2.1, h.2.2.2.2.2.2.2⟩
theorem mc_rule {m : q_Mm} {t : Bool} {c : q_Cs} {j : Nat} {v : Int32} (h : MC m t c) (hj : j < 5) (hb : s_isBound j v = true) : MC (sA m 224 (q_u (m.2.2.1 224) j v)) t (c.1, c.2.1, c.2.2.1, q_u c.2.2.2.1 j (s_i v), c.2.2.2.2) := by
  obtain ⟨h1, h2, h3, h4, h5, h6, h7, h8⟩ := h
  refine ⟨h1, h2, h3, h4, h5, fun z i hi => ?_, h7, s_rok_u h8 hj hb⟩
  show q_u (m.2.2.1 224) j v i = nI (q_u c.2.2.2.1 j (s_i v) i)
  by_cases y : i = j
  · rw [y, q_u_s, q_u_s]; exact (s_bd hb).1
  · rw [q_u_n _ _ y, q_u_n _ _ y]; exact h6 z i hi
set_option maxHeartbeats 4000000 in
set_option maxRecDepth 20000 in
theorem k_add {Z : q_Z} {m : q_Mm} {d : Nat} {t im : Bool} {B L : List Nat} {c ck : q_Cs} {us : List q_Cs} {rf : Nat → Int32} {v : Int64} (h : MI m t im B L c ck us rf) : q_V (q_g Z) mX11_add (d+2) 0 0 0 [some (.ref (q_ad Z 215)), some (.long v), none] [] (q_W Z m) (q_P Z fun r m2 => MP m2 m r t im B B L c (s_act c (c.1 + 1) (q_u c.2.2.1 c.1 v) c.2.2.2.1 (nI 0) (nI c.1)) ck us rf (s_wAdd t c.1) (nI c.1)) := by
  have hC := h.mc
  have hn := hC.2.2.1
  have no : ∀ w, w < 5 → s_wAdd t c.1 = some w → q_V (q_g Z) mX11_add (d+2) 0 0 26 [some (.ref (q_ad Z 215)), some (.long v), none] [.int (nI w), .ref (q_ad Z 215)] (q_W Z (m)) (q_P Z fun r m2 => MP m2 m r t im B B L c (s_act c (c.1 + 1) (q_u c.2.2.1 c.1 v) c.2.2.2.1 (nI 0) (nI c.1)) ck us rf (s_wAdd t c.1) (nI c.1)) := by
    intro w hw e
    rw [e]
    refine h_callV (pc' := 29) (M' := mX11_isRefused) (As := [_]) dX11_add_26 iX11_isRefused lX11_433 rfl rfl rfl rfl (Nat.le_of_ble_eq_true rfl) (Nat.le_of_ble_eq_true rfl) rfl rfl (k_refuse hw) (fun r m' hq => ?_)
    obtain ⟨rfl, rfl⟩ := hq
    refine q_if_eqB (tgt := 34) (pc' := 32) dX11_add_29 (by decide) rfl (fun c_29 => ?_) (fun c_29 => ?_)
    · cases c_29
    obtain ⟨a, b⟩ := h.ref hw
    refine q_iconst (pc' := 33) (v := (-1)) dX11_add_32 rfl rfl ?_
    refine q_iret dX11_add_33 rfl rfl ⟨_, rfl, b, rfl, a⟩
  refine q_aload_n (pc' := 1) dX11_add_0 rfl rfl ?_
  refine q_aload_n (pc' := 2) dX11_add_1 rfl rfl ?_
  refine h_getiE (pc' := 5) dX11_add_2 fX11_238 rfl rfl (h.2.2.1) rfl ?_
  refine q_if_neB (tgt := 12) (pc' := 8) dX11_add_5 (by decide) rfl (fun c_5 => ?_) (fun c_5 => ?_)
  rotate_left
  · refine q_iconst (pc' := 9) (v := nI 0) dX11_add_8 rfl rfl ?_
    refine q_goto (pc' := 26) dX11_add_9 (by decide) ?_
    exact no 0 (by decide) (if_pos c_5)
  refine q_aload_n (pc' := 13) dX11_add_12 rfl rfl ?_
  refine h_getiE (pc' := 16) dX11_add_13 fX11_242 rfl rfl (hC.1) rfl ?_
  refine q_bipush (pc' := 18) (v := nI 64) dX11_add_16 rfl rfl ?_
  refine q_icmp_neN (tgt := 25) (pc' := 21) dX11_add_18 (by decide) rfl (by omega) (fun c_18 => ?_) (fun c_18 => ?_)
  rotate_left
  · refine q_iconst (pc' := 22) (v := nI 3) dX11_add_21 rfl rfl ?_
    refine q_goto (pc' := 26) dX11_add_22 (by decide) ?_
    exact no 3 (by decide) (by unfold s_wAdd; rw [if_neg (by rw [c_5]; decide), if_pos (by omega)])
  rw [show s_wAdd t c.1 = none by unfold s_wAdd; rw [if_neg (by rw [c_5]; decide), if_neg (by omega)]]
  clear no
  refine q_iconst (pc' := 26) (v := (-1)) dX11_add_25 rfl rfl ?_
  refine h_callV (pc' := 29) (M' := mX11_isRefused) (As := [_]) dX11_add_26 iX11_isRefused lX11_433 rfl rfl rfl rfl (Nat.le_of_ble_eq_true rfl) (Nat.le_of_ble_eq_true rfl) rfl rfl (k_keepR c_5 hC h.mk) (fun r m' hq => ?_)
  obtain ⟨rfl, f1, k1, P1⟩ := hq
  refine q_if_eqB (tgt := 34) (pc' := 32) dX11_add_29 (by decide) rfl (fun c_29 => ?_) (fun c_29 => ?_)
  rotate_left
  · cases c_29
  have C1 : MC m' t c := hC.fr f1 (k1 20 (by decide)) (k1 21 (by decide)) (by decide) (by decide) (by decide)
  have T1 := h.2.1.fr f1 (k1 4 (by decide)) (by decide)
  refine q_aload_n (pc' := 35) dX11_add_34 rfl rfl ?_
  refine h_getr (pc' := 38) dX11_add_35 fX11_33 rfl rfl rfl ?_
  refine q_aload_n (pc' := 39) dX11_add_38 rfl rfl ?_
  refine h_getiE (pc' := 42) dX11_add_39 fX11_242 rfl rfl (C1.1) rfl ?_
  refine q_lload_n (pc' := 43) dX11_add_42 rfl rfl ?_
  refine h_last (pc' := 44) dX11_add_43 rfl (rfl) (by omega) (by decide) rfl ?_
  refine q_aload_n (pc' := 45) dX11_add_44 rfl rfl ?_
  refine q_dup (pc' := 46) dX11_add_45 rfl rfl ?_
  refine h_getiE (pc' := 49) dX11_add_46 fX11_242 rfl rfl (C1.1) rfl ?_
  refine q_iconst (pc' := 50) (v := nI 1) dX11_add_49 rfl rfl ?_
  refine q_iaddN (pc' := 51) dX11_add_50 rfl ?_
  refine h_puti (pc' := 54) dX11_add_51 fX11_242 rfl rfl rfl rfl rfl ?_
  have C2 := mc_many (n := c.1 + 1) (mc_put (j := c.1) (v := v) C1) (by omega) (fun i hi => by
    show q_u (m'.2.2.2.1 223) c.1 v i = q_u c.2.2.1 c.1 v i
    by_cases z : i = c.1
    · rw [z, q_u_s, q_u_s]
    · rw [q_u_n _ _ z, q_u_n _ _ z]; exact C1.2.2.2.2.1 i (by omega))
  generalize hm9 : sI (sL m' 223 (q_u (m'.2.2.2.1 223) c.1 v)) 215 20 (nI (c.1 + 1)) = m9 at C2 ⊢
  have f9 : Fr [215, 223, 224] m' m9 := hm9 ▸ (Fr.rf.L (by decide)).I (by decide)
  have k9 : Kp 215 [4, 20] m' m9 := hm9 ▸ kp_I Kp.rf (by decide)
  have T9 := T1.fr f9 (by rw [← hm9]; rfl) (by decide)
  refine q_aload_n (pc' := 55) dX11_add_54 rfl rfl ?_
  refine q_iconst (pc' := 56) (v := nI 0) dX11_add_55 rfl rfl ?_
  refine q_aload_n (pc' := 57) dX11_add_56 rfl rfl ?_
  refine h_getiE (pc' := 60) dX11_add_57 fX11_242 rfl rfl (C2.1) rfl ?_
  refine q_iconst (pc' := 61) (v := nI 1) dX11_add_60 rfl rfl ?_
  refine q_isubN (pc' := 62) dX11_add_61 (by omega) rfl ?_
  refine h_callV (pc' := 65) (M' := mX11_note) (As := [_, _]) dX11_add_62 iX11_note lX11_436 rfl rfl rfl rfl (Nat.le_of_ble_eq_true rfl) (Nat.le_of_ble_eq_true rfl) rfl rfl (k_note C2) (fun r m' hq => ?_)
  obtain ⟨rfl, f3, k3, C3⟩ := hq
  obtain ⟨x, y⟩ := h.act f1 k1 P1 f9 k9 T9 f3 k3 C3
  have e3 : _ = nI (c.1 + 1) := C3.1
  refine q_aload_n (pc' := 66) dX11_add_65 rfl rfl ?_
  refine h_getiE (pc' := 69) dX11_add_66 fX11_242 rfl rfl (e3) rfl ?_
  refine q_iconst (pc' := 70) (v := nI 1) dX11_add_69 rfl rfl ?_
  refine q_isubN (pc' := 71) dX11_add_70 (by omega) rfl ?_
  refine q_iret dX11_add_71 rfl rfl ⟨_, rfl, y, rfl, x⟩
set_option maxHeartbeats 4000000 in
set_option maxRecDepth 20000 in
theorem k_put {Z : q_Z} {m : q_Mm} {d : Nat} {t im : Bool} {B L : List Nat} {c ck : q_Cs} {us : List q_Cs} {rf : Nat → Int32} {x : Int32} {v : Int64} (h : MI m t im B L c ck us rf) : q_V (q_g Z) mX11_put (d+2) 0 0 0 [some (.ref (q_ad Z 215)), some (.int x), some (.long v), none] [] (q_W Z m) (q_P Z fun r m2 => MP m2 m r t im B B L c (s_act c c.1 (q_u c.2.2.1 (s_i x) v) c.2.2.2.1 (nI 1) x) ck us rf (s_wPut t c.1 c.2.2.1 x v) x) := by
  have hC := h.mc
  have hn := hC.2.2.1
  have no : ∀ w, w < 5 → s_wPut t c.1 c.2.2.1 x v = some w → q_V (q_g Z) mX11_put (d+2) 0 0 29 [some (.ref (q_ad Z 215)), some (.int x), some (.long v), none] [.int (nI w), .ref (q_ad Z 215)] (q_W Z (m)) (q_P Z fun r m2 => MP m2 m r t im B B L c (s_act c c.1 (q_u c.2.2.1 (s_i x) v) c.2.2.2.1 (nI 1) x) ck us rf (s_wPut t c.1 c.2.2.1 x v) x) := by
    intro w hw e
    rw [e]
    refine h_callV (pc' := 32) (M' := mX11_isRefused) (As := [_]) dX11_put_29 iX11_isRefused lX11_433 rfl rfl rfl rfl (Nat.le_of_ble_eq_true rfl) (Nat.le_of_ble_eq_true rfl) rfl rfl (k_refuse hw) (fun r m' hq => ?_)
    obtain ⟨rfl, rfl⟩ := hq
    refine q_if_eqB (tgt := 37) (pc' := 35) dX11_put_32 (by decide) rfl (fun c_32 => ?_) (fun c_32 => ?_)
    · cases c_32
    obtain ⟨a, b⟩ := h.ref hw
    refine q_iconst (pc' := 36) (v := (-1)) dX11_put_35 rfl rfl ?_
    refine q_iret dX11_put_36 rfl rfl ⟨_, rfl, b, rfl, a⟩
  refine q_aload_n (pc' := 1) dX11_put_0 rfl rfl ?_
  refine q_aload_n (pc' := 2) dX11_put_1 rfl rfl ?_
  refine q_iload_n (pc' := 3) dX11_put_2 rfl rfl ?_
  refine h_callV (pc' := 6) (M' := mX11_isPlace) (As := [_]) dX11_put_3 iX11_isPlace lX11_375 rfl rfl rfl rfl (Nat.le_of_ble_eq_true rfl) (Nat.le_of_ble_eq_true rfl) rfl rfl (k_isPlace h.2.2.1 hC.1 hn) (fun r m' hq => ?_)
  obtain ⟨rfl, hmm⟩ := hq
  subst m'
  refine q_if_neB (tgt := 13) (pc' := 9) dX11_put_6 (by decide) rfl (fun c_6 => ?_) (fun c_6 => ?_)
  rotate_left
  · refine q_iconst (pc' := 10) (v := nI 0) dX11_put_9 rfl rfl ?_
    refine q_goto (pc' := 29) dX11_put_10 (by decide) ?_
    exact no 0 (by decide) (if_neg (by rw [c_6]; decide))
  have ht : t = true := by
    unfold s_has at c_6
    rw [Bool.and_eq_true] at c_6
    exact c_6.1
  have hw : s_wPut t c.1 c.2.2.1 x v = (if c.2.2.1 (s_i x) = v then some 2 else none) := if_pos c_6
  obtain ⟨j, hx, hj⟩ := z_has c_6 (by omega)
  have e0 : s_i x = j := by rw [hx, s_i_n (by omega)]
  rw [e0] at hw ⊢
  subst hx
  refine q_aload_n (pc' := 14) dX11_put_13 rfl rfl ?_
  refine h_getr (pc' := 17) dX11_put_14 fX11_33 rfl rfl rfl ?_
  refine q_iload_n (pc' := 18) dX11_put_17 rfl rfl ?_
  refine h_laldE (pc' := 19) dX11_put_18 rfl (rfl) (by omega) (by decide) (hC.2.2.2.2.1 j hj) rfl ?_
  refine q_lload_n (pc' := 20) dX11_put_19 rfl rfl ?_
  refine q_lcmp (pc' := 21) dX11_put_20 rfl ?_
  refine q_if_neL (tgt := 28) (pc' := 24) dX11_put_21 (by decide) rfl (fun c_21 => ?_) (fun c_21 => ?_)
  rotate_left
  · refine q_iconst (pc' := 25) (v := nI 2) dX11_put_24 rfl rfl ?_
    refine q_goto (pc' := 29) dX11_put_25 (by decide) ?_
    rw [e0] at no
    exact no 2 (by decide) (by rw [hw, if_pos c_21])
  rw [hw, if_neg c_21]
  clear no
  refine q_iconst (pc' := 29) (v := (-1)) dX11_put_28 rfl rfl ?_
  refine h_callV (pc' := 32) (M' := mX11_isRefused) (As := [_]) dX11_put_29 iX11_isRefused lX11_433 rfl rfl rfl rfl (Nat.le_of_ble_eq_true rfl) (Nat.le_of_ble_eq_true rfl) rfl rfl (k_keepR ht hC h.mk) (fun r m' hq => ?_)
  obtain ⟨rfl, f1, k1, P1⟩ := hq
  refine q_if_eqB (tgt := 37) (pc' := 35) dX11_put_32 (by decide) rfl (fun c_32 => ?_) (fun c_32 => ?_)
  rotate_left
  · cases c_32
  have C1 : MC m' t c := hC.fr f1 (k1 20 (by decide)) (k1 21 (by decide)) (by decide) (by decide) (by decide)
  have T1 := h.2.1.fr f1 (k1 4 (by decide)) (by decide)
  refine q_aload_n (pc' := 38) dX11_put_37 rfl rfl ?_
  refine h_getr (pc' := 41) dX11_put_38 fX11_33 rfl rfl rfl ?_
  refine q_iload_n (pc' := 42) dX11_put_41 rfl rfl ?_
  refine q_lload_n (pc' := 43) dX11_put_42 rfl rfl ?_
  refine h_last (pc' := 44) dX11_put_43 rfl (rfl) (by omega) (by decide) rfl ?_
  have f9 : Fr [215, 223, 224] m' (sL m' 223 (q_u (m'.2.2.2.1 223) j v)) := Fr.rf.L (by decide)
  have T9 := T1.fr f9 rfl (by decide)
  refine q_aload_n (pc' := 45) dX11_put_44 rfl rfl ?_
  refine q_iconst (pc' := 46) (v := nI 1) dX11_put_45 rfl rfl ?_
  refine q_iload_n (pc' := 47) dX11_put_46 rfl rfl ?_
  refine h_callV (pc' := 50) (M' := mX11_note) (As := [_, _]) dX11_put_47 iX11_note lX11_436 rfl rfl rfl rfl (Nat.le_of_ble_eq_true rfl) (Nat.le_of_ble_eq_true rfl) rfl rfl (k_note (mc_put C1)) (fun r m' hq => ?_)
  obtain ⟨rfl, f3, k3, C3⟩ := hq
  obtain ⟨x, y⟩ := h.act f1 k1 P1 f9 Kp.rf T9 f3 k3 C3
  refine q_iload_n (pc' := 51) dX11_put_50 rfl rfl ?_
  refine q_iret dX11_put_51 rfl rfl ⟨_, rfl, y, rfl, x⟩
set_option maxHeartbeats 4000000 in
set_option maxRecDepth 20000 in
theorem k_drop {Z : q_Z} {m : q_Mm} {d : Nat} {t im : Bool} {B L : List Nat} {c ck : q_Cs} {us : List q_Cs} {rf : Nat → Int32} (h : MI m t im B L c ck us rf) : q_V (q_g Z) mX11_drop (d+2) 0 0 0 [some (.ref (q_ad Z 215))] [] (q_W Z m) (q_P Z fun r m2 => MP m2 m r t im B B L c (s_act c (c.1 - 1) c.2.2.1 c.2.2.2.1 (nI 2) (nI (c.1 - 1))) ck us rf (s_wDrop t c.1) (nI (c.1 - 1))) := by
  have hC := h.mc
  have hn := hC.2.2.1
  have no : s_wDrop t c.1 = some 0 → q_V (q_g Z) mX11_drop (d+2) 0 0 15 [some (.ref (q_ad Z 215))] [.ref (q_ad Z 215)] (q_W Z (m)) (q_P Z fun r m2 => MP m2 m r t im B B L c (s_act c (c.1 - 1) c.2.2.1 c.2.2.2.1 (nI 2) (nI (c.1 - 1))) ck us rf (s_wDrop t c.1) (nI (c.1 - 1))) := by
    intro e
    rw [e]
    refine q_iconst (pc' := 16) (v := nI 0) dX11_drop_15 rfl rfl ?_
    refine q_goto (pc' := 20) dX11_drop_16 (by decide) ?_
    refine h_callV (pc' := 23) (M' := mX11_isRefused) (As := [_]) dX11_drop_20 iX11_isRefused lX11_433 rfl rfl rfl rfl (Nat.le_of_ble_eq_true rfl) (Nat.le_of_ble_eq_true rfl) rfl rfl (k_refuse (w := 0) (by decide)) (fun r m' hq => ?_)
    obtain ⟨rfl, rfl⟩ := hq
    refine q_if_eqB (tgt := 28) (pc' := 26) dX11_drop_23 (by decide) rfl (fun c_23 => ?_) (fun c_23 => ?_)
    · cases c_23
    obtain ⟨a, b⟩ := h.ref (w := 0) (by decide)
    refine q_iconst (pc' := 27) (v := (-1)) dX11_drop_26 rfl rfl ?_
    refine q_iret dX11_drop_27 rfl rfl ⟨_, rfl, b, rfl, a⟩
  refine q_aload_n (pc' := 1) dX11_drop_0 rfl rfl ?_
  refine q_aload_n (pc' := 2) dX11_drop_1 rfl rfl ?_
  refine h_getiE (pc' := 5) dX11_drop_2 fX11_238 rfl rfl (h.2.2.1) rfl ?_
  refine q_if_eqB (tgt := 15) (pc' := 8) dX11_drop_5 (by decide) rfl (fun c_5 => ?_) (fun c_5 => ?_)
  · exact no (if_neg (fun z => by rw [c_5] at z; exact absurd z.1 (by decide)))
  refine q_aload_n (pc' := 9) dX11_drop_8 rfl rfl ?_
  refine h_getiE (pc' := 12) dX11_drop_9 fX11_242 rfl rfl (hC.1) rfl ?_
  refine q_if_neN (tgt := 19) (pc' := 15) dX11_drop_12 (by decide) rfl (by omega) (fun c_12 => ?_) (fun c_12 => ?_)
  rotate_left
  · exact no (if_neg (fun z => z.2 c_12))
  rw [show s_wDrop t c.1 = none from if_pos ⟨c_5, by omega⟩]
  clear no
  refine q_iconst (pc' := 20) (v := (-1)) dX11_drop_19 rfl rfl ?_
  refine h_callV (pc' := 23) (M' := mX11_isRefused) (As := [_]) dX11_drop_20 iX11_isRefused lX11_433 rfl rfl rfl rfl (Nat.le_of_ble_eq_true rfl) (Nat.le_of_ble_eq_true rfl) rfl rfl (k_keepR c_5 hC h.mk) (fun r m' hq => ?_)
  obtain ⟨rfl, f1, k1, P1⟩ := hq
  refine q_if_eqB (tgt := 28) (pc' := 26) dX11_drop_23 (by decide) rfl (fun c_23 => ?_) (fun c_23 => ?_)
  rotate_left
  · cases c_23
  have C1 : MC m' t c := hC.fr f1 (k1 20 (by decide)) (k1 21 (by decide)) (by decide) (by decide) (by decide)
  have T1 := h.2.1.fr f1 (k1 4 (by decide)) (by decide)
  refine q_aload_n (pc' := 29) dX11_drop_28 rfl rfl ?_
  refine q_dup (pc' := 30) dX11_drop_29 rfl rfl ?_
  refine h_getiE (pc' := 33) dX11_drop_30 fX11_242 rfl rfl (C1.1) rfl ?_
  refine q_iconst (pc' := 34) (v := nI 1) dX11_drop_33 rfl rfl ?_
  refine q_isubN (pc' := 35) dX11_drop_34 (by omega) rfl ?_
  refine h_puti (pc' := 38) dX11_drop_35 fX11_242 rfl rfl rfl rfl rfl ?_
  have C2 := mc_many (n := c.1 - 1) (xs := c.2.2.1) C1 (by omega) (fun i hi => C1.2.2.2.2.1 i (by omega))
  generalize hm9 : sI m' 215 20 (nI (c.1 - 1)) = m9 at C2 ⊢
  have f9 : Fr [215, 223, 224] m' m9 := hm9 ▸ Fr.rf.I (by decide)
  have k9 : Kp 215 [4, 20] m' m9 := hm9 ▸ kp_I Kp.rf (by decide)
  have T9 := T1.fr f9 (by rw [← hm9]; rfl) (by decide)
  refine q_aload_n (pc' := 39) dX11_drop_38 rfl rfl ?_
  refine q_iconst (pc' := 40) (v := nI 2) dX11_drop_39 rfl rfl ?_
  refine q_aload_n (pc' := 41) dX11_drop_40 rfl rfl ?_
  refine h_getiE (pc' := 44) dX11_drop_41 fX11_242 rfl rfl (C2.1) rfl ?_
  refine h_callV (pc' := 47) (M' := mX11_note) (As := [_, _]) dX11_drop_44 iX11_note lX11_436 rfl rfl rfl rfl (Nat.le_of_ble_eq_true rfl) (Nat.le_of_ble_eq_true rfl) rfl rfl (k_note C2) (fun r m' hq => ?_)
  obtain ⟨rfl, f3, k3, C3⟩ := hq
  obtain ⟨x, y⟩ := h.act f1 k1 P1 f9 k9 T9 f3 k3 C3
  refine q_aload_n (pc' := 48) dX11_drop_47 rfl rfl ?_
  refine h_getiE (pc' := 51) dX11_drop_48 fX11_242 rfl rfl (C3.1) rfl ?_
  refine q_iret dX11_drop_51 rfl rfl ⟨_, rfl, y, rfl, x⟩
set_option maxHeartbeats 4000000 in
set_option maxRecDepth 20000 in
theorem k_swap {Z : q_Z} {m : q_Mm} {d : Nat} {t im : Bool} {B L : List Nat} {c ck : q_Cs} {us : List q_Cs} {rf : Nat → Int32} {x y : Int32} (h : MI m t im B L c ck us rf) : q_V (q_g Z) mX11_swap (d+2) 0 0 0 [some (.ref (q_ad Z 215)), some (.int x), some (.int y), none, none] [] (q_W Z m) (q_P Z fun r m2 => MP m2 m r t im B B L c (s_act c c.1 (q_u (q_u c.2.2.1 (s_i x) (c.2.2.1 (s_i y))) (s_i y) (c.2.2.1 (s_i x))) c.2.2.2.1 (nI 3) x) ck us rf (s_wSwap t c.1 c.2.2.1 x y) x) := by
  have hC := h.mc
  have hn := hC.2.2.1
  have no : ∀ w, w < 5 → s_wSwap t c.1 c.2.2.1 x y = some w → q_V (q_g Z) mX11_swap (d+2) 0 0 42 [some (.ref (q_ad Z 215)), some (.int x), some (.int y), none, none] [.int (nI w), .ref (q_ad Z 215)] (q_W Z (m)) (q_P Z fun r m2 => MP m2 m r t im B B L c (s_act c c.1 (q_u (q_u c.2.2.1 (s_i x) (c.2.2.1 (s_i y))) (s_i y) (c.2.2.1 (s_i x))) c.2.2.2.1 (nI 3) x) ck us rf (s_wSwap t c.1 c.2.2.1 x y) x) := by
    intro w hw e
    rw [e]
    refine h_callV (pc' := 45) (M' := mX11_isRefused) (As := [_]) dX11_swap_42 iX11_isRefused lX11_433 rfl rfl rfl rfl (Nat.le_of_ble_eq_true rfl) (Nat.le_of_ble_eq_true rfl) rfl rfl (k_refuse hw) (fun r m' hq => ?_)
    obtain ⟨rfl, rfl⟩ := hq
    refine q_if_eqB (tgt := 50) (pc' := 48) dX11_swap_45 (by decide) rfl (fun c_45 => ?_) (fun c_45 => ?_)
    · cases c_45
    obtain ⟨a, b⟩ := h.ref hw
    refine q_iconst (pc' := 49) (v := (-1)) dX11_swap_48 rfl rfl ?_
    refine q_iret dX11_swap_49 rfl rfl ⟨_, rfl, b, rfl, a⟩
  refine q_aload_n (pc' := 1) dX11_swap_0 rfl rfl ?_
  refine q_aload_n (pc' := 2) dX11_swap_1 rfl rfl ?_
  refine q_iload_n (pc' := 3) dX11_swap_2 rfl rfl ?_
  refine h_callV (pc' := 6) (M' := mX11_isPlace) (As := [_]) dX11_swap_3 iX11_isPlace lX11_375 rfl rfl rfl rfl (Nat.le_of_ble_eq_true rfl) (Nat.le_of_ble_eq_true rfl) rfl rfl (k_isPlace h.2.2.1 hC.1 hn) (fun r m' hq => ?_)
  obtain ⟨rfl, hmm⟩ := hq
  subst m'
  refine q_if_eqB (tgt := 17) (pc' := 9) dX11_swap_6 (by decide) rfl (fun c_6 => ?_) (fun c_6 => ?_)
  · refine q_iconst (pc' := 18) (v := nI 0) dX11_swap_17 rfl rfl ?_
    refine q_goto (pc' := 42) dX11_swap_18 (by decide) ?_
    exact no 0 (by decide) (if_neg (by rw [c_6]; simp))
  refine q_aload_n (pc' := 10) dX11_swap_9 rfl rfl ?_
  refine q_iload_n (pc' := 11) dX11_swap_10 rfl rfl ?_
  refine h_callV (pc' := 14) (M' := mX11_isPlace) (As := [_]) dX11_swap_11 iX11_isPlace lX11_375 rfl rfl rfl rfl (Nat.le_of_ble_eq_true rfl) (Nat.le_of_ble_eq_true rfl) rfl rfl (k_isPlace h.2.2.1 hC.1 hn) (fun r m' hq => ?_)
  obtain ⟨rfl, hmm⟩ := hq
  subst m'
  refine q_if_neB (tgt := 21) (pc' := 17) dX11_swap_14 (by decide) rfl (fun c_14 => ?_) (fun c_14 => ?_)
  rotate_left
  · refine q_iconst (pc' := 18) (v := nI 0) dX11_swap_17 rfl rfl ?_
    refine q_goto (pc' := 42) dX11_swap_18 (by decide) ?_
    exact no 0 (by decide) (if_neg (by rw [c_6, c_14]; decide))
  have ht : t = true := by
    unfold s_has at c_6
    rw [Bool.and_eq_true] at c_6
    exact c_6.1
  have hw : s_wSwap t c.1 c.2.2.1 x y = (if c.2.2.1 (s_i x) = c.2.2.1 (s_i y) then some 2 else none) := if_pos (by rw [c_6, c_14]; rfl)
  obtain ⟨j, hx, hj⟩ := z_has c_6 (by omega)
  obtain ⟨l, hy, hl⟩ := z_has c_14 (by omega)
  have e0 : s_i x = j := by rw [hx, s_i_n (by omega)]
  have e1 : s_i y = l := by rw [hy, s_i_n (by omega)]
  rw [e0, e1] at hw ⊢
  subst hx
  subst hy
  refine q_aload_n (pc' := 22) dX11_swap_21 rfl rfl ?_
  refine h_getr (pc' := 25) dX11_swap_22 fX11_33 rfl rfl rfl ?_
  refine q_iload_n (pc' := 26) dX11_swap_25 rfl rfl ?_
  refine h_laldE (pc' := 27) dX11_swap_26 rfl (rfl) (by omega) (by decide) (hC.2.2.2.2.1 j hj) rfl ?_
  refine q_aload_n (pc' := 28) dX11_swap_27 rfl rfl ?_
  refine h_getr (pc' := 31) dX11_swap_28 fX11_33 rfl rfl rfl ?_
  refine q_iload_n (pc' := 32) dX11_swap_31 rfl rfl ?_
  refine h_laldE (pc' := 33) dX11_swap_32 rfl (rfl) (by omega) (by decide) (hC.2.2.2.2.1 l hl) rfl ?_
  refine q_lcmp (pc' := 34) dX11_swap_33 rfl ?_
  refine q_if_neL (tgt := 41) (pc' := 37) dX11_swap_34 (by decide) rfl (fun c_34 => ?_) (fun c_34 => ?_)
  rotate_left
  · refine q_iconst (pc' := 38) (v := nI 2) dX11_swap_37 rfl rfl ?_
    refine q_goto (pc' := 42) dX11_swap_38 (by decide) ?_
    rw [e0, e1] at no
    exact no 2 (by decide) (by rw [hw, if_pos c_34])
  rw [hw, if_neg c_34]
  clear no
  refine q_iconst (pc' := 42) (v := (-1)) dX11_swap_41 rfl rfl ?_
  refine h_callV (pc' := 45) (M' := mX11_isRefused) (As := [_]) dX11_swap_42 iX11_isRefused lX11_433 rfl rfl rfl rfl (Nat.le_of_ble_eq_true rfl) (Nat.le_of_ble_eq_true rfl) rfl rfl (k_keepR ht hC h.mk) (fun r m' hq => ?_)
  obtain ⟨rfl, f1, k1, P1⟩ := hq
  refine q_if_eqB (tgt := 50) (pc' := 48) dX11_swap_45 (by decide) rfl (fun c_45 => ?_) (fun c_45 => ?_)
  rotate_left
  · cases c_45
  have C1 : MC m' t c := hC.fr f1 (k1 20 (by decide)) (k1 21 (by decide)) (by decide) (by decide) (by decide)
  have T1 := h.2.1.fr f1 (k1 4 (by decide)) (by decide)
  refine q_aload_n (pc' := 51) dX11_swap_50 rfl rfl ?_
  refine h_getr (pc' := 54) dX11_swap_51 fX11_33 rfl rfl rfl ?_
  refine q_iload_n (pc' := 55) dX11_swap_54 rfl rfl ?_
  refine h_laldE (pc' := 56) dX11_swap_55 rfl (rfl) (by omega) (by decide) (C1.2.2.2.2.1 j hj) rfl ?_
  refine q_lstore_n (pc' := 57) (lv' := [_, _, _, _, _]) dX11_swap_56 (by decide) rfl rfl ?_
  refine q_aload_n (pc' := 58) dX11_swap_57 rfl rfl ?_
  refine h_getr (pc' := 61) dX11_swap_58 fX11_33 rfl rfl rfl ?_
  refine q_iload_n (pc' := 62) dX11_swap_61 rfl rfl ?_
  refine q_aload_n (pc' := 63) dX11_swap_62 rfl rfl ?_
  refine h_getr (pc' := 66) dX11_swap_63 fX11_33 rfl rfl rfl ?_
  refine q_iload_n (pc' := 67) dX11_swap_66 rfl rfl ?_
  refine h_laldE (pc' := 68) dX11_swap_67 rfl (rfl) (by omega) (by decide) (C1.2.2.2.2.1 l hl) rfl ?_
  refine h_last (pc' := 69) dX11_swap_68 rfl (rfl) (by omega) (by decide) rfl ?_
  refine q_aload_n (pc' := 70) dX11_swap_69 rfl rfl ?_
  refine h_getr (pc' := 73) dX11_swap_70 fX11_33 rfl rfl rfl ?_
  refine q_iload_n (pc' := 74) dX11_swap_73 rfl rfl ?_
  refine q_lload_n (pc' := 75) dX11_swap_74 rfl rfl ?_
  refine h_last (pc' := 76) dX11_swap_75 rfl (rfl) (by omega) (by decide) rfl ?_
  have C2 := mc_put (j := l) (v := c.2.2.1 j) (mc_put (j := j) (v := c.2.2.1 l) C1)
  have f9 : Fr [215, 223, 224] m' (sL (sL m' 223 (q_u (m'.2.2.2.1 223) j (c.2.2.1 l))) 223 (q_u ((sL m' 223 (q_u (m'.2.2.2.1 223) j (c.2.2.1 l))).2.2.2.1 223) l (c.2.2.1 j))) := (Fr.rf.L (by decide)).L (by decide)
  have T9 := T1.fr f9 rfl (by decide)
  refine q_aload_n (pc' := 77) dX11_swap_76 rfl rfl ?_
  refine q_iconst (pc' := 78) (v := nI 3) dX11_swap_77 rfl rfl ?_
  refine q_iload_n (pc' := 79) dX11_swap_78 rfl rfl ?_
  refine h_callV (pc' := 82) (M' := mX11_note) (As := [_, _]) dX11_swap_79 iX11_note lX11_436 rfl rfl rfl rfl (Nat.le_of_ble_eq_true rfl) (Nat.le_of_ble_eq_true rfl) rfl rfl (k_note C2) (fun r m' hq => ?_)
  obtain ⟨rfl, f3, k3, C3⟩ := hq
  obtain ⟨x, y⟩ := h.act f1 k1 P1 f9 Kp.rf T9 f3 k3 C3
  refine q_iload_n (pc' := 83) dX11_swap_82 rfl rfl ?_
  refine q_iret dX11_swap_83 rfl rfl ⟨_, rfl, y, rfl, x⟩
set_option maxHeartbeats 4000000 in
set_option maxRecDepth 20000 in
theorem k_set {Z : q_Z} {m : q_Mm} {d : Nat} {t im : Bool} {B L : List Nat} {c ck : q_Cs} {us : List q_Cs} {rf : Nat → Int32} {x v : Int32} (h : MI m t im B L c ck us rf) : q_V (q_g Z) mX11_set (d+2) 0 0 0 [some (.ref (q_ad Z 215)), some (.int x), some (.int v), none] [] (q_W Z m) (q_P Z fun r m2 => MP m2 m r t im B B L c (s_act c c.1 c.2.2.1 (q_u c.2.2.2.1 (s_i x) (s_i v)) (nI 4) x) ck us rf (s_wSet t c.2.2.2.1 x v) (nI (c.2.2.2.1 (s_i x)))) := by
  have hC := h.mc
  have hn := hC.2.2.1
  have no : ∀ w, w < 5 → s_wSet t c.2.2.2.1 x v = some w → q_V (q_g Z) mX11_set (d+2) 0 0 47 [some (.ref (q_ad Z 215)), some (.int x), some (.int v), none] [.int (nI w), .ref (q_ad Z 215)] (q_W Z (m)) (q_P Z fun r m2 => MP m2 m r t im B B L c (s_act c c.1 c.2.2.1 (q_u c.2.2.2.1 (s_i x) (s_i v)) (nI 4) x) ck us rf (s_wSet t c.2.2.2.1 x v) (nI (c.2.2.2.1 (s_i x)))) := by
    intro w hw e
    rw [e]
    refine h_callV (pc' := 50) (M' := mX11_isRefused) (As := [_]) dX11_set_47 iX11_isRefused lX11_433 rfl rfl rfl rfl (Nat.le_of_ble_eq_true rfl) (Nat.le_of_ble_eq_true rfl) rfl rfl (k_refuse hw) (fun r m' hq => ?_)
    obtain ⟨rfl, rfl⟩ := hq
    refine q_if_eqB (tgt := 55) (pc' := 53) dX11_set_50 (by decide) rfl (fun c_50 => ?_) (fun c_50 => ?_)
    · cases c_50
    obtain ⟨a, b⟩ := h.ref hw
    refine q_iconst (pc' := 54) (v := (-1)) dX11_set_53 rfl rfl ?_
    refine q_iret dX11_set_54 rfl rfl ⟨_, rfl, b, rfl, a⟩
  refine q_aload_n (pc' := 1) dX11_set_0 rfl rfl ?_
  refine q_aload_n (pc' := 2) dX11_set_1 rfl rfl ?_
  refine q_iload_n (pc' := 3) dX11_set_2 rfl rfl ?_
  refine h_callV (pc' := 6) (M' := mX11_isRule) (As := [_]) dX11_set_3 iX11_isRule lX11_439 rfl rfl rfl rfl (Nat.le_of_ble_eq_true rfl) (Nat.le_of_ble_eq_true rfl) rfl rfl ((k_isRule (d := d) h.2.2.1).up (by omega)) (fun r m' hq => ?_)
  obtain ⟨rfl, hmm⟩ := hq
  subst m'
  refine q_if_neB (tgt := 13) (pc' := 9) dX11_set_6 (by decide) rfl (fun c_6 => ?_) (fun c_6 => ?_)
  rotate_left
  · refine q_iconst (pc' := 10) (v := nI 0) dX11_set_9 rfl rfl ?_
    refine q_goto (pc' := 47) dX11_set_10 (by decide) ?_
    exact no 0 (by decide) (if_neg (by rw [c_6]; decide))
  have hw : s_wSet t c.2.2.2.1 x v = (if s_isBound (s_i x) v = true then (if nI (c.2.2.2.1 (s_i x)) = v then some 2 else none) else some 1) := if_pos c_6
  rw [Bool.and_eq_true] at c_6
  have ht : t = true := c_6.1
  have hru := c_6.2
  unfold s_isRule at hru
  have hru := of_decide_eq_true hru
  obtain ⟨j, hj, hx⟩ := z_ex (x := x) (n := 5) hru.1 (by have := hru.2; omega) (by omega)
  have e0 : s_i x = j := by rw [hx, s_i_n (by omega)]
  rw [e0] at hw ⊢
  subst hx
  refine q_iload_n (pc' := 14) dX11_set_13 rfl rfl ?_
  refine q_iload_n (pc' := 15) dX11_set_14 rfl rfl ?_
  refine h_callS (pc' := 18) (M' := mX11_lowest) (As := [_]) dX11_set_15 iX11_lowest lX11_131 rfl rfl (Nat.le_of_ble_eq_true rfl) (Nat.le_of_ble_eq_true rfl) rfl rfl ((k_lowest hj).up (Nat.zero_le _)) (fun r m' hq => ?_)
  obtain ⟨rfl, hmm⟩ := hq
  subst m'
  refine q_iload_n (pc' := 19) dX11_set_18 rfl rfl ?_
  refine h_callS (pc' := 22) (M' := mX11_highest) (As := [_]) dX11_set_19 iX11_highest lX11_134 rfl rfl (Nat.le_of_ble_eq_true rfl) (Nat.le_of_ble_eq_true rfl) rfl rfl ((k_highest hj).up (Nat.zero_le _)) (fun r m' hq => ?_)
  obtain ⟨rfl, hmm⟩ := hq
  subst m'
  refine h_callS (pc' := 25) (M' := mX11_in) (As := [_, _, _]) dX11_set_22 iX11_in lX11_99 rfl rfl (Nat.le_of_ble_eq_true rfl) (Nat.le_of_ble_eq_true rfl) rfl rfl (k_in.up (Nat.zero_le _)) (fun r m' hq => ?_)
  obtain ⟨rfl, hmm⟩ := hq
  subst m'
  rw [show decide ((q_low j).toInt ≤ v.toInt ∧ v.toInt ≤ (q_high j).toInt) = s_isBound j v from rfl]
  rw [e0] at no
  refine q_if_neB (tgt := 32) (pc' := 28) dX11_set_25 (by decide) rfl (fun c_25 => ?_) (fun c_25 => ?_)
  rotate_left
  · refine q_iconst (pc' := 29) (v := nI 1) dX11_set_28 rfl rfl ?_
    refine q_goto (pc' := 47) dX11_set_29 (by decide) ?_
    exact no 1 (by decide) (by rw [hw, if_neg (by rw [c_25]; decide)])
  rw [if_pos c_25] at hw
  refine q_aload_n (pc' := 33) dX11_set_32 rfl rfl ?_
  refine h_getr (pc' := 36) dX11_set_33 fX11_36 rfl rfl rfl ?_
  refine q_iload_n (pc' := 37) dX11_set_36 rfl rfl ?_
  refine h_ialdE (pc' := 38) dX11_set_37 rfl (rfl) (by omega) (by decide) (hC.2.2.2.2.2.1 ht j hj) rfl ?_
  refine q_iload_n (pc' := 39) dX11_set_38 rfl rfl ?_
  refine q_icmp_ne (tgt := 46) (pc' := 42) dX11_set_39 (by decide) rfl (fun c_39 => ?_) (fun c_39 => ?_)
  rotate_left
  · refine q_iconst (pc' := 43) (v := nI 2) dX11_set_42 rfl rfl ?_
    refine q_goto (pc' := 47) dX11_set_43 (by decide) ?_
    exact no 2 (by decide) (by rw [hw, if_pos c_39])
  rw [hw, if_neg c_39]
  clear no
  refine q_iconst (pc' := 47) (v := (-1)) dX11_set_46 rfl rfl ?_
  refine h_callV (pc' := 50) (M' := mX11_isRefused) (As := [_]) dX11_set_47 iX11_isRefused lX11_433 rfl rfl rfl rfl (Nat.le_of_ble_eq_true rfl) (Nat.le_of_ble_eq_true rfl) rfl rfl (k_keepR ht hC h.mk) (fun r m' hq => ?_)
  obtain ⟨rfl, f1, k1, P1⟩ := hq
  refine q_if_eqB (tgt := 55) (pc' := 53) dX11_set_50 (by decide) rfl (fun c_50 => ?_) (fun c_50 => ?_)
  rotate_left
  · cases c_50
  have C1 : MC m' t c := hC.fr f1 (k1 20 (by decide)) (k1 21 (by decide)) (by decide) (by decide) (by decide)
  have T1 := h.2.1.fr f1 (k1 4 (by decide)) (by decide)
  refine q_aload_n (pc' := 56) dX11_set_55 rfl rfl ?_
  refine h_getr (pc' := 59) dX11_set_56 fX11_36 rfl rfl rfl ?_
  refine q_iload_n (pc' := 60) dX11_set_59 rfl rfl ?_
  refine h_ialdE (pc' := 61) dX11_set_60 rfl (rfl) (by omega) (by decide) (C1.2.2.2.2.2.1 ht j hj) rfl ?_
  refine q_istore_n (pc' := 62) (lv' := [_, _, _, _]) dX11_set_61 (by decide) rfl rfl ?_
  refine q_aload_n (pc' := 63) dX11_set_62 rfl rfl ?_
  refine h_getr (pc' := 66) dX11_set_63 fX11_36 rfl rfl rfl ?_
  refine q_iload_n (pc' := 67) dX11_set_66 rfl rfl ?_
  refine q_iload_n (pc' := 68) dX11_set_67 rfl rfl ?_
  refine h_iast (pc' := 69) dX11_set_68 rfl (rfl) (by omega) (by decide) rfl ?_
  have C2 := mc_rule C1 hj c_25
  have f9 : Fr [215, 223, 224] m' (sA m' 224 (q_u (m'.2.2.1 224) j v)) := Fr.rf.A (by decide)
  have T9 := T1.fr f9 rfl (by decide)
  refine q_aload_n (pc' := 70) dX11_set_69 rfl rfl ?_
  refine q_iconst (pc' := 71) (v := nI 4) dX11_set_70 rfl rfl ?_
  refine q_iload_n (pc' := 72) dX11_set_71 rfl rfl ?_
  refine h_callV (pc' := 75) (M' := mX11_note) (As := [_, _]) dX11_set_72 iX11_note lX11_436 rfl rfl rfl rfl (Nat.le_of_ble_eq_true rfl) (Nat.le_of_ble_eq_true rfl) rfl rfl (k_note C2) (fun r m' hq => ?_)
  obtain ⟨rfl, f3, k3, C3⟩ := hq
  obtain ⟨x, y⟩ := h.act f1 k1 P1 f9 Kp.rf T9 f3 k3 C3
  refine q_iload_n (pc' := 76) dX11_set_75 rfl rfl ?_
  refine q_iret dX11_set_76 rfl rfl ⟨_, rfl, y, rfl, x⟩
set_option maxHeartbeats 4000000 in
set_option maxRecDepth 20000 in
theorem k_take {Z : q_Z} {m : q_Mm} {d : Nat} {t im : Bool} {B L : List Nat} {c ck : q_Cs} {us : List q_Cs} {rf : Nat → Int32} (h : MI m t im B L c ck us rf) : q_V (q_g Z) mX11_take (d+5) 0 0 0 [some (.ref (q_ad Z 215)), none, none] [] (q_W Z m) (q_P Z fun r m2 => MP m2 m r t im B [] L c (s_act c (c.1 + (s_bkk B).2.1) (s_ap c.2.2.1 c.1 (s_bkk B).2.2 (s_bkk B).2.1) c.2.2.2.1 (nI 5) (nI (s_bkk B).2.1)) ck us rf (s_wTake t B c.1) (nI (s_bkk B).2.1)) := by
  have hC := h.mc
  have hn := hC.2.2.1
  have no : ∀ m0 w, w < 5 → MI m0 t im B L c ck us rf → Dn m m0 → s_wTake t B c.1 = some w → q_V (q_g Z) mX11_take (d+5) 0 0 42 [some (.ref (q_ad Z 215)), none, none] [.int (nI w)] (q_W Z (m0)) (q_P Z fun r m2 => MP m2 m r t im B [] L c (s_act c (c.1 + (s_bkk B).2.1) (s_ap c.2.2.1 c.1 (s_bkk B).2.2 (s_bkk B).2.1) c.2.2.2.1 (nI 5) (nI (s_bkk B).2.1)) ck us rf (s_wTake t B c.1) (nI (s_bkk B).2.1)) := by
    intro m0 w hw h0 u0 e
    rw [e]
    refine q_istore_n (pc' := 43) (lv' := [_, _, _]) dX11_take_42 (by decide) rfl rfl ?_
    refine q_aload_n (pc' := 44) dX11_take_43 rfl rfl ?_
    refine q_iload_n (pc' := 45) dX11_take_44 rfl rfl ?_
    refine h_callV (pc' := 48) (M' := mX11_isRefused) (As := [_]) dX11_take_45 iX11_isRefused lX11_433 rfl rfl rfl rfl (Nat.le_of_ble_eq_true rfl) (Nat.le_of_ble_eq_true rfl) rfl rfl ((k_refuse (d := d) hw).up (by omega)) (fun r m' hq => ?_)
    obtain ⟨rfl, rfl⟩ := hq
    refine q_if_eqB (tgt := 53) (pc' := 51) dX11_take_48 (by decide) rfl (fun c_48 => ?_) (fun c_48 => ?_)
    · cases c_48
    obtain ⟨a, b⟩ := h0.ref hw
    refine q_iconst (pc' := 52) (v := (-1)) dX11_take_51 rfl rfl ?_
    refine q_iret dX11_take_52 rfl rfl ⟨_, rfl, u0.tr b, rfl, a⟩
  refine q_aload_n (pc' := 1) dX11_take_0 rfl rfl ?_
  refine h_getiE (pc' := 4) dX11_take_1 fX11_238 rfl rfl (h.2.2.1) rfl ?_
  refine q_if_neB (tgt := 11) (pc' := 7) dX11_take_4 (by decide) rfl (fun c_4 => ?_) (fun c_4 => ?_)
  rotate_left
  · refine q_iconst (pc' := 8) (v := nI 0) dX11_take_7 rfl rfl ?_
    refine q_goto (pc' := 42) dX11_take_8 (by decide) ?_
    exact no m 0 (by decide) h Dn.rf (if_pos c_4)
  have ht := c_4
  refine q_aload_n (pc' := 12) dX11_take_11 rfl rfl ?_
  refine h_callV (pc' := 15) (M' := mX11_readBlock) (As := []) dX11_take_12 iX11_readBlock lX11_233 rfl rfl rfl rfl (Nat.le_of_ble_eq_true rfl) (Nat.le_of_ble_eq_true rfl) rfl rfl (k_readBlock h.1 h.2.1) (fun r m' hq => ?_)
  obtain ⟨rfl, f0, k0, v0⟩ := hq
  obtain ⟨h0, u0⟩ := h.s f0 k0 (by decide) (by decide)
  have b1 : ∀ a, (s_bkk B).1 = some a → a ≤ 320 := fun a ha => s_bkk_le h.2.1.2.1 ha
  obtain ⟨m0, hm0⟩ : ∃ z, z = m' := ⟨_, rfl⟩
  subst hm0
  have w0 : s_wTake t B c.1 = if (s_bkk B).1 = none then (if c.1 + (s_bkk B).2.1 ≤ 64 then none else some 3) else some 4 := if_neg (by rw [ht]; decide)
  refine q_iconst (pc' := 16) (v := (-1)) dX11_take_15 rfl rfl ?_
  refine q_icmp_eq (tgt := 23) (pc' := 19) dX11_take_16 (by decide) rfl (fun c_16 => ?_) (fun c_16 => ?_)
  rotate_left
  · refine q_iconst (pc' := 20) (v := nI 4) dX11_take_19 rfl rfl ?_
    refine q_goto (pc' := 42) dX11_take_20 (by decide) ?_
    exact no m0 4 (by decide) h0 u0 (by rw [w0, if_neg (fun z => c_16 ((s_on_no b1).mpr z))])
  have hno := (s_on_no b1).mp c_16
  rw [if_pos hno] at w0
  obtain ⟨e12, le, ge, hv⟩ := v0 hno
  generalize (s_bkk B).2.1 = sz at e12 le ge hv w0 no ⊢
  generalize (s_bkk B).2.2 = g at hv no ⊢
  have hC0 := h0.mc
  refine q_aload_n (pc' := 24) dX11_take_23 rfl rfl ?_
  refine h_getiE (pc' := 27) dX11_take_24 fX11_242 rfl rfl (hC0.1) rfl ?_
  refine q_aload_n (pc' := 28) dX11_take_27 rfl rfl ?_
  refine h_getiE (pc' := 31) dX11_take_28 fX11_197 rfl rfl (e12) rfl ?_
  refine q_iaddN (pc' := 32) dX11_take_31 rfl ?_
  refine q_bipush (pc' := 34) (v := nI 64) dX11_take_32 rfl rfl ?_
  refine q_icmp_leN (tgt := 41) (pc' := 37) dX11_take_34 (by decide) rfl (by omega) (fun c_34 => ?_) (fun c_34 => ?_)
  rotate_left
  · refine q_iconst (pc' := 38) (v := nI 3) dX11_take_37 rfl rfl ?_
    refine q_goto (pc' := 42) dX11_take_38 (by decide) ?_
    exact no m0 3 (by decide) h0 u0 (by rw [w0, if_neg (by omega)])
  rw [w0, if_pos c_34]
  clear no w0
  refine q_iconst (pc' := 42) (v := (-1)) dX11_take_41 rfl rfl ?_
  refine q_istore_n (pc' := 43) (lv' := [_, _, _]) dX11_take_42 (by decide) rfl rfl ?_
  refine q_aload_n (pc' := 44) dX11_take_43 rfl rfl ?_
  refine q_iload_n (pc' := 45) dX11_take_44 rfl rfl ?_
  refine h_callV (pc' := 48) (M' := mX11_isRefused) (As := [_]) dX11_take_45 iX11_isRefused lX11_433 rfl rfl rfl rfl (Nat.le_of_ble_eq_true rfl) (Nat.le_of_ble_eq_true rfl) rfl rfl ((k_keepR (d := d) ht hC0 h0.mk).up (by omega)) (fun r m' hq => ?_)
  obtain ⟨rfl, f1, k1, P1⟩ := hq
  refine q_if_eqB (tgt := 53) (pc' := 51) dX11_take_48 (by decide) rfl (fun c_48 => ?_) (fun c_48 => ?_)
  rotate_left
  · cases c_48
  have C1 : MC m' t c := hC0.fr f1 (k1 20 (by decide)) (k1 21 (by decide)) (by decide) (by decide) (by decide)
  have e12 : m'.1 215 12 = nI sz := (k1 12 (by decide)).trans e12
  have hv : ∀ i, i < sz → m'.2.2.2.1 221 i = g i := fun i hi => (congrFun (f1.l (by decide)) i).trans (hv i hi)
  refine q_aload_n (pc' := 54) dX11_take_53 rfl rfl ?_
  refine q_iconst (pc' := 55) (v := nI 0) dX11_take_54 rfl rfl ?_
  refine h_puti (pc' := 58) dX11_take_55 fX11_96 rfl rfl rfl rfl rfl ?_
  refine q_iconst (pc' := 59) (v := nI 0) dX11_take_58 rfl rfl ?_
  refine q_istore_n (pc' := 60) (lv' := [_, _, _]) dX11_take_59 (by decide) rfl rfl ?_
  suffices hl : ∀ k j m1, j + k = sz → Fr [215, 223] m' m1 → Kp 215 [4] m' m1 → m1.1 215 4 = nI 0 → (∀ i, i < c.1 + j → m1.2.2.2.1 223 i = s_ap c.2.2.1 c.1 g j i) → q_V (q_g Z) mX11_take (d+5) 0 0 60 [some (.ref (q_ad Z 215)), some (.int (-1)), some (.int (nI j))] [] (q_W Z (m1)) (q_P Z fun r m2 => MP m2 m r t im B [] L c (s_act c (c.1 + sz) (s_ap c.2.2.1 c.1 g sz) c.2.2.2.1 (nI 5) (nI sz)) ck us rf none (nI sz)) from hl sz 0 (sI m' 215 4 (nI 0)) (by omega) (Fr.rf.I (by decide)) (kp_I Kp.rf (by decide)) rfl (fun i hi => C1.2.2.2.2.1 i hi)
  intro k
  induction k with
  | zero =>
    intro j m1 hj f2 k2 e4 hx
    obtain rfl : j = sz := by omega
    have e1 : m1.1 215 12 = nI j := (k2 12 (by decide)).trans e12
    have e20 : m1.1 215 20 = nI c.1 := (k2 20 (by decide)).trans C1.1
    refine q_iload_n (pc' := 61) dX11_take_60 rfl rfl ?_
    refine q_aload_n (pc' := 62) dX11_take_61 rfl rfl ?_
    refine h_getiE (pc' := 65) dX11_take_62 fX11_197 rfl rfl (e1) rfl ?_
    refine q_icmp_geN (tgt := 91) (pc' := 68) dX11_take_65 (by decide) rfl (by omega) (fun c_65 => ?_) (fun c_65 => ?_)
    rotate_left
    · omega
    refine q_aload_n (pc' := 92) dX11_take_91 rfl rfl ?_
    refine q_dup (pc' := 93) dX11_take_92 rfl rfl ?_
    refine h_getiE (pc' := 96) dX11_take_93 fX11_242 rfl rfl (e20) rfl ?_
    refine q_aload_n (pc' := 97) dX11_take_96 rfl rfl ?_
    refine h_getiE (pc' := 100) dX11_take_97 fX11_197 rfl rfl (e1) rfl ?_
    refine q_iaddN (pc' := 101) dX11_take_100 rfl ?_
    refine h_puti (pc' := 104) dX11_take_101 fX11_242 rfl rfl rfl rfl rfl ?_
    generalize hm9 : sI m1 215 20 (nI (c.1 + j)) = m9
    have f9 : Fr [215, 223] m' m9 := hm9 ▸ f2.I (by decide)
    have k9 : Kp 215 [4, 20] m' m9 := hm9 ▸ kp_I (k2.mono (by decide)) (by decide)
    have e20 : m9.1 215 20 = nI (c.1 + j) := hm9 ▸ rfl
    have e49 : m9.1 215 4 = nI 0 := by rw [← hm9]; exact e4
    have e19 : m9.1 215 12 = nI j := by rw [← hm9]; exact e1
    have C2 : MC m9 t (c.1 + j, c.2.1, s_ap c.2.2.1 c.1 g j, c.2.2.2.1, c.2.2.2.2) := ⟨e20, (k9 21 (by decide)).trans C1.2.1, c_34, C1.2.2.2.1, fun i hi => by rw [← hm9]; exact hx i hi, fun z i hi => (congrFun (f9.a (by decide)) i).trans (C1.2.2.2.2.2.1 z i hi), fun i hi => (congrFun (f9.a (by decide)) i).trans (C1.2.2.2.2.2.2.1 i hi), C1.2.2.2.2.2.2.2⟩
    have T2 : MT m9 [] := ⟨e49, by decide, fun i hi => absurd hi (by simp), fun x hx => by cases hx⟩
    refine q_aload_n (pc' := 105) dX11_take_104 rfl rfl ?_
    refine q_iconst (pc' := 106) (v := nI 5) dX11_take_105 rfl rfl ?_
    refine q_aload_n (pc' := 107) dX11_take_106 rfl rfl ?_
    refine h_getiE (pc' := 110) dX11_take_107 fX11_197 rfl rfl (e19) rfl ?_
    refine h_callV (pc' := 113) (M' := mX11_note) (As := [_, _]) dX11_take_110 iX11_note lX11_436 rfl rfl rfl rfl (Nat.le_of_ble_eq_true rfl) (Nat.le_of_ble_eq_true rfl) rfl rfl ((k_note (d := d) C2).up (by omega)) (fun r m' hq => ?_)
    obtain ⟨rfl, f3, k3, C3⟩ := hq
    obtain ⟨x, y⟩ := h0.act f1 k1 P1 (f9.mono (by decide)) k9 T2 f3 k3 C3
    refine q_aload_n (pc' := 114) dX11_take_113 rfl rfl ?_
    refine h_getiE (pc' := 117) dX11_take_114 fX11_197 rfl rfl ((k3 12 (by decide)).trans e19) rfl ?_
    refine q_iret dX11_take_117 rfl rfl ⟨_, rfl, u0.tr y, rfl, x⟩
  | succ k ih =>
    intro j m1 hj f2 k2 e4 hx
    have e1 : m1.1 215 12 = nI sz := (k2 12 (by decide)).trans e12
    have e20 : m1.1 215 20 = nI c.1 := (k2 20 (by decide)).trans C1.1
    refine q_iload_n (pc' := 61) dX11_take_60 rfl rfl ?_
    refine q_aload_n (pc' := 62) dX11_take_61 rfl rfl ?_
    refine h_getiE (pc' := 65) dX11_take_62 fX11_197 rfl rfl (e1) rfl ?_
    refine q_icmp_geN (tgt := 91) (pc' := 68) dX11_take_65 (by decide) rfl (by omega) (fun c_65 => ?_) (fun c_65 => ?_)
    · omega
    refine q_aload_n (pc' := 69) dX11_take_68 rfl rfl ?_
    refine h_getr (pc' := 72) dX11_take_69 fX11_33 rfl rfl rfl ?_
    refine q_aload_n (pc' := 73) dX11_take_72 rfl rfl ?_
    refine h_getiE (pc' := 76) dX11_take_73 fX11_242 rfl rfl (e20) rfl ?_
    refine q_iload_n (pc' := 77) dX11_take_76 rfl rfl ?_
    refine q_iaddN (pc' := 78) dX11_take_77 rfl ?_
    refine q_aload_n (pc' := 79) dX11_take_78 rfl rfl ?_
    refine h_getr (pc' := 82) dX11_take_79 fX11_27 rfl rfl rfl ?_
    refine q_iload_n (pc' := 83) dX11_take_82 rfl rfl ?_
    refine h_laldE (pc' := 84) dX11_take_83 rfl (rfl) (by omega) (by decide) ((congrFun (f2.l (by decide)) j).trans (hv j (by omega))) rfl ?_
    refine h_last (pc' := 85) dX11_take_84 rfl (rfl) (by omega) (by decide) rfl ?_
    refine q_iincN (pc' := 88) (j := 1) (lv' := [_, _, _]) dX11_take_85 rfl (by decide) rfl rfl ?_
    refine q_goto (pc' := 60) dX11_take_88 (by decide) ?_
    refine ih (j + 1) _ (by omega) (f2.L (by decide)) k2 e4 (fun i hi => ?_)
    show q_u (m1.2.2.2.1 223) (c.1 + j) (g j) i = q_u (s_ap c.2.2.1 c.1 g j) (c.1 + j) (g j) i
    by_cases z : i = c.1 + j
    · rw [z, q_u_s, q_u_s]
    · rw [q_u_n _ _ z, q_u_n _ _ z]; exact hx i (by omega)
