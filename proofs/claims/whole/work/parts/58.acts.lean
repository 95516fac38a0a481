/-! ===== GuisePack's whole state; ACTS ===== -/
def CX (m : q_Mm) : Prop := DblOk m ∧ CdOk m ∧ FitsOk m
/-- all but the COLUMN: told, imaged, the TAPE, what is written, the IMAGE, ACTS that can be UNDONE, STATUS -/
def CB (m : q_Mm) (t im : Bool) (B L : List Nat) (ck : q_Cs) (us : List q_Cs) (rf : Nat → Int32) : Prop := m.1 0 14 = q_b t ∧ m.1 0 15 = q_b im ∧ Oct m 6 B ∧ Bw m (L, 0, 0) ∧ (im = true → ColC m 23 ck) ∧ Pst m us ∧ ∀ i, i < 5 → m.2.2.1 213 i = rf i
def CC (m : q_Mm) (c : q_Cs) : Prop := ∃ st, Cls m st c.1 c.2.1 c.2.2.2.1 c.2.2.1 c.2.2.2.2
def CI (m : q_Mm) (t im : Bool) (B L : List Nat) (c ck : q_Cs) (us : List q_Cs) (rf : Nat → Int32) : Prop := CB m t im B L ck us rf ∧ CC m c
/-- the reference's places are as they were -/
def Up (m m2 : q_Mm) : Prop := ∀ p, 215 ≤ p → q_at m2 p = q_at m p
theorem Up.rf {m : q_Mm} : Up m m := fun _ _ => rfl
theorem Up.tr {m m1 m2 : q_Mm} (h : Up m m1) (g : Up m1 m2) : Up m m2 := fun p hp => (g p hp).trans (h p hp)
theorem Fr.upp {S : List Nat} {m m2 : q_Mm} (f : Fr S m m2) (h : ∀ p ∈ S, p < 215) : Up m m2 := fun p hp => f p (fun q => by have := h p q; omega)
theorem CX.fr {S : List Nat} {m m2 : q_Mm} (h : CX m) (f : Fr S m m2) (hS : ∀ p ∈ [2, 3, 4, 5, 190, 191, 192, 193], p ∉ S) : CX m2 := ⟨h.1.fr f (hS 2 (by decide)) (hS 3 (by decide)) (hS 4 (by decide)) (hS 5 (by decide)), h.2.1.fr f (hS 190 (by decide)), h.2.2.fr f (hS 191 (by decide)) (hS 192 (by decide)) (hS 193 (by decide))⟩
def s_safe (p : Nat) : Bool := decide (p = 0 ∨ (10 ≤ p ∧ p ≤ 22) ∨ (189 ≤ p ∧ p ≤ 211) ∨ p = 214)
theorem CB.fr {S : List Nat} {m m2 : q_Mm} {t im : Bool} {B L : List Nat} {ck : q_Cs} {us : List q_Cs} {rf : Nat → Int32} (h : CB m t im B L ck us rf) (f : Fr S m m2) (k14 : m2.1 0 14 = m.1 0 14) (k15 : m2.1 0 15 = m.1 0 15) (hS : ∀ p ∈ S, s_safe p = true) : CB m2 t im B L ck us rf := by
  have n : ∀ p, s_safe p = false → p ∉ S := fun p a b => by rw [hS p b] at a; cases a
  obtain ⟨h1, h2, h3, h4, h5, h6, h7⟩ := h
  refine ⟨k14.trans h1, k15.trans h2, h3.fr f (n 6 rfl) (n 7 rfl), h4.fr f (n 212 rfl) (n 8 rfl) (n 9 rfl), fun z => (h5 z).fr f (n 23 rfl) (n 24 rfl) (n 25 rfl) (n 26 rfl), h6.fr f (fun p hp => ?_), fun i hi => (congrFun (f.a (n 213 rfl)) i).trans (h7 i hi)⟩
  have := of_decide_eq_true (hS p hp)
  omega
theorem CI.q {S : List Nat} {m m2 : q_Mm} {t im : Bool} {B L : List Nat} {c ck : q_Cs} {us : List q_Cs} {rf : Nat → Int32} (h : CI m t im B L c ck us rf) (hc : ∃ st, Cls m2 st c.1 c.2.1 c.2.2.2.1 c.2.2.1 c.2.2.2.2) (f : Fr S m m2) (k : Kp 0 [16] m m2) (hS : ∀ p ∈ S, s_safe p = true) : CI m2 t im B L c ck us rf ∧ Up m m2 :=
  ⟨⟨h.1.fr f (k 14 (by decide)) (k 15 (by decide)) hS, hc⟩, f.upp (fun p hp => by have := of_decide_eq_true (hS p hp); omega)⟩
theorem CI.x {m : q_Mm} {t im : Bool} {B L : List Nat} {c ck : q_Cs} {us : List q_Cs} {rf : Nat → Int32} (h : CI m t im B L c ck us rf) : CX m := by
  obtain ⟨-, st, h1, h2, h3, -⟩ := h
  exact ⟨h1, h2, h3⟩
theorem CI.c {m : q_Mm} {t im : Bool} {B L : List Nat} {c ck : q_Cs} {us : List q_Cs} {rf : Nat → Int32} (h : CI m t im B L c ck us rf) : ColC m 19 c := by
  obtain ⟨-, st, h⟩ := h
  exact h.2.2.2.1
/-- what touches neither the COLUMN nor what is kept -/
theorem CI.s {S : List Nat} {m m2 : q_Mm} {t im : Bool} {B L : List Nat} {c ck : q_Cs} {us : List q_Cs} {rf : Nat → Int32} (h : CI m t im B L c ck us rf) (f : Fr S m m2) (hS : ∀ p ∈ S, (10 ≤ p ∧ p ≤ 18) ∨ p = 214) : CI m2 t im B L c ck us rf ∧ Up m m2 := by
  obtain ⟨hb, st, hc⟩ := h
  have n : ∀ p, ¬ ((10 ≤ p ∧ p ≤ 18) ∨ p = 214) → p ∉ S := fun p a b => a (hS p b)
  have k0 := congrFun (f.i (n 0 (by decide)))
  exact ⟨⟨hb.fr f (k0 14) (k0 15) (fun p hp => decide_eq_true (by have := hS p hp; omega)), st, hc.fr f (Kp.fr f (n 194 (by decide))) (fun p hp => n p (by simp at hp; omega))⟩, f.upp (fun p hp => by have := hS p hp; omega)⟩
def s_rf (rf : Nat → Int32) (w : Nat) : Nat → Int32 := q_u rf w (rf w + nI 1)
theorem CI.ref {m : q_Mm} {t im : Bool} {B L : List Nat} {c ck : q_Cs} {us : List q_Cs} {rf : Nat → Int32} {w : Nat} (h : CI m t im B L c ck us rf) (hw : w < 5) : CI (sA m 213 (q_u (m.2.2.1 213) w (m.2.2.1 213 w + nI 1))) t im B L c ck us (s_rf rf w) ∧ Up m (sA m 213 (q_u (m.2.2.1 213) w (m.2.2.1 213 w + nI 1))) := by
  have f : Fr [213] m (sA m 213 (q_u (m.2.2.1 213) w (m.2.2.1 213 w + nI 1))) := Fr.rf.A (by decide)
  obtain ⟨⟨h1, h2, h3, h4, h5, h6, h7⟩, st, hc⟩ := h
  refine ⟨⟨⟨h1, h2, h3.fr f (by decide) (by decide), h4.fr f (by decide) (by decide) (by decide), fun z => (h5 z).fr f (by decide) (by decide) (by decide) (by decide), h6.fr f (by decide), fun i hi => ?_⟩, st, hc.fr f (Kp.fr f (by decide)) (by decide)⟩, f.upp (by decide)⟩
  show q_u (m.2.2.1 213) w (m.2.2.1 213 w + nI 1) i = q_u rf w (rf w + nI 1) i
  by_cases z : i = w
  · rw [z, q_u_s, q_u_s, h7 w hw]
  · rw [q_u_n _ _ z, q_u_n _ _ z]; exact h7 i hi
theorem pl_nin {p : Nat} (h : p < 27 ∨ 189 ≤ p) : p ∉ q_pastL := by rw [pl_in]; omega
/-- an ACT: what was is kept, the COLUMN changes (and perhaps the TAPE), it is noted -/
theorem CI.act {m m1 m2 m3 : q_Mm} {t im : Bool} {B B' L : List Nat} {c c' ck : q_Cs} {us us' : List q_Cs} {rf : Nat → Int32} (h : CI m t im B L c ck us rf) (f1 : Fr q_pastL m m1) (P1 : Pst m1 us') (f2 : Fr [19, 20, 21, 6] m1 m2) (O2 : Oct m2 6 B') (f3 : Fr [0, 19, 22] m2 m3) (k3 : Kp 0 [16] m2 m3) (e3 : m3.1 0 16 = q_b true) (C3 : ColC m3 19 c') : CI m3 t im B' L c' ck us' rf ∧ Up m m3 := by
  have hx := h.x
  obtain ⟨⟨h1, h2, h3, h4, h5, h6, h7⟩, -⟩ := h
  have hx3 := ((hx.fr f1 (fun p hp => pl_nin (by simp at hp; omega))).fr f2 (by decide)).fr f3 (by decide)
  have n1 : ∀ p, p < 27 → p ∉ q_pastL := fun p hp => pl_nin (Or.inl hp)
  have n2 : ∀ p, 189 ≤ p → p ∉ q_pastL := fun p hp => pl_nin (Or.inr hp)
  refine ⟨⟨⟨?_, ?_, O2.fr f3 (by decide) (by decide), ((h4.fr f1 (n2 _ (by decide)) (n1 _ (by decide)) (n1 _ (by decide))).fr f2 (by decide) (by decide) (by decide)).fr f3 (by decide) (by decide) (by decide), fun z => (((h5 z).fr f1 (n1 _ (by decide)) (n1 _ (by decide)) (n1 _ (by decide)) (n1 _ (by decide))).fr f2 (by decide) (by decide) (by decide) (by decide)).fr f3 (by decide) (by decide) (by decide) (by decide), (P1.fr f2 (by decide)).fr f3 (by decide), fun i hi => ?_⟩, true, hx3.1, hx3.2.1, hx3.2.2, C3, fun _ => e3, fun z => by cases z⟩, ?_⟩
  · exact (k3 14 (by decide)).trans ((congrFun (f2.i (by decide)) 14).trans ((congrFun (f1.i (n1 _ (by decide))) 14).trans h1))
  · exact (k3 15 (by decide)).trans ((congrFun (f2.i (by decide)) 15).trans ((congrFun (f1.i (n1 _ (by decide))) 15).trans h2))
  · exact (congrFun (f3.a (by decide)) i).trans ((congrFun (f2.a (by decide)) i).trans ((congrFun (f1.a (n2 _ (by decide))) i).trans (h7 i hi)))
  · exact ((f1.upp (fun p hp => by rw [pl_in] at hp; omega)).tr (f2.upp (by decide))).tr (f3.upp (by decide))
def s_act (c : q_Cs) (n : Nat) (xs : Nat → Int64) (rl : Nat → Nat) (a b : Int32) : q_Cs := (n, s_nk c.2.1 + 1, xs, rl, s_nt c.2.1 c.2.2.2.2 a b (nI n))
/-- what an ACT answers and leaves: refused for a reason, or done -/
def AP (m2 m : q_Mm) (r : Option Value) (t im : Bool) (B B' L : List Nat) (c c' ck : q_Cs) (us : List q_Cs) (rf : Nat → Int32) (why : Option Nat) (ans : Int32) : Prop := Up m m2 ∧ match why with
  | some w => r = some (.int (-1)) ∧ CI m2 t im B L c ck us (s_rf rf w)
  | none => r = some (.int ans) ∧ CI m2 t im B' L c' ck ((c :: us).take 40) rf
set_option maxHeartbeats 4000000 in
set_option maxRecDepth 20000 in
theorem c_ref {Z : q_Z} {m : q_Mm} {d : Nat} {t im : Bool} {B L : List Nat} {c ck : q_Cs} {us : List q_Cs} {rf : Nat → Int32} {m0 : q_Mm} {w : Nat} (hu : Up m0 m) (h : CI m t im B L c ck us rf) (hw : w < 5) : q_V (q_g Z) mX10_refuse (d) 0 0 0 [some (.ref (q_ad Z 0)), some (.int (nI w))] [] (q_W Z m) (q_P Z fun r m2 => Up m0 m2 ∧ r = some (.int (-1)) ∧ CI m2 t im B L c ck us (s_rf rf w)) := by
  refine h_weak (c_refuse hw) ?_
  rintro r m2 ⟨rfl, rfl⟩
  obtain ⟨a, b⟩ := h.ref hw
  exact ⟨hu.tr b, rfl, a⟩
/-! the end of an ACT that is done -/
set_option maxHeartbeats 4000000 in
set_option maxRecDepth 20000 in
theorem c_doneA {Z : q_Z} {m : q_Mm} {d : Nat} {t im : Bool} {B B' L : List Nat} {c ck : q_Cs} {us : List q_Cs} {rf : Nat → Int32} {m0 m00 m1 : q_Mm} {n : Nat} {xs : Nat → Int64} {rl : Nat → Nat} {a b ans : Int32} (hu : Up m00 m0) (h : CI m0 t im B L c ck us rf) (f1 : Fr q_pastL m0 m1) (P1 : Pst m1 ((c :: us).take 40)) (f2 : Fr [19, 20, 21, 6] m1 m) (O2 : Oct m 6 B') (C2 : Col m 19 n c.2.1 xs rl c.2.2.2.2) : q_V (q_g Z) mX10_done (d+2) 0 0 0 [some (.ref (q_ad Z 0)), some (.int a), some (.int b), some (.int ans)] [] (q_W Z m) (q_P Z fun r m2 => AP m2 m00 r t im B B' L c (s_act c n xs rl a b) ck us rf none ans) := by
  refine h_weak (c_done C2) ?_
  rintro r m2 ⟨rfl, f3, k3, e3, C3⟩
  obtain ⟨x, y⟩ := h.act f1 P1 f2 O2 f3 k3 e3 (c' := s_act c n xs rl a b) C3
  exact ⟨hu.tr y, rfl, x⟩
theorem ap_ret {m2 m : q_Mm} {r : Option Value} {t im : Bool} {B B' L : List Nat} {c c' ck : q_Cs} {us : List q_Cs} {rf : Nat → Int32} {why : Option Nat} {ans : Int32} (h : AP m2 m r t im B B' L c c' ck us rf why ans) : ∃ x, r = some (.int x) := by
  obtain ⟨-, h⟩ := h
  cases why with
  | none => exact ⟨_, h.1⟩
  | some w => exact ⟨_, h.1⟩
theorem past_c {m m1 : q_Mm} {c : q_Cs} (h : ColC m 19 c) (f1 : Fr q_pastL m m1) : ColC m1 19 c := h.fr f1 (pl_nin (by decide)) (pl_nin (by decide)) (pl_nin (by decide)) (pl_nin (by decide))
theorem past_o {m m1 : q_Mm} {B : List Nat} (h : Oct m 6 B) (f1 : Fr q_pastL m m1) : Oct m1 6 B := h.fr f1 (pl_nin (by decide)) (pl_nin (by decide))
def s_wAdd (t : Bool) (n : Nat) : Option Nat := if t = false then some 0 else if 64 ≤ n then some 3 else none
set_option maxHeartbeats 4000000 in
set_option maxRecDepth 20000 in
theorem c_add {Z : q_Z} {m : q_Mm} {d : Nat} {t im : Bool} {B L : List Nat} {c ck : q_Cs} {us : List q_Cs} {rf : Nat → Int32} {v : Int64} (h : CI m t im B L c ck us rf) : q_V (q_g Z) mX10_add (d+3) 0 0 0 [some (.ref (q_ad Z 0)), some (.long v), none, none] [] (q_W Z m) (q_P Z fun r m2 => AP m2 m r t im B B L c (s_act c (c.1 + 1) (q_u c.2.2.1 c.1 v) c.2.2.2.1 (nI 0) (nI c.1)) ck us rf (s_wAdd t c.1) (nI c.1)) := by
  have hc : Col m 19 c.1 c.2.1 c.2.2.1 c.2.2.2.1 c.2.2.2.2 := h.c
  have hn := hc.2.2.1
  have hO : Oct m 6 B := h.1.2.2.1
  refine q_aload_n (pc' := 1) dX10_add_0 rfl rfl ?_
  refine h_getiE (pc' := 4) dX10_add_1 fX10_122 rfl rfl (h.1.1) rfl ?_
  refine q_if_neB (tgt := 13) (pc' := 7) dX10_add_4 (by decide) rfl (fun c_4 => ?_) (fun c_4 => ?_)
  rotate_left
  · rw [show s_wAdd t c.1 = some 0 from if_pos c_4]
    refine q_aload_n (pc' := 8) dX10_add_7 rfl rfl ?_
    refine q_iconst (pc' := 9) (v := nI 0) dX10_add_8 rfl rfl ?_
    refine h_callV (pc' := 12) (M' := mX10_refuse) (As := [_]) dX10_add_9 iX10_refuse lX10_355 rfl rfl rfl rfl (Nat.le_of_ble_eq_true rfl) (Nat.le_of_ble_eq_true rfl) rfl rfl ((c_ref Up.rf h (by decide)).up (Nat.zero_le _)) (fun r m' hq => ?_)
    obtain ⟨rfl⟩ : _ = r := hq.2.1.symm
    refine q_iret dX10_add_12 rfl rfl ⟨_, rfl, hq⟩
  refine q_aload_n (pc' := 14) dX10_add_13 rfl rfl ?_
  refine h_getr (pc' := 17) dX10_add_14 fX10_45 rfl rfl rfl ?_
  refine h_getiE (pc' := 20) dX10_add_17 fX10_128 rfl rfl (hc.1) rfl ?_
  refine q_bipush (pc' := 22) (v := nI 64) dX10_add_20 rfl rfl ?_
  refine q_icmp_ltN (tgt := 31) (pc' := 25) dX10_add_22 (by decide) rfl (by omega) (fun c_22 => ?_) (fun c_22 => ?_)
  rotate_left
  · rw [show s_wAdd t c.1 = some 3 by unfold s_wAdd; rw [if_neg (by rw [c_4]; decide), if_pos (by omega)]]
    refine q_aload_n (pc' := 26) dX10_add_25 rfl rfl ?_
    refine q_iconst (pc' := 27) (v := nI 3) dX10_add_26 rfl rfl ?_
    refine h_callV (pc' := 30) (M' := mX10_refuse) (As := [_]) dX10_add_27 iX10_refuse lX10_355 rfl rfl rfl rfl (Nat.le_of_ble_eq_true rfl) (Nat.le_of_ble_eq_true rfl) rfl rfl ((c_ref Up.rf h (by decide)).up (Nat.zero_le _)) (fun r m' hq => ?_)
    obtain ⟨rfl⟩ : _ = r := hq.2.1.symm
    refine q_iret dX10_add_30 rfl rfl ⟨_, rfl, hq⟩
  rw [show s_wAdd t c.1 = none by unfold s_wAdd; rw [if_neg (by rw [c_4]; decide), if_neg (by omega)]]
  refine q_aload_n (pc' := 32) dX10_add_31 rfl rfl ?_
  refine h_getr (pc' := 35) dX10_add_32 fX10_55 rfl rfl rfl ?_
  refine q_aload_n (pc' := 36) dX10_add_35 rfl rfl ?_
  refine h_getr (pc' := 39) dX10_add_36 fX10_45 rfl rfl rfl ?_
  refine h_callV (pc' := 42) (M' := mX7_keep) (As := [_]) dX10_add_39 iX7_keep lX10_358 rfl rfl rfl rfl (Nat.le_of_ble_eq_true rfl) (Nat.le_of_ble_eq_true rfl) rfl rfl ((c_keep h.c h.1.2.2.2.2.2.1).up (Nat.le_refl _)) (fun r m' hq => ?_)
  obtain ⟨rfl, f1, P1⟩ := hq
  have C1 := past_c h.c f1
  obtain ⟨m1, hm1⟩ : ∃ z, z = m' := ⟨_, rfl⟩
  subst hm1
  refine q_aload_n (pc' := 43) dX10_add_42 rfl rfl ?_
  refine h_getr (pc' := 46) dX10_add_43 fX10_45 rfl rfl rfl ?_
  refine h_getiE (pc' := 49) dX10_add_46 fX10_128 rfl rfl (C1.1) rfl ?_
  refine q_istore_n (pc' := 50) (lv' := [_, _, _, _]) dX10_add_49 (by decide) rfl rfl ?_
  refine q_aload_n (pc' := 51) dX10_add_50 rfl rfl ?_
  refine h_getr (pc' := 54) dX10_add_51 fX10_45 rfl rfl rfl ?_
  refine q_lload_n (pc' := 55) dX10_add_54 rfl rfl ?_
  refine h_callV (pc' := 58) (M' := mX2_append) (As := [_]) dX10_add_55 iX2_append lX10_361 rfl rfl rfl rfl (Nat.le_of_ble_eq_true rfl) (Nat.le_of_ble_eq_true rfl) rfl rfl ((c_colAppend_19 C1 c_22).up (Nat.zero_le _)) (fun r m' hq => ?_)
  obtain ⟨rfl, f2, C2⟩ := hq
  have f2 : Fr [19, 20, 21, 6] m1 m' := f2.mono (by decide)
  refine q_aload_n (pc' := 59) dX10_add_58 rfl rfl ?_
  refine q_iconst (pc' := 60) (v := nI 0) dX10_add_59 rfl rfl ?_
  refine q_iload_n (pc' := 61) dX10_add_60 rfl rfl ?_
  refine q_iload_n (pc' := 62) dX10_add_61 rfl rfl ?_
  refine h_callV (pc' := 65) (M' := mX10_done) (As := [_, _, _]) dX10_add_62 iX10_done lX10_365 rfl rfl rfl rfl (Nat.le_of_ble_eq_true rfl) (Nat.le_of_ble_eq_true rfl) rfl rfl (c_doneA Up.rf h f1 P1 f2 ((past_o hO f1).fr ‹Fr [19, 20] m1 m'› (by decide) (by decide)) C2) (fun r m' hq => ?_)
  obtain ⟨x, rfl⟩ := ap_ret hq
  refine q_iret dX10_add_65 rfl rfl ⟨_, rfl, hq⟩
def s_wPut (t : Bool) (n : Nat) (xs : Nat → Int64) (i : Int32) (v : Int64) : Option Nat := if s_has t n i = true then (if xs (s_i i) = v then some 2 else none) else some 0
theorem col_put {m : q_Mm} {o n k j : Nat} {v : Int64} {xs : Nat → Int64} {rl : Nat → Nat} {nt : Nat → Int32} (h : Col m o n k xs rl nt) : Col (sL m (o + 1) (q_u (m.2.2.2.1 (o + 1)) j v)) o n k (q_u xs j v) rl nt := by
  obtain ⟨a1, a2, a3, a4, a5, a6, a7, a8⟩ := h
  refine ⟨a1, a2, a3, a4, fun i hi => ?_, a6, a7, a8⟩
  show q_up m.2.2.2.1 (o + 1) (q_u (m.2.2.2.1 (o + 1)) j v) (o + 1) i = _
  rw [q_up_s]
  by_cases z : i = j
  · rw [z, q_u_s, q_u_s]
  · rw [q_u_n _ _ z, q_u_n _ _ z]; exact a5 i hi
set_option maxHeartbeats 4000000 in
set_option maxRecDepth 20000 in
theorem c_put {Z : q_Z} {m : q_Mm} {d : Nat} {t im : Bool} {B L : List Nat} {c ck : q_Cs} {us : List q_Cs} {rf : Nat → Int32} {x : Int32} {v : Int64} (h : CI m t im B L c ck us rf) : q_V (q_g Z) mX10_put (d+3) 0 0 0 [some (.ref (q_ad Z 0)), some (.int x), some (.long v), none] [] (q_W Z m) (q_P Z fun r m2 => AP m2 m r t im B B L c (s_act c c.1 (q_u c.2.2.1 (s_i x) v) c.2.2.2.1 (nI 1) x) ck us rf (s_wPut t c.1 c.2.2.1 x v) x) := by
  have hc : Col m 19 c.1 c.2.1 c.2.2.1 c.2.2.2.1 c.2.2.2.2 := h.c
  have hn := hc.2.2.1
  have hO : Oct m 6 B := h.1.2.2.1
  refine q_aload_n (pc' := 1) dX10_put_0 rfl rfl ?_
  refine q_iload_n (pc' := 2) dX10_put_1 rfl rfl ?_
  refine h_callV (pc' := 5) (M' := mX10_hasPlace) (As := [_]) dX10_put_2 iX10_hasPlace lX10_144 rfl rfl rfl rfl (Nat.le_of_ble_eq_true rfl) (Nat.le_of_ble_eq_true rfl) rfl rfl ((c_hasPlace hc h.1.1).up (Nat.zero_le _)) (fun r m' hq => ?_)
  obtain ⟨rfl, hmm⟩ := hq
  subst m'
  refine q_if_neB (tgt := 14) (pc' := 8) dX10_put_5 (by decide) rfl (fun c_5 => ?_) (fun c_5 => ?_)
  rotate_left
  · rw [show s_wPut t c.1 c.2.2.1 x v = some 0 from if_neg (by rw [c_5]; decide)]
    refine q_aload_n (pc' := 9) dX10_put_8 rfl rfl ?_
    refine q_iconst (pc' := 10) (v := nI 0) dX10_put_9 rfl rfl ?_
    refine h_callV (pc' := 13) (M' := mX10_refuse) (As := [_]) dX10_put_10 iX10_refuse lX10_355 rfl rfl rfl rfl (Nat.le_of_ble_eq_true rfl) (Nat.le_of_ble_eq_true rfl) rfl rfl ((c_ref Up.rf h (by decide)).up (Nat.zero_le _)) (fun r m' hq => ?_)
    obtain ⟨rfl⟩ : _ = r := hq.2.1.symm
    refine q_iret dX10_put_13 rfl rfl ⟨_, rfl, hq⟩
  have hw : s_wPut t c.1 c.2.2.1 x v = (if c.2.2.1 (s_i x) = v then some 2 else none) := if_pos c_5
  rw [hw]
  obtain ⟨j, hx, hj⟩ := z_has c_5 (by omega)
  have e0 : s_i x = j := by rw [hx, s_i_n (by omega)]
  rw [e0]
  subst hx
  refine q_aload_n (pc' := 15) dX10_put_14 rfl rfl ?_
  refine h_getr (pc' := 18) dX10_put_15 fX10_45 rfl rfl rfl ?_
  refine h_getr (pc' := 21) dX10_put_18 fX10_154 rfl rfl rfl ?_
  refine q_iload_n (pc' := 22) dX10_put_21 rfl rfl ?_
  refine h_laldE (pc' := 23) dX10_put_22 rfl (rfl) (by omega) (by decide) (hc.2.2.2.2.1 j hj) rfl ?_
  refine q_lload_n (pc' := 24) dX10_put_23 rfl rfl ?_
  refine q_lcmp (pc' := 25) dX10_put_24 rfl ?_
  refine q_if_neL (tgt := 34) (pc' := 28) dX10_put_25 (by decide) rfl (fun c_25 => ?_) (fun c_25 => ?_)
  rotate_left
  · rw [if_pos c_25]
    refine q_aload_n (pc' := 29) dX10_put_28 rfl rfl ?_
    refine q_iconst (pc' := 30) (v := nI 2) dX10_put_29 rfl rfl ?_
    refine h_callV (pc' := 33) (M' := mX10_refuse) (As := [_]) dX10_put_30 iX10_refuse lX10_355 rfl rfl rfl rfl (Nat.le_of_ble_eq_true rfl) (Nat.le_of_ble_eq_true rfl) rfl rfl ((c_ref Up.rf h (by decide)).up (Nat.zero_le _)) (fun r m' hq => ?_)
    obtain ⟨rfl⟩ : _ = r := hq.2.1.symm
    refine q_iret dX10_put_33 rfl rfl ⟨_, rfl, hq⟩
  rw [if_neg c_25]
  refine q_aload_n (pc' := 35) dX10_put_34 rfl rfl ?_
  refine h_getr (pc' := 38) dX10_put_35 fX10_55 rfl rfl rfl ?_
  refine q_aload_n (pc' := 39) dX10_put_38 rfl rfl ?_
  refine h_getr (pc' := 42) dX10_put_39 fX10_45 rfl rfl rfl ?_
  refine h_callV (pc' := 45) (M' := mX7_keep) (As := [_]) dX10_put_42 iX7_keep lX10_358 rfl rfl rfl rfl (Nat.le_of_ble_eq_true rfl) (Nat.le_of_ble_eq_true rfl) rfl rfl ((c_keep h.c h.1.2.2.2.2.2.1).up (Nat.le_refl _)) (fun r m' hq => ?_)
  obtain ⟨rfl, f1, P1⟩ := hq
  have C1 : Col m' 19 c.1 c.2.1 c.2.2.1 c.2.2.2.1 c.2.2.2.2 := past_c h.c f1
  refine q_aload_n (pc' := 46) dX10_put_45 rfl rfl ?_
  refine h_getr (pc' := 49) dX10_put_46 fX10_45 rfl rfl rfl ?_
  refine h_getr (pc' := 52) dX10_put_49 fX10_154 rfl rfl rfl ?_
  refine q_iload_n (pc' := 53) dX10_put_52 rfl rfl ?_
  refine q_lload_n (pc' := 54) dX10_put_53 rfl rfl ?_
  refine h_last (pc' := 55) dX10_put_54 rfl (rfl) (by omega) (by decide) rfl ?_
  have f2 : Fr [19, 20, 21, 6] m' (sL m' 20 (q_u (m'.2.2.2.1 20) j v)) := Fr.rf.L (by decide)
  refine q_aload_n (pc' := 56) dX10_put_55 rfl rfl ?_
  refine q_iconst (pc' := 57) (v := nI 1) dX10_put_56 rfl rfl ?_
  refine q_iload_n (pc' := 58) dX10_put_57 rfl rfl ?_
  refine q_iload_n (pc' := 59) dX10_put_58 rfl rfl ?_
  refine h_callV (pc' := 62) (M' := mX10_done) (As := [_, _, _]) dX10_put_59 iX10_done lX10_365 rfl rfl rfl rfl (Nat.le_of_ble_eq_true rfl) (Nat.le_of_ble_eq_true rfl) rfl rfl (c_doneA Up.rf h f1 P1 f2 ((past_o hO f1).fr ((Fr.rf (S := [20])).L (by decide)) (by decide) (by decide)) (col_put (j := j) (v := v) C1)) (fun r m' hq => ?_)
  obtain ⟨x, rfl⟩ := ap_ret hq
  refine q_iret dX10_put_62 rfl rfl ⟨_, rfl, hq⟩
def s_wDrop (t : Bool) (n : Nat) : Option Nat := if t = true ∧ n ≠ 0 then none else some 0
set_option maxHeartbeats 4000000 in
set_option maxRecDepth 20000 in
theorem c_drop {Z : q_Z} {m : q_Mm} {d : Nat} {t im : Bool} {B L : List Nat} {c ck : q_Cs} {us : List q_Cs} {rf : Nat → Int32} (h : CI m t im B L c ck us rf) : q_V (q_g Z) mX10_drop (d+3) 0 0 0 [some (.ref (q_ad Z 0))] [] (q_W Z m) (q_P Z fun r m2 => AP m2 m r t im B B L c (s_act c (c.1 - 1) c.2.2.1 c.2.2.2.1 (nI 2) (nI (c.1 - 1))) ck us rf (s_wDrop t c.1) (nI (c.1 - 1))) := by
  have hc : Col m 19 c.1 c.2.1 c.2.2.1 c.2.2.2.1 c.2.2.2.2 := h.c
  have hn := hc.2.2.1
  have hO : Oct m 6 B := h.1.2.2.1
  have no : s_wDrop t c.1 = some 0 → q_V (q_g Z) mX10_drop (d + 3) 0 0 17 [some (.ref (q_ad Z 0))] [] (q_W Z m) (q_P Z fun r m2 => AP m2 m r t im B B L c (s_act c (c.1 - 1) c.2.2.1 c.2.2.2.1 (nI 2) (nI (c.1 - 1))) ck us rf (s_wDrop t c.1) (nI (c.1 - 1))) := by
    intro e
    rw [e]
    refine q_aload_n (pc' := 18) dX10_drop_17 rfl rfl ?_
    refine q_iconst (pc' := 19) (v := nI 0) dX10_drop_18 rfl rfl ?_
    refine h_callV (pc' := 22) (M' := mX10_refuse) (As := [_]) dX10_drop_19 iX10_refuse lX10_355 rfl rfl rfl rfl (Nat.le_of_ble_eq_true rfl) (Nat.le_of_ble_eq_true rfl) rfl rfl ((c_ref Up.rf h (by decide)).up (Nat.zero_le _)) (fun r m' hq => ?_)
    obtain ⟨rfl⟩ : _ = r := hq.2.1.symm
    refine q_iret dX10_drop_22 rfl rfl ⟨_, rfl, hq⟩
  refine q_aload_n (pc' := 1) dX10_drop_0 rfl rfl ?_
  refine h_getiE (pc' := 4) dX10_drop_1 fX10_122 rfl rfl (h.1.1) rfl ?_
  refine q_if_eqB (tgt := 17) (pc' := 7) dX10_drop_4 (by decide) rfl (fun c_4 => ?_) (fun c_4 => ?_)
  · exact no (if_neg (fun z => by rw [c_4] at z; exact absurd z.1 (by decide)))
  refine q_aload_n (pc' := 8) dX10_drop_7 rfl rfl ?_
  refine h_getr (pc' := 11) dX10_drop_8 fX10_45 rfl rfl rfl ?_
  refine h_getiE (pc' := 14) dX10_drop_11 fX10_128 rfl rfl (hc.1) rfl ?_
  refine q_if_neN (tgt := 23) (pc' := 17) dX10_drop_14 (by decide) rfl (by omega) (fun c_14 => ?_) (fun c_14 => ?_)
  rotate_left
  · exact no (if_neg (fun z => z.2 c_14))
  rw [show s_wDrop t c.1 = none from if_pos ⟨c_4, by omega⟩]
  refine q_aload_n (pc' := 24) dX10_drop_23 rfl rfl ?_
  refine h_getr (pc' := 27) dX10_drop_24 fX10_55 rfl rfl rfl ?_
  refine q_aload_n (pc' := 28) dX10_drop_27 rfl rfl ?_
  refine h_getr (pc' := 31) dX10_drop_28 fX10_45 rfl rfl rfl ?_
  refine h_callV (pc' := 34) (M' := mX7_keep) (As := [_]) dX10_drop_31 iX7_keep lX10_358 rfl rfl rfl rfl (Nat.le_of_ble_eq_true rfl) (Nat.le_of_ble_eq_true rfl) rfl rfl ((c_keep h.c h.1.2.2.2.2.2.1).up (Nat.le_refl _)) (fun r m' hq => ?_)
  obtain ⟨rfl, f1, P1⟩ := hq
  have C1 : Col m' 19 c.1 c.2.1 c.2.2.1 c.2.2.2.1 c.2.2.2.2 := past_c h.c f1
  refine q_aload_n (pc' := 35) dX10_drop_34 rfl rfl ?_
  refine h_getr (pc' := 38) dX10_drop_35 fX10_45 rfl rfl rfl ?_
  refine q_dup (pc' := 39) dX10_drop_38 rfl rfl ?_
  refine h_getiE (pc' := 42) dX10_drop_39 fX10_128 rfl rfl (C1.1) rfl ?_
  refine q_iconst (pc' := 43) (v := nI 1) dX10_drop_42 rfl rfl ?_
  refine q_isubN (pc' := 44) dX10_drop_43 (by omega) rfl ?_
  refine h_puti (pc' := 47) dX10_drop_44 fX10_128 rfl rfl rfl rfl rfl ?_
  have f2 : Fr [19, 20, 21, 6] m' (sI m' 19 3 (nI (c.1 - 1))) := Fr.rf.I (by decide)
  have C2 : Col (sI m' 19 3 (nI (c.1 - 1))) 19 (c.1 - 1) c.2.1 c.2.2.1 c.2.2.2.1 c.2.2.2.2 := ⟨rfl, C1.2.1, by omega, C1.2.2.2.1, fun i hi => C1.2.2.2.2.1 i (by omega), C1.2.2.2.2.2⟩
  refine q_aload_n (pc' := 48) dX10_drop_47 rfl rfl ?_
  refine q_iconst (pc' := 49) (v := nI 2) dX10_drop_48 rfl rfl ?_
  refine q_aload_n (pc' := 50) dX10_drop_49 rfl rfl ?_
  refine h_getr (pc' := 53) dX10_drop_50 fX10_45 rfl rfl rfl ?_
  refine h_getiE (pc' := 56) dX10_drop_53 fX10_128 rfl rfl (C2.1) rfl ?_
  refine q_aload_n (pc' := 57) dX10_drop_56 rfl rfl ?_
  refine h_getr (pc' := 60) dX10_drop_57 fX10_45 rfl rfl rfl ?_
  refine h_getiE (pc' := 63) dX10_drop_60 fX10_128 rfl rfl (C2.1) rfl ?_
  refine h_callV (pc' := 66) (M' := mX10_done) (As := [_, _, _]) dX10_drop_63 iX10_done lX10_365 rfl rfl rfl rfl (Nat.le_of_ble_eq_true rfl) (Nat.le_of_ble_eq_true rfl) rfl rfl (c_doneA Up.rf h f1 P1 f2 ((past_o hO f1).fr ((Fr.rf (S := [19])).I (by decide)) (by decide) (by decide)) C2) (fun r m' hq => ?_)
  obtain ⟨x, rfl⟩ := ap_ret hq
  refine q_iret dX10_drop_66 rfl rfl ⟨_, rfl, hq⟩
def s_wSwap (t : Bool) (n : Nat) (xs : Nat → Int64) (i j : Int32) : Option Nat := if (s_has t n i && s_has t n j) = true then (if xs (s_i i) = xs (s_i j) then some 2 else none) else some 0
set_option maxHeartbeats 4000000 in
set_option maxRecDepth 20000 in
theorem c_swap {Z : q_Z} {m : q_Mm} {d : Nat} {t im : Bool} {B L : List Nat} {c ck : q_Cs} {us : List q_Cs} {rf : Nat → Int32} {x y : Int32} (h : CI m t im B L c ck us rf) : q_V (q_g Z) mX10_swap (d+3) 0 0 0 [some (.ref (q_ad Z 0)), some (.int x), some (.int y), none, none] [] (q_W Z m) (q_P Z fun r m2 => AP m2 m r t im B B L c (s_act c c.1 (q_u (q_u c.2.2.1 (s_i x) (c.2.2.1 (s_i y))) (s_i y) (c.2.2.1 (s_i x))) c.2.2.2.1 (nI 3) x) ck us rf (s_wSwap t c.1 c.2.2.1 x y) x) := by
  have hc : Col m 19 c.1 c.2.1 c.2.2.1 c.2.2.2.1 c.2.2.2.2 := h.c
  have hn := hc.2.2.1
  have hO : Oct m 6 B := h.1.2.2.1
  generalize hans : s_act c c.1 (q_u (q_u c.2.2.1 (s_i x) (c.2.2.1 (s_i y))) (s_i y) (c.2.2.1 (s_i x))) c.2.2.2.1 (nI 3) x = cc
  have no : s_wSwap t c.1 c.2.2.1 x y = some 0 → q_V (q_g Z) mX10_swap (d + 3) 0 0 16 [some (.ref (q_ad Z 0)), some (.int x), some (.int y), none, none] [] (q_W Z m) (q_P Z fun r m2 => AP m2 m r t im B B L c cc ck us rf (s_wSwap t c.1 c.2.2.1 x y) x) := by
    intro e
    rw [e]
    refine q_aload_n (pc' := 17) dX10_swap_16 rfl rfl ?_
    refine q_iconst (pc' := 18) (v := nI 0) dX10_swap_17 rfl rfl ?_
    refine h_callV (pc' := 21) (M' := mX10_refuse) (As := [_]) dX10_swap_18 iX10_refuse lX10_355 rfl rfl rfl rfl (Nat.le_of_ble_eq_true rfl) (Nat.le_of_ble_eq_true rfl) rfl rfl ((c_ref Up.rf h (by decide)).up (Nat.zero_le _)) (fun r m' hq => ?_)
    obtain ⟨rfl⟩ : _ = r := hq.2.1.symm
    refine q_iret dX10_swap_21 rfl rfl ⟨_, rfl, hq⟩
  refine q_aload_n (pc' := 1) dX10_swap_0 rfl rfl ?_
  refine q_iload_n (pc' := 2) dX10_swap_1 rfl rfl ?_
  refine h_callV (pc' := 5) (M' := mX10_hasPlace) (As := [_]) dX10_swap_2 iX10_hasPlace lX10_144 rfl rfl rfl rfl (Nat.le_of_ble_eq_true rfl) (Nat.le_of_ble_eq_true rfl) rfl rfl ((c_hasPlace hc h.1.1).up (Nat.zero_le _)) (fun r m' hq => ?_)
  obtain ⟨rfl, hmm⟩ := hq
  subst m'
  refine q_if_eqB (tgt := 16) (pc' := 8) dX10_swap_5 (by decide) rfl (fun c_5 => ?_) (fun c_5 => ?_)
  · exact no (if_neg (by rw [c_5]; simp))
  refine q_aload_n (pc' := 9) dX10_swap_8 rfl rfl ?_
  refine q_iload_n (pc' := 10) dX10_swap_9 rfl rfl ?_
  refine h_callV (pc' := 13) (M' := mX10_hasPlace) (As := [_]) dX10_swap_10 iX10_hasPlace lX10_144 rfl rfl rfl rfl (Nat.le_of_ble_eq_true rfl) (Nat.le_of_ble_eq_true rfl) rfl rfl ((c_hasPlace hc h.1.1).up (Nat.zero_le _)) (fun r m' hq => ?_)
  obtain ⟨rfl, hmm⟩ := hq
  subst m'
  refine q_if_neB (tgt := 22) (pc' := 16) dX10_swap_13 (by decide) rfl (fun c_13 => ?_) (fun c_13 => ?_)
  rotate_left
  · exact no (if_neg (by rw [c_5, c_13]; decide))
  have hw : s_wSwap t c.1 c.2.2.1 x y = (if c.2.2.1 (s_i x) = c.2.2.1 (s_i y) then some 2 else none) := if_pos (by rw [c_5, c_13]; rfl)
  rw [hw]
  obtain ⟨j, hx, hj⟩ := z_has c_5 (by omega)
  obtain ⟨l, hy, hl⟩ := z_has c_13 (by omega)
  have e0 : s_i x = j := by rw [hx, s_i_n (by omega)]
  have e1 : s_i y = l := by rw [hy, s_i_n (by omega)]
  rw [e0, e1] at hans ⊢
  clear no hw
  subst hx
  subst hy
  refine q_aload_n (pc' := 23) dX10_swap_22 rfl rfl ?_
  refine h_getr (pc' := 26) dX10_swap_23 fX10_45 rfl rfl rfl ?_
  refine h_getr (pc' := 29) dX10_swap_26 fX10_154 rfl rfl rfl ?_
  refine q_iload_n (pc' := 30) dX10_swap_29 rfl rfl ?_
  refine h_laldE (pc' := 31) dX10_swap_30 rfl (rfl) (by omega) (by decide) (hc.2.2.2.2.1 j hj) rfl ?_
  refine q_aload_n (pc' := 32) dX10_swap_31 rfl rfl ?_
  refine h_getr (pc' := 35) dX10_swap_32 fX10_45 rfl rfl rfl ?_
  refine h_getr (pc' := 38) dX10_swap_35 fX10_154 rfl rfl rfl ?_
  refine q_iload_n (pc' := 39) dX10_swap_38 rfl rfl ?_
  refine h_laldE (pc' := 40) dX10_swap_39 rfl (rfl) (by omega) (by decide) (hc.2.2.2.2.1 l hl) rfl ?_
  refine q_lcmp (pc' := 41) dX10_swap_40 rfl ?_
  refine q_if_neL (tgt := 50) (pc' := 44) dX10_swap_41 (by decide) rfl (fun c_41 => ?_) (fun c_41 => ?_)
  rotate_left
  · rw [if_pos c_41]
    refine q_aload_n (pc' := 45) dX10_swap_44 rfl rfl ?_
    refine q_iconst (pc' := 46) (v := nI 2) dX10_swap_45 rfl rfl ?_
    refine h_callV (pc' := 49) (M' := mX10_refuse) (As := [_]) dX10_swap_46 iX10_refuse lX10_355 rfl rfl rfl rfl (Nat.le_of_ble_eq_true rfl) (Nat.le_of_ble_eq_true rfl) rfl rfl ((c_ref Up.rf h (by decide)).up (Nat.zero_le _)) (fun r m' hq => ?_)
    obtain ⟨rfl⟩ : _ = r := hq.2.1.symm
    refine q_iret dX10_swap_49 rfl rfl ⟨_, rfl, hq⟩
  rw [if_neg c_41]
  subst hans
  refine q_aload_n (pc' := 51) dX10_swap_50 rfl rfl ?_
  refine h_getr (pc' := 54) dX10_swap_51 fX10_55 rfl rfl rfl ?_
  refine q_aload_n (pc' := 55) dX10_swap_54 rfl rfl ?_
  refine h_getr (pc' := 58) dX10_swap_55 fX10_45 rfl rfl rfl ?_
  refine h_callV (pc' := 61) (M' := mX7_keep) (As := [_]) dX10_swap_58 iX7_keep lX10_358 rfl rfl rfl rfl (Nat.le_of_ble_eq_true rfl) (Nat.le_of_ble_eq_true rfl) rfl rfl ((c_keep h.c h.1.2.2.2.2.2.1).up (Nat.le_refl _)) (fun r m' hq => ?_)
  obtain ⟨rfl, f1, P1⟩ := hq
  have C1 : Col m' 19 c.1 c.2.1 c.2.2.1 c.2.2.2.1 c.2.2.2.2 := past_c h.c f1
  refine q_aload_n (pc' := 62) dX10_swap_61 rfl rfl ?_
  refine h_getr (pc' := 65) dX10_swap_62 fX10_45 rfl rfl rfl ?_
  refine h_getr (pc' := 68) dX10_swap_65 fX10_154 rfl rfl rfl ?_
  refine q_iload_n (pc' := 69) dX10_swap_68 rfl rfl ?_
  refine h_laldE (pc' := 70) dX10_swap_69 rfl (rfl) (by omega) (by decide) (C1.2.2.2.2.1 j hj) rfl ?_
  refine q_lstore_n (pc' := 71) (lv' := [_, _, _, _, _]) dX10_swap_70 (by decide) rfl rfl ?_
  refine q_aload_n (pc' := 72) dX10_swap_71 rfl rfl ?_
  refine h_getr (pc' := 75) dX10_swap_72 fX10_45 rfl rfl rfl ?_
  refine h_getr (pc' := 78) dX10_swap_75 fX10_154 rfl rfl rfl ?_
  refine q_iload_n (pc' := 79) dX10_swap_78 rfl rfl ?_
  refine q_aload_n (pc' := 80) dX10_swap_79 rfl rfl ?_
  refine h_getr (pc' := 83) dX10_swap_80 fX10_45 rfl rfl rfl ?_
  refine h_getr (pc' := 86) dX10_swap_83 fX10_154 rfl rfl rfl ?_
  refine q_iload_n (pc' := 87) dX10_swap_86 rfl rfl ?_
  refine h_laldE (pc' := 88) dX10_swap_87 rfl (rfl) (by omega) (by decide) (C1.2.2.2.2.1 l hl) rfl ?_
  refine h_last (pc' := 89) dX10_swap_88 rfl (rfl) (by omega) (by decide) rfl ?_
  refine q_aload_n (pc' := 90) dX10_swap_89 rfl rfl ?_
  refine h_getr (pc' := 93) dX10_swap_90 fX10_45 rfl rfl rfl ?_
  refine h_getr (pc' := 96) dX10_swap_93 fX10_154 rfl rfl rfl ?_
  refine q_iload_n (pc' := 97) dX10_swap_96 rfl rfl ?_
  refine q_lload_n (pc' := 98) dX10_swap_97 rfl rfl ?_
  refine h_last (pc' := 99) dX10_swap_98 rfl (rfl) (by omega) (by decide) rfl ?_
  have f2 : Fr [19, 20, 21, 6] m' (sL (sL m' 20 (q_u (m'.2.2.2.1 20) j (c.2.2.1 l))) 20 (q_u ((sL m' 20 (q_u (m'.2.2.2.1 20) j (c.2.2.1 l))).2.2.2.1 20) l (c.2.2.1 j))) := (Fr.rf.L (by decide)).L (by decide)
  refine q_aload_n (pc' := 100) dX10_swap_99 rfl rfl ?_
  refine q_iconst (pc' := 101) (v := nI 3) dX10_swap_100 rfl rfl ?_
  refine q_iload_n (pc' := 102) dX10_swap_101 rfl rfl ?_
  refine q_iload_n (pc' := 103) dX10_swap_102 rfl rfl ?_
  refine h_callV (pc' := 106) (M' := mX10_done) (As := [_, _, _]) dX10_swap_103 iX10_done lX10_365 rfl rfl rfl rfl (Nat.le_of_ble_eq_true rfl) (Nat.le_of_ble_eq_true rfl) rfl rfl (c_doneA Up.rf h f1 P1 f2 ((past_o hO f1).fr (((Fr.rf (S := [20])).L (by decide)).L (by decide)) (by decide) (by decide)) (col_put (j := l) (v := c.2.2.1 j) (col_put (j := j) (v := c.2.2.1 l) C1))) (fun r m' hq => ?_)
  obtain ⟨x, rfl⟩ := ap_ret hq
  refine q_iret dX10_swap_106 rfl rfl ⟨_, rfl, hq⟩
def s_wSet (t : Bool) (rl : Nat → Nat) (w v : Int32) : Option Nat := if (t && s_isRule w) = true then (if s_isBound (s_i w) v = true then (if nI (rl (s_i w)) = v then some 2 else none) else some 1) else some 0
set_option maxHeartbeats 4000000 in
set_option maxRecDepth 20000 in
theorem c_set {Z : q_Z} {m : q_Mm} {d : Nat} {t im : Bool} {B L : List Nat} {c ck : q_Cs} {us : List q_Cs} {rf : Nat → Int32} {x v : Int32} (h : CI m t im B L c ck us rf) : q_V (q_g Z) mX10_set (d+3) 0 0 0 [some (.ref (q_ad Z 0)), some (.int x), some (.int v), none] [] (q_W Z m) (q_P Z fun r m2 => AP m2 m r t im B B L c (s_act c c.1 c.2.2.1 (q_u c.2.2.2.1 (s_i x) (s_i v)) (nI 4) x) ck us rf (s_wSet t c.2.2.2.1 x v) (nI (c.2.2.2.1 (s_i x)))) := by
  have hc : Col m 19 c.1 c.2.1 c.2.2.1 c.2.2.2.1 c.2.2.2.2 := h.c
  have hn := hc.2.2.1
  have hO : Oct m 6 B := h.1.2.2.1
  have no : s_wSet t c.2.2.2.1 x v = some 0 → q_V (q_g Z) mX10_set (d + 3) 0 0 14 [some (.ref (q_ad Z 0)), some (.int x), some (.int v), none] [] (q_W Z m) (q_P Z fun r m2 => AP m2 m r t im B B L c (s_act c c.1 c.2.2.1 (q_u c.2.2.2.1 (s_i x) (s_i v)) (nI 4) x) ck us rf (s_wSet t c.2.2.2.1 x v) (nI (c.2.2.2.1 (s_i x)))) := by
    intro e
    rw [e]
    refine q_aload_n (pc' := 15) dX10_set_14 rfl rfl ?_
    refine q_iconst (pc' := 16) (v := nI 0) dX10_set_15 rfl rfl ?_
    refine h_callV (pc' := 19) (M' := mX10_refuse) (As := [_]) dX10_set_16 iX10_refuse lX10_355 rfl rfl rfl rfl (Nat.le_of_ble_eq_true rfl) (Nat.le_of_ble_eq_true rfl) rfl rfl ((c_ref Up.rf h (by decide)).up (Nat.zero_le _)) (fun r m' hq => ?_)
    obtain ⟨rfl⟩ : _ = r := hq.2.1.symm
    refine q_iret dX10_set_19 rfl rfl ⟨_, rfl, hq⟩
  refine q_aload_n (pc' := 1) dX10_set_0 rfl rfl ?_
  refine h_getiE (pc' := 4) dX10_set_1 fX10_122 rfl rfl (h.1.1) rfl ?_
  refine q_if_eqB (tgt := 14) (pc' := 7) dX10_set_4 (by decide) rfl (fun c_4 => ?_) (fun c_4 => ?_)
  · exact no (if_neg (by rw [c_4]; simp))
  refine q_iload_n (pc' := 8) dX10_set_7 rfl rfl ?_
  refine h_callS (pc' := 11) (M' := mX10_isRule) (As := [_]) dX10_set_8 iX10_isRule lX10_137 rfl rfl (Nat.le_of_ble_eq_true rfl) (Nat.le_of_ble_eq_true rfl) rfl rfl (c_isRule.up (Nat.zero_le _)) (fun r m' hq => ?_)
  obtain ⟨rfl, hmm⟩ := hq
  subst m'
  refine q_if_neB (tgt := 20) (pc' := 14) dX10_set_11 (by decide) rfl (fun c_11 => ?_) (fun c_11 => ?_)
  rotate_left
  · exact no (if_neg (by rw [c_4, c_11]; decide))
  have hw : s_wSet t c.2.2.2.1 x v = (if s_isBound (s_i x) v = true then (if nI (c.2.2.2.1 (s_i x)) = v then some 2 else none) else some 1) := if_pos (by rw [c_4, c_11]; rfl)
  rw [hw]
  clear no hw
  have hru := c_11
  unfold s_isRule at hru
  have hru := of_decide_eq_true hru
  obtain ⟨j, hj, hx⟩ := z_ex (x := x) (n := 5) hru.1 (by have := hru.2; omega) (by omega)
  have e0 : s_i x = j := by rw [hx, s_i_n (by omega)]
  rw [e0]
  subst hx
  refine q_iload_n (pc' := 21) dX10_set_20 rfl rfl ?_
  refine q_iload_n (pc' := 22) dX10_set_21 rfl rfl ?_
  refine h_callS (pc' := 25) (M' := mX10_isBound) (As := [_, _]) dX10_set_22 iX10_isBound lX10_331 rfl rfl (Nat.le_of_ble_eq_true rfl) (Nat.le_of_ble_eq_true rfl) rfl rfl ((c_isBound hj).up (Nat.zero_le _)) (fun r m' hq => ?_)
  obtain ⟨rfl, hmm⟩ := hq
  subst m'
  refine q_if_neB (tgt := 34) (pc' := 28) dX10_set_25 (by decide) rfl (fun c_25 => ?_) (fun c_25 => ?_)
  rotate_left
  · rw [if_neg (by rw [c_25]; decide)]
    refine q_aload_n (pc' := 29) dX10_set_28 rfl rfl ?_
    refine q_iconst (pc' := 30) (v := nI 1) dX10_set_29 rfl rfl ?_
    refine h_callV (pc' := 33) (M' := mX10_refuse) (As := [_]) dX10_set_30 iX10_refuse lX10_355 rfl rfl rfl rfl (Nat.le_of_ble_eq_true rfl) (Nat.le_of_ble_eq_true rfl) rfl rfl ((c_ref Up.rf h (by decide)).up (Nat.zero_le _)) (fun r m' hq => ?_)
    obtain ⟨rfl⟩ : _ = r := hq.2.1.symm
    refine q_iret dX10_set_33 rfl rfl ⟨_, rfl, hq⟩
  rw [if_pos c_25]
  refine q_aload_n (pc' := 35) dX10_set_34 rfl rfl ?_
  refine h_getr (pc' := 38) dX10_set_35 fX10_45 rfl rfl rfl ?_
  refine h_getr (pc' := 41) dX10_set_38 fX10_141 rfl rfl rfl ?_
  refine q_iload_n (pc' := 42) dX10_set_41 rfl rfl ?_
  refine h_ialdE (pc' := 43) dX10_set_42 rfl (rfl) (by omega) (by decide) (hc.2.2.2.2.2.1 j hj) rfl ?_
  refine q_istore_n (pc' := 44) (lv' := [_, _, _, _]) dX10_set_43 (by decide) rfl rfl ?_
  refine q_iload_n (pc' := 45) dX10_set_44 rfl rfl ?_
  refine q_iload_n (pc' := 46) dX10_set_45 rfl rfl ?_
  refine q_icmp_ne (tgt := 55) (pc' := 49) dX10_set_46 (by decide) rfl (fun c_46 => ?_) (fun c_46 => ?_)
  rotate_left
  · rw [if_pos c_46]
    refine q_aload_n (pc' := 50) dX10_set_49 rfl rfl ?_
    refine q_iconst (pc' := 51) (v := nI 2) dX10_set_50 rfl rfl ?_
    refine h_callV (pc' := 54) (M' := mX10_refuse) (As := [_]) dX10_set_51 iX10_refuse lX10_355 rfl rfl rfl rfl (Nat.le_of_ble_eq_true rfl) (Nat.le_of_ble_eq_true rfl) rfl rfl ((c_ref Up.rf h (by decide)).up (Nat.zero_le _)) (fun r m' hq => ?_)
    obtain ⟨rfl⟩ : _ = r := hq.2.1.symm
    refine q_iret dX10_set_54 rfl rfl ⟨_, rfl, hq⟩
  rw [if_neg c_46]
  refine q_aload_n (pc' := 56) dX10_set_55 rfl rfl ?_
  refine h_getr (pc' := 59) dX10_set_56 fX10_55 rfl rfl rfl ?_
  refine q_aload_n (pc' := 60) dX10_set_59 rfl rfl ?_
  refine h_getr (pc' := 63) dX10_set_60 fX10_45 rfl rfl rfl ?_
  refine h_callV (pc' := 66) (M' := mX7_keep) (As := [_]) dX10_set_63 iX7_keep lX10_358 rfl rfl rfl rfl (Nat.le_of_ble_eq_true rfl) (Nat.le_of_ble_eq_true rfl) rfl rfl ((c_keep h.c h.1.2.2.2.2.2.1).up (Nat.le_refl _)) (fun r m' hq => ?_)
  obtain ⟨rfl, f1, P1⟩ := hq
  have C1 : Col m' 19 c.1 c.2.1 c.2.2.1 c.2.2.2.1 c.2.2.2.2 := past_c h.c f1
  refine q_aload_n (pc' := 67) dX10_set_66 rfl rfl ?_
  refine h_getr (pc' := 70) dX10_set_67 fX10_45 rfl rfl rfl ?_
  refine h_getr (pc' := 73) dX10_set_70 fX10_141 rfl rfl rfl ?_
  refine q_iload_n (pc' := 74) dX10_set_73 rfl rfl ?_
  refine q_iload_n (pc' := 75) dX10_set_74 rfl rfl ?_
  refine h_iast (pc' := 76) dX10_set_75 rfl (rfl) (by omega) (by decide) rfl ?_
  have f2 : Fr [19, 20, 21, 6] m' (sA m' 21 (q_u (m'.2.2.1 21) j v)) := Fr.rf.A (by decide)
  refine q_aload_n (pc' := 77) dX10_set_76 rfl rfl ?_
  refine q_iconst (pc' := 78) (v := nI 4) dX10_set_77 rfl rfl ?_
  refine q_iload_n (pc' := 79) dX10_set_78 rfl rfl ?_
  refine q_iload_n (pc' := 80) dX10_set_79 rfl rfl ?_
  refine h_callV (pc' := 83) (M' := mX10_done) (As := [_, _, _]) dX10_set_80 iX10_done lX10_365 rfl rfl rfl rfl (Nat.le_of_ble_eq_true rfl) (Nat.le_of_ble_eq_true rfl) rfl rfl (c_doneA Up.rf h f1 P1 f2 ((past_o hO f1).fr ((Fr.rf (S := [21])).A (by decide)) (by decide) (by decide)) (col_rule C1 hj c_25)) (fun r m' hq => ?_)
  obtain ⟨x, rfl⟩ := ap_ret hq
  refine q_iret dX10_set_83 rfl rfl ⟨_, rfl, hq⟩
