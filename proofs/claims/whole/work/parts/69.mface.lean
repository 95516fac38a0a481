/-! ===== the reference's whole state; its first faces ===== -/
/-- the reference's COLUMN -/
def MC (m : q_Mm) (t : Bool) (c : q_Cs) : Prop := m.1 215 20 = nI c.1 ∧ m.1 215 21 = nI c.2.1 ∧ c.1 ≤ 64 ∧ c.2.1 ≤ 60 ∧ (∀ i, i < c.1 → m.2.2.2.1 223 i = c.2.2.1 i) ∧ (t = true → ∀ i, i < 5 → m.2.2.1 224 i = nI (c.2.2.2.1 i)) ∧ (∀ i, i < 3 * c.2.1 → m.2.2.1 225 i = c.2.2.2.2 i) ∧ s_rok c.2.2.2.1
/-- what is kept of an ACT, in the s-th place -/
def MS (m : q_Mm) (s : Nat) (c : q_Cs) : Prop := m.2.2.1 236 s = nI c.1 ∧ m.2.2.1 237 s = nI c.2.1 ∧ c.1 ≤ 64 ∧ c.2.1 ≤ 60 ∧ (∀ i, i < c.1 → m.2.2.2.1 233 (64 * s + i) = c.2.2.1 i) ∧ (∀ i, i < 5 → m.2.2.1 234 (5 * s + i) = nI (c.2.2.2.1 i)) ∧ (∀ i, i < 3 * c.2.1 → m.2.2.1 235 (180 * s + i) = c.2.2.2.2 i) ∧ s_rok c.2.2.2.1
def MKp (m : q_Mm) (us : List q_Cs) : Prop := m.1 215 48 = nI us.length ∧ us.length ≤ 40 ∧ ∀ i c, us[i]? = some c → MS m (us.length - 1 - i) c
/-- the IMAGE -/
def MIm (m : q_Mm) (c : q_Cs) : Prop := m.1 215 53 = nI c.1 ∧ m.1 215 54 = nI c.2.1 ∧ c.1 ≤ 64 ∧ c.2.1 ≤ 60 ∧ (∀ i, i < c.1 → m.2.2.2.1 239 i = c.2.2.1 i) ∧ (∀ i, i < 5 → m.2.2.1 240 i = nI (c.2.2.2.1 i)) ∧ (∀ i, i < 3 * c.2.1 → m.2.2.1 241 i = c.2.2.2.2 i) ∧ s_rok c.2.2.2.1
def MO (m : q_Mm) (L : List Nat) : Prop := m.1 215 41 = nI L.length ∧ L.length ≤ 320 ∧ ∀ i, i < L.length → m.2.2.1 232 i = nI (s_sg L i)
def MI (m : q_Mm) (t im : Bool) (B L : List Nat) (c ck : q_Cs) (us : List q_Cs) (rf : Nat → Int32) : Prop := MD m ∧ MT m B ∧ m.1 215 22 = q_b t ∧ m.1 215 55 = q_b im ∧ MO m L ∧ MC m t c ∧ (im = true → MIm m ck) ∧ MKp m us ∧ ∀ i, i < 5 → m.2.2.1 226 i = rf i
/-- the class's places are as they were -/
def Dn (m m2 : q_Mm) : Prop := ∀ p, p < 215 ∨ 242 ≤ p → q_at m2 p = q_at m p
theorem Dn.rf {m : q_Mm} : Dn m m := fun _ _ => rfl
theorem Dn.tr {m m1 m2 : q_Mm} (h : Dn m m1) (g : Dn m1 m2) : Dn m m2 := fun p hp => (g p hp).trans (h p hp)
theorem Fr.dnn {S : List Nat} {m m2 : q_Mm} (f : Fr S m m2) (h : ∀ p ∈ S, 215 ≤ p ∧ p < 242) : Dn m m2 := fun p hp => f p (fun q => by have := h p q; omega)
theorem MC.fr {S : List Nat} {m m2 : q_Mm} {t : Bool} {c : q_Cs} (h : MC m t c) (f : Fr S m m2) (k20 : m2.1 215 20 = m.1 215 20) (k21 : m2.1 215 21 = m.1 215 21) (h1 : 223 ∉ S) (h2 : 224 ∉ S) (h3 : 225 ∉ S) : MC m2 t c := ⟨k20.trans h.1, k21.trans h.2.1, h.2.2.1, h.2.2.2.1, fun i hi => (congrFun (f.l h1) i).trans (h.2.2.2.2.1 i hi), fun z i hi => (congrFun (f.a h2) i).trans (h.2.2.2.2.2.1 z i hi), fun i hi => (congrFun (f.a h3) i).trans (h.2.2.2.2.2.2.1 i hi), h.2.2.2.2.2.2.2⟩
theorem MS.fr {S : List Nat} {m m2 : q_Mm} {s : Nat} {c : q_Cs} (h : MS m s c) (f : Fr S m m2) (h1 : 233 ∉ S) (h2 : 234 ∉ S) (h3 : 235 ∉ S) (h4 : 236 ∉ S) (h5 : 237 ∉ S) : MS m2 s c := ⟨(congrFun (f.a h4) s).trans h.1, (congrFun (f.a h5) s).trans h.2.1, h.2.2.1, h.2.2.2.1, fun i hi => (congrFun (f.l h1) _).trans (h.2.2.2.2.1 i hi), fun i hi => (congrFun (f.a h2) _).trans (h.2.2.2.2.2.1 i hi), fun i hi => (congrFun (f.a h3) _).trans (h.2.2.2.2.2.2.1 i hi), h.2.2.2.2.2.2.2⟩
theorem MKp.fr {S : List Nat} {m m2 : q_Mm} {us : List q_Cs} (h : MKp m us) (f : Fr S m m2) (k : m2.1 215 48 = m.1 215 48) (h1 : 233 ∉ S) (h2 : 234 ∉ S) (h3 : 235 ∉ S) (h4 : 236 ∉ S) (h5 : 237 ∉ S) : MKp m2 us := ⟨k.trans h.1, h.2.1, fun i c hc => (h.2.2 i c hc).fr f h1 h2 h3 h4 h5⟩
theorem MIm.fr {S : List Nat} {m m2 : q_Mm} {c : q_Cs} (h : MIm m c) (f : Fr S m m2) (k53 : m2.1 215 53 = m.1 215 53) (k54 : m2.1 215 54 = m.1 215 54) (h1 : 239 ∉ S) (h2 : 240 ∉ S) (h3 : 241 ∉ S) : MIm m2 c := ⟨k53.trans h.1, k54.trans h.2.1, h.2.2.1, h.2.2.2.1, fun i hi => (congrFun (f.l h1) _).trans (h.2.2.2.2.1 i hi), fun i hi => (congrFun (f.a h2) _).trans (h.2.2.2.2.2.1 i hi), fun i hi => (congrFun (f.a h3) _).trans (h.2.2.2.2.2.2.1 i hi), h.2.2.2.2.2.2.2⟩
theorem MO.fr {S : List Nat} {m m2 : q_Mm} {L : List Nat} (h : MO m L) (f : Fr S m m2) (k : m2.1 215 41 = m.1 215 41) (h1 : 232 ∉ S) : MO m2 L := ⟨k.trans h.1, h.2.1, fun i hi => (congrFun (f.a h1) i).trans (h.2.2 i hi)⟩
/-- scratch places, scratch fields -/
def s_scp (p : Nat) : Bool := decide (p = 215 ∨ p = 219 ∨ p = 220 ∨ p = 221 ∨ p = 222 ∨ p = 227 ∨ p = 228 ∨ p = 229 ∨ p = 230 ∨ p = 231 ∨ p = 238)
def s_scj (j : Nat) : Bool := decide (j = 0 ∨ j = 5 ∨ j = 6 ∨ j = 9 ∨ j = 12 ∨ j = 13 ∨ j = 14 ∨ j = 23 ∨ j = 25 ∨ j = 28 ∨ j = 29 ∨ j = 32 ∨ (35 ≤ j ∧ j ≤ 39) ∨ j = 42)
theorem MI.s {S J : List Nat} {m m2 : q_Mm} {t im : Bool} {B L : List Nat} {c ck : q_Cs} {us : List q_Cs} {rf : Nat → Int32} (h : MI m t im B L c ck us rf) (f : Fr S m m2) (k : Kp 215 J m m2) (hS : ∀ p ∈ S, s_scp p = true) (hJ : ∀ j ∈ J, s_scj j = true) : MI m2 t im B L c ck us rf ∧ Dn m m2 := by
  have n : ∀ p, s_scp p = false → p ∉ S := fun p a b => by rw [hS p b] at a; cases a
  have kk : ∀ j, s_scj j = false → m2.1 215 j = m.1 215 j := fun j a => k j (fun b => by rw [hJ j b] at a; cases a)
  obtain ⟨h1, h2, h3, h4, h5, h6, h7, h8, h9⟩ := h
  refine ⟨⟨h1.fr f (n _ rfl) (n _ rfl), h2.fr f (kk _ rfl) (n _ rfl), (kk _ rfl).trans h3, (kk _ rfl).trans h4, h5.fr f (kk _ rfl) (n _ rfl), h6.fr f (kk _ rfl) (kk _ rfl) (n _ rfl) (n _ rfl) (n _ rfl), fun z => (h7 z).fr f (kk _ rfl) (kk _ rfl) (n _ rfl) (n _ rfl) (n _ rfl), h8.fr f (kk _ rfl) (n _ rfl) (n _ rfl) (n _ rfl) (n _ rfl) (n _ rfl), fun i hi => (congrFun (f.a (n _ rfl)) i).trans (h9 i hi)⟩, f.dnn (fun p hp => ?_)⟩
  have := of_decide_eq_true (hS p hp)
  omega
theorem z_nm1 {n : Nat} (h : n < 1000) : (nI n - nI 1).toInt = (n : Int) - 1 := pk_sub_toInt (by omega) (by decide)
set_option maxHeartbeats 4000000 in
set_option maxRecDepth 20000 in
theorem k_isPlace {Z : q_Z} {m : q_Mm} {d : Nat} {n : Nat} {t : Bool} {x : Int32} (ht : m.1 215 22 = q_b t) (hn : m.1 215 20 = nI n) (hn6 : n ≤ 64) : q_V (q_g Z) mX11_isPlace (d+1) 0 0 0 [some (.ref (q_ad Z 215)), some (.int x)] [] (q_W Z m) (q_P Z fun r m2 => r = some (.int (q_b (s_has t n x))) ∧ m2 = m) := by
  refine q_aload_n (pc' := 1) dX11_isPlace_0 rfl rfl ?_
  refine h_getiE (pc' := 4) dX11_isPlace_1 fX11_238 rfl rfl (ht) rfl ?_
  refine q_if_eqB (tgt := 25) (pc' := 7) dX11_isPlace_4 (by decide) rfl (fun c_4 => ?_) (fun c_4 => ?_)
  · refine q_iconst (pc' := 26) (v := nI 0) dX11_isPlace_25 rfl rfl ?_
    refine q_iret dX11_isPlace_26 rfl (by first | exact q_nb0 | exact q_nb1 | exact q_nb _) ⟨_, rfl, by unfold s_has; rw [c_4]; rfl, rfl⟩
  refine q_iload_n (pc' := 8) dX11_isPlace_7 rfl rfl ?_
  refine q_iconst (pc' := 9) (v := nI 0) dX11_isPlace_8 rfl rfl ?_
  refine q_aload_n (pc' := 10) dX11_isPlace_9 rfl rfl ?_
  refine h_getiE (pc' := 13) dX11_isPlace_10 fX11_242 rfl rfl (hn) rfl ?_
  refine q_iconst (pc' := 14) (v := nI 1) dX11_isPlace_13 rfl rfl ?_
  refine q_isub (pc' := 15) dX11_isPlace_14 rfl ?_
  refine h_callS (pc' := 18) (M' := mX11_in) (As := [_, _, _]) dX11_isPlace_15 iX11_in lX11_99 rfl rfl (Nat.le_of_ble_eq_true rfl) (Nat.le_of_ble_eq_true rfl) rfl rfl (k_in) (fun r m' hq => ?_)
  obtain ⟨rfl, hmm⟩ := hq
  subst m'
  rw [z_nm1 (by omega), show (nI 0).toInt = 0 from rfl, show decide (0 ≤ x.toInt ∧ x.toInt ≤ (n : Int) - 1) = s_has t n x by unfold s_has; rw [c_4, Bool.true_and]; exact decide_eq_decide.mpr (by omega)]
  refine q_if_eqB (tgt := 25) (pc' := 21) dX11_isPlace_18 (by decide) rfl (fun c_18 => ?_) (fun c_18 => ?_)
  · refine q_iconst (pc' := 26) (v := nI 0) dX11_isPlace_25 rfl rfl ?_
    refine q_iret dX11_isPlace_26 rfl (by first | exact q_nb0 | exact q_nb1 | exact q_nb _) ⟨_, rfl, by rw [c_18]; rfl, rfl⟩
  · refine q_iconst (pc' := 22) (v := nI 1) dX11_isPlace_21 rfl rfl ?_
    refine q_goto (pc' := 26) dX11_isPlace_22 (by decide) ?_
    refine q_iret dX11_isPlace_26 rfl (by first | exact q_nb0 | exact q_nb1 | exact q_nb _) ⟨_, rfl, by rw [c_18]; rfl, rfl⟩
set_option maxHeartbeats 4000000 in
set_option maxRecDepth 20000 in
theorem k_isRule {Z : q_Z} {m : q_Mm} {d : Nat} {t : Bool} {x : Int32} (ht : m.1 215 22 = q_b t) : q_V (q_g Z) mX11_isRule (d+1) 0 0 0 [some (.ref (q_ad Z 215)), some (.int x)] [] (q_W Z m) (q_P Z fun r m2 => r = some (.int (q_b (t && s_isRule x))) ∧ m2 = m) := by
  refine q_aload_n (pc' := 1) dX11_isRule_0 rfl rfl ?_
  refine h_getiE (pc' := 4) dX11_isRule_1 fX11_238 rfl rfl (ht) rfl ?_
  refine q_if_eqB (tgt := 20) (pc' := 7) dX11_isRule_4 (by decide) rfl (fun c_4 => ?_) (fun c_4 => ?_)
  · refine q_iconst (pc' := 21) (v := nI 0) dX11_isRule_20 rfl rfl ?_
    refine q_iret dX11_isRule_21 rfl (by first | exact q_nb0 | exact q_nb1 | exact q_nb _) ⟨_, rfl, by rw [c_4]; rfl, rfl⟩
  refine q_iload_n (pc' := 8) dX11_isRule_7 rfl rfl ?_
  refine q_iconst (pc' := 9) (v := nI 0) dX11_isRule_8 rfl rfl ?_
  refine q_iconst (pc' := 10) (v := nI 4) dX11_isRule_9 rfl rfl ?_
  refine h_callS (pc' := 13) (M' := mX11_in) (As := [_, _, _]) dX11_isRule_10 iX11_in lX11_99 rfl rfl (Nat.le_of_ble_eq_true rfl) (Nat.le_of_ble_eq_true rfl) rfl rfl (k_in) (fun r m' hq => ?_)
  obtain ⟨rfl, hmm⟩ := hq
  subst m'
  rw [show (nI 0).toInt = 0 from rfl, show (nI 4).toInt = 4 from rfl, show decide (0 ≤ x.toInt ∧ x.toInt ≤ 4) = (t && s_isRule x) by unfold s_isRule; rw [c_4, Bool.true_and]; exact decide_eq_decide.mpr (by omega)]
  refine q_if_eqB (tgt := 20) (pc' := 16) dX11_isRule_13 (by decide) rfl (fun c_13 => ?_) (fun c_13 => ?_)
  · refine q_iconst (pc' := 21) (v := nI 0) dX11_isRule_20 rfl rfl ?_
    refine q_iret dX11_isRule_21 rfl (by first | exact q_nb0 | exact q_nb1 | exact q_nb _) ⟨_, rfl, by rw [c_13]; rfl, rfl⟩
  · refine q_iconst (pc' := 17) (v := nI 1) dX11_isRule_16 rfl rfl ?_
    refine q_goto (pc' := 21) dX11_isRule_17 (by decide) ?_
    refine q_iret dX11_isRule_21 rfl (by first | exact q_nb0 | exact q_nb1 | exact q_nb _) ⟨_, rfl, by rw [c_13]; rfl, rfl⟩
set_option maxHeartbeats 4000000 in
set_option maxRecDepth 20000 in
theorem k_isPair {Z : q_Z} {m : q_Mm} {d : Nat} {e f : Int32} : q_V (q_g Z) mX11_isPair (d+1) 0 0 0 [some (.int e), some (.int f)] [] (q_W Z m) (q_P Z fun r m2 => r = some (.int (q_b (s_isPair e f))) ∧ m2 = m) := by
  refine q_iload_n (pc' := 1) dX11_isPair_0 rfl rfl ?_
  refine q_iconst (pc' := 2) (v := nI 0) dX11_isPair_1 rfl rfl ?_
  refine q_bipush (pc' := 4) (v := nI 14) dX11_isPair_2 rfl rfl ?_
  refine h_callS (pc' := 7) (M' := mX11_in) (As := [_, _, _]) dX11_isPair_4 iX11_in lX11_99 rfl rfl (Nat.le_of_ble_eq_true rfl) (Nat.le_of_ble_eq_true rfl) rfl rfl (k_in) (fun r m' hq => ?_)
  obtain ⟨rfl, hmm⟩ := hq
  subst m'
  rw [show (nI 0).toInt = 0 from rfl, show (nI 14).toInt = 14 from rfl]
  refine q_if_eqB (tgt := 23) (pc' := 10) dX11_isPair_7 (by decide) rfl (fun c_7 => ?_) (fun c_7 => ?_)
  · have c_7 := of_decide_eq_false c_7
    refine q_iconst (pc' := 24) (v := nI 0) dX11_isPair_23 rfl rfl ?_
    refine q_iret dX11_isPair_24 rfl (by first | exact q_nb0 | exact q_nb1 | exact q_nb _) ⟨_, rfl, z_f (fun z => c_7 (by omega)), rfl⟩
  have c_7 := of_decide_eq_true c_7
  refine q_iload_n (pc' := 11) dX11_isPair_10 rfl rfl ?_
  refine q_iconst (pc' := 12) (v := nI 0) dX11_isPair_11 rfl rfl ?_
  refine q_iload_n (pc' := 13) dX11_isPair_12 rfl rfl ?_
  refine h_callS (pc' := 16) (M' := mX11_in) (As := [_, _, _]) dX11_isPair_13 iX11_in lX11_99 rfl rfl (Nat.le_of_ble_eq_true rfl) (Nat.le_of_ble_eq_true rfl) rfl rfl (k_in) (fun r m' hq => ?_)
  obtain ⟨rfl, hmm⟩ := hq
  subst m'
  rw [show (nI 0).toInt = 0 from rfl]
  refine q_if_eqB (tgt := 23) (pc' := 19) dX11_isPair_16 (by decide) rfl (fun c_16 => ?_) (fun c_16 => ?_)
  · have c_16 := of_decide_eq_false c_16
    refine q_iconst (pc' := 24) (v := nI 0) dX11_isPair_23 rfl rfl ?_
    refine q_iret dX11_isPair_24 rfl (by first | exact q_nb0 | exact q_nb1 | exact q_nb _) ⟨_, rfl, z_f (fun z => c_16 (by omega)), rfl⟩
  · have c_16 := of_decide_eq_true c_16
    refine q_iconst (pc' := 20) (v := nI 1) dX11_isPair_19 rfl rfl ?_
    refine q_goto (pc' := 24) dX11_isPair_20 (by decide) ?_
    refine q_iret dX11_isPair_24 rfl (by first | exact q_nb0 | exact q_nb1 | exact q_nb _) ⟨_, rfl, z_t (by omega), rfl⟩
set_option maxHeartbeats 4000000 in
set_option maxRecDepth 20000 in
theorem k_rule {Z : q_Z} {m : q_Mm} {d : Nat} {t im : Bool} {B L : List Nat} {c ck : q_Cs} {us : List q_Cs} {rf : Nat → Int32} {x : Int32} (h : MI m t im B L c ck us rf) : q_V (q_g Z) mX11_rule (d+1) 0 0 0 [some (.ref (q_ad Z 215)), some (.int x)] [] (q_W Z m) (q_P Z fun r m2 => r = some (.int (if (t && s_isRule x) = true then nI (c.2.2.2.1 (s_i x)) else -1)) ∧ m2 = m) := by
  have ht := h.2.2.1
  have hC := h.2.2.2.2.2.1
  refine q_aload_n (pc' := 1) dX11_rule_0 rfl rfl ?_
  refine h_getiE (pc' := 4) dX11_rule_1 fX11_238 rfl rfl (ht) rfl ?_
  refine q_if_eqB (tgt := 25) (pc' := 7) dX11_rule_4 (by decide) rfl (fun c_4 => ?_) (fun c_4 => ?_)
  · refine q_iconst (pc' := 26) (v := (-1)) dX11_rule_25 rfl rfl ?_
    refine q_iret dX11_rule_26 rfl rfl ⟨_, rfl, by rw [c_4]; rfl, rfl⟩
  refine q_iload_n (pc' := 8) dX11_rule_7 rfl rfl ?_
  refine q_iconst (pc' := 9) (v := nI 0) dX11_rule_8 rfl rfl ?_
  refine q_iconst (pc' := 10) (v := nI 4) dX11_rule_9 rfl rfl ?_
  refine h_callS (pc' := 13) (M' := mX11_in) (As := [_, _, _]) dX11_rule_10 iX11_in lX11_99 rfl rfl (Nat.le_of_ble_eq_true rfl) (Nat.le_of_ble_eq_true rfl) rfl rfl (k_in) (fun r m' hq => ?_)
  obtain ⟨rfl, hmm⟩ := hq
  subst m'
  rw [show (nI 0).toInt = 0 from rfl, show (nI 4).toInt = 4 from rfl]
  refine q_if_eqB (tgt := 25) (pc' := 16) dX11_rule_13 (by decide) rfl (fun c_13 => ?_) (fun c_13 => ?_)
  · have c_13 := of_decide_eq_false c_13
    refine q_iconst (pc' := 26) (v := (-1)) dX11_rule_25 rfl rfl ?_
    refine q_iret dX11_rule_26 rfl rfl ⟨_, rfl, by rw [if_neg (fun z => by rw [Bool.and_eq_true] at z; have z := of_decide_eq_true z.2; omega)], rfl⟩
  · have c_13 := of_decide_eq_true c_13
    obtain ⟨j, hj, hx⟩ := z_ex (x := x) (n := 5) c_13.1 (by omega) (by omega)
    have e : (if (t && s_isRule x) = true then nI (c.2.2.2.1 (s_i x)) else -1) = nI (c.2.2.2.1 j) := by rw [if_pos (by rw [c_4, Bool.true_and]; exact decide_eq_true (by omega)), hx, s_i_n (by omega)]
    rw [e, hx]
    refine q_aload_n (pc' := 17) dX11_rule_16 rfl rfl ?_
    refine h_getr (pc' := 20) dX11_rule_17 fX11_36 rfl rfl rfl ?_
    refine q_iload_n (pc' := 21) dX11_rule_20 rfl rfl ?_
    refine h_ialdE (pc' := 22) dX11_rule_21 rfl (rfl) (by omega) (by decide) (hC.2.2.2.2.2.1 c_4 j hj) rfl ?_
    refine q_goto (pc' := 26) dX11_rule_22 (by decide) ?_
    refine q_iret dX11_rule_26 rfl rfl ⟨_, rfl, rfl, rfl⟩
set_option maxHeartbeats 4000000 in
set_option maxRecDepth 20000 in
theorem k_log {Z : q_Z} {m : q_Mm} {d : Nat} {t im : Bool} {B L : List Nat} {c ck : q_Cs} {us : List q_Cs} {rf : Nat → Int32} {x y : Int32} (h : MI m t im B L c ck us rf) : q_V (q_g Z) mX11_log (d+1) 0 0 0 [some (.ref (q_ad Z 215)), some (.int x), some (.int y)] [] (q_W Z m) (q_P Z fun r m2 => r = some (.int (if (0 ≤ x.toInt ∧ x.toInt < (c.2.1 : Int)) ∧ 0 ≤ y.toInt ∧ y.toInt ≤ 2 then c.2.2.2.2 (3 * (c.2.1 - 1 - s_i x) + s_i y) else -1000000)) ∧ m2 = m) := by
  have hC := h.2.2.2.2.2.1
  have hk := hC.2.2.2.1
  refine q_iload_n (pc' := 1) dX11_log_0 rfl rfl ?_
  refine q_iconst (pc' := 2) (v := nI 0) dX11_log_1 rfl rfl ?_
  refine q_aload_n (pc' := 3) dX11_log_2 rfl rfl ?_
  refine h_getiE (pc' := 6) dX11_log_3 fX11_245 rfl rfl (hC.2.1) rfl ?_
  refine q_iconst (pc' := 7) (v := nI 1) dX11_log_6 rfl rfl ?_
  refine q_isub (pc' := 8) dX11_log_7 rfl ?_
  refine h_callS (pc' := 11) (M' := mX11_in) (As := [_, _, _]) dX11_log_8 iX11_in lX11_99 rfl rfl (Nat.le_of_ble_eq_true rfl) (Nat.le_of_ble_eq_true rfl) rfl rfl (k_in) (fun r m' hq => ?_)
  obtain ⟨rfl, hmm⟩ := hq
  subst m'
  rw [z_nm1 (by omega), show (nI 0).toInt = 0 from rfl]
  refine q_if_eqB (tgt := 43) (pc' := 14) dX11_log_11 (by decide) rfl (fun c_11 => ?_) (fun c_11 => ?_)
  · have c_11 := of_decide_eq_false c_11
    refine q_ldcw (pc' := 46) dX11_log_43 kX11_382 rfl ?_
    refine q_iret dX11_log_46 rfl rfl ⟨_, rfl, by rw [if_neg (fun z => c_11 (by omega))], rfl⟩
  have c_11 := of_decide_eq_true c_11
  refine q_iload_n (pc' := 15) dX11_log_14 rfl rfl ?_
  refine q_iconst (pc' := 16) (v := nI 0) dX11_log_15 rfl rfl ?_
  refine q_iconst (pc' := 17) (v := nI 2) dX11_log_16 rfl rfl ?_
  refine h_callS (pc' := 20) (M' := mX11_in) (As := [_, _, _]) dX11_log_17 iX11_in lX11_99 rfl rfl (Nat.le_of_ble_eq_true rfl) (Nat.le_of_ble_eq_true rfl) rfl rfl (k_in) (fun r m' hq => ?_)
  obtain ⟨rfl, hmm⟩ := hq
  subst m'
  rw [show (nI 0).toInt = 0 from rfl, show (nI 2).toInt = 2 from rfl]
  refine q_if_eqB (tgt := 43) (pc' := 23) dX11_log_20 (by decide) rfl (fun c_20 => ?_) (fun c_20 => ?_)
  · have c_20 := of_decide_eq_false c_20
    refine q_ldcw (pc' := 46) dX11_log_43 kX11_382 rfl ?_
    refine q_iret dX11_log_46 rfl rfl ⟨_, rfl, by rw [if_neg (fun z => c_20 (by omega))], rfl⟩
  have c_20 := of_decide_eq_true c_20
  obtain ⟨j, hj, hx⟩ := z_ex (x := x) (n := c.2.1) c_11.1 (by omega) (by omega)
  obtain ⟨w, hw, hy⟩ := z_ex (x := y) (n := 3) c_20.1 (by omega) (by omega)
  have e : (if (0 ≤ x.toInt ∧ x.toInt < (c.2.1 : Int)) ∧ 0 ≤ y.toInt ∧ y.toInt ≤ 2 then c.2.2.2.2 (3 * (c.2.1 - 1 - s_i x) + s_i y) else -1000000) = c.2.2.2.2 (3 * (c.2.1 - 1 - j) + w) := by rw [if_pos (by omega), hx, hy, s_i_n (by omega), s_i_n (by omega)]
  rw [e, hx, hy]
  refine q_aload_n (pc' := 24) dX11_log_23 rfl rfl ?_
  refine h_getr (pc' := 27) dX11_log_24 fX11_39 rfl rfl rfl ?_
  refine q_iconst (pc' := 28) (v := nI 3) dX11_log_27 rfl rfl ?_
  refine q_aload_n (pc' := 29) dX11_log_28 rfl rfl ?_
  refine h_getiE (pc' := 32) dX11_log_29 fX11_245 rfl rfl (hC.2.1) rfl ?_
  refine q_iconst (pc' := 33) (v := nI 1) dX11_log_32 rfl rfl ?_
  refine q_isubN (pc' := 34) dX11_log_33 (by omega) rfl ?_
  refine q_iload_n (pc' := 35) dX11_log_34 rfl rfl ?_
  refine q_isubN (pc' := 36) dX11_log_35 (by omega) rfl ?_
  refine q_imulN (pc' := 37) dX11_log_36 rfl ?_
  refine q_iload_n (pc' := 38) dX11_log_37 rfl rfl ?_
  refine q_iaddN (pc' := 39) dX11_log_38 rfl ?_
  refine h_ialdE (pc' := 40) dX11_log_39 rfl (rfl) (by omega) (by decide) (hC.2.2.2.2.2.2.1 _ (by omega)) rfl ?_
  refine q_goto (pc' := 46) dX11_log_40 (by decide) ?_
  refine q_iret dX11_log_46 rfl rfl ⟨_, rfl, rfl, rfl⟩
set_option maxHeartbeats 4000000 in
set_option maxRecDepth 20000 in
theorem k_status {Z : q_Z} {m : q_Mm} {d : Nat} {t im : Bool} {B L : List Nat} {c ck : q_Cs} {us : List q_Cs} {rf : Nat → Int32} {x : Int32} (h : MI m t im B L c ck us rf) : q_V (q_g Z) mX11_status (d+1) 0 0 0 [some (.ref (q_ad Z 215)), some (.int x)] [] (q_W Z m) (q_P Z fun r m2 => r = some (.int (if 0 ≤ x.toInt ∧ x.toInt < 5 then rf (s_i x) else -1)) ∧ m2 = m) := by
  have hr := h.2.2.2.2.2.2.2.2
  refine q_iload_n (pc' := 1) dX11_status_0 rfl rfl ?_
  refine q_iconst (pc' := 2) (v := nI 0) dX11_status_1 rfl rfl ?_
  refine q_iconst (pc' := 3) (v := nI 4) dX11_status_2 rfl rfl ?_
  refine h_callS (pc' := 6) (M' := mX11_in) (As := [_, _, _]) dX11_status_3 iX11_in lX11_99 rfl rfl (Nat.le_of_ble_eq_true rfl) (Nat.le_of_ble_eq_true rfl) rfl rfl (k_in) (fun r m' hq => ?_)
  obtain ⟨rfl, hmm⟩ := hq
  subst m'
  rw [show (nI 0).toInt = 0 from rfl, show (nI 4).toInt = 4 from rfl]
  refine q_if_eqB (tgt := 18) (pc' := 9) dX11_status_6 (by decide) rfl (fun c_6 => ?_) (fun c_6 => ?_)
  · have c_6 := of_decide_eq_false c_6
    refine q_iconst (pc' := 19) (v := (-1)) dX11_status_18 rfl rfl ?_
    refine q_iret dX11_status_19 rfl rfl ⟨_, rfl, by rw [if_neg (fun z => c_6 (by omega))], rfl⟩
  have c_6 := of_decide_eq_true c_6
  obtain ⟨j, hj, hx⟩ := z_ex (x := x) (n := 5) c_6.1 (by omega) (by omega)
  have e : (if 0 ≤ x.toInt ∧ x.toInt < 5 then rf (s_i x) else -1) = rf j := by rw [if_pos (by omega), hx, s_i_n (by omega)]
  rw [e, hx]
  refine q_aload_n (pc' := 10) dX11_status_9 rfl rfl ?_
  refine h_getr (pc' := 13) dX11_status_10 fX11_42 rfl rfl rfl ?_
  refine q_iload_n (pc' := 14) dX11_status_13 rfl rfl ?_
  refine h_ialdE (pc' := 15) dX11_status_14 rfl (rfl) (by omega) (by decide) (hr j hj) rfl ?_
  refine q_goto (pc' := 19) dX11_status_15 (by decide) ?_
  refine q_iret dX11_status_19 rfl rfl ⟨_, rfl, rfl, rfl⟩
set_option maxHeartbeats 4000000 in
set_option maxRecDepth 20000 in
theorem k_octet {Z : q_Z} {m : q_Mm} {d : Nat} {t im : Bool} {B L : List Nat} {c ck : q_Cs} {us : List q_Cs} {rf : Nat → Int32} {x : Int32} (h : MI m t im B L c ck us rf) : q_V (q_g Z) mX11_octet (d+1) 0 0 0 [some (.ref (q_ad Z 215)), some (.int x)] [] (q_W Z m) (q_P Z fun r m2 => r = some (.int (if 0 ≤ x.toInt ∧ x.toInt < (L.length : Int) then nI (L.getD x.toInt.toNat 0) else -1)) ∧ m2 = m) := by
  have hL := h.2.2.2.2.1
  have hl := hL.2.1
  refine q_iload_n (pc' := 1) dX11_octet_0 rfl rfl ?_
  refine q_iconst (pc' := 2) (v := nI 0) dX11_octet_1 rfl rfl ?_
  refine q_aload_n (pc' := 3) dX11_octet_2 rfl rfl ?_
  refine h_getiE (pc' := 6) dX11_octet_3 fX11_251 rfl rfl (hL.1) rfl ?_
  refine q_iconst (pc' := 7) (v := nI 1) dX11_octet_6 rfl rfl ?_
  refine q_isub (pc' := 8) dX11_octet_7 rfl ?_
  refine h_callS (pc' := 11) (M' := mX11_in) (As := [_, _, _]) dX11_octet_8 iX11_in lX11_99 rfl rfl (Nat.le_of_ble_eq_true rfl) (Nat.le_of_ble_eq_true rfl) rfl rfl (k_in) (fun r m' hq => ?_)
  obtain ⟨rfl, hmm⟩ := hq
  subst m'
  rw [z_nm1 (by omega), show (nI 0).toInt = 0 from rfl]
  refine q_if_eqB (tgt := 23) (pc' := 14) dX11_octet_11 (by decide) rfl (fun c_11 => ?_) (fun c_11 => ?_)
  · have c_11 := of_decide_eq_false c_11
    refine q_iconst (pc' := 24) (v := (-1)) dX11_octet_23 rfl rfl ?_
    refine q_iret dX11_octet_24 rfl rfl ⟨_, rfl, by rw [if_neg (fun z => c_11 (by omega))], rfl⟩
  have c_11 := of_decide_eq_true c_11
  obtain ⟨j, hj, hx⟩ := z_ex (x := x) (n := L.length) c_11.1 (by omega) (by omega)
  have e : (if 0 ≤ x.toInt ∧ x.toInt < (L.length : Int) then nI (L.getD x.toInt.toNat 0) else -1) = nI (s_sg L j) := by
    rw [if_pos (by omega), hx, z_n (by omega)]
    rfl
  rw [e, hx]
  refine q_aload_n (pc' := 15) dX11_octet_14 rfl rfl ?_
  refine h_getr (pc' := 18) dX11_octet_15 fX11_60 rfl rfl rfl ?_
  refine q_iload_n (pc' := 19) dX11_octet_18 rfl rfl ?_
  refine h_ialdE (pc' := 20) dX11_octet_19 rfl (rfl) (by omega) (by decide) (hL.2.2 j hj) rfl ?_
  refine q_goto (pc' := 24) dX11_octet_20 (by decide) ?_
  refine q_iret dX11_octet_24 rfl rfl ⟨_, rfl, rfl, rfl⟩
set_option maxHeartbeats 4000000 in
set_option maxRecDepth 20000 in
theorem k_count {Z : q_Z} {m : q_Mm} {d : Nat} {t im : Bool} {B L : List Nat} {c ck : q_Cs} {us : List q_Cs} {rf : Nat → Int32} {x : Int32} (h : MI m t im B L c ck us rf) : q_V (q_g Z) mX11_count (d) 0 0 0 [some (.ref (q_ad Z 215)), some (.int x)] [] (q_W Z m) (q_P Z fun r m2 => r = some (.int (s_count B L c us x.toInt)) ∧ m2 = m) := by
  have hC := h.2.2.2.2.2.1
  unfold s_count
  refine q_iload_n (pc' := 1) dX11_count_0 rfl rfl ?_
  by_cases hy : x.toInt < 0 ∨ 4 < x.toInt
  · refine q_tabOut (tgt := 61) dX11_count_1 hy (by decide) ?_
    refine q_ldcw (pc' := 64) dX11_count_61 kX11_382 rfl ?_
    refine q_iret dX11_count_64 rfl rfl ⟨_, rfl, by rw [if_neg (by omega), if_neg (by omega), if_neg (by omega), if_neg (by omega), if_neg (by omega)], rfl⟩
  have hy3 : x.toInt = 0 ∨ x.toInt = 1 ∨ x.toInt = 2 ∨ x.toInt = 3 ∨ x.toInt = 4 := by omega
  rcases hy3 with z | z | z | z | z
  · refine q_tabIn (tgt := 36) dX11_count_1 (by omega) (by omega) (by rw [z]; rfl) (by decide) ?_
    refine q_aload_n (pc' := 37) dX11_count_36 rfl rfl ?_
    refine h_getiE (pc' := 40) dX11_count_37 fX11_242 rfl rfl (hC.1) rfl ?_
    refine q_iret dX11_count_40 rfl rfl ⟨_, rfl, by rw [z]; rfl, rfl⟩
  · refine q_tabIn (tgt := 41) dX11_count_1 (by omega) (by omega) (by rw [z]; rfl) (by decide) ?_
    refine q_aload_n (pc' := 42) dX11_count_41 rfl rfl ?_
    refine h_getiE (pc' := 45) dX11_count_42 fX11_96 rfl rfl (h.2.1.1) rfl ?_
    refine q_iret dX11_count_45 rfl rfl ⟨_, rfl, by rw [z]; rfl, rfl⟩
  · refine q_tabIn (tgt := 46) dX11_count_1 (by omega) (by omega) (by rw [z]; rfl) (by decide) ?_
    refine q_aload_n (pc' := 47) dX11_count_46 rfl rfl ?_
    refine h_getiE (pc' := 50) dX11_count_47 fX11_251 rfl rfl (h.2.2.2.2.1.1) rfl ?_
    refine q_iret dX11_count_50 rfl rfl ⟨_, rfl, by rw [z]; rfl, rfl⟩
  · refine q_tabIn (tgt := 51) dX11_count_1 (by omega) (by omega) (by rw [z]; rfl) (by decide) ?_
    refine q_aload_n (pc' := 52) dX11_count_51 rfl rfl ?_
    refine h_getiE (pc' := 55) dX11_count_52 fX11_245 rfl rfl (hC.2.1) rfl ?_
    refine q_iret dX11_count_55 rfl rfl ⟨_, rfl, by rw [z]; rfl, rfl⟩
  · refine q_tabIn (tgt := 56) dX11_count_1 (by omega) (by omega) (by rw [z]; rfl) (by decide) ?_
    refine q_aload_n (pc' := 57) dX11_count_56 rfl rfl ?_
    refine h_getiE (pc' := 60) dX11_count_57 fX11_248 rfl rfl (h.2.2.2.2.2.2.2.1.1) rfl ?_
    refine q_iret dX11_count_60 rfl rfl ⟨_, rfl, by rw [z]; rfl, rfl⟩
set_option maxHeartbeats 4000000 in
set_option maxRecDepth 20000 in
theorem k_value {Z : q_Z} {m : q_Mm} {d : Nat} {t im : Bool} {B L : List Nat} {c ck : q_Cs} {us : List q_Cs} {rf : Nat → Int32} {x : Int32} (h : MI m t im B L c ck us rf) : q_V (q_g Z) mX11_value (d+2) 0 0 0 [some (.ref (q_ad Z 215)), some (.int x)] [] (q_W Z m) (q_P Z fun r m2 => r = some (.long (if s_has t c.1 x = true then c.2.2.1 (s_i x) else 0)) ∧ m2.1 215 0 = (if s_has t c.1 x = true then nI 0 else nI 1) ∧ MI m2 t im B L c ck us rf ∧ Dn m m2) := by
  have hC := h.2.2.2.2.2.1
  have hn := hC.2.2.1
  refine q_aload_n (pc' := 1) dX11_value_0 rfl rfl ?_
  refine q_aload_n (pc' := 2) dX11_value_1 rfl rfl ?_
  refine q_iload_n (pc' := 3) dX11_value_2 rfl rfl ?_
  refine h_callV (pc' := 6) (M' := mX11_isPlace) (As := [_]) dX11_value_3 iX11_isPlace lX11_375 rfl rfl rfl rfl (Nat.le_of_ble_eq_true rfl) (Nat.le_of_ble_eq_true rfl) rfl rfl (k_isPlace h.2.2.1 hC.1 hn) (fun r m' hq => ?_)
  obtain ⟨rfl, hmm⟩ := hq
  subst m'
  refine q_if_eqB (tgt := 13) (pc' := 9) dX11_value_6 (by decide) rfl (fun c_6 => ?_) (fun c_6 => ?_)
  · have e0 : (sI m 215 0 (nI 1)).1 215 0 = nI 1 := rfl
    have hs := h.s (S := [215]) (J := [0]) (m2 := sI m 215 0 (nI 1)) (Fr.rf.I (by decide)) (kp_I Kp.rf (by decide)) (by decide) (by decide)
    refine q_iconst (pc' := 14) (v := nI 1) dX11_value_13 rfl rfl ?_
    refine h_puti (pc' := 17) dX11_value_14 fX11_92 rfl rfl rfl rfl rfl ?_
    refine q_aload_n (pc' := 18) dX11_value_17 rfl rfl ?_
    refine h_getiE (pc' := 21) dX11_value_18 fX11_92 rfl rfl (e0) rfl ?_
    refine q_iconst (pc' := 22) (v := nI 1) dX11_value_21 rfl rfl ?_
    refine q_icmp_neN (tgt := 29) (pc' := 25) dX11_value_22 (by decide) rfl (by omega) (fun c_22 => ?_) (fun c_22 => ?_)
    · exact absurd rfl c_22
    refine q_lconst (pc' := 26) (v := 0) dX11_value_25 rfl rfl ?_
    refine q_goto (pc' := 35) dX11_value_26 (by decide) ?_
    refine q_lret dX11_value_35 rfl ⟨_, rfl, by rw [if_neg (by rw [c_6]; decide)], by rw [if_neg (by rw [c_6]; decide)]; rfl, hs.1, hs.2⟩
  · have e0 : (sI m 215 0 (nI 0)).1 215 0 = nI 0 := rfl
    have hs := h.s (S := [215]) (J := [0]) (m2 := sI m 215 0 (nI 0)) (Fr.rf.I (by decide)) (kp_I Kp.rf (by decide)) (by decide) (by decide)
    obtain ⟨j, hx, hj⟩ := z_has c_6 (by omega)
    have e1 : s_i x = j := by rw [hx, s_i_n (by omega)]
    rw [if_pos c_6, e1, hx]
    refine q_iconst (pc' := 10) (v := nI 0) dX11_value_9 rfl rfl ?_
    refine q_goto (pc' := 14) dX11_value_10 (by decide) ?_
    refine h_puti (pc' := 17) dX11_value_14 fX11_92 rfl rfl rfl rfl rfl ?_
    refine q_aload_n (pc' := 18) dX11_value_17 rfl rfl ?_
    refine h_getiE (pc' := 21) dX11_value_18 fX11_92 rfl rfl (e0) rfl ?_
    refine q_iconst (pc' := 22) (v := nI 1) dX11_value_21 rfl rfl ?_
    refine q_icmp_neN (tgt := 29) (pc' := 25) dX11_value_22 (by decide) rfl (by omega) (fun c_22 => ?_) (fun c_22 => ?_)
    rotate_left
    · exact absurd c_22 (by decide)
    refine q_aload_n (pc' := 30) dX11_value_29 rfl rfl ?_
    refine h_getr (pc' := 33) dX11_value_30 fX11_33 rfl rfl rfl ?_
    refine q_iload_n (pc' := 34) dX11_value_33 rfl rfl ?_
    refine h_laldE (pc' := 35) dX11_value_34 rfl (rfl) (by omega) (by decide) (hC.2.2.2.2.1 j hj) rfl ?_
    refine q_lret dX11_value_35 rfl ⟨_, rfl, rfl, by rw [← hx, if_pos c_6]; rfl, hs.1, hs.2⟩
theorem s_rul_le {B : List Nat} (hB : B.length ≤ 320) : ∀ f a gv rl, a ≤ 320 → (s_rul B f a gv rl).2.1 ≤ 320
  | 0, _, _, _, h => h
  | f + 1, a, gv, rl, h => by
    have h1 := s_skb_le h hB
    unfold s_rul
    split
    · rename_i q
      have h2 := s_rb_in q
      have h3 := s_skb_le (B := B) (a := s_skb B a + 1) (by omega) hB
      have h4 := s_rnAt_le (B := B) (k := s_rb (s_sg B (s_skb B a))) h3 hB
      split
      · exact h1
      · split
        · exact s_rul_le hB f _ _ _ h4
        · exact h4
    · exact h1
theorem s_rul_ok {B : List Nat} : ∀ f a gv rl, s_rok rl → (s_rul B f a gv rl).1 = true → s_rok (s_rul B f a gv rl).2.2
  | 0, _, _, _, h, _ => h
  | f + 1, a, gv, rl, h, h9 => by
    unfold s_rul at h9 ⊢
    split
    · rename_i q
      rw [if_pos q] at h9
      split
      · exact h
      · rename_i q2
        rw [if_neg q2] at h9
        split
        · rename_i q3
          rw [if_pos q3] at h9
          refine s_rul_ok f _ _ _ (s_rok_u h q ?_) h9
          unfold s_rnOk at q3
          rw [Bool.and_eq_true] at q3
          exact q3.2
        · exact h
    · exact h
theorem s_cls_le {B : List Nat} (hB : B.length ≤ 320) {a n : Nat} {ru : Bool} {xs : Nat → Int64} {rl : Nat → Nat} (h : a ≤ 320) : (s_cls B a ru n xs rl).2.1 ≤ 320 := by
  unfold s_cls
  split
  · rename_i q
    have := s_sg_in (B := B) (a := a) (by rw [q]; decide)
    split
    · exact h
    · exact s_rul_le hB _ _ _ _ (by omega)
  · split
    · exact s_val_le h hB
    · exact h
theorem s_cls_ok {B : List Nat} {a n : Nat} {ru : Bool} {xs : Nat → Int64} {rl : Nat → Nat} (h : s_rok rl) (h9 : (s_cls B a ru n xs rl).1 = true) : s_rok (s_cls B a ru n xs rl).2.2.2.2.2 := by
  unfold s_cls at h9 ⊢
  split
  · rename_i q
    rw [if_pos q] at h9
    split
    · exact h
    · rename_i q2
      rw [if_neg q2] at h9
      exact s_rul_ok _ _ _ _ h h9
  · split <;> exact h
theorem s_tx_le {B : List Nat} (hB : B.length ≤ 320) : ∀ f a ru n xs rl, a ≤ 320 → ∀ x, (s_tx B f a ru n xs rl).1 = some x → x ≤ 320
  | 0, a, _, _, _, _, h, x, hx => by
    have hx : some a = some x := hx
    cases hx
    exact h
  | f + 1, a, ru, n, xs, rl, h, x, hx => by
    have h1 := s_skb_le h hB
    have h2 := s_cls_le hB (ru := ru) (n := n) (xs := xs) (rl := rl) h1
    have h3 := s_skb_le h2 hB
    unfold s_tx at hx
    split at hx
    · split at hx
      · cases hx
      · split at hx
        · rename_i q
          have := s_sg_in (a := s_skb B (s_cls B (s_skb B a) ru n xs rl).2.1) (by rw [q]; decide)
          exact s_tx_le hB f _ _ _ _ _ (by omega) x hx
        · cases hx; exact h3
    · cases hx; exact h2
theorem s_tx_ok {B : List Nat} : ∀ f a ru n xs rl, s_rok rl → (s_tx B f a ru n xs rl).1 = none → s_rok (s_tx B f a ru n xs rl).2.2.2
  | 0, _, _, _, _, _, _, hx => by cases hx
  | f + 1, a, ru, n, xs, rl, h, hx => by
    unfold s_tx at hx ⊢
    split
    · rename_i q
      rw [if_pos q] at hx
      split
      · exact s_cls_ok h q
      · rename_i q2
        rw [if_neg q2] at hx
        split
        · rename_i q3
          rw [if_pos q3] at hx
          exact s_tx_ok f _ _ _ _ _ (s_cls_ok h q) hx
        · rename_i q3
          rw [if_neg q3] at hx
          cases hx
    · rename_i q
      rw [if_neg q] at hx
      cases hx
theorem s_text_le {B : List Nat} (hB : B.length ≤ 320) {x : Nat} (h : (s_text B).1 = some x) : x ≤ 320 := s_tx_le hB _ _ _ _ _ _ (by decide) x h
theorem s_text_ok {B : List Nat} (h : (s_text B).1 = none) : s_rok (s_text B).2.2.2 := s_tx_ok _ _ _ _ _ _ s_usual_ok h
theorem s_vIn_le {B : List Nat} {fm sz a : Nat} (h : a ≤ B.length) : (s_vIn B fm sz a).2.1 ≤ B.length := by
  unfold s_vIn
  split
  · show (if _ then _ else _) ≤ _
    split <;> omega
  · split
    · exact s_dIn_le h
    · exact s_sIn_le h
theorem s_bkk_le {B : List Nat} (hB : B.length ≤ 320) {x : Nat} (h : (s_bkk B).1 = some x) : x ≤ 320 := by
  unfold s_bkk at h
  split at h
  · split at h
    · rename_i q
      have := (s_oc_lt q).1
      have hv := s_vIn_le (B := B) (fm := s_sg B 0) (sz := s_sg B 1) (a := 2) (by omega)
      split at h
      · split at h
        · split at h
          · cases h; omega
          · cases h
        · cases h; omega
      · cases h; omega
    · cases h; decide
  · cases h; decide
set_option maxHeartbeats 4000000 in
set_option maxRecDepth 20000 in
theorem k_fault {Z : q_Z} {m : q_Mm} {d : Nat} {t im : Bool} {B L : List Nat} {c ck : q_Cs} {us : List q_Cs} {rf : Nat → Int32} {x : Int32} (h : MI m t im B L c ck us rf) : q_V (q_g Z) mX11_fault (d+5) 0 0 0 [some (.ref (q_ad Z 215)), some (.int x)] [] (q_W Z m) (q_P Z fun r m2 => r = some (.int (s_fau B x.toInt)) ∧ MI m2 t im B L c ck us rf ∧ Dn m m2) := by
  refine q_iload_n (pc' := 1) dX11_fault_0 rfl rfl ?_
  refine q_if_ne (tgt := 11) (pc' := 4) dX11_fault_1 (by decide) rfl (fun c_1 => ?_) (fun c_1 => ?_)
  rotate_left
  · rw [z_eq, z_0] at c_1
    rw [show s_fau B x.toInt = s_on (s_text B).1 from if_pos c_1]
    refine q_aload_n (pc' := 5) dX11_fault_4 rfl rfl ?_
    refine h_callV (pc' := 8) (M' := mX11_readColumn) (As := []) dX11_fault_5 iX11_readColumn lX11_230 rfl rfl rfl rfl (Nat.le_of_ble_eq_true rfl) (Nat.le_of_ble_eq_true rfl) rfl rfl (k_readColumn h.1 h.2.1) (fun r m' hq => ?_)
    obtain ⟨rfl, f1, k1, -⟩ := hq
    refine q_goto (pc' := 25) dX11_fault_8 (by decide) ?_
    refine q_iret dX11_fault_25 rfl rfl ⟨_, rfl, rfl, h.s f1 k1 (by decide) (by decide)⟩
  rw [z_eq, z_0] at c_1
  refine q_iload_n (pc' := 12) dX11_fault_11 rfl rfl ?_
  refine q_iconst (pc' := 13) (v := nI 1) dX11_fault_12 rfl rfl ?_
  refine q_icmp_ne (tgt := 23) (pc' := 16) dX11_fault_13 (by decide) rfl (fun c_13 => ?_) (fun c_13 => ?_)
  · rw [z_eq, z_n (by decide)] at c_13
    have c_13 : ¬ x.toInt = 1 := c_13
    refine q_bipush (pc' := 25) (v := (-2)) dX11_fault_23 rfl rfl ?_
    refine q_iret dX11_fault_25 rfl rfl ⟨_, rfl, by unfold s_fau; rw [if_neg c_1, if_neg c_13], h, Dn.rf⟩
  · rw [z_eq, z_n (by decide)] at c_13
    have c_13 : x.toInt = 1 := c_13
    rw [show s_fau B x.toInt = s_on (s_bkk B).1 by unfold s_fau; rw [if_neg c_1, if_pos c_13]]
    refine q_aload_n (pc' := 17) dX11_fault_16 rfl rfl ?_
    refine h_callV (pc' := 20) (M' := mX11_readBlock) (As := []) dX11_fault_17 iX11_readBlock lX11_233 rfl rfl rfl rfl (Nat.le_of_ble_eq_true rfl) (Nat.le_of_ble_eq_true rfl) rfl rfl (k_readBlock h.1 h.2.1) (fun r m' hq => ?_)
    obtain ⟨rfl, f1, k1, -⟩ := hq
    refine q_goto (pc' := 25) dX11_fault_20 (by decide) ?_
    refine q_iret dX11_fault_25 rfl rfl ⟨_, rfl, rfl, h.s f1 k1 (by decide) (by decide)⟩
set_option maxHeartbeats 4000000 in
set_option maxRecDepth 20000 in
theorem k_peek {Z : q_Z} {m : q_Mm} {d : Nat} {t im : Bool} {B L : List Nat} {c ck : q_Cs} {us : List q_Cs} {rf : Nat → Int32} {x : Int32} (h : MI m t im B L c ck us rf) : q_V (q_g Z) mX11_peek (d+5) 0 0 0 [some (.ref (q_ad Z 215)), some (.int x)] [] (q_W Z m) (q_P Z fun r m2 => r = some (.long (s_peek B x.toInt)) ∧ MI m2 t im B L c ck us rf ∧ Dn m m2) := by
  refine q_aload_n (pc' := 1) dX11_peek_0 rfl rfl ?_
  refine h_callV (pc' := 4) (M' := mX11_readBlock) (As := []) dX11_peek_1 iX11_readBlock lX11_233 rfl rfl rfl rfl (Nat.le_of_ble_eq_true rfl) (Nat.le_of_ble_eq_true rfl) rfl rfl (k_readBlock h.1 h.2.1) (fun r m' hq => ?_)
  obtain ⟨rfl, f1, k1, v1⟩ := hq
  obtain ⟨h1, u1⟩ := h.s f1 k1 (by decide) (by decide)
  have b1 : ∀ a, (s_bkk B).1 = some a → a ≤ 320 := fun a ha => s_bkk_le h.2.1.2.1 ha
  have no : s_peek B x.toInt = -1000000 → q_V (q_g Z) mX11_peek (d+5) 0 0 31 [some (.ref (q_ad Z 215)), some (.int x)] [] (q_W Z (m')) (q_P Z fun r m2 => r = some (.long (s_peek B x.toInt)) ∧ MI m2 t im B L c ck us rf ∧ Dn m m2) := by
    intro e
    refine q_ldc2 (pc' := 34) dX11_peek_31 kX11_236 rfl ?_
    refine q_lret dX11_peek_34 rfl ⟨_, rfl, by rw [e], h1, u1⟩
  refine q_iconst (pc' := 5) (v := (-1)) dX11_peek_4 rfl rfl ?_
  refine q_icmp_ne (tgt := 31) (pc' := 8) dX11_peek_5 (by decide) rfl (fun c_5 => ?_) (fun c_5 => ?_)
  · exact no (if_neg (fun z => c_5 ((s_on_no b1).mpr z.1)))
  have hn := (s_on_no b1).mp c_5
  obtain ⟨e12, le, ge, hv⟩ := v1 hn
  obtain ⟨m1, hm1⟩ : ∃ z, z = m' := ⟨_, rfl⟩
  subst hm1
  refine q_iload_n (pc' := 9) dX11_peek_8 rfl rfl ?_
  refine q_iconst (pc' := 10) (v := nI 0) dX11_peek_9 rfl rfl ?_
  refine q_aload_n (pc' := 11) dX11_peek_10 rfl rfl ?_
  refine h_getiE (pc' := 14) dX11_peek_11 fX11_197 rfl rfl (e12) rfl ?_
  refine q_iconst (pc' := 15) (v := nI 1) dX11_peek_14 rfl rfl ?_
  refine q_isub (pc' := 16) dX11_peek_15 rfl ?_
  refine h_callS (pc' := 19) (M' := mX11_in) (As := [_, _, _]) dX11_peek_16 iX11_in lX11_99 rfl rfl (Nat.le_of_ble_eq_true rfl) (Nat.le_of_ble_eq_true rfl) rfl rfl (k_in.up (Nat.zero_le _)) (fun r m' hq => ?_)
  obtain ⟨rfl, hmm⟩ := hq
  subst m'
  rw [z_nm1 (by omega), show (nI 0).toInt = 0 from rfl]
  refine q_if_eqB (tgt := 31) (pc' := 22) dX11_peek_19 (by decide) rfl (fun c_19 => ?_) (fun c_19 => ?_)
  · have c_19 := of_decide_eq_false c_19
    exact no (if_neg (fun z => c_19 (by omega)))
  have c_19 := of_decide_eq_true c_19
  obtain ⟨j, hj, hx⟩ := z_ex (x := x) (n := (s_bkk B).2.1) c_19.1 (by omega) (by omega)
  have e : s_peek B x.toInt = (s_bkk B).2.2 j := by
    unfold s_peek
    rw [if_pos ⟨hn, by omega, by omega⟩, hx, z_n (by omega)]
    rfl
  rw [e, hx]
  refine q_aload_n (pc' := 23) dX11_peek_22 rfl rfl ?_
  refine h_getr (pc' := 26) dX11_peek_23 fX11_27 rfl rfl rfl ?_
  refine q_iload_n (pc' := 27) dX11_peek_26 rfl rfl ?_
  refine h_laldE (pc' := 28) dX11_peek_27 rfl (rfl) (by omega) (by decide) (hv j hj) rfl ?_
  refine q_goto (pc' := 34) dX11_peek_28 (by decide) ?_
  refine q_lret dX11_peek_34 rfl ⟨_, rfl, rfl, h1, u1⟩
set_option maxHeartbeats 4000000 in
set_option maxRecDepth 20000 in
theorem k_feedI {Z : q_Z} {m : q_Mm} {d : Nat} {t im : Bool} {B L : List Nat} {c ck : q_Cs} {us : List q_Cs} {rf : Nat → Int32} {a b c1 e g : Int32} (h : MI m t im B L c ck us rf) : q_V (q_g Z) mX11_feed (d) 0 0 0 [some (.ref (q_ad Z 215)), some (.int a), some (.int b), some (.int c1), some (.int e), some (.int g), none, none] [] (q_W Z m) (q_P Z fun r m2 => r = some (.int (if B.length + 20 ≤ 320 then nI (B.length + 20) else -1)) ∧ MI m2 t im (if B.length + 20 ≤ 320 then B ++ s_i4 a ++ s_i4 b ++ s_i4 c1 ++ s_i4 e ++ s_i4 g else B) L c ck us rf ∧ Dn m m2) := by
  refine h_weak (k_feed h.2.1) ?_
  rintro r m2 ⟨rfl, f, k, hT⟩
  obtain ⟨h1, h2, h3, h4, h5, h6, h7, h8, h9⟩ := h
  exact ⟨rfl, ⟨h1.fr f (by decide) (by decide), hT, (k _ (by decide)).trans h3, (k _ (by decide)).trans h4, h5.fr f (k _ (by decide)) (by decide), h6.fr f (k _ (by decide)) (k _ (by decide)) (by decide) (by decide) (by decide), fun z => (h7 z).fr f (k _ (by decide)) (k _ (by decide)) (by decide) (by decide) (by decide), h8.fr f (k _ (by decide)) (by decide) (by decide) (by decide) (by decide) (by decide), fun i hi => (congrFun (f.a (by decide)) i).trans (h9 i hi)⟩, f.dnn (by decide)⟩
set_option maxHeartbeats 4000000 in
set_option maxRecDepth 20000 in
theorem k_endI {Z : q_Z} {m : q_Mm} {d : Nat} {t im : Bool} {B L : List Nat} {c ck : q_Cs} {us : List q_Cs} {rf : Nat → Int32} {x : Int32} (h : MI m t im B L c ck us rf) : q_V (q_g Z) mX11_end (d+1) 0 0 0 [some (.ref (q_ad Z 215)), some (.int x)] [] (q_W Z m) (q_P Z fun r m2 => r = some (.int (q_b (decide (0 ≤ x.toInt ∧ x.toInt ≤ (B.length : Int))))) ∧ MI m2 t im (if 0 ≤ x.toInt ∧ x.toInt ≤ (B.length : Int) then B.take x.toInt.toNat else B) L c ck us rf ∧ Dn m m2) := by
  refine h_weak (k_end h.2.1) ?_
  rintro r m2 ⟨rfl, f, k, hT⟩
  obtain ⟨h1, h2, h3, h4, h5, h6, h7, h8, h9⟩ := h
  exact ⟨rfl, ⟨h1.fr f (by decide) (by decide), hT, (k _ (by decide)).trans h3, (k _ (by decide)).trans h4, h5.fr f (k _ (by decide)) (by decide), h6.fr f (k _ (by decide)) (k _ (by decide)) (by decide) (by decide) (by decide), fun z => (h7 z).fr f (k _ (by decide)) (k _ (by decide)) (by decide) (by decide) (by decide), h8.fr f (k _ (by decide)) (by decide) (by decide) (by decide) (by decide) (by decide), fun i hi => (congrFun (f.a (by decide)) i).trans (h9 i hi)⟩, f.dnn (by decide)⟩
set_option maxHeartbeats 4000000 in
set_option maxRecDepth 20000 in
theorem k_text {Z : q_Z} {m : q_Mm} {d : Nat} {t im : Bool} {B L : List Nat} {c ck : q_Cs} {us : List q_Cs} {rf : Nat → Int32} (h : MI m t im B L c ck us rf) : q_V (q_g Z) mX11_text (d+5) 0 0 0 [some (.ref (q_ad Z 215)), none] [] (q_W Z m) (q_P Z fun r m2 => Dn m m2 ∧ ((s_text B).1 ≠ none → r = some (.int (-1)) ∧ MI m2 t im B L c ck us rf) ∧ ((s_text B).1 = none → r = some (.int (nI (s_text B).2.1)) ∧ MI m2 true false [] [] (s_tc B) ck [] rf)) := by
  have b1 : ∀ a, (s_text B).1 = some a → a ≤ 320 := fun a ha => s_text_le h.2.1.2.1 ha
  refine q_aload_n (pc' := 1) dX11_text_0 rfl rfl ?_
  refine h_callV (pc' := 4) (M' := mX11_readColumn) (As := []) dX11_text_1 iX11_readColumn lX11_230 rfl rfl rfl rfl (Nat.le_of_ble_eq_true rfl) (Nat.le_of_ble_eq_true rfl) rfl rfl (k_readColumn h.1 h.2.1) (fun r m' hq => ?_)
  obtain ⟨rfl, f0, k0, v0⟩ := hq
  obtain ⟨hh, u0⟩ := h.s f0 k0 (by decide) (by decide)
  refine q_iconst (pc' := 5) (v := (-1)) dX11_text_4 rfl rfl ?_
  refine q_icmp_eq (tgt := 10) (pc' := 8) dX11_text_5 (by decide) rfl (fun c_5 => ?_) (fun c_5 => ?_)
  rotate_left
  · refine q_iconst (pc' := 9) (v := (-1)) dX11_text_8 rfl rfl ?_
    refine q_iret dX11_text_9 rfl rfl ⟨_, rfl, ?_⟩
    exact ⟨u0, fun _ => ⟨rfl, hh⟩, fun z => absurd ((s_on_no b1).mpr z) c_5⟩
  have hno := (s_on_no b1).mp c_5
  obtain ⟨e9, le40, hx, hr⟩ := v0 hno
  have hrok := s_text_ok hno
  unfold s_tc
  generalize (s_text B).2.1 = n at e9 le40 hx ⊢
  generalize (s_text B).2.2.1 = xs at hx ⊢
  generalize (s_text B).2.2.2 = rl at hr hrok ⊢
  have u1 : Dn m m' := u0
  obtain ⟨h1, h2, h3, h4, h5, h6, h7, h8, h9⟩ := hh
  refine q_aload_n (pc' := 11) dX11_text_10 rfl rfl ?_
  refine q_iconst (pc' := 12) (v := nI 0) dX11_text_11 rfl rfl ?_
  refine h_puti (pc' := 15) dX11_text_12 fX11_96 rfl rfl rfl rfl rfl ?_
  refine q_aload_n (pc' := 16) dX11_text_15 rfl rfl ?_
  refine q_iconst (pc' := 17) (v := nI 1) dX11_text_16 rfl rfl ?_
  refine h_puti (pc' := 20) dX11_text_17 fX11_238 rfl rfl (rfl) rfl rfl ?_
  refine q_aload_n (pc' := 21) dX11_text_20 rfl rfl ?_
  refine q_aload_n (pc' := 22) dX11_text_21 rfl rfl ?_
  refine h_getiE (pc' := 25) dX11_text_22 fX11_173 rfl rfl (e9) rfl ?_
  refine h_puti (pc' := 28) dX11_text_25 fX11_242 rfl rfl rfl rfl rfl ?_
  refine q_iconst (pc' := 29) (v := nI 0) dX11_text_28 rfl rfl ?_
  refine q_istore_n (pc' := 30) (lv' := [_, _]) dX11_text_29 (by decide) rfl rfl ?_
  generalize hmB : sI (sI (sI m' 215 4 (nI 0)) 215 22 (nI 1)) 215 20 (nI n) = mB
  have gB : Fr [215] m' mB := hmB ▸ ((Fr.rf.I (by decide)).I (by decide)).I (by decide)
  have kB : Kp 215 [4, 20, 22] m' mB := hmB ▸ kp_I (kp_I (kp_I Kp.rf (by decide)) (by decide)) (by decide)
  have e4 : mB.1 215 4 = nI 0 := hmB ▸ rfl
  have e22 : mB.1 215 22 = nI 1 := hmB ▸ rfl
  have e20 : mB.1 215 20 = nI n := hmB ▸ rfl
  have hrB : ∀ i, i < 5 → mB.2.2.1 219 i = nI (rl i) := fun i hi => (congrFun (gB.a (by decide)) i).trans (hr i hi)
  have hxB : ∀ i, i < n → mB.2.2.2.1 220 i = xs i := fun i hi => (congrFun (gB.l (by decide)) i).trans (hx i hi)
  have fin : ∀ m1 u, Fr [215, 223, 224] m' m1 → Kp 215 [4, 20, 22] m' m1 → m1.1 215 4 = nI 0 → m1.1 215 22 = nI 1 → m1.1 215 20 = nI n → (∀ i, i < 5 → m1.2.2.1 224 i = nI (rl i)) → (∀ i, i < n → m1.2.2.2.1 223 i = xs i) → q_V (q_g Z) mX11_text (d+5) 0 0 81 [some (.ref (q_ad Z 215)), u] [] (q_W Z (m1)) (q_P Z fun r m2 => Dn m m2 ∧ ((s_text B).1 ≠ none → r = some (.int (-1)) ∧ MI m2 t im B L c ck us rf) ∧ ((s_text B).1 = none → r = some (.int (nI n)) ∧ MI m2 true false [] [] (n, 0, xs, rl, fun _ => 0) ck [] rf)) := by
    intro m1 u f1 k1 e4 e22 e20 hr1 hx1
    refine q_aload_n (pc' := 82) dX11_text_81 rfl rfl ?_
    refine q_iconst (pc' := 83) (v := nI 0) dX11_text_82 rfl rfl ?_
    refine h_puti (pc' := 86) dX11_text_83 fX11_245 rfl rfl rfl rfl rfl ?_
    refine q_aload_n (pc' := 87) dX11_text_86 rfl rfl ?_
    refine q_iconst (pc' := 88) (v := nI 0) dX11_text_87 rfl rfl ?_
    refine h_puti (pc' := 91) dX11_text_88 fX11_248 rfl rfl rfl rfl rfl ?_
    refine q_aload_n (pc' := 92) dX11_text_91 rfl rfl ?_
    refine q_iconst (pc' := 93) (v := nI 0) dX11_text_92 rfl rfl ?_
    refine h_puti (pc' := 96) dX11_text_93 fX11_251 rfl rfl rfl rfl rfl ?_
    refine q_aload_n (pc' := 97) dX11_text_96 rfl rfl ?_
    refine q_iconst (pc' := 98) (v := nI 0) dX11_text_97 rfl rfl ?_
    refine h_puti (pc' := 101) dX11_text_98 fX11_254 rfl rfl (rfl) rfl rfl ?_
    generalize hm9 : sI (sI (sI (sI m1 215 21 (nI 0)) 215 48 (nI 0)) 215 41 (nI 0)) 215 55 (nI 0) = m9
    have g9 : Fr [215] m1 m9 := hm9 ▸ (((Fr.rf.I (by decide)).I (by decide)).I (by decide)).I (by decide)
    have k9 : Kp 215 [21, 41, 48, 55] m1 m9 := hm9 ▸ kp_I (kp_I (kp_I (kp_I Kp.rf (by decide)) (by decide)) (by decide)) (by decide)
    have f9 : Fr [215, 223, 224] m' m9 := f1.trans (g9.mono (by decide))
    have e209 := (k9 20 (by decide)).trans e20
    refine q_aload_n (pc' := 102) dX11_text_101 rfl rfl ?_
    refine h_getiE (pc' := 105) dX11_text_102 fX11_242 rfl rfl (e209) rfl ?_
    refine q_iret dX11_text_105 rfl rfl ⟨_, rfl, ?_⟩
    refine ⟨u1.tr (f9.dnn (by decide)), fun z => absurd hno z, fun _ => ⟨rfl, h1.fr f9 (by decide) (by decide), ⟨(k9 4 (by decide)).trans e4, by decide, fun i hi => absurd hi (by simp), fun x hx => by cases hx⟩, (k9 22 (by decide)).trans e22, by rw [← hm9]; rfl, ⟨by rw [← hm9]; rfl, by decide, fun i hi => absurd hi (by simp)⟩, ⟨e209, by rw [← hm9]; rfl, by show n ≤ 64; omega, by show 0 ≤ 60; omega, fun i hi => (congrFun (g9.l (by decide)) i).trans (hx1 i hi), fun _ i hi => (congrFun (g9.a (by decide)) i).trans (hr1 i hi), fun i hi => absurd hi (by show ¬ i < 3 * 0; omega), hrok⟩, (fun z => by cases z), ⟨by rw [← hm9]; rfl, by decide, fun i c hc => by simp at hc⟩, fun i hi => (congrFun (f9.a (by decide)) i).trans (h9 i hi)⟩⟩
  have l2 : ∀ g j m1, j + g = n → Fr [215, 223, 224] m' m1 → Kp 215 [4, 20, 22] m' m1 → m1.1 215 4 = nI 0 → m1.1 215 22 = nI 1 → m1.1 215 20 = nI n → (∀ i, i < 5 → m1.2.2.1 224 i = nI (rl i)) → (∀ i, i < j → m1.2.2.2.1 223 i = xs i) → q_V (q_g Z) mX11_text (d+5) 0 0 55 [some (.ref (q_ad Z 215)), some (.int (nI j))] [] (q_W Z (m1)) (q_P Z fun r m2 => Dn m m2 ∧ ((s_text B).1 ≠ none → r = some (.int (-1)) ∧ MI m2 t im B L c ck us rf) ∧ ((s_text B).1 = none → r = some (.int (nI n)) ∧ MI m2 true false [] [] (n, 0, xs, rl, fun _ => 0) ck [] rf)) := by
    intro g
    induction g with
    | zero =>
      intro j m1 hj f1 k1 e4 e22 e20 hr1 hx1
      obtain rfl : j = n := by omega
      refine q_iload_n (pc' := 56) dX11_text_55 rfl rfl ?_
      refine q_aload_n (pc' := 57) dX11_text_56 rfl rfl ?_
      refine h_getiE (pc' := 60) dX11_text_57 fX11_242 rfl rfl (e20) rfl ?_
      refine q_icmp_geN (tgt := 81) (pc' := 63) dX11_text_60 (by decide) rfl (by omega) (fun c_60 => ?_) (fun c_60 => ?_)
      · exact fin m1 _ f1 k1 e4 e22 e20 hr1 hx1
      · omega
    | succ g ih =>
      intro j m1 hj f1 k1 e4 e22 e20 hr1 hx1
      refine q_iload_n (pc' := 56) dX11_text_55 rfl rfl ?_
      refine q_aload_n (pc' := 57) dX11_text_56 rfl rfl ?_
      refine h_getiE (pc' := 60) dX11_text_57 fX11_242 rfl rfl (e20) rfl ?_
      refine q_icmp_geN (tgt := 81) (pc' := 63) dX11_text_60 (by decide) rfl (by omega) (fun c_60 => ?_) (fun c_60 => ?_)
      · omega
      refine q_aload_n (pc' := 64) dX11_text_63 rfl rfl ?_
      refine h_getr (pc' := 67) dX11_text_64 fX11_33 rfl rfl rfl ?_
      refine q_iload_n (pc' := 68) dX11_text_67 rfl rfl ?_
      refine q_aload_n (pc' := 69) dX11_text_68 rfl rfl ?_
      refine h_getr (pc' := 72) dX11_text_69 fX11_23 rfl rfl rfl ?_
      refine q_iload_n (pc' := 73) dX11_text_72 rfl rfl ?_
      refine h_laldE (pc' := 74) dX11_text_73 rfl (rfl) (by omega) (by decide) ((congrFun (f1.l (by decide)) j).trans (hx j (by omega))) rfl ?_
      refine h_last (pc' := 75) dX11_text_74 rfl (rfl) (by omega) (by decide) rfl ?_
      refine q_iincN (pc' := 78) (j := 1) (lv' := [_, _]) dX11_text_75 rfl (by decide) rfl rfl ?_
      refine q_goto (pc' := 55) dX11_text_78 (by decide) ?_
      refine ih (j + 1) _ (by omega) (f1.L (by decide)) k1 e4 e22 e20 hr1 (fun i hi => ?_)
      show q_u (m1.2.2.2.1 223) j (xs j) i = _
      by_cases z : i = j
      · rw [z, q_u_s]
      · rw [q_u_n _ _ z]; exact hx1 i (by omega)
  suffices hl : ∀ g j m1, j + g = 5 → Fr [215, 223, 224] m' m1 → Kp 215 [4, 20, 22] m' m1 → m1.1 215 4 = nI 0 → m1.1 215 22 = nI 1 → m1.1 215 20 = nI n → (∀ i, i < j → m1.2.2.1 224 i = nI (rl i)) → q_V (q_g Z) mX11_text (d+5) 0 0 30 [some (.ref (q_ad Z 215)), some (.int (nI j))] [] (q_W Z (m1)) (q_P Z fun r m2 => Dn m m2 ∧ ((s_text B).1 ≠ none → r = some (.int (-1)) ∧ MI m2 t im B L c ck us rf) ∧ ((s_text B).1 = none → r = some (.int (nI n)) ∧ MI m2 true false [] [] (n, 0, xs, rl, fun _ => 0) ck [] rf)) from hl 5 0 mB rfl (gB.mono (by decide)) kB e4 e22 e20 (fun i hi => absurd hi (by omega))
  intro g
  induction g with
  | zero =>
    intro j m1 hj f1 k1 e4 e22 e20 hr1
    obtain rfl : j = 5 := by omega
    refine q_iload_n (pc' := 31) dX11_text_30 rfl rfl ?_
    refine q_iconst (pc' := 32) (v := nI 5) dX11_text_31 rfl rfl ?_
    refine q_icmp_geN (tgt := 53) (pc' := 35) dX11_text_32 (by decide) rfl (by omega) (fun c_32 => ?_) (fun c_32 => ?_)
    rotate_left
    · omega
    refine q_iconst (pc' := 54) (v := nI 0) dX11_text_53 rfl rfl ?_
    refine q_istore_n (pc' := 55) (lv' := [_, _]) dX11_text_54 (by decide) rfl rfl ?_
    exact l2 n 0 m1 (by omega) f1 k1 e4 e22 e20 hr1 (fun i hi => absurd hi (by omega))
  | succ g ih =>
    intro j m1 hj f1 k1 e4 e22 e20 hr1
    refine q_iload_n (pc' := 31) dX11_text_30 rfl rfl ?_
    refine q_iconst (pc' := 32) (v := nI 5) dX11_text_31 rfl rfl ?_
    refine q_icmp_geN (tgt := 53) (pc' := 35) dX11_text_32 (by decide) rfl (by omega) (fun c_32 => ?_) (fun c_32 => ?_)
    · omega
    refine q_aload_n (pc' := 36) dX11_text_35 rfl rfl ?_
    refine h_getr (pc' := 39) dX11_text_36 fX11_36 rfl rfl rfl ?_
    refine q_iload_n (pc' := 40) dX11_text_39 rfl rfl ?_
    refine q_aload_n (pc' := 41) dX11_text_40 rfl rfl ?_
    refine h_getr (pc' := 44) dX11_text_41 fX11_20 rfl rfl rfl ?_
    refine q_iload_n (pc' := 45) dX11_text_44 rfl rfl ?_
    refine h_ialdE (pc' := 46) dX11_text_45 rfl (rfl) (by omega) (by decide) ((congrFun (f1.a (by decide)) j).trans (hr j (by omega))) rfl ?_
    refine h_iast (pc' := 47) dX11_text_46 rfl (rfl) (by omega) (by decide) rfl ?_
    refine q_iincN (pc' := 50) (j := 1) (lv' := [_, _]) dX11_text_47 rfl (by decide) rfl rfl ?_
    refine q_goto (pc' := 30) dX11_text_50 (by decide) ?_
    refine ih (j + 1) _ (by omega) (f1.A (by decide)) k1 e4 e22 e20 (fun i hi => ?_)
    show q_u (m1.2.2.1 224) j (nI (rl j)) i = _
    by_cases z : i = j
    · rw [z, q_u_s]
    · rw [q_u_n _ _ z]; exact hr1 i (by omega)
