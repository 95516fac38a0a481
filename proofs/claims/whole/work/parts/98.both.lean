/-! ===== class and reference side by side ===== -/
theorem Up.f {m m2 : q_Mm} (u : Up m m2) : Fr (List.range 215) m m2 := fun p hp => u p (by
  rw [List.mem_range] at hp
  omega)
theorem Dn.f {m m2 : q_Mm} (u : Dn m m2) : Fr (List.range' 215 27) m m2 := fun p hp => u p (by
  rw [List.mem_range'_1] at hp
  omega)
theorem MI.lo {S : List Nat} {m m2 : q_Mm} {t im : Bool} {B L : List Nat} {c ck : q_Cs} {us : List q_Cs} {rf : Nat → Int32} (h : MI m t im B L c ck us rf) (f : Fr S m m2) (hS : ∀ p ∈ S, p < 215 ∨ 242 ≤ p) : MI m2 t im B L c ck us rf := by
  have n : ∀ p, 215 ≤ p ∧ p < 242 → p ∉ S := fun p hp q => by
    have := hS p q
    omega
  have kk := congrFun (f.i (n 215 (by decide)))
  obtain ⟨h1, h2, h3, h4, h5, h6, h7, h8, h9⟩ := h
  exact ⟨h1.fr f (n _ (by decide)) (n _ (by decide)), h2.fr f (kk _) (n _ (by decide)), (kk _).trans h3, (kk _).trans h4, h5.fr f (kk _) (n _ (by decide)), h6.fr f (kk _) (kk _) (n _ (by decide)) (n _ (by decide)) (n _ (by decide)), fun z => (h7 z).fr f (kk _) (kk _) (n _ (by decide)) (n _ (by decide)) (n _ (by decide)), h8.fr f (kk _) (n _ (by decide)) (n _ (by decide)) (n _ (by decide)) (n _ (by decide)) (n _ (by decide)), fun i hi => (congrFun (f.a (n _ (by decide))) i).trans (h9 i hi)⟩
theorem MI.up {m m2 : q_Mm} {t im : Bool} {B L : List Nat} {c ck : q_Cs} {us : List q_Cs} {rf : Nat → Int32} (h : MI m t im B L c ck us rf) (u : Up m m2) : MI m2 t im B L c ck us rf := h.lo u.f (fun p hp => by
  rw [List.mem_range] at hp
  omega)
theorem CI.hi {S : List Nat} {m m2 : q_Mm} {t im : Bool} {B L : List Nat} {c ck : q_Cs} {us : List q_Cs} {rf : Nat → Int32} (h : CI m t im B L c ck us rf) (f : Fr S m m2) (hS : ∀ p ∈ S, 215 ≤ p) : CI m2 t im B L c ck us rf := by
  have n : ∀ p, p < 215 → p ∉ S := fun p hp q => by
    have := hS p q
    omega
  have k0 := congrFun (f.i (n 0 (by decide)))
  obtain ⟨⟨h1, h2, h3, h4, h5, h6, h7⟩, st, hc⟩ := h
  exact ⟨⟨(k0 14).trans h1, (k0 15).trans h2, h3.fr f (n _ (by decide)) (n _ (by decide)), h4.fr f (n _ (by decide)) (n _ (by decide)) (n _ (by decide)), fun z => (h5 z).fr f (n _ (by decide)) (n _ (by decide)) (n _ (by decide)) (n _ (by decide)), h6.fr f (fun p hp => by
    have := hS p hp
    omega), fun i hi => (congrFun (f.a (n _ (by decide))) i).trans (h7 i hi)⟩, st, hc.fr f (Kp.fr f (n _ (by decide))) (fun p hp => n p (by simp at hp; omega))⟩
theorem CI.dn {m m2 : q_Mm} {t im : Bool} {B L : List Nat} {c ck : q_Cs} {us : List q_Cs} {rf : Nat → Int32} (h : CI m t im B L c ck us rf) (u : Dn m m2) : CI m2 t im B L c ck us rf := h.hi u.f (fun p hp => by
  rw [List.mem_range'_1] at hp
  omega)
theorem CI.fd {S : List Nat} {m m2 : q_Mm} {t im : Bool} {B B' L : List Nat} {c ck : q_Cs} {us : List q_Cs} {rf : Nat → Int32} (h : CI m t im B L c ck us rf) (f : Fr S m m2) (O : Oct m2 6 B') (hS : ∀ p ∈ S, p = 6 ∨ p = 7) : CI m2 t im B' L c ck us rf ∧ Up m m2 := by
  have n : ∀ p, ¬ (p = 6 ∨ p = 7) → p ∉ S := fun p hp q => hp (hS p q)
  have k0 := congrFun (f.i (n 0 (by decide)))
  obtain ⟨⟨h1, h2, h3, h4, h5, h6, h7⟩, st, hc⟩ := h
  exact ⟨⟨⟨(k0 14).trans h1, (k0 15).trans h2, O, h4.fr f (n _ (by decide)) (n _ (by decide)) (n _ (by decide)), fun z => (h5 z).fr f (n _ (by decide)) (n _ (by decide)) (n _ (by decide)) (n _ (by decide)), h6.fr f (fun p hp => by
    have := hS p hp
    omega), fun i hi => (congrFun (f.a (n _ (by decide))) i).trans (h7 i hi)⟩, st, hc.fr f (Kp.fr f (n _ (by decide))) (fun p hp => n p (by simp at hp; omega))⟩, f.upp (fun p hp => by
    have := hS p hp
    omega)⟩
theorem CI.wr {m m2 : q_Mm} {t im : Bool} {B L L' : List Nat} {c ck : q_Cs} {us : List q_Cs} {rf : Nat → Int32} (h : CI m t im B L c ck us rf) (hs : ∃ st2, Cls m2 st2 c.1 c.2.1 c.2.2.2.1 c.2.2.1 c.2.2.2.2) (f : Fr (s_S9 ++ [212, 8, 9]) m m2) (k : Kp 0 [16] m m2) (W : Bw m2 (L', 0, 0)) : CI m2 t im B L' c ck us rf ∧ Up m m2 := by
  obtain ⟨⟨h1, h2, h3, h4, h5, h6, h7⟩, -⟩ := h
  exact ⟨⟨⟨(k 14 (by decide)).trans h1, (k 15 (by decide)).trans h2, h3.fr f (by decide) (by decide), W, fun z => (h5 z).fr f (by decide) (by decide) (by decide) (by decide), h6.fr f (by decide), fun i hi => (congrFun (f.a (by decide)) i).trans (h7 i hi)⟩, hs⟩, f.upp (by decide)⟩
theorem MI.wr {m m2 : q_Mm} {t im : Bool} {B L L' : List Nat} {c ck : q_Cs} {us : List q_Cs} {rf : Nat → Int32} (h : MI m t im B L c ck us rf) (f : Fr s_Sw m m2) (k : Kp 215 s_Jw m m2) (O : MO m2 L') : MI m2 t im B L' c ck us rf ∧ Dn m m2 := by
  obtain ⟨h1, h2, h3, h4, h5, h6, h7, h8, h9⟩ := h
  exact ⟨⟨h1.fr f (by decide) (by decide), h2.fr f (k _ (by decide)) (by decide), (k _ (by decide)).trans h3, (k _ (by decide)).trans h4, O, h6.fr f (k _ (by decide)) (k _ (by decide)) (by decide) (by decide) (by decide), fun z => (h7 z).fr f (k _ (by decide)) (k _ (by decide)) (by decide) (by decide) (by decide), h8.fr f (k _ (by decide)) (by decide) (by decide) (by decide) (by decide) (by decide), fun i hi => (congrFun (f.a (by decide)) i).trans (h9 i hi)⟩, f.dnn (by decide)⟩
theorem MI.s2 {m m2 : q_Mm} {t im : Bool} {B L : List Nat} {c ck : q_Cs} {us : List q_Cs} {rf : Nat → Int32} (h : MI m t im B L c ck us rf) (f : Fr s_Sy m m2) (k : Kp 215 s_Jx m m2) (v : t = true → MV m2 c.1 c.2.2.2.1 c.2.2.1) (w : t = false → m2 = m) : MI m2 t im B L c ck us rf ∧ Dn m m2 := by
  cases t with
  | false => rw [w rfl]; exact ⟨h, Dn.rf⟩
  | true =>
    obtain ⟨v1, v2, v3, v4, v5⟩ := v rfl
    obtain ⟨h1, h2, h3, h4, h5, h6, h7, h8, h9⟩ := h
    exact ⟨⟨h1.fr f (by decide) (by decide), h2.fr f (k _ (by decide)) (by decide), (k _ (by decide)).trans h3, (k _ (by decide)).trans h4, h5.fr f (k _ (by decide)) (by decide), ⟨v1, (k _ (by decide)).trans h6.2.1, v2, h6.2.2.2.1, v3, fun _ => v4, fun i hi => (congrFun (f.a (by decide)) i).trans (h6.2.2.2.2.2.2.1 i hi), v5⟩, fun z => (h7 z).fr f (k _ (by decide)) (k _ (by decide)) (by decide) (by decide) (by decide), h8.fr f (k _ (by decide)) (by decide) (by decide) (by decide) (by decide) (by decide), fun i hi => (congrFun (f.a (by decide)) i).trans (h9 i hi)⟩, f.dnn (by decide)⟩
/-! acts: refused or done, as one state -/
def s_aA (why : Option Nat) (ans : Int32) : Int32 := match why with
  | some _ => -1
  | none => ans
def s_aX {α : Type} (why : Option Nat) (a b : α) : α := match why with
  | some _ => a
  | none => b
def s_aR (why : Option Nat) (rf : Nat → Int32) : Nat → Int32 := match why with
  | some w => s_rf rf w
  | none => rf
theorem AP.u {m2 m : q_Mm} {r : Option Value} {t im : Bool} {B B' L : List Nat} {c c' ck : q_Cs} {us : List q_Cs} {rf : Nat → Int32} {why : Option Nat} {ans : Int32} (h : AP m2 m r t im B B' L c c' ck us rf why ans) : r = some (.int (s_aA why ans)) ∧ CI m2 t im (s_aX why B B') L (s_aX why c c') ck (s_aX why us ((c :: us).take 40)) (s_aR why rf) ∧ Up m m2 := by
  obtain ⟨u, h⟩ := h
  cases why with
  | none => exact ⟨h.1, h.2, u⟩
  | some w => exact ⟨h.1, h.2, u⟩
theorem MP.u {m2 m : q_Mm} {r : Option Value} {t im : Bool} {B B' L : List Nat} {c c' ck : q_Cs} {us : List q_Cs} {rf : Nat → Int32} {why : Option Nat} {ans : Int32} (h : MP m2 m r t im B B' L c c' ck us rf why ans) : r = some (.int (s_aA why ans)) ∧ MI m2 t im (s_aX why B B') L (s_aX why c c') ck (s_aX why us ((c :: us).take 40)) (s_aR why rf) ∧ Dn m m2 := by
  obtain ⟨u, h⟩ := h
  cases why with
  | none => exact ⟨h.1, h.2, u⟩
  | some w => exact ⟨h.1, h.2, u⟩
def s_uA (us : List q_Cs) : Int32 := match us with
  | [] => -1
  | _ :: us0 => nI us0.length
def s_uC (us : List q_Cs) (c : q_Cs) : q_Cs := match us with
  | [] => c
  | c0 :: _ => c0
theorem UP.u {m2 m : q_Mm} {r : Option Value} {t im : Bool} {B L : List Nat} {c ck : q_Cs} {us : List q_Cs} {rf : Nat → Int32} (h : UP m2 m r t im B L c ck us rf) : r = some (.int (s_uA us)) ∧ CI m2 t im B L (s_uC us c) ck us.tail rf ∧ Up m m2 := by
  obtain ⟨u, h⟩ := h
  cases us with
  | nil => exact ⟨h.1, h.2, u⟩
  | cons w us => exact ⟨h.1, h.2, u⟩
theorem MU.u {m2 m : q_Mm} {r : Option Value} {t im : Bool} {B L : List Nat} {c ck : q_Cs} {us : List q_Cs} {rf : Nat → Int32} (h : MU m2 m r t im B L c ck us rf) : r = some (.int (s_uA us)) ∧ MI m2 t im B L (s_uC us c) ck us.tail rf ∧ Dn m m2 := by
  obtain ⟨u, h⟩ := h
  cases us with
  | nil => exact ⟨h.1, h.2, u⟩
  | cons w us => exact ⟨h.1, h.2, u⟩
def s_tX {α : Type} (B : List Nat) (a b : α) : α := if (s_text B).1 = none then b else a
theorem c_textU {m2 m : q_Mm} {r : Option Value} {t im : Bool} {B L : List Nat} {c ck : q_Cs} {us : List q_Cs} {rf : Nat → Int32} (h : Up m m2 ∧ ((s_text B).1 ≠ none → r = some (.int (-1)) ∧ CI m2 t im B L c ck us rf) ∧ ((s_text B).1 = none → r = some (.int (nI (s_text B).2.1)) ∧ CI m2 true false [] [] (s_tc B) ck [] rf)) : r = some (.int (s_tX B (-1) (nI (s_text B).2.1))) ∧ CI m2 (s_tX B t true) (s_tX B im false) (s_tX B B []) (s_tX B L []) (s_tX B c (s_tc B)) ck (s_tX B us []) rf ∧ Up m m2 := by
  obtain ⟨u, h1, h2⟩ := h
  unfold s_tX
  by_cases z : (s_text B).1 = none
  · rw [if_pos z, if_pos z, if_pos z, if_pos z, if_pos z, if_pos z, if_pos z]
    exact ⟨(h2 z).1, (h2 z).2, u⟩
  · rw [if_neg z, if_neg z, if_neg z, if_neg z, if_neg z, if_neg z, if_neg z]
    exact ⟨(h1 z).1, (h1 z).2, u⟩
theorem k_textU {m2 m : q_Mm} {r : Option Value} {t im : Bool} {B L : List Nat} {c ck : q_Cs} {us : List q_Cs} {rf : Nat → Int32} (h : Dn m m2 ∧ ((s_text B).1 ≠ none → r = some (.int (-1)) ∧ MI m2 t im B L c ck us rf) ∧ ((s_text B).1 = none → r = some (.int (nI (s_text B).2.1)) ∧ MI m2 true false [] [] (s_tc B) ck [] rf)) : r = some (.int (s_tX B (-1) (nI (s_text B).2.1))) ∧ MI m2 (s_tX B t true) (s_tX B im false) (s_tX B B []) (s_tX B L []) (s_tX B c (s_tc B)) ck (s_tX B us []) rf ∧ Dn m m2 := by
  obtain ⟨u, h1, h2⟩ := h
  unfold s_tX
  by_cases z : (s_text B).1 = none
  · rw [if_pos z, if_pos z, if_pos z, if_pos z, if_pos z, if_pos z, if_pos z]
    exact ⟨(h2 z).1, (h2 z).2, u⟩
  · rw [if_neg z, if_neg z, if_neg z, if_neg z, if_neg z, if_neg z, if_neg z]
    exact ⟨(h1 z).1, (h1 z).2, u⟩
theorem status_is {m : q_Mm} {t im : Bool} {B L : List Nat} {c ck : q_Cs} {us : List q_Cs} {rf : Nat → Int32} {x : Int32} (h : CI m t im B L c ck us rf) : (if 0 ≤ x.toInt ∧ x.toInt < 5 then m.2.2.1 213 (s_i x) else -1) = (if 0 ≤ x.toInt ∧ x.toInt < 5 then rf (s_i x) else -1) := by
  by_cases z : 0 ≤ x.toInt ∧ x.toInt < 5
  · rw [if_pos z, if_pos z]
    exact h.1.2.2.2.2.2.2 _ (by unfold s_i; omega)
  · rw [if_neg z, if_neg z]
/-- what holds of the memory at the head of the law's loop -/
def q_R (m : q_Mm) : Prop := ∃ t im B L c ck us rf, CI m t im B L c ck us rf ∧ MI m t im B L c ck us rf
theorem q_R.of {m1 m2 : q_Mm} {t im : Bool} {B L : List Nat} {c ck : q_Cs} {us : List q_Cs} {rf : Nat → Int32} (h : CI m1 t im B L c ck us rf) (g : MI m2 t im B L c ck us rf) (d : Dn m1 m2) : q_R m2 := ⟨t, im, B, L, c, ck, us, rf, h.dn d, g⟩
/-! ===== the law's rows ===== -/
theorem ro_4 {Z : q_Z} : (Z.2.2.2.2.1 4, FieldType.int, Z.2.2.2.2.2.1, fun j => Value.int (Z.2.2.2.2.2.2 j)) ∈ q_ro Z := by simp [q_ro]
abbrev mL (nm : String) : q_M := (RL, ⟨RL, nm, "([I)Z"⟩, cL_law, 8, some .boolean)
section LROWS
variable {Z : q_Z} {M M' : q_M} {d mc ms pc pc' : Nat} {lv : List (Option Value)} {st : List Value} {m : q_Mm} {post : Option Value → va_W → Prop}
theorem l_ld {ws : va_W} {j : Nat} {x : Int32} (hd : decode M.2.2.1 pc = .ok (.iaload, 1)) (hx : x = nI j) (hj : j < Z.2.2.2.2.2.1) (hL : Z.2.2.2.2.2.1 ≤ 3072) (hp : pc + 1 = pc') (kk : q_V (q_g Z) M d mc ms pc' lv (.int (Z.2.2.2.2.2.2 j) :: st) ws post) : q_V (q_g Z) M d mc ms pc lv (.int x :: .ref (Z.2.2.2.2.1 4) :: st) ws post := by
  subst hx
  exact q_ti (G := q_g Z) hd ro_4 (vp_in_nI hj (by omega)) (by rw [nI_clamp (by omega)]) hp kk
theorem l_callV {P : Option Value → q_Mm → Prop} {idx n p ci : Nat} {fl : List (Nat × Nat)} {T : u_T} {N : Nat} {As st0 : List Value} {lw : List (Option Value)} (hd : decode M.2.2.1 pc = .ok (.invokevirtual idx, 3)) (hM : q_I M' n) (hlk : Cond.methodLink M.1 idx M'.2.1 ∈ tbg) (hst : st0 = As.reverse ++ .ref (q_ad Z p) :: st) (hs : q_shs[p]? = some (.inl (ci, fl))) (hci : vwCl[ci]? = some (M'.1, T, N)) (hn : As.length = n) (hlen : (lg_sl (.ref (q_ad Z p) :: As)).length ≤ M'.2.2.2.1) (hr : q_cat st ≤ 8) (hp : pc + 3 = pc') (hlw : q_args M'.2.2.2.1 (.ref (q_ad Z p) :: As) = lw)
    (hV : q_V (q_g Z) M' d 0 0 0 lw [] (q_W Z m) (q_P Z P)) (kk : ∀ (r : Option Value) (m' : q_Mm), P r m' → q_V (q_g Z) M (d + 1) mc ms pc' lv (r.toList ++ st) (q_W Z m') post) : q_V (q_g Z) M (d + 1) mc ms pc lv st0 (q_W Z m) post := by
  have h9 := q_callV (mc1 := 0) (ms1 := 0) (mc2 := mc) (ms2 := ms) hd hM hlk hst (q_W_get hs) hci hn hlen hr hp (hlw ▸ hV) (fun r ws h => by obtain ⟨m', rfl, h⟩ := h; exact kk r m' h)
  rw [Nat.zero_add, Nat.zero_add] at h9
  exact h9
end LROWS
theorem lcmp_self (v : Int64) : lg_cmp v v = 0 := by
  unfold lg_cmp
  rw [if_neg (Int64.lt_irrefl (a := v)), if_pos rfl]
