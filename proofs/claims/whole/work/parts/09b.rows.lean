/-! ===== more rows: reads with what is read, comparisons of longs ===== -/
section HROWS4
variable {Z : q_Z} {M : q_M} {d pc pc' : Nat} {lv : List (Option Value)} {st : List Value} {m : q_Mm} {post : Option Value → va_W → Prop}
theorem h_ialdE {p k len : Nat} {i v : Int32} (hd : decode M.2.2.1 pc = .ok (.iaload, 1)) (hs : q_shs[p]? = some (.inr (0, len))) (hi : i = nI k) (hk : k < len) (hl : len < 10000) (hv : m.2.2.1 p k = v) (hp : pc + 1 = pc') (kk : q_V (q_g Z) M d 0 0 pc' lv (.int v :: st) (q_W Z m) post) : q_V (q_g Z) M d 0 0 pc lv (.int i :: .ref (q_ad Z p) :: st) (q_W Z m) post := h_iald hd hs hi hk hl hp (by rw [hv]; exact kk)
theorem h_zaldE {p k len : Nat} {i v : Int32} (hd : decode M.2.2.1 pc = .ok (.baload, 1)) (hs : q_shs[p]? = some (.inr (3, len))) (hi : i = nI k) (hk : k < len) (hl : len < 10000) (hv : m.2.2.1 p k = v) (hp : pc + 1 = pc') (kk : q_V (q_g Z) M d 0 0 pc' lv (.int v :: st) (q_W Z m) post) : q_V (q_g Z) M d 0 0 pc lv (.int i :: .ref (q_ad Z p) :: st) (q_W Z m) post := h_zald hd hs hi hk hl hp (by rw [hv]; exact kk)
theorem h_laldE {p k len : Nat} {i : Int32} {v : Int64} (hd : decode M.2.2.1 pc = .ok (.laload, 1)) (hs : q_shs[p]? = some (.inr (1, len))) (hi : i = nI k) (hk : k < len) (hl : len < 10000) (hv : m.2.2.2.1 p k = v) (hp : pc + 1 = pc') (kk : q_V (q_g Z) M d 0 0 pc' lv (.long v :: st) (q_W Z m) post) : q_V (q_g Z) M d 0 0 pc lv (.int i :: .ref (q_ad Z p) :: st) (q_W Z m) post := h_lald hd hs hi hk hl hp (by rw [hv]; exact kk)
theorem h_daldE {p k len : Nat} {i : Int32} {v : UInt64} (hd : decode M.2.2.1 pc = .ok (.daload, 1)) (hs : q_shs[p]? = some (.inr (2, len))) (hi : i = nI k) (hk : k < len) (hl : len < 10000) (hv : m.2.2.2.2 p k = v) (hp : pc + 1 = pc') (kk : q_V (q_g Z) M d 0 0 pc' lv (.double v :: st) (q_W Z m) post) : q_V (q_g Z) M d 0 0 pc lv (.int i :: .ref (q_ad Z p) :: st) (q_W Z m) post := h_dald hd hs hi hk hl hp (by rw [hv]; exact kk)
end HROWS4
section LROWS
variable {G : q_G} {M : q_M} {d mc ms pc pc' tgt : Nat} {lv : List (Option Value)} {st : List Value} {ws : va_W} {post : Option Value → va_W → Prop} {x y : Int64} {off : Int}
theorem z_cmp (x y : Int64) : (lg_cmp x y = 0 ↔ x = y) ∧ (lg_cmp x y < 0 ↔ x < y) ∧ (0 < lg_cmp x y ↔ y < x) := by
  unfold lg_cmp
  by_cases h1 : x < y
  · have h2 : ¬ x = y := fun e => by rw [e] at h1; exact Int64.lt_irrefl h1
    have h3 : ¬ y < x := fun e => Int64.lt_irrefl (Int64.lt_trans h1 e)
    simp [h1, h2, h3]
  · by_cases h2 : x = y
    · subst h2
      simp [Int64.lt_irrefl]
    · have h3 : y < x := by
        rcases Int64.lt_or_eq_of_le (Int64.not_lt.mp h1) with q | q
        · exact q
        · exact absurd q.symm h2
      simp [h1, h2, h3]
theorem q_if_eqL (hd : decode M.2.2.1 pc = .ok (.ifCond .eq off, 3)) (ht : (pc : Int) + off = (tgt : Int)) (hp : pc + 3 = pc') (kt : x = y → q_V G M d mc ms tgt lv st ws post) (kf : ¬ x = y → q_V G M d mc ms pc' lv st ws post) : q_V G M d mc ms pc lv (.int (lg_cmp x y) :: st) ws post := q_if_eq hd ht hp (fun c => kt ((z_cmp x y).1.mp c)) (fun c => kf (fun e => c ((z_cmp x y).1.mpr e)))
theorem q_if_neL (hd : decode M.2.2.1 pc = .ok (.ifCond .ne off, 3)) (ht : (pc : Int) + off = (tgt : Int)) (hp : pc + 3 = pc') (kt : ¬ x = y → q_V G M d mc ms tgt lv st ws post) (kf : x = y → q_V G M d mc ms pc' lv st ws post) : q_V G M d mc ms pc lv (.int (lg_cmp x y) :: st) ws post := q_if_ne hd ht hp (fun c => kt (fun e => c ((z_cmp x y).1.mpr e))) (fun c => kf ((z_cmp x y).1.mp c))
theorem q_if_ltL (hd : decode M.2.2.1 pc = .ok (.ifCond .lt off, 3)) (ht : (pc : Int) + off = (tgt : Int)) (hp : pc + 3 = pc') (kt : x < y → q_V G M d mc ms tgt lv st ws post) (kf : ¬ x < y → q_V G M d mc ms pc' lv st ws post) : q_V G M d mc ms pc lv (.int (lg_cmp x y) :: st) ws post := q_if_lt hd ht hp (fun c => kt ((z_cmp x y).2.1.mp c)) (fun c => kf (fun e => c ((z_cmp x y).2.1.mpr e)))
theorem q_if_geL (hd : decode M.2.2.1 pc = .ok (.ifCond .ge off, 3)) (ht : (pc : Int) + off = (tgt : Int)) (hp : pc + 3 = pc') (kt : ¬ x < y → q_V G M d mc ms tgt lv st ws post) (kf : x < y → q_V G M d mc ms pc' lv st ws post) : q_V G M d mc ms pc lv (.int (lg_cmp x y) :: st) ws post := q_if_ge hd ht hp (fun c => kt (fun e => Int32.not_lt.mpr c ((z_cmp x y).2.1.mpr e))) (fun c => kf ((z_cmp x y).2.1.mp (Int32.not_le.mp c)))
theorem q_if_gtL (hd : decode M.2.2.1 pc = .ok (.ifCond .gt off, 3)) (ht : (pc : Int) + off = (tgt : Int)) (hp : pc + 3 = pc') (kt : y < x → q_V G M d mc ms tgt lv st ws post) (kf : ¬ y < x → q_V G M d mc ms pc' lv st ws post) : q_V G M d mc ms pc lv (.int (lg_cmp x y) :: st) ws post := q_if_gt hd ht hp (fun c => kt ((z_cmp x y).2.2.mp c)) (fun c => kf (fun e => c ((z_cmp x y).2.2.mpr e)))
theorem q_if_leL (hd : decode M.2.2.1 pc = .ok (.ifCond .le off, 3)) (ht : (pc : Int) + off = (tgt : Int)) (hp : pc + 3 = pc') (kt : ¬ y < x → q_V G M d mc ms tgt lv st ws post) (kf : y < x → q_V G M d mc ms pc' lv st ws post) : q_V G M d mc ms pc lv (.int (lg_cmp x y) :: st) ws post := q_if_le hd ht hp (fun c => kt (fun e => Int32.not_lt.mpr c ((z_cmp x y).2.2.mpr e))) (fun c => kf ((z_cmp x y).2.2.mp (Int32.not_le.mp c)))
end LROWS
/-! ===== numbers that both sides speak of ===== -/
def s_find (p : Nat → Bool) : Nat → Nat → Nat
  | 0, i => i
  | k + 1, i => if p i = true then i else s_find p k (i + 1)
def s_cnt (p : Nat → Bool) : Nat → Nat
  | 0 => 0
  | k + 1 => s_cnt p k + (if p k = true then 1 else 0)
theorem s_cnt_le (p : Nat → Bool) : ∀ n, s_cnt p n ≤ n
  | 0 => Nat.le_refl _
  | n + 1 => by
    have := s_cnt_le p n
    unfold s_cnt
    split <;> omega
theorem s_cnt_t {p : Nat → Bool} {n : Nat} (h : p n = true) : s_cnt p (n + 1) = s_cnt p n + 1 := by simp [s_cnt, h]
theorem s_cnt_f {p : Nat → Bool} {n : Nat} (h : p n = false) : s_cnt p (n + 1) = s_cnt p n := by simp [s_cnt, h]
def s_inf : Int64 := 9218868437227405312
def s_frac : Int64 := 4503599627370495
def s_minus : Int64 := -9223372036854775808
def s_fin (v : Int64) : Bool := !decide (v &&& s_inf = s_inf)
def s_mis (v : Int64) : Bool := !s_fin v && !decide (v &&& s_frac = 0)
/-- how many binary digits -/
def s_bl (v : Int64) : Nat := s_find (fun k => decide ((v.toUInt64 >>> ((nI k).toInt64.toUInt64 &&& Int64.toUInt64 63)).toInt64 = 0)) 64 0
def s_rok (r : Nat → Nat) : Prop := (2 ≤ r 0 ∧ r 0 ≤ 16) ∧ (1 ≤ r 1 ∧ r 1 ≤ 16) ∧ r 2 ≤ 14 ∧ (4 ≤ r 3 ∧ r 3 ≤ 16) ∧ (1 ≤ r 4 ∧ r 4 ≤ 8)
/-- a Column at the place o: n VALUES xs, the RULES r, k notes nt -/
def Col (m : q_Mm) (o n k : Nat) (xs : Nat → Int64) (r : Nat → Nat) (nt : Nat → Int32) : Prop :=
  m.1 o 3 = nI n ∧ m.1 o 4 = nI k ∧ n ≤ 64 ∧ k ≤ 60 ∧ (∀ i, i < n → m.2.2.2.1 (o + 1) i = xs i) ∧ (∀ i, i < 5 → m.2.2.1 (o + 2) i = nI (r i)) ∧ (∀ i, i < 3 * k → m.2.2.1 (o + 3) i = nt i) ∧ s_rok r
/-- Octets at the place o: the bytes B -/
def Oct (m : q_Mm) (o : Nat) (B : List Nat) : Prop := m.1 o 1 = nI B.length ∧ B.length ≤ 320 ∧ (∀ i, i < B.length → m.2.2.1 (o + 1) i = nI (B.getD i 0)) ∧ ∀ x ∈ B, x < 256
