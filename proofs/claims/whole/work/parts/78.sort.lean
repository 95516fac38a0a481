/-! ===== a stable sort by how often and a choice of the most common, the same ===== -/
def Fo (ps : Nat → Int32) (j : Nat) : Prop := ∀ l, l < j → ps l ≠ ps j
theorem fo_find {ps : Nat → Int32} {c J : Nat} (hJ : J < c) (e : ps J = ps c) (h : Fo ps J) : s_find (fun j => decide (ps j = ps c)) c 0 = J := by
  rcases Nat.lt_trichotomy (s_find (fun j => decide (ps j = ps c)) c 0) J with q | q | q
  · have := s_find_hit (p := fun j => decide (ps j = ps c)) c 0 (by omega)
    exact absurd ((of_decide_eq_true this).trans e.symm) (h _ q)
  · exact q
  · have := s_find_lt (p := fun j => decide (ps j = ps c)) c 0 J (Nat.zero_le _) q
    exact absurd e (of_decide_eq_false this)
theorem find_fo {ps : Nat → Int32} {c : Nat} : s_find (fun j => decide (ps j = ps c)) c 0 ≤ c ∧ ps (s_find (fun j => decide (ps j = ps c)) c 0) = ps c ∧ Fo ps (s_find (fun j => decide (ps j = ps c)) c 0) := by
  have h1 := s_find_le (fun j => decide (ps j = ps c)) c 0
  have h2 : ps (s_find (fun j => decide (ps j = ps c)) c 0) = ps c := by
    rcases Nat.lt_or_ge (s_find (fun j => decide (ps j = ps c)) c 0) c with q | q
    · exact of_decide_eq_true (s_find_hit (p := fun j => decide (ps j = ps c)) c 0 (by omega))
    · rw [show s_find (fun j => decide (ps j = ps c)) c 0 = c by omega]
  refine ⟨by omega, h2, fun l hl => ?_⟩
  rw [h2]
  exact of_decide_eq_false (s_find_lt (p := fun j => decide (ps j = ps c)) c 0 l (Nat.zero_le _) hl)
theorem often_s {ps : Nat → Int32} {c j : Nat} (h : j < c) : s_often ps (c + 1) j = s_often ps c j + (if s_find (fun j => decide (ps j = ps c)) c 0 = j then 1 else 0) := by
  show q_u (q_u (s_often ps c) c 0) (s_find (fun j => decide (ps j = ps c)) c 0) (q_u (s_often ps c) c 0 (s_find (fun j => decide (ps j = ps c)) c 0) + 1) j = _
  generalize s_find (fun j => decide (ps j = ps c)) c 0 = J
  by_cases z : J = j
  · subst z; rw [q_u_s, q_u_n _ _ (by omega), if_pos rfl]
  · rw [q_u_n _ _ (fun y => z y.symm), q_u_n _ _ (by omega), if_neg z]; rfl
theorem often_c {ps : Nat → Int32} {c : Nat} : s_often ps (c + 1) c = if s_find (fun j => decide (ps j = ps c)) c 0 = c then 1 else 0 := by
  show q_u (q_u (s_often ps c) c 0) (s_find (fun j => decide (ps j = ps c)) c 0) (q_u (s_often ps c) c 0 (s_find (fun j => decide (ps j = ps c)) c 0) + 1) c = _
  generalize s_find (fun j => decide (ps j = ps c)) c 0 = J
  by_cases z : J = c
  · subst z; rw [q_u_s, q_u_s, if_pos rfl]
  · rw [q_u_n _ _ (fun y => z y.symm), q_u_s, if_neg z]
theorem often_fo {ps : Nat → Int32} : ∀ c j, j < c → (0 < s_often ps c j ↔ Fo ps j)
  | 0, j, h => absurd h (by omega)
  | c + 1, j, h => by
    obtain ⟨h1, h2, h3⟩ := find_fo (ps := ps) (c := c)
    by_cases z : j = c
    · subst z
      rw [often_c]
      split
      · rename_i y
        rw [y] at h3
        exact ⟨fun _ => h3, fun _ => by decide⟩
      · rename_i y
        exact ⟨fun w => absurd w (by decide), fun w => absurd h2 (w _ (by omega))⟩
    · have ih := often_fo (ps := ps) c j (by omega)
      rw [often_s (by omega)]
      split
      · rename_i y
        rw [y] at h3
        exact ⟨fun _ => h3, fun _ => by omega⟩
      · exact ih
/-- the first ones of each PART, in their order -/
def En (ps : Nat → Int32) (c a : Nat) (ix : Nat → Nat) : Prop := a ≤ c ∧ (∀ t, t < a → ix t < c ∧ Fo ps (ix t)) ∧ (∀ t u, t < u → u < a → ix t < ix u) ∧ ∀ j, j < c → Fo ps j → ∃ t, t < a ∧ ix t = j
/-- sorted: the most first, of several the first -/
def Srt (F : Nat → Nat) (k : Nat) (sg : Nat → Nat) : Prop := (∀ s, s < k → sg s < k) ∧ (∀ t, t < k → ∃ s, s < k ∧ sg s = t) ∧ ∀ s u, s < u → u < k → F (sg u) < F (sg s) ∨ (F (sg u) = F (sg s) ∧ sg s < sg u)
theorem srt_1 {F : Nat → Nat} : Srt F 1 (fun s => s) := ⟨fun s h => h, fun t h => ⟨t, h, rfl⟩, fun s u h1 h2 => by omega⟩
theorem srt_ge {F : Nat → Nat} {k : Nat} {sg : Nat → Nat} (h : Srt F k sg) {s u : Nat} (hs : s ≤ u) (hu : u < k) : F (sg u) ≤ F (sg s) := by
  rcases Nat.eq_or_lt_of_le hs with q | q
  · rw [q]; exact Nat.le_refl _
  · rcases h.2.2 s u q hu with w | w <;> omega
theorem srt_ins {F : Nat → Nat} {k j : Nat} {sg : Nat → Nat} (h : Srt F k sg) (hj : j ≤ k) (h1 : j = 0 ∨ F k ≤ F (sg (j - 1))) (h2 : ∀ s, j ≤ s → s < k → F (sg s) < F k) : Srt F (k + 1) (s_ins j sg k) := by
  refine ⟨fun s hs => ?_, fun t ht => ?_, fun s u hsu hu => ?_⟩
  · rcases Nat.lt_trichotomy s j with q | q | q
    · rw [s_ins_lt q]; have := h.1 s (by omega); omega
    · rw [q, s_ins_eq]; omega
    · rw [s_ins_gt q]; have := h.1 (s - 1) (by omega); omega
  · by_cases z : t = k
    · exact ⟨j, by omega, by rw [s_ins_eq, z]⟩
    · obtain ⟨s, a, b⟩ := h.2.1 t (by omega)
      by_cases y : s < j
      · exact ⟨s, by omega, by rw [s_ins_lt y]; exact b⟩
      · exact ⟨s + 1, by omega, by rw [s_ins_gt (by omega), Nat.add_sub_cancel]; exact b⟩
  · rcases Nat.lt_trichotomy u j with q | q | q
    · rw [s_ins_lt q, s_ins_lt (by omega)]
      exact h.2.2 s u hsu (by omega)
    · subst q
      rw [s_ins_eq, s_ins_lt hsu]
      have g1 : F (sg (u - 1)) ≤ F (sg s) := srt_ge h (by omega) (by omega)
      have g2 := h.1 s (by omega)
      rcases h1 with w | w <;> omega
    · rw [s_ins_gt q]
      rcases Nat.lt_trichotomy s j with r | r | r
      · rw [s_ins_lt r]
        exact h.2.2 s (u - 1) (by omega) (by omega)
      · subst r
        rw [s_ins_eq]
        exact Or.inl (h2 (u - 1) (by omega) (by omega))
      · rw [s_ins_gt r]
        exact h.2.2 (s - 1) (u - 1) (by omega) (by omega)
theorem mo_is {g : Nat → Nat} {i : Nat} (h0 : 0 < g i) : ∀ c, (∀ l, l < c → l ≠ i → g l < g i ∨ (g l = g i ∧ i < l)) → (c ≤ i → (s_mo g c).2 < g i) ∧ (i < c → s_mo g c = (some i, g i))
  | 0, _ => ⟨fun _ => h0, fun h => absurd h (by omega)⟩
  | c + 1, h => by
    obtain ⟨ih1, ih2⟩ := mo_is h0 c (fun l hl => h l (by omega))
    constructor
    · intro hc
      have h1 := ih1 (by omega)
      have h2 := h c (by omega) (by omega)
      unfold s_mo
      split
      · show g c < g i; omega
      · exact h1
    · intro hc
      rcases Nat.eq_or_lt_of_le (Nat.le_of_lt_succ hc) with q | q
      · subst q
        have h1 := ih1 (Nat.le_refl _)
        unfold s_mo
        rw [if_pos h1]
      · have e := ih2 q
        have h2 := h c (by omega) (by omega)
        unfold s_mo
        rw [e, if_neg (by show ¬ g i < g c; omega)]
theorem mo_none {g : Nat → Nat} : ∀ c, (∀ i, i < c → g i = 0) → s_mo g c = (none, 0)
  | 0, _ => rfl
  | c + 1, h => by
    unfold s_mo
    rw [mo_none c (fun i hi => h i (by omega)), if_neg (by rw [h c (by omega)]; exact Nat.lt_irrefl 0)]
theorem ch_sort {ps : Nat → Int32} {c a : Nat} {ix sg : Nat → Nat} (hE : En ps c a ix) (hS : Srt (fun t => s_often ps c (ix t)) a sg) : ∀ j, (s_ch ps c (s_often ps c) j).1 = (if j < a then j else a) ∧ (∀ t, t < (s_ch ps c (s_often ps c) j).1 → (s_ch ps c (s_often ps c) j).2.1 (ix (sg t)) = 0) ∧ (∀ i, i < c → (∀ t, t < (s_ch ps c (s_often ps c) j).1 → ix (sg t) ≠ i) → (s_ch ps c (s_often ps c) j).2.1 i = s_often ps c i) ∧ ∀ t, t < (s_ch ps c (s_often ps c) j).1 → (s_ch ps c (s_often ps c) j).2.2 t = ps (ix (sg t))
  | 0 => by
    refine ⟨?_, fun t h => absurd h (by show ¬ t < 0; omega), fun i hi h => rfl, fun t h => absurd h (by show ¬ t < 0; omega)⟩
    show 0 = _
    split <;> omega
  | j + 1 => by
    obtain ⟨h1, h2, h3, h4⟩ := ch_sort hE hS j
    obtain ⟨e0, e1, e2, e3⟩ := hE
    obtain ⟨s1, s2, s3⟩ := hS
    have inj : ∀ t u, t < a → u < a → ix t = ix u → t = u := fun t u ht hu e => by
      rcases Nat.lt_trichotomy t u with q | q | q
      · have := e2 t u q hu; omega
      · exact q
      · have := e2 u t q ht; omega
    have all : ∀ i, i < c → 0 < s_often ps c i → ∃ s, s < a ∧ ix (sg s) = i := fun i hi hp => by
      obtain ⟨t, ht, e⟩ := e3 i hi ((often_fo c i hi).mp hp)
      obtain ⟨s, hs, e5⟩ := s2 t ht
      exact ⟨s, hs, by rw [e5]; exact e⟩
    rw [show s_ch ps c (s_often ps c) (j + 1) = match (s_mo (s_ch ps c (s_often ps c) j).2.1 c).1 with
      | none => s_ch ps c (s_often ps c) j
      | some i => ((s_ch ps c (s_often ps c) j).1 + 1, q_u (s_ch ps c (s_often ps c) j).2.1 i 0, q_u (s_ch ps c (s_often ps c) j).2.2 (s_ch ps c (s_often ps c) j).1 (ps i)) from rfl]
    generalize s_ch ps c (s_often ps c) j = S at h1 h2 h3 h4 ⊢
    by_cases hj : j < a
    · rw [if_pos hj] at h1
      have hne : ∀ t, t < j → ix (sg t) ≠ ix (sg j) := fun t ht e => by
        have e := inj _ _ (s1 t (by omega)) (s1 j hj) e
        rcases s3 t j ht hj with w | w
        · rw [e] at w; exact absurd w (Nat.lt_irrefl _)
        · omega
      have hic := (e1 _ (s1 j hj)).1
      have hg : S.2.1 (ix (sg j)) = s_often ps c (ix (sg j)) := h3 _ hic (fun t ht => hne t (by omega))
      have hpos : 0 < S.2.1 (ix (sg j)) := by rw [hg]; exact (often_fo c _ hic).mpr (e1 _ (s1 j hj)).2
      have hm := (mo_is (g := S.2.1) (i := ix (sg j)) hpos c (fun l hl hli => by
        rcases Nat.eq_zero_or_pos (S.2.1 l) with q | q
        · left; omega
        · have n : ∀ t, t < S.1 → ix (sg t) ≠ l := fun t ht e => by rw [← e, h2 t ht] at q; exact absurd q (by decide)
          have el := h3 l hl n
          obtain ⟨s, hs, e5⟩ := all l hl (by omega)
          have hsj : j < s := by
            rcases Nat.lt_trichotomy s j with w | w | w
            · exact absurd e5 (n s (by omega))
            · rw [w] at e5; exact absurd e5.symm hli
            · exact w
          rw [el, hg, ← e5]
          rcases s3 j s hsj hs with w | w
          · exact Or.inl w
          · exact Or.inr ⟨w.1, e2 _ _ w.2 (s1 s hs)⟩)).2 hic
      rw [hm]
      show S.1 + 1 = _ ∧ (∀ t, t < S.1 + 1 → q_u S.2.1 (ix (sg j)) 0 (ix (sg t)) = 0) ∧ (∀ i, i < c → (∀ t, t < S.1 + 1 → ix (sg t) ≠ i) → q_u S.2.1 (ix (sg j)) 0 i = s_often ps c i) ∧ ∀ t, t < S.1 + 1 → q_u S.2.2 S.1 (ps (ix (sg j))) t = ps (ix (sg t))
      refine ⟨by rw [h1]; split <;> omega, fun t ht => ?_, fun i hi hn => ?_, fun t ht => ?_⟩
      · by_cases z : ix (sg t) = ix (sg j)
        · rw [z, q_u_s]
        · rw [q_u_n _ _ z]
          exact h2 t (by
            rcases Nat.eq_or_lt_of_le (Nat.le_of_lt_succ ht) with w | w
            · rw [w, h1] at z; exact absurd rfl z
            · exact w)
      · rw [q_u_n _ _ (fun z => hn j (by omega) z.symm)]
        exact h3 i hi (fun t ht => hn t (by omega))
      · by_cases z : t = S.1
        · rw [z, q_u_s, h1]
        · rw [q_u_n _ _ z]
          exact h4 t (by omega)
    · rw [if_neg hj] at h1
      have hm := mo_none (g := S.2.1) c (fun i hi => by
        rcases Nat.eq_zero_or_pos (S.2.1 i) with q | q
        · exact q
        · have n : ∀ t, t < S.1 → ix (sg t) ≠ i := fun t ht e => by rw [← e, h2 t ht] at q; exact absurd q (by decide)
          have el := h3 i hi n
          obtain ⟨s, hs, e5⟩ := all i hi (by omega)
          exact absurd e5 (n s (by omega)))
      rw [hm]
      exact ⟨by rw [h1, if_neg (by omega)], h2, h3, h4⟩
