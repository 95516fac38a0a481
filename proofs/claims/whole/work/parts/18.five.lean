/-! ===== Plan, the FIVE ===== -/
def s_at (sc : Nat → Nat) (x : Nat) : Nat → Nat
  | 0 => 0
  | k + 1 => if x < sc k then s_at sc x k else k + 1
theorem s_at_le (sc : Nat → Nat) (x : Nat) : ∀ k, s_at sc x k ≤ k
  | 0 => Nat.le_refl _
  | k + 1 => by
    have := s_at_le sc x k
    unfold s_at
    split <;> omega
def s_ins (a : Nat) (f : Nat → Nat) (v i : Nat) : Nat := if i < a then f i else if i = a then v else f (i - 1)
theorem s_ins_lt {a i v : Nat} {f : Nat → Nat} (h : i < a) : s_ins a f v i = f i := if_pos h
theorem s_ins_eq {a v : Nat} {f : Nat → Nat} : s_ins a f v a = v := by unfold s_ins; rw [if_neg (Nat.lt_irrefl a), if_pos rfl]
theorem s_ins_gt {a i v : Nat} {f : Nat → Nat} (h : a < i) : s_ins a f v i = f (i - 1) := by unfold s_ins; rw [if_neg (by omega), if_neg (by omega)]
abbrev s_F := Nat × (Nat → Nat) × (Nat → Nat)
def s_r1 (p x : Nat) (q : s_F) : s_F := if 5 ≤ s_at q.2.2 x q.1 then q else (if 5 < q.1 + 1 then 5 else q.1 + 1, s_ins (s_at q.2.2 x q.1) q.2.1 p, s_ins (s_at q.2.2 x q.1) q.2.2 x)
def s_rk (f : Nat → Nat) : Nat → s_F
  | 0 => (0, fun _ => 0, fun _ => 0)
  | k + 1 => s_r1 k (f k) (s_rk f k)
/-- what is told of the FIVE -/
def Fiv (m : q_Mm) (b : Nat) (q : s_F) : Prop := m.1 b 7 = nI q.1 ∧ q.1 ≤ 5 ∧ (∀ i, i < q.1 → m.2.2.1 (b + 3) i = nI (q.2.1 i) ∧ m.2.2.1 (b + 4) i = nI (q.2.2 i)) ∧ ∀ i, i < q.1 → q.2.1 i < 120 ∧ q.2.2 i ≤ 64000
theorem Fiv.fr {S : List Nat} {m m2 : q_Mm} {b : Nat} {q : s_F} (h : Fiv m b q) (f : Fr S m m2) (h0 : m2.1 b 7 = m.1 b 7) (h3 : b + 3 ∉ S) (h4 : b + 4 ∉ S) : Fiv m2 b q := ⟨h0.trans h.1, h.2.1, fun i hi => ⟨(congrFun (f.a h3) i).trans (h.2.2.1 i hi).1, (congrFun (f.a h4) i).trans (h.2.2.1 i hi).2⟩, h.2.2.2⟩
def s_po (f fv : Nat → Nat) : Nat → Nat × Nat
  | 0 => (0, 0)
  | i + 1 => if i = 0 ∨ f (fv i) < (s_po f fv i).2 then (fv i, f (fv i)) else s_po f fv i
theorem s_po_le {f fv : Nat → Nat} : ∀ k, (∀ i, i < k → fv i < 120) → (∀ p, f p ≤ 1000) → (s_po f fv k).1 < 120 ∧ (s_po f fv k).2 ≤ 1000
  | 0, _, _ => by simp [s_po]
  | k + 1, h, g => by
    have ih := s_po_le k (fun i hi => h i (by omega)) g
    unfold s_po
    split
    · exact ⟨h k (by omega), g _⟩
    · exact ih
theorem s_score_le {n : Nat} {r : Nat → Nat} (hr : s_rok r) (hn : n ≤ 64) (ws : Nat → Nat → Int64) (p : Nat) : s_score n r ws p ≤ 64000 := by
  have h1 := s_nb_le hr hn
  have h2 := s_sum_le (f := fun b => s_sc n r ws b p) (c := 1000) (s_nb n r) (fun i _ => s_sc_le hr ws i p)
  unfold s_score
  omega
theorem s_pn_le {r : Nat → Nat} (hr : s_rok r) : s_pn (r 2 + 1) 0 ≤ 120 := by
  have h : r 2 + 1 ≤ 15 := by have := hr.2.2.1; omega
  have h2 : (r 2 + 1) * (r 2 + 1 + 1) ≤ 15 * 16 := Nat.mul_le_mul h (by omega)
  unfold s_pn
  omega
set_option maxHeartbeats 4000000 in
set_option maxRecDepth 20000 in
theorem c_rankOne_194 {Z : q_Z} {m : q_Mm} {d : Nat} {p x : Nat} {q : s_F} (hF : Fiv m 194 q) (hp : p < 120) (hx : x ≤ 64000) : q_V (q_g Z) mX8_rankOne (d+1) 0 0 0 [some (.ref (q_ad Z 194)), some (.int (nI p)), some (.int (nI x)), none, none] [] (q_W Z m) (q_P Z fun r m2 => r = none ∧ Fr [194, 197, 198] m m2 ∧ Kp 194 [7] m m2 ∧ Fiv m2 194 (s_r1 p x q)) := by
  obtain ⟨L, fv, sv, hqe⟩ : ∃ L fv sv, q = (L, fv, sv) := ⟨q.1, q.2.1, q.2.2, rfl⟩
  rw [hqe] at hF
  obtain ⟨h7, hL, hA, hB⟩ := hF
  have h7 : m.1 194 7 = nI L := h7
  have hL : L ≤ 5 := hL
  have hA : ∀ i, i < L → m.2.2.1 197 i = nI (fv i) ∧ m.2.2.1 198 i = nI (sv i) := hA
  have hB : ∀ i, i < L → fv i < 120 ∧ sv i ≤ 64000 := hB
  refine q_aload_n (pc' := 1) dX8_rankOne_0 rfl rfl ?_
  refine h_getiE (pc' := 4) dX8_rankOne_1 fX8_81 rfl rfl (h7) rfl ?_
  refine q_istore_n (pc' := 5) (lv' := [_, _, _, _, _]) dX8_rankOne_4 (by decide) rfl rfl ?_
  suffices h : ∀ k, k ≤ L → s_at sv x k = s_at sv x L → q_V (q_g Z) mX8_rankOne (d+1) 0 0 5 [some (.ref (q_ad Z 194)), some (.int (nI p)), some (.int (nI x)), some (.int (nI k)), none] [] (q_W Z (m)) (q_P Z fun r m2 => r = none ∧ Fr [194, 197, 198] m m2 ∧ Kp 194 [7] m m2 ∧ Fiv m2 194 (s_r1 p x q)) from h L (Nat.le_refl _) rfl
  have fin : ∀ a, a = s_at sv x L → q_V (q_g Z) mX8_rankOne (d+1) 0 0 27 [some (.ref (q_ad Z 194)), some (.int (nI p)), some (.int (nI x)), some (.int (nI a)), none] [] (q_W Z (m)) (q_P Z fun r m2 => r = none ∧ Fr [194, 197, 198] m m2 ∧ Kp 194 [7] m m2 ∧ Fiv m2 194 (s_r1 p x q)) := by
    intro a ha
    have haL : a ≤ L := ha ▸ s_at_le sv x L
    refine q_iload_n (pc' := 28) dX8_rankOne_27 rfl rfl ?_
    refine q_iconst (pc' := 29) (v := nI 5) dX8_rankOne_28 rfl rfl ?_
    refine q_icmp_ltN (tgt := 33) (pc' := 32) dX8_rankOne_29 (by decide) rfl (by omega) (fun c_29 => ?_) (fun c_29 => ?_)
    rotate_left
    · have e : s_r1 p x (L, fv, sv) = (L, fv, sv) := by unfold s_r1; rw [if_pos (by show 5 ≤ s_at sv x L; omega)]
      refine q_vret dX8_rankOne_32 rfl ⟨_, rfl, rfl, Fr.rf, Kp.rf, (by rw [hqe, e]; exact ⟨h7, hL, hA, hB⟩)⟩
    generalize hL' : (if 5 < L + 1 then 5 else L + 1) = L'
    have hl1 : a < L' ∧ L' ≤ 5 ∧ L' ≤ L + 1 := by rw [← hL']; split <;> omega
    have hmin : (if nI 5 < nI (L + 1) then nI 5 else nI (L + 1)) = nI L' := by
      rw [← hL']
      by_cases h : 5 < L + 1
      · rw [if_pos h, if_pos ((nI_ltI (by decide) (by omega)).mpr h)]
      · rw [if_neg h, if_neg (fun z => h ((nI_ltI (by decide) (by omega)).mp z))]
    have e : s_r1 p x (L, fv, sv) = (L', s_ins a fv p, s_ins a sv x) := by
      unfold s_r1
      rw [if_neg (by show ¬ 5 ≤ s_at sv x L; omega)]
      simp only [hL', ← ha]
    refine q_aload_n (pc' := 34) dX8_rankOne_33 rfl rfl ?_
    refine q_aload_n (pc' := 35) dX8_rankOne_34 rfl rfl ?_
    refine h_getiE (pc' := 38) dX8_rankOne_35 fX8_81 rfl rfl (h7) rfl ?_
    refine q_iconst (pc' := 39) (v := nI 1) dX8_rankOne_38 rfl rfl ?_
    refine q_iaddN (pc' := 40) dX8_rankOne_39 rfl ?_
    refine q_iconst (pc' := 41) (v := nI 5) dX8_rankOne_40 rfl rfl ?_
    refine q_mmin (pc' := 44) dX8_rankOne_41 lX8_95 mmin_s mz_i mmin_c (Nat.le_of_ble_eq_true rfl) rfl ?_
    rw [hmin]
    refine h_puti (pc' := 47) dX8_rankOne_44 fX8_81 rfl rfl rfl rfl rfl ?_
    refine q_aload_n (pc' := 48) dX8_rankOne_47 rfl rfl ?_
    refine h_getiE (pc' := 51) dX8_rankOne_48 fX8_81 rfl rfl ((show _ = nI L' from rfl)) rfl ?_
    refine q_iconst (pc' := 52) (v := nI 1) dX8_rankOne_51 rfl rfl ?_
    refine q_isubN (pc' := 53) dX8_rankOne_52 (by omega) rfl ?_
    refine q_istore (pc' := 55) (lv' := [_, _, _, _, _]) dX8_rankOne_53 (by decide) rfl rfl ?_
    suffices h : ∀ g i (m1 : q_Mm), a + g = i → i < L' → Fr [194, 197, 198] m m1 → Kp 194 [7] m m1 → m1.1 194 7 = nI L' → (∀ j, i < j → j < L' → m1.2.2.1 197 j = nI (fv (j - 1)) ∧ m1.2.2.1 198 j = nI (sv (j - 1))) → (∀ j, j ≤ i → j < L → m1.2.2.1 197 j = nI (fv j) ∧ m1.2.2.1 198 j = nI (sv j)) → q_V (q_g Z) mX8_rankOne (d+1) 0 0 55 [some (.ref (q_ad Z 194)), some (.int (nI p)), some (.int (nI x)), some (.int (nI a)), some (.int (nI i))] [] (q_W Z (m1)) (q_P Z fun r m2 => r = none ∧ Fr [194, 197, 198] m m2 ∧ Kp 194 [7] m m2 ∧ Fiv m2 194 (s_r1 p x q)) from by
      refine h (L' - 1 - a) _ _ (by omega) (by omega) (Fr.rf.I (by decide)) ?_ rfl (fun j h1 h2 => by omega) (fun j _ h2 => hA j h2)
      intro j hj
      exact q_u_n _ _ (by simpa using hj)
    intro g
    induction g with
    | zero =>
      intro i m1 hi hiL f1 k1 e7 hs ho
      obtain rfl : a = i := by omega
      refine q_iload (pc' := 57) dX8_rankOne_55 rfl rfl ?_
      refine q_iload_n (pc' := 58) dX8_rankOne_57 rfl rfl ?_
      refine q_icmp_leN (tgt := 99) (pc' := 61) dX8_rankOne_58 (by decide) rfl (by omega) (fun c_58 => ?_) (fun c_58 => ?_)
      rotate_left
      · omega
      refine q_aload_n (pc' := 100) dX8_rankOne_99 rfl rfl ?_
      refine h_getr (pc' := 103) dX8_rankOne_100 fX8_18 rfl rfl rfl ?_
      refine q_iload_n (pc' := 104) dX8_rankOne_103 rfl rfl ?_
      refine q_iload_n (pc' := 105) dX8_rankOne_104 rfl rfl ?_
      refine h_iast (pc' := 106) dX8_rankOne_105 rfl (rfl) (by omega) (by decide) rfl ?_
      refine q_aload_n (pc' := 107) dX8_rankOne_106 rfl rfl ?_
      refine h_getr (pc' := 110) dX8_rankOne_107 fX8_21 rfl rfl rfl ?_
      refine q_iload_n (pc' := 111) dX8_rankOne_110 rfl rfl ?_
      refine q_iload_n (pc' := 112) dX8_rankOne_111 rfl rfl ?_
      refine h_iast (pc' := 113) dX8_rankOne_112 rfl (rfl) (by omega) (by decide) rfl ?_
      refine q_vret dX8_rankOne_113 rfl ⟨_, rfl, rfl, (f1.A (by decide)).A (by decide), k1, ?_⟩
      rw [hqe, e]
      refine ⟨e7, hl1.2.1, fun i hi => ?_, fun i hi => ?_⟩
      · have hi : i < L' := hi
        show q_u (m1.2.2.1 197) a (nI p) i = nI (s_ins a fv p i) ∧ q_u (m1.2.2.1 198) a (nI x) i = nI (s_ins a sv x i)
        rcases Nat.lt_trichotomy i a with h | h | h
        · rw [q_u_n _ _ (by omega), q_u_n _ _ (by omega), s_ins_lt h, s_ins_lt h]
          exact ho i (by omega) (by omega)
        · rw [h, q_u_s, q_u_s, s_ins_eq, s_ins_eq]
          exact ⟨rfl, rfl⟩
        · rw [q_u_n _ _ (by omega), q_u_n _ _ (by omega), s_ins_gt h, s_ins_gt h]
          exact hs i h hi
      · have hi : i < L' := hi
        show s_ins a fv p i < 120 ∧ s_ins a sv x i ≤ 64000
        rcases Nat.lt_trichotomy i a with h | h | h
        · rw [s_ins_lt h, s_ins_lt h]
          exact hB i (by omega)
        · rw [h, s_ins_eq, s_ins_eq]
          exact ⟨hp, hx⟩
        · rw [s_ins_gt h, s_ins_gt h]
          exact hB (i - 1) (by omega)
    | succ g ih =>
      intro i m1 hi hiL f1 k1 e7 hs ho
      obtain ⟨k, rfl⟩ : ∃ k, i = k + 1 := ⟨a + g, by omega⟩
      refine q_iload (pc' := 57) dX8_rankOne_55 rfl rfl ?_
      refine q_iload_n (pc' := 58) dX8_rankOne_57 rfl rfl ?_
      refine q_icmp_leN (tgt := 99) (pc' := 61) dX8_rankOne_58 (by decide) rfl (by omega) (fun c_58 => ?_) (fun c_58 => ?_)
      · omega
      have hok := ho k (by omega) (by omega)
      refine q_aload_n (pc' := 62) dX8_rankOne_61 rfl rfl ?_
      refine h_getr (pc' := 65) dX8_rankOne_62 fX8_18 rfl rfl rfl ?_
      refine q_iload (pc' := 67) dX8_rankOne_65 rfl rfl ?_
      refine q_aload_n (pc' := 68) dX8_rankOne_67 rfl rfl ?_
      refine h_getr (pc' := 71) dX8_rankOne_68 fX8_18 rfl rfl rfl ?_
      refine q_iload (pc' := 73) dX8_rankOne_71 rfl rfl ?_
      refine q_iconst (pc' := 74) (v := nI 1) dX8_rankOne_73 rfl rfl ?_
      refine q_isubN (pc' := 75) dX8_rankOne_74 (by omega) rfl ?_
      refine h_ialdE (pc' := 76) dX8_rankOne_75 rfl (rfl) (by omega) (by decide) (hok.1) rfl ?_
      refine h_iast (pc' := 77) dX8_rankOne_76 rfl (rfl) (by omega) (by decide) rfl ?_
      refine q_aload_n (pc' := 78) dX8_rankOne_77 rfl rfl ?_
      refine h_getr (pc' := 81) dX8_rankOne_78 fX8_21 rfl rfl rfl ?_
      refine q_iload (pc' := 83) dX8_rankOne_81 rfl rfl ?_
      refine q_aload_n (pc' := 84) dX8_rankOne_83 rfl rfl ?_
      refine h_getr (pc' := 87) dX8_rankOne_84 fX8_21 rfl rfl rfl ?_
      refine q_iload (pc' := 89) dX8_rankOne_87 rfl rfl ?_
      refine q_iconst (pc' := 90) (v := nI 1) dX8_rankOne_89 rfl rfl ?_
      refine q_isubN (pc' := 91) dX8_rankOne_90 (by omega) rfl ?_
      refine h_ialdE (pc' := 92) dX8_rankOne_91 rfl (rfl) (by omega) (by decide) (hok.2) rfl ?_
      refine h_iast (pc' := 93) dX8_rankOne_92 rfl (rfl) (by omega) (by decide) rfl ?_
      refine q_idecN (pc' := 96) (lv' := [_, _, _, _, _]) dX8_rankOne_93 rfl (by decide) rfl rfl ?_
      refine q_goto (pc' := 55) dX8_rankOne_96 (by decide) ?_
      refine ih k _ (by omega) (by omega) ((f1.A (by decide)).A (by decide)) k1 e7 (fun j h1 h2 => ?_) (fun j h1 h2 => ?_)
      · show q_u (m1.2.2.1 197) (k + 1) (nI (fv k)) j = nI (fv (j - 1)) ∧ q_u (m1.2.2.1 198) (k + 1) (nI (sv k)) j = nI (sv (j - 1))
        by_cases h : j = k + 1
        · subst h
          rw [q_u_s, q_u_s]
          exact ⟨rfl, rfl⟩
        · rw [q_u_n _ _ h, q_u_n _ _ h]
          exact hs j (by omega) h2
      · show q_u (m1.2.2.1 197) (k + 1) (nI (fv k)) j = nI (fv j) ∧ q_u (m1.2.2.1 198) (k + 1) (nI (sv k)) j = nI (sv j)
        rw [q_u_n _ _ (by omega), q_u_n _ _ (by omega)]
        exact ho j (by omega) h2
  intro k
  induction k with
  | zero =>
    intro hk hs
    refine q_iload_n (pc' := 6) dX8_rankOne_5 rfl rfl ?_
    refine q_if_leN (tgt := 27) (pc' := 9) dX8_rankOne_6 (by decide) rfl (by omega) (fun c_6 => ?_) (fun c_6 => ?_)
    · exact fin 0 hs
    · omega
  | succ k ih =>
    intro hk hs
    have hb := hB k (by omega)
    refine q_iload_n (pc' := 6) dX8_rankOne_5 rfl rfl ?_
    refine q_if_leN (tgt := 27) (pc' := 9) dX8_rankOne_6 (by decide) rfl (by omega) (fun c_6 => ?_) (fun c_6 => ?_)
    · omega
    refine q_aload_n (pc' := 10) dX8_rankOne_9 rfl rfl ?_
    refine h_getr (pc' := 13) dX8_rankOne_10 fX8_21 rfl rfl rfl ?_
    refine q_iload_n (pc' := 14) dX8_rankOne_13 rfl rfl ?_
    refine q_iconst (pc' := 15) (v := nI 1) dX8_rankOne_14 rfl rfl ?_
    refine q_isubN (pc' := 16) dX8_rankOne_15 (by omega) rfl ?_
    refine h_ialdE (pc' := 17) dX8_rankOne_16 rfl (rfl) (by omega) (by decide) ((hA k (by omega)).2) rfl ?_
    refine q_iload_n (pc' := 18) dX8_rankOne_17 rfl rfl ?_
    refine q_icmp_leN (tgt := 27) (pc' := 21) dX8_rankOne_18 (by decide) rfl (by omega) (fun c_18 => ?_) (fun c_18 => ?_)
    · exact fin (k + 1) (by rw [← hs]; unfold s_at; rw [if_neg (by omega)])
    · refine q_idecN (pc' := 24) (lv' := [_, _, _, _, _]) dX8_rankOne_21 rfl (by decide) rfl rfl ?_
      refine q_goto (pc' := 5) dX8_rankOne_24 (by decide) ?_
      exact ih (by omega) (by rw [← hs]; show _ = (if x < sv k then _ else _); rw [if_pos (by omega)])
set_option maxHeartbeats 4000000 in
set_option maxRecDepth 20000 in
theorem c_rank_194 {Z : q_Z} {m : q_Mm} {d : Nat} {n : Nat} {rl : Nat → Nat} {ys : Nat → Int64} {ws : Nat → Nat → Int64} (hP : Pl m 194 n rl ys ws) : q_V (q_g Z) mX8_rank (d+4) 0 0 0 [some (.ref (q_ad Z 194)), none] [] (q_W Z m) (q_P Z fun r m2 => r = none ∧ Fr [194, 197, 198] m m2 ∧ Kp 194 [7, 11] m m2 ∧ Fiv m2 194 (s_rk (s_score n rl ws) (s_pn (rl 2 + 1) 0))) := by
  have hr := hP.2.2.2.1
  have hpn := s_pn_le hr
  refine q_aload_n (pc' := 1) dX8_rank_0 rfl rfl ?_
  refine q_iconst (pc' := 2) (v := nI 0) dX8_rank_1 rfl rfl ?_
  refine h_puti (pc' := 5) dX8_rank_2 fX8_81 rfl rfl rfl rfl rfl ?_
  refine q_iconst (pc' := 6) (v := nI 0) dX8_rank_5 rfl rfl ?_
  refine q_istore_n (pc' := 7) (lv' := [_, _]) dX8_rank_6 (by decide) rfl rfl ?_
  suffices h : ∀ c j (m1 : q_Mm), j + c = s_pn (rl 2 + 1) 0 → Fr [194, 197, 198] m m1 → Kp 194 [7, 11] m m1 → Fiv m1 194 (s_rk (s_score n rl ws) j) → q_V (q_g Z) mX8_rank (d+4) 0 0 7 [some (.ref (q_ad Z 194)), some (.int (nI j))] [] (q_W Z (m1)) (q_P Z fun r m2 => r = none ∧ Fr [194, 197, 198] m m2 ∧ Kp 194 [7, 11] m m2 ∧ Fiv m2 194 (s_rk (s_score n rl ws) (s_pn (rl 2 + 1) 0))) from by
    refine h (s_pn (rl 2 + 1) 0) 0 _ (by omega) (Fr.rf.I (by decide)) ?_ ⟨rfl, Nat.zero_le _, fun i hi => absurd hi (Nat.not_lt_zero _), fun i hi => absurd hi (Nat.not_lt_zero _)⟩
    intro j hj
    exact q_u_n _ _ (by simp at hj; omega)
  intro c
  induction c with
  | zero =>
    intro j m1 hj f1 k1 F1
    have hP1 := hP.kp f1 k1 (by decide) (by decide) (by decide) (by decide) (by decide)
    refine q_iload_n (pc' := 8) dX8_rank_7 rfl rfl ?_
    refine q_aload_n (pc' := 9) dX8_rank_8 rfl rfl ?_
    refine h_callV (pc' := 12) (M' := mX8_pairs) (As := []) dX8_rank_9 iX8_pairs lX8_84 rfl rfl rfl rfl (Nat.le_of_ble_eq_true rfl) (Nat.le_of_ble_eq_true rfl) rfl rfl (c_pairs_194 hP1) (fun r m' hq => ?_)
    obtain ⟨rfl, rfl⟩ := hq
    have hj2 : j = s_pn (rl 2 + 1) 0 := by omega
    refine q_icmp_geN (tgt := 31) (pc' := 15) dX8_rank_12 (by decide) rfl (by omega) (fun c_12 => ?_) (fun c_12 => ?_)
    · refine q_vret dX8_rank_31 rfl ⟨_, rfl, rfl, f1, k1, hj2 ▸ F1⟩
    · omega
  | succ c ih =>
    intro j m1 hj f1 k1 F1
    have hP1 := hP.kp f1 k1 (by decide) (by decide) (by decide) (by decide) (by decide)
    refine q_iload_n (pc' := 8) dX8_rank_7 rfl rfl ?_
    refine q_aload_n (pc' := 9) dX8_rank_8 rfl rfl ?_
    refine h_callV (pc' := 12) (M' := mX8_pairs) (As := []) dX8_rank_9 iX8_pairs lX8_84 rfl rfl rfl rfl (Nat.le_of_ble_eq_true rfl) (Nat.le_of_ble_eq_true rfl) rfl rfl (c_pairs_194 hP1) (fun r m' hq => ?_)
    obtain ⟨rfl, rfl⟩ := hq
    refine q_icmp_geN (tgt := 31) (pc' := 15) dX8_rank_12 (by decide) rfl (by omega) (fun c_12 => ?_) (fun c_12 => ?_)
    · omega
    refine q_aload_n (pc' := 16) dX8_rank_15 rfl rfl ?_
    refine q_iload_n (pc' := 17) dX8_rank_16 rfl rfl ?_
    refine q_aload_n (pc' := 18) dX8_rank_17 rfl rfl ?_
    refine q_iload_n (pc' := 19) dX8_rank_18 rfl rfl ?_
    refine h_callV (pc' := 22) (M' := mX8_scoreOf) (As := [_]) dX8_rank_19 iX8_scoreOf lX8_88 rfl rfl rfl rfl (Nat.le_of_ble_eq_true rfl) (Nat.le_of_ble_eq_true rfl) rfl rfl (c_scoreOf_194 hP1 (by omega)) (fun r m' hq => ?_)
    obtain ⟨rfl, f2, k2⟩ := hq
    have F2 := F1.fr f2 (k2 7 (by decide)) (by decide) (by decide)
    refine h_callV (pc' := 25) (M' := mX8_rankOne) (As := [_, _]) dX8_rank_22 iX8_rankOne lX8_91 rfl rfl rfl rfl (Nat.le_of_ble_eq_true rfl) (Nat.le_of_ble_eq_true rfl) rfl rfl (c_rankOne_194 F2 (by omega) (s_score_le hr hP.2.1 ws j)) (fun r m' hq => ?_)
    obtain ⟨rfl, f3, k3, F3⟩ := hq
    refine q_iincN (pc' := 28) (j := 1) (lv' := [_, _]) dX8_rank_25 rfl (by decide) rfl rfl ?_
    refine q_goto (pc' := 7) dX8_rank_28 (by decide) ?_
    exact ih (j + 1) _ (by omega) ((f1.trans (f2.mono (by decide))).trans f3) ((k1.trans (k2.mono (by decide))).trans (k3.mono (by decide))) F3
set_option maxHeartbeats 4000000 in
set_option maxRecDepth 20000 in
theorem c_pairOf_194 {Z : q_Z} {m : q_Mm} {d : Nat} {n bk : Nat} {rl : Nat → Nat} {ys : Nat → Int64} {ws : Nat → Nat → Int64} {q : s_F} (hP : Pl m 194 n rl ys ws) (hF : Fiv m 194 q) (hb : bk < s_nb n rl) : q_V (q_g Z) mX8_pairOf (d+3) 0 0 0 [some (.ref (q_ad Z 194)), some (.int (nI bk)), none, none, none, none] [] (q_W Z m) (q_P Z fun r m2 => r = some (.int (nI (s_po (fun p => s_sc n rl ws bk p) q.2.1 q.1).1)) ∧ Fr [194] m m2 ∧ Kp 194 [11] m m2) := by
  have hr := hP.2.2.2.1
  have hL := hF.2.1
  refine q_iconst (pc' := 1) (v := nI 0) dX8_pairOf_0 rfl rfl ?_
  refine q_istore_n (pc' := 2) (lv' := [_, _, _, _, _, _]) dX8_pairOf_1 (by decide) rfl rfl ?_
  refine q_iconst (pc' := 3) (v := nI 0) dX8_pairOf_2 rfl rfl ?_
  refine q_istore_n (pc' := 4) (lv' := [_, _, _, _, _, _]) dX8_pairOf_3 (by decide) rfl rfl ?_
  refine q_iconst (pc' := 5) (v := nI 0) dX8_pairOf_4 rfl rfl ?_
  refine q_istore (pc' := 7) (lv' := [_, _, _, _, _, _]) dX8_pairOf_5 (by decide) rfl rfl ?_
  suffices h : ∀ c j (m1 : q_Mm) w, j + c = q.1 → Fr [194] m m1 → Kp 194 [11] m m1 → q_V (q_g Z) mX8_pairOf (d+3) 0 0 7 [some (.ref (q_ad Z 194)), some (.int (nI bk)), some (.int (nI (s_po (fun p => s_sc n rl ws bk p) q.2.1 j).1)), some (.int (nI (s_po (fun p => s_sc n rl ws bk p) q.2.1 j).2)), some (.int (nI j)), w] [] (q_W Z (m1)) (q_P Z fun r m2 => r = some (.int (nI (s_po (fun p => s_sc n rl ws bk p) q.2.1 q.1).1)) ∧ Fr [194] m m2 ∧ Kp 194 [11] m m2) from h q.1 0 m _ (by omega) Fr.rf Kp.rf
  intro c
  induction c with
  | zero =>
    intro j m1 w hj f1 k1
    have F1 := hF.fr f1 (k1 7 (by decide)) (by decide) (by decide)
    obtain rfl : q.1 = j := by omega
    refine q_iload (pc' := 9) dX8_pairOf_7 rfl rfl ?_
    refine q_aload_n (pc' := 10) dX8_pairOf_9 rfl rfl ?_
    refine h_getiE (pc' := 13) dX8_pairOf_10 fX8_81 rfl rfl (F1.1) rfl ?_
    refine q_icmp_geN (tgt := 58) (pc' := 16) dX8_pairOf_13 (by decide) rfl (by omega) (fun c_13 => ?_) (fun c_13 => ?_)
    · refine q_iload_n (pc' := 59) dX8_pairOf_58 rfl rfl ?_
      refine q_iret dX8_pairOf_59 rfl rfl ⟨_, rfl, rfl, f1, k1⟩
    · omega
  | succ c ih =>
    intro j m1 w hj f1 k1
    have hP1 := hP.kp f1 k1 (by decide) (by decide) (by decide) (by decide) (by decide)
    have F1 := hF.fr f1 (k1 7 (by decide)) (by decide) (by decide)
    have hjL : j < q.1 := by omega
    have hb1 := s_po_le (f := fun p => s_sc n rl ws bk p) (fv := q.2.1) j (fun i hi => (hF.2.2.2 i (by omega)).1) (fun p => s_sc_le hr ws bk p)
    have hb2 := s_sc_le hr (n := n) ws bk (q.2.1 j)
    refine q_iload (pc' := 9) dX8_pairOf_7 rfl rfl ?_
    refine q_aload_n (pc' := 10) dX8_pairOf_9 rfl rfl ?_
    refine h_getiE (pc' := 13) dX8_pairOf_10 fX8_81 rfl rfl (F1.1) rfl ?_
    refine q_icmp_geN (tgt := 58) (pc' := 16) dX8_pairOf_13 (by decide) rfl (by omega) (fun c_13 => ?_) (fun c_13 => ?_)
    · omega
    refine q_aload_n (pc' := 17) dX8_pairOf_16 rfl rfl ?_
    refine q_iload_n (pc' := 18) dX8_pairOf_17 rfl rfl ?_
    refine q_aload_n (pc' := 19) dX8_pairOf_18 rfl rfl ?_
    refine h_getr (pc' := 22) dX8_pairOf_19 fX8_18 rfl rfl rfl ?_
    refine q_iload (pc' := 24) dX8_pairOf_22 rfl rfl ?_
    refine h_ialdE (pc' := 25) dX8_pairOf_24 rfl (rfl) (by omega) (by decide) ((F1.2.2.1 j hjL).1) rfl ?_
    refine h_callV (pc' := 28) (M' := mX8_sampleCost) (As := [_, _]) dX8_pairOf_25 iX8_sampleCost lX8_103 rfl rfl rfl rfl (Nat.le_of_ble_eq_true rfl) (Nat.le_of_ble_eq_true rfl) rfl rfl (c_sampleCost_194 hP1 hb (hF.2.2.2 j hjL).1) (fun r m' hq => ?_)
    obtain ⟨rfl, f2, k2⟩ := hq
    have F2 := F1.fr f2 (k2 7 (by decide)) (by decide) (by decide)
    have tk : (j = 0 ∨ s_sc n rl ws bk (q.2.1 j) < (s_po (fun p => s_sc n rl ws bk p) q.2.1 j).2) → q_V (q_g Z) mX8_pairOf (d+3) 0 0 41 [some (.ref (q_ad Z 194)), some (.int (nI bk)), some (.int (nI (s_po (fun p => s_sc n rl ws bk p) q.2.1 j).1)), some (.int (nI (s_po (fun p => s_sc n rl ws bk p) q.2.1 j).2)), some (.int (nI j)), some (.int (nI (s_sc n rl ws bk (q.2.1 j))))] [] (q_W Z (m')) (q_P Z fun r m2 => r = some (.int (nI (s_po (fun p => s_sc n rl ws bk p) q.2.1 q.1).1)) ∧ Fr [194] m m2 ∧ Kp 194 [11] m m2) := by
      intro ht
      have e : s_po (fun p => s_sc n rl ws bk p) q.2.1 (j + 1) = (q.2.1 j, s_sc n rl ws bk (q.2.1 j)) := by
        show (if _ then _ else _) = _
        rw [if_pos ht]
      refine q_aload_n (pc' := 42) dX8_pairOf_41 rfl rfl ?_
      refine h_getr (pc' := 45) dX8_pairOf_42 fX8_18 rfl rfl rfl ?_
      refine q_iload (pc' := 47) dX8_pairOf_45 rfl rfl ?_
      refine h_ialdE (pc' := 48) dX8_pairOf_47 rfl (rfl) (by omega) (by decide) ((F2.2.2.1 j hjL).1) rfl ?_
      refine q_istore_n (pc' := 49) (lv' := [_, _, _, _, _, _]) dX8_pairOf_48 (by decide) rfl rfl ?_
      refine q_iload (pc' := 51) dX8_pairOf_49 rfl rfl ?_
      refine q_istore_n (pc' := 52) (lv' := [_, _, _, _, _, _]) dX8_pairOf_51 (by decide) rfl rfl ?_
      refine q_iincN (pc' := 55) (j := 1) (lv' := [_, _, _, _, _, _]) dX8_pairOf_52 rfl (by decide) rfl rfl ?_
      refine q_goto (pc' := 7) dX8_pairOf_55 (by decide) ?_
      have h3 := ih (j + 1) m' (some (.int (nI (s_sc n rl ws bk (q.2.1 j))))) (by omega) (f1.trans f2) (k1.trans k2)
      rw [e] at h3
      exact h3
    refine q_istore (pc' := 30) (lv' := [_, _, _, _, _, _]) dX8_pairOf_28 (by decide) rfl rfl ?_
    refine q_iload (pc' := 32) dX8_pairOf_30 rfl rfl ?_
    refine q_if_eqN (tgt := 41) (pc' := 35) dX8_pairOf_32 (by decide) rfl (by omega) (fun c_32 => ?_) (fun c_32 => ?_)
    · exact tk (Or.inl c_32)
    refine q_iload (pc' := 37) dX8_pairOf_35 rfl rfl ?_
    refine q_iload_n (pc' := 38) dX8_pairOf_37 rfl rfl ?_
    refine q_icmp_geN (tgt := 52) (pc' := 41) dX8_pairOf_38 (by decide) rfl (by omega) (fun c_38 => ?_) (fun c_38 => ?_)
    · have e : s_po (fun p => s_sc n rl ws bk p) q.2.1 (j + 1) = s_po (fun p => s_sc n rl ws bk p) q.2.1 j := by
        show (if _ then _ else _) = _
        rw [if_neg (by intro z; rcases z with z | z; omega; exact absurd z (by simp only []; omega))]
      refine q_iincN (pc' := 55) (j := 1) (lv' := [_, _, _, _, _, _]) dX8_pairOf_52 rfl (by decide) rfl rfl ?_
      refine q_goto (pc' := 7) dX8_pairOf_55 (by decide) ?_
      have h3 := ih (j + 1) m' (some (.int (nI (s_sc n rl ws bk (q.2.1 j))))) (by omega) (f1.trans f2) (k1.trans k2)
      rw [e] at h3
      exact h3
    · exact tk (Or.inr c_38)
set_option maxHeartbeats 4000000 in
set_option maxRecDepth 20000 in
theorem c_rankOne_203 {Z : q_Z} {m : q_Mm} {d : Nat} {p x : Nat} {q : s_F} (hF : Fiv m 203 q) (hp : p < 120) (hx : x ≤ 64000) : q_V (q_g Z) mX8_rankOne (d+1) 0 0 0 [some (.ref (q_ad Z 203)), some (.int (nI p)), some (.int (nI x)), none, none] [] (q_W Z m) (q_P Z fun r m2 => r = none ∧ Fr [203, 206, 207] m m2 ∧ Kp 203 [7] m m2 ∧ Fiv m2 203 (s_r1 p x q)) := by
  obtain ⟨L, fv, sv, hqe⟩ : ∃ L fv sv, q = (L, fv, sv) := ⟨q.1, q.2.1, q.2.2, rfl⟩
  rw [hqe] at hF
  obtain ⟨h7, hL, hA, hB⟩ := hF
  have h7 : m.1 203 7 = nI L := h7
  have hL : L ≤ 5 := hL
  have hA : ∀ i, i < L → m.2.2.1 206 i = nI (fv i) ∧ m.2.2.1 207 i = nI (sv i) := hA
  have hB : ∀ i, i < L → fv i < 120 ∧ sv i ≤ 64000 := hB
  refine q_aload_n (pc' := 1) dX8_rankOne_0 rfl rfl ?_
  refine h_getiE (pc' := 4) dX8_rankOne_1 fX8_81 rfl rfl (h7) rfl ?_
  refine q_istore_n (pc' := 5) (lv' := [_, _, _, _, _]) dX8_rankOne_4 (by decide) rfl rfl ?_
  suffices h : ∀ k, k ≤ L → s_at sv x k = s_at sv x L → q_V (q_g Z) mX8_rankOne (d+1) 0 0 5 [some (.ref (q_ad Z 203)), some (.int (nI p)), some (.int (nI x)), some (.int (nI k)), none] [] (q_W Z (m)) (q_P Z fun r m2 => r = none ∧ Fr [203, 206, 207] m m2 ∧ Kp 203 [7] m m2 ∧ Fiv m2 203 (s_r1 p x q)) from h L (Nat.le_refl _) rfl
  have fin : ∀ a, a = s_at sv x L → q_V (q_g Z) mX8_rankOne (d+1) 0 0 27 [some (.ref (q_ad Z 203)), some (.int (nI p)), some (.int (nI x)), some (.int (nI a)), none] [] (q_W Z (m)) (q_P Z fun r m2 => r = none ∧ Fr [203, 206, 207] m m2 ∧ Kp 203 [7] m m2 ∧ Fiv m2 203 (s_r1 p x q)) := by
    intro a ha
    have haL : a ≤ L := ha ▸ s_at_le sv x L
    refine q_iload_n (pc' := 28) dX8_rankOne_27 rfl rfl ?_
    refine q_iconst (pc' := 29) (v := nI 5) dX8_rankOne_28 rfl rfl ?_
    refine q_icmp_ltN (tgt := 33) (pc' := 32) dX8_rankOne_29 (by decide) rfl (by omega) (fun c_29 => ?_) (fun c_29 => ?_)
    rotate_left
    · have e : s_r1 p x (L, fv, sv) = (L, fv, sv) := by unfold s_r1; rw [if_pos (by show 5 ≤ s_at sv x L; omega)]
      refine q_vret dX8_rankOne_32 rfl ⟨_, rfl, rfl, Fr.rf, Kp.rf, (by rw [hqe, e]; exact ⟨h7, hL, hA, hB⟩)⟩
    generalize hL' : (if 5 < L + 1 then 5 else L + 1) = L'
    have hl1 : a < L' ∧ L' ≤ 5 ∧ L' ≤ L + 1 := by rw [← hL']; split <;> omega
    have hmin : (if nI 5 < nI (L + 1) then nI 5 else nI (L + 1)) = nI L' := by
      rw [← hL']
      by_cases h : 5 < L + 1
      · rw [if_pos h, if_pos ((nI_ltI (by decide) (by omega)).mpr h)]
      · rw [if_neg h, if_neg (fun z => h ((nI_ltI (by decide) (by omega)).mp z))]
    have e : s_r1 p x (L, fv, sv) = (L', s_ins a fv p, s_ins a sv x) := by
      unfold s_r1
      rw [if_neg (by show ¬ 5 ≤ s_at sv x L; omega)]
      simp only [hL', ← ha]
    refine q_aload_n (pc' := 34) dX8_rankOne_33 rfl rfl ?_
    refine q_aload_n (pc' := 35) dX8_rankOne_34 rfl rfl ?_
    refine h_getiE (pc' := 38) dX8_rankOne_35 fX8_81 rfl rfl (h7) rfl ?_
    refine q_iconst (pc' := 39) (v := nI 1) dX8_rankOne_38 rfl rfl ?_
    refine q_iaddN (pc' := 40) dX8_rankOne_39 rfl ?_
    refine q_iconst (pc' := 41) (v := nI 5) dX8_rankOne_40 rfl rfl ?_
    refine q_mmin (pc' := 44) dX8_rankOne_41 lX8_95 mmin_s mz_i mmin_c (Nat.le_of_ble_eq_true rfl) rfl ?_
    rw [hmin]
    refine h_puti (pc' := 47) dX8_rankOne_44 fX8_81 rfl rfl rfl rfl rfl ?_
    refine q_aload_n (pc' := 48) dX8_rankOne_47 rfl rfl ?_
    refine h_getiE (pc' := 51) dX8_rankOne_48 fX8_81 rfl rfl ((show _ = nI L' from rfl)) rfl ?_
    refine q_iconst (pc' := 52) (v := nI 1) dX8_rankOne_51 rfl rfl ?_
    refine q_isubN (pc' := 53) dX8_rankOne_52 (by omega) rfl ?_
    refine q_istore (pc' := 55) (lv' := [_, _, _, _, _]) dX8_rankOne_53 (by decide) rfl rfl ?_
    suffices h : ∀ g i (m1 : q_Mm), a + g = i → i < L' → Fr [203, 206, 207] m m1 → Kp 203 [7] m m1 → m1.1 203 7 = nI L' → (∀ j, i < j → j < L' → m1.2.2.1 206 j = nI (fv (j - 1)) ∧ m1.2.2.1 207 j = nI (sv (j - 1))) → (∀ j, j ≤ i → j < L → m1.2.2.1 206 j = nI (fv j) ∧ m1.2.2.1 207 j = nI (sv j)) → q_V (q_g Z) mX8_rankOne (d+1) 0 0 55 [some (.ref (q_ad Z 203)), some (.int (nI p)), some (.int (nI x)), some (.int (nI a)), some (.int (nI i))] [] (q_W Z (m1)) (q_P Z fun r m2 => r = none ∧ Fr [203, 206, 207] m m2 ∧ Kp 203 [7] m m2 ∧ Fiv m2 203 (s_r1 p x q)) from by
      refine h (L' - 1 - a) _ _ (by omega) (by omega) (Fr.rf.I (by decide)) ?_ rfl (fun j h1 h2 => by omega) (fun j _ h2 => hA j h2)
      intro j hj
      exact q_u_n _ _ (by simpa using hj)
    intro g
    induction g with
    | zero =>
      intro i m1 hi hiL f1 k1 e7 hs ho
      obtain rfl : a = i := by omega
      refine q_iload (pc' := 57) dX8_rankOne_55 rfl rfl ?_
      refine q_iload_n (pc' := 58) dX8_rankOne_57 rfl rfl ?_
      refine q_icmp_leN (tgt := 99) (pc' := 61) dX8_rankOne_58 (by decide) rfl (by omega) (fun c_58 => ?_) (fun c_58 => ?_)
      rotate_left
      · omega
      refine q_aload_n (pc' := 100) dX8_rankOne_99 rfl rfl ?_
      refine h_getr (pc' := 103) dX8_rankOne_100 fX8_18 rfl rfl rfl ?_
      refine q_iload_n (pc' := 104) dX8_rankOne_103 rfl rfl ?_
      refine q_iload_n (pc' := 105) dX8_rankOne_104 rfl rfl ?_
      refine h_iast (pc' := 106) dX8_rankOne_105 rfl (rfl) (by omega) (by decide) rfl ?_
      refine q_aload_n (pc' := 107) dX8_rankOne_106 rfl rfl ?_
      refine h_getr (pc' := 110) dX8_rankOne_107 fX8_21 rfl rfl rfl ?_
      refine q_iload_n (pc' := 111) dX8_rankOne_110 rfl rfl ?_
      refine q_iload_n (pc' := 112) dX8_rankOne_111 rfl rfl ?_
      refine h_iast (pc' := 113) dX8_rankOne_112 rfl (rfl) (by omega) (by decide) rfl ?_
      refine q_vret dX8_rankOne_113 rfl ⟨_, rfl, rfl, (f1.A (by decide)).A (by decide), k1, ?_⟩
      rw [hqe, e]
      refine ⟨e7, hl1.2.1, fun i hi => ?_, fun i hi => ?_⟩
      · have hi : i < L' := hi
        show q_u (m1.2.2.1 206) a (nI p) i = nI (s_ins a fv p i) ∧ q_u (m1.2.2.1 207) a (nI x) i = nI (s_ins a sv x i)
        rcases Nat.lt_trichotomy i a with h | h | h
        · rw [q_u_n _ _ (by omega), q_u_n _ _ (by omega), s_ins_lt h, s_ins_lt h]
          exact ho i (by omega) (by omega)
        · rw [h, q_u_s, q_u_s, s_ins_eq, s_ins_eq]
          exact ⟨rfl, rfl⟩
        · rw [q_u_n _ _ (by omega), q_u_n _ _ (by omega), s_ins_gt h, s_ins_gt h]
          exact hs i h hi
      · have hi : i < L' := hi
        show s_ins a fv p i < 120 ∧ s_ins a sv x i ≤ 64000
        rcases Nat.lt_trichotomy i a with h | h | h
        · rw [s_ins_lt h, s_ins_lt h]
          exact hB i (by omega)
        · rw [h, s_ins_eq, s_ins_eq]
          exact ⟨hp, hx⟩
        · rw [s_ins_gt h, s_ins_gt h]
          exact hB (i - 1) (by omega)
    | succ g ih =>
      intro i m1 hi hiL f1 k1 e7 hs ho
      obtain ⟨k, rfl⟩ : ∃ k, i = k + 1 := ⟨a + g, by omega⟩
      refine q_iload (pc' := 57) dX8_rankOne_55 rfl rfl ?_
      refine q_iload_n (pc' := 58) dX8_rankOne_57 rfl rfl ?_
      refine q_icmp_leN (tgt := 99) (pc' := 61) dX8_rankOne_58 (by decide) rfl (by omega) (fun c_58 => ?_) (fun c_58 => ?_)
      · omega
      have hok := ho k (by omega) (by omega)
      refine q_aload_n (pc' := 62) dX8_rankOne_61 rfl rfl ?_
      refine h_getr (pc' := 65) dX8_rankOne_62 fX8_18 rfl rfl rfl ?_
      refine q_iload (pc' := 67) dX8_rankOne_65 rfl rfl ?_
      refine q_aload_n (pc' := 68) dX8_rankOne_67 rfl rfl ?_
      refine h_getr (pc' := 71) dX8_rankOne_68 fX8_18 rfl rfl rfl ?_
      refine q_iload (pc' := 73) dX8_rankOne_71 rfl rfl ?_
      refine q_iconst (pc' := 74) (v := nI 1) dX8_rankOne_73 rfl rfl ?_
      refine q_isubN (pc' := 75) dX8_rankOne_74 (by omega) rfl ?_
      refine h_ialdE (pc' := 76) dX8_rankOne_75 rfl (rfl) (by omega) (by decide) (hok.1) rfl ?_
      refine h_iast (pc' := 77) dX8_rankOne_76 rfl (rfl) (by omega) (by decide) rfl ?_
      refine q_aload_n (pc' := 78) dX8_rankOne_77 rfl rfl ?_
      refine h_getr (pc' := 81) dX8_rankOne_78 fX8_21 rfl rfl rfl ?_
      refine q_iload (pc' := 83) dX8_rankOne_81 rfl rfl ?_
      refine q_aload_n (pc' := 84) dX8_rankOne_83 rfl rfl ?_
      refine h_getr (pc' := 87) dX8_rankOne_84 fX8_21 rfl rfl rfl ?_
      refine q_iload (pc' := 89) dX8_rankOne_87 rfl rfl ?_
      refine q_iconst (pc' := 90) (v := nI 1) dX8_rankOne_89 rfl rfl ?_
      refine q_isubN (pc' := 91) dX8_rankOne_90 (by omega) rfl ?_
      refine h_ialdE (pc' := 92) dX8_rankOne_91 rfl (rfl) (by omega) (by decide) (hok.2) rfl ?_
      refine h_iast (pc' := 93) dX8_rankOne_92 rfl (rfl) (by omega) (by decide) rfl ?_
      refine q_idecN (pc' := 96) (lv' := [_, _, _, _, _]) dX8_rankOne_93 rfl (by decide) rfl rfl ?_
      refine q_goto (pc' := 55) dX8_rankOne_96 (by decide) ?_
      refine ih k _ (by omega) (by omega) ((f1.A (by decide)).A (by decide)) k1 e7 (fun j h1 h2 => ?_) (fun j h1 h2 => ?_)
      · show q_u (m1.2.2.1 206) (k + 1) (nI (fv k)) j = nI (fv (j - 1)) ∧ q_u (m1.2.2.1 207) (k + 1) (nI (sv k)) j = nI (sv (j - 1))
        by_cases h : j = k + 1
        · subst h
          rw [q_u_s, q_u_s]
          exact ⟨rfl, rfl⟩
        · rw [q_u_n _ _ h, q_u_n _ _ h]
          exact hs j (by omega) h2
      · show q_u (m1.2.2.1 206) (k + 1) (nI (fv k)) j = nI (fv j) ∧ q_u (m1.2.2.1 207) (k + 1) (nI (sv k)) j = nI (sv j)
        rw [q_u_n _ _ (by omega), q_u_n _ _ (by omega)]
        exact ho j (by omega) h2
  intro k
  induction k with
  | zero =>
    intro hk hs
    refine q_iload_n (pc' := 6) dX8_rankOne_5 rfl rfl ?_
    refine q_if_leN (tgt := 27) (pc' := 9) dX8_rankOne_6 (by decide) rfl (by omega) (fun c_6 => ?_) (fun c_6 => ?_)
    · exact fin 0 hs
    · omega
  | succ k ih =>
    intro hk hs
    have hb := hB k (by omega)
    refine q_iload_n (pc' := 6) dX8_rankOne_5 rfl rfl ?_
    refine q_if_leN (tgt := 27) (pc' := 9) dX8_rankOne_6 (by decide) rfl (by omega) (fun c_6 => ?_) (fun c_6 => ?_)
    · omega
    refine q_aload_n (pc' := 10) dX8_rankOne_9 rfl rfl ?_
    refine h_getr (pc' := 13) dX8_rankOne_10 fX8_21 rfl rfl rfl ?_
    refine q_iload_n (pc' := 14) dX8_rankOne_13 rfl rfl ?_
    refine q_iconst (pc' := 15) (v := nI 1) dX8_rankOne_14 rfl rfl ?_
    refine q_isubN (pc' := 16) dX8_rankOne_15 (by omega) rfl ?_
    refine h_ialdE (pc' := 17) dX8_rankOne_16 rfl (rfl) (by omega) (by decide) ((hA k (by omega)).2) rfl ?_
    refine q_iload_n (pc' := 18) dX8_rankOne_17 rfl rfl ?_
    refine q_icmp_leN (tgt := 27) (pc' := 21) dX8_rankOne_18 (by decide) rfl (by omega) (fun c_18 => ?_) (fun c_18 => ?_)
    · exact fin (k + 1) (by rw [← hs]; unfold s_at; rw [if_neg (by omega)])
    · refine q_idecN (pc' := 24) (lv' := [_, _, _, _, _]) dX8_rankOne_21 rfl (by decide) rfl rfl ?_
      refine q_goto (pc' := 5) dX8_rankOne_24 (by decide) ?_
      exact ih (by omega) (by rw [← hs]; show _ = (if x < sv k then _ else _); rw [if_pos (by omega)])
set_option maxHeartbeats 4000000 in
set_option maxRecDepth 20000 in
theorem c_rank_203 {Z : q_Z} {m : q_Mm} {d : Nat} {n : Nat} {rl : Nat → Nat} {ys : Nat → Int64} {ws : Nat → Nat → Int64} (hP : Pl m 203 n rl ys ws) : q_V (q_g Z) mX8_rank (d+4) 0 0 0 [some (.ref (q_ad Z 203)), none] [] (q_W Z m) (q_P Z fun r m2 => r = none ∧ Fr [203, 206, 207] m m2 ∧ Kp 203 [7, 11] m m2 ∧ Fiv m2 203 (s_rk (s_score n rl ws) (s_pn (rl 2 + 1) 0))) := by
  have hr := hP.2.2.2.1
  have hpn := s_pn_le hr
  refine q_aload_n (pc' := 1) dX8_rank_0 rfl rfl ?_
  refine q_iconst (pc' := 2) (v := nI 0) dX8_rank_1 rfl rfl ?_
  refine h_puti (pc' := 5) dX8_rank_2 fX8_81 rfl rfl rfl rfl rfl ?_
  refine q_iconst (pc' := 6) (v := nI 0) dX8_rank_5 rfl rfl ?_
  refine q_istore_n (pc' := 7) (lv' := [_, _]) dX8_rank_6 (by decide) rfl rfl ?_
  suffices h : ∀ c j (m1 : q_Mm), j + c = s_pn (rl 2 + 1) 0 → Fr [203, 206, 207] m m1 → Kp 203 [7, 11] m m1 → Fiv m1 203 (s_rk (s_score n rl ws) j) → q_V (q_g Z) mX8_rank (d+4) 0 0 7 [some (.ref (q_ad Z 203)), some (.int (nI j))] [] (q_W Z (m1)) (q_P Z fun r m2 => r = none ∧ Fr [203, 206, 207] m m2 ∧ Kp 203 [7, 11] m m2 ∧ Fiv m2 203 (s_rk (s_score n rl ws) (s_pn (rl 2 + 1) 0))) from by
    refine h (s_pn (rl 2 + 1) 0) 0 _ (by omega) (Fr.rf.I (by decide)) ?_ ⟨rfl, Nat.zero_le _, fun i hi => absurd hi (Nat.not_lt_zero _), fun i hi => absurd hi (Nat.not_lt_zero _)⟩
    intro j hj
    exact q_u_n _ _ (by simp at hj; omega)
  intro c
  induction c with
  | zero =>
    intro j m1 hj f1 k1 F1
    have hP1 := hP.kp f1 k1 (by decide) (by decide) (by decide) (by decide) (by decide)
    refine q_iload_n (pc' := 8) dX8_rank_7 rfl rfl ?_
    refine q_aload_n (pc' := 9) dX8_rank_8 rfl rfl ?_
    refine h_callV (pc' := 12) (M' := mX8_pairs) (As := []) dX8_rank_9 iX8_pairs lX8_84 rfl rfl rfl rfl (Nat.le_of_ble_eq_true rfl) (Nat.le_of_ble_eq_true rfl) rfl rfl (c_pairs_203 hP1) (fun r m' hq => ?_)
    obtain ⟨rfl, rfl⟩ := hq
    have hj2 : j = s_pn (rl 2 + 1) 0 := by omega
    refine q_icmp_geN (tgt := 31) (pc' := 15) dX8_rank_12 (by decide) rfl (by omega) (fun c_12 => ?_) (fun c_12 => ?_)
    · refine q_vret dX8_rank_31 rfl ⟨_, rfl, rfl, f1, k1, hj2 ▸ F1⟩
    · omega
  | succ c ih =>
    intro j m1 hj f1 k1 F1
    have hP1 := hP.kp f1 k1 (by decide) (by decide) (by decide) (by decide) (by decide)
    refine q_iload_n (pc' := 8) dX8_rank_7 rfl rfl ?_
    refine q_aload_n (pc' := 9) dX8_rank_8 rfl rfl ?_
    refine h_callV (pc' := 12) (M' := mX8_pairs) (As := []) dX8_rank_9 iX8_pairs lX8_84 rfl rfl rfl rfl (Nat.le_of_ble_eq_true rfl) (Nat.le_of_ble_eq_true rfl) rfl rfl (c_pairs_203 hP1) (fun r m' hq => ?_)
    obtain ⟨rfl, rfl⟩ := hq
    refine q_icmp_geN (tgt := 31) (pc' := 15) dX8_rank_12 (by decide) rfl (by omega) (fun c_12 => ?_) (fun c_12 => ?_)
    · omega
    refine q_aload_n (pc' := 16) dX8_rank_15 rfl rfl ?_
    refine q_iload_n (pc' := 17) dX8_rank_16 rfl rfl ?_
    refine q_aload_n (pc' := 18) dX8_rank_17 rfl rfl ?_
    refine q_iload_n (pc' := 19) dX8_rank_18 rfl rfl ?_
    refine h_callV (pc' := 22) (M' := mX8_scoreOf) (As := [_]) dX8_rank_19 iX8_scoreOf lX8_88 rfl rfl rfl rfl (Nat.le_of_ble_eq_true rfl) (Nat.le_of_ble_eq_true rfl) rfl rfl (c_scoreOf_203 hP1 (by omega)) (fun r m' hq => ?_)
    obtain ⟨rfl, f2, k2⟩ := hq
    have F2 := F1.fr f2 (k2 7 (by decide)) (by decide) (by decide)
    refine h_callV (pc' := 25) (M' := mX8_rankOne) (As := [_, _]) dX8_rank_22 iX8_rankOne lX8_91 rfl rfl rfl rfl (Nat.le_of_ble_eq_true rfl) (Nat.le_of_ble_eq_true rfl) rfl rfl (c_rankOne_203 F2 (by omega) (s_score_le hr hP.2.1 ws j)) (fun r m' hq => ?_)
    obtain ⟨rfl, f3, k3, F3⟩ := hq
    refine q_iincN (pc' := 28) (j := 1) (lv' := [_, _]) dX8_rank_25 rfl (by decide) rfl rfl ?_
    refine q_goto (pc' := 7) dX8_rank_28 (by decide) ?_
    exact ih (j + 1) _ (by omega) ((f1.trans (f2.mono (by decide))).trans f3) ((k1.trans (k2.mono (by decide))).trans (k3.mono (by decide))) F3
set_option maxHeartbeats 4000000 in
set_option maxRecDepth 20000 in
theorem c_pairOf_203 {Z : q_Z} {m : q_Mm} {d : Nat} {n bk : Nat} {rl : Nat → Nat} {ys : Nat → Int64} {ws : Nat → Nat → Int64} {q : s_F} (hP : Pl m 203 n rl ys ws) (hF : Fiv m 203 q) (hb : bk < s_nb n rl) : q_V (q_g Z) mX8_pairOf (d+3) 0 0 0 [some (.ref (q_ad Z 203)), some (.int (nI bk)), none, none, none, none] [] (q_W Z m) (q_P Z fun r m2 => r = some (.int (nI (s_po (fun p => s_sc n rl ws bk p) q.2.1 q.1).1)) ∧ Fr [203] m m2 ∧ Kp 203 [11] m m2) := by
  have hr := hP.2.2.2.1
  have hL := hF.2.1
  refine q_iconst (pc' := 1) (v := nI 0) dX8_pairOf_0 rfl rfl ?_
  refine q_istore_n (pc' := 2) (lv' := [_, _, _, _, _, _]) dX8_pairOf_1 (by decide) rfl rfl ?_
  refine q_iconst (pc' := 3) (v := nI 0) dX8_pairOf_2 rfl rfl ?_
  refine q_istore_n (pc' := 4) (lv' := [_, _, _, _, _, _]) dX8_pairOf_3 (by decide) rfl rfl ?_
  refine q_iconst (pc' := 5) (v := nI 0) dX8_pairOf_4 rfl rfl ?_
  refine q_istore (pc' := 7) (lv' := [_, _, _, _, _, _]) dX8_pairOf_5 (by decide) rfl rfl ?_
  suffices h : ∀ c j (m1 : q_Mm) w, j + c = q.1 → Fr [203] m m1 → Kp 203 [11] m m1 → q_V (q_g Z) mX8_pairOf (d+3) 0 0 7 [some (.ref (q_ad Z 203)), some (.int (nI bk)), some (.int (nI (s_po (fun p => s_sc n rl ws bk p) q.2.1 j).1)), some (.int (nI (s_po (fun p => s_sc n rl ws bk p) q.2.1 j).2)), some (.int (nI j)), w] [] (q_W Z (m1)) (q_P Z fun r m2 => r = some (.int (nI (s_po (fun p => s_sc n rl ws bk p) q.2.1 q.1).1)) ∧ Fr [203] m m2 ∧ Kp 203 [11] m m2) from h q.1 0 m _ (by omega) Fr.rf Kp.rf
  intro c
  induction c with
  | zero =>
    intro j m1 w hj f1 k1
    have F1 := hF.fr f1 (k1 7 (by decide)) (by decide) (by decide)
    obtain rfl : q.1 = j := by omega
    refine q_iload (pc' := 9) dX8_pairOf_7 rfl rfl ?_
    refine q_aload_n (pc' := 10) dX8_pairOf_9 rfl rfl ?_
    refine h_getiE (pc' := 13) dX8_pairOf_10 fX8_81 rfl rfl (F1.1) rfl ?_
    refine q_icmp_geN (tgt := 58) (pc' := 16) dX8_pairOf_13 (by decide) rfl (by omega) (fun c_13 => ?_) (fun c_13 => ?_)
    · refine q_iload_n (pc' := 59) dX8_pairOf_58 rfl rfl ?_
      refine q_iret dX8_pairOf_59 rfl rfl ⟨_, rfl, rfl, f1, k1⟩
    · omega
  | succ c ih =>
    intro j m1 w hj f1 k1
    have hP1 := hP.kp f1 k1 (by decide) (by decide) (by decide) (by decide) (by decide)
    have F1 := hF.fr f1 (k1 7 (by decide)) (by decide) (by decide)
    have hjL : j < q.1 := by omega
    have hb1 := s_po_le (f := fun p => s_sc n rl ws bk p) (fv := q.2.1) j (fun i hi => (hF.2.2.2 i (by omega)).1) (fun p => s_sc_le hr ws bk p)
    have hb2 := s_sc_le hr (n := n) ws bk (q.2.1 j)
    refine q_iload (pc' := 9) dX8_pairOf_7 rfl rfl ?_
    refine q_aload_n (pc' := 10) dX8_pairOf_9 rfl rfl ?_
    refine h_getiE (pc' := 13) dX8_pairOf_10 fX8_81 rfl rfl (F1.1) rfl ?_
    refine q_icmp_geN (tgt := 58) (pc' := 16) dX8_pairOf_13 (by decide) rfl (by omega) (fun c_13 => ?_) (fun c_13 => ?_)
    · omega
    refine q_aload_n (pc' := 17) dX8_pairOf_16 rfl rfl ?_
    refine q_iload_n (pc' := 18) dX8_pairOf_17 rfl rfl ?_
    refine q_aload_n (pc' := 19) dX8_pairOf_18 rfl rfl ?_
    refine h_getr (pc' := 22) dX8_pairOf_19 fX8_18 rfl rfl rfl ?_
    refine q_iload (pc' := 24) dX8_pairOf_22 rfl rfl ?_
    refine h_ialdE (pc' := 25) dX8_pairOf_24 rfl (rfl) (by omega) (by decide) ((F1.2.2.1 j hjL).1) rfl ?_
    refine h_callV (pc' := 28) (M' := mX8_sampleCost) (As := [_, _]) dX8_pairOf_25 iX8_sampleCost lX8_103 rfl rfl rfl rfl (Nat.le_of_ble_eq_true rfl) (Nat.le_of_ble_eq_true rfl) rfl rfl (c_sampleCost_203 hP1 hb (hF.2.2.2 j hjL).1) (fun r m' hq => ?_)
    obtain ⟨rfl, f2, k2⟩ := hq
    have F2 := F1.fr f2 (k2 7 (by decide)) (by decide) (by decide)
    have tk : (j = 0 ∨ s_sc n rl ws bk (q.2.1 j) < (s_po (fun p => s_sc n rl ws bk p) q.2.1 j).2) → q_V (q_g Z) mX8_pairOf (d+3) 0 0 41 [some (.ref (q_ad Z 203)), some (.int (nI bk)), some (.int (nI (s_po (fun p => s_sc n rl ws bk p) q.2.1 j).1)), some (.int (nI (s_po (fun p => s_sc n rl ws bk p) q.2.1 j).2)), some (.int (nI j)), some (.int (nI (s_sc n rl ws bk (q.2.1 j))))] [] (q_W Z (m')) (q_P Z fun r m2 => r = some (.int (nI (s_po (fun p => s_sc n rl ws bk p) q.2.1 q.1).1)) ∧ Fr [203] m m2 ∧ Kp 203 [11] m m2) := by
      intro ht
      have e : s_po (fun p => s_sc n rl ws bk p) q.2.1 (j + 1) = (q.2.1 j, s_sc n rl ws bk (q.2.1 j)) := by
        show (if _ then _ else _) = _
        rw [if_pos ht]
      refine q_aload_n (pc' := 42) dX8_pairOf_41 rfl rfl ?_
      refine h_getr (pc' := 45) dX8_pairOf_42 fX8_18 rfl rfl rfl ?_
      refine q_iload (pc' := 47) dX8_pairOf_45 rfl rfl ?_
      refine h_ialdE (pc' := 48) dX8_pairOf_47 rfl (rfl) (by omega) (by decide) ((F2.2.2.1 j hjL).1) rfl ?_
      refine q_istore_n (pc' := 49) (lv' := [_, _, _, _, _, _]) dX8_pairOf_48 (by decide) rfl rfl ?_
      refine q_iload (pc' := 51) dX8_pairOf_49 rfl rfl ?_
      refine q_istore_n (pc' := 52) (lv' := [_, _, _, _, _, _]) dX8_pairOf_51 (by decide) rfl rfl ?_
      refine q_iincN (pc' := 55) (j := 1) (lv' := [_, _, _, _, _, _]) dX8_pairOf_52 rfl (by decide) rfl rfl ?_
      refine q_goto (pc' := 7) dX8_pairOf_55 (by decide) ?_
      have h3 := ih (j + 1) m' (some (.int (nI (s_sc n rl ws bk (q.2.1 j))))) (by omega) (f1.trans f2) (k1.trans k2)
      rw [e] at h3
      exact h3
    refine q_istore (pc' := 30) (lv' := [_, _, _, _, _, _]) dX8_pairOf_28 (by decide) rfl rfl ?_
    refine q_iload (pc' := 32) dX8_pairOf_30 rfl rfl ?_
    refine q_if_eqN (tgt := 41) (pc' := 35) dX8_pairOf_32 (by decide) rfl (by omega) (fun c_32 => ?_) (fun c_32 => ?_)
    · exact tk (Or.inl c_32)
    refine q_iload (pc' := 37) dX8_pairOf_35 rfl rfl ?_
    refine q_iload_n (pc' := 38) dX8_pairOf_37 rfl rfl ?_
    refine q_icmp_geN (tgt := 52) (pc' := 41) dX8_pairOf_38 (by decide) rfl (by omega) (fun c_38 => ?_) (fun c_38 => ?_)
    · have e : s_po (fun p => s_sc n rl ws bk p) q.2.1 (j + 1) = s_po (fun p => s_sc n rl ws bk p) q.2.1 j := by
        show (if _ then _ else _) = _
        rw [if_neg (by intro z; rcases z with z | z; omega; exact absurd z (by simp only []; omega))]
      refine q_iincN (pc' := 55) (j := 1) (lv' := [_, _, _, _, _, _]) dX8_pairOf_52 rfl (by decide) rfl rfl ?_
      refine q_goto (pc' := 7) dX8_pairOf_55 (by decide) ?_
      have h3 := ih (j + 1) m' (some (.int (nI (s_sc n rl ws bk (q.2.1 j))))) (by omega) (f1.trans f2) (k1.trans k2)
      rw [e] at h3
      exact h3
    · exact tk (Or.inr c_38)
