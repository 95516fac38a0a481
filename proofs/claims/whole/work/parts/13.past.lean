/-! ===== Past: the latest first ===== -/
/-- a COLUMN: how many VALUES, how many notes, VALUES, RULES, notes -/
abbrev q_Cs : Type := Nat × Nat × (Nat → Int64) × (Nat → Nat) × (Nat → Int32)
def ColC (m : q_Mm) (o : Nat) (c : q_Cs) : Prop := Col m o c.1 c.2.1 c.2.2.1 c.2.2.2.1 c.2.2.2.2
def Pst (m : q_Mm) (us : List q_Cs) : Prop := ∃ nx, nx < 40 ∧ m.1 27 1 = nI nx ∧ m.1 27 2 = nI us.length ∧ us.length ≤ 40 ∧ ∀ i c, us[i]? = some c → ColC m (29 + 4 * ((nx + 39 - i) % 40)) c
def q_pastL : List Nat := List.range' 27 162
theorem pl_in {p : Nat} : p ∈ q_pastL ↔ 27 ≤ p ∧ p < 189 := by unfold q_pastL; rw [List.mem_range'_1]
theorem ColC.fr {S : List Nat} {m m2 : q_Mm} {o : Nat} {c : q_Cs} (h : ColC m o c) (f : Fr S m m2) (h0 : o ∉ S) (h1 : o + 1 ∉ S) (h2 : o + 2 ∉ S) (h3 : o + 3 ∉ S) : ColC m2 o c := Col.fr h f h0 h1 h2 h3
theorem Pst.fr {S : List Nat} {m m2 : q_Mm} {us : List q_Cs} (h : Pst m us) (f : Fr S m m2) (hs : ∀ p ∈ S, p < 27 ∨ 189 ≤ p) : Pst m2 us := by
  obtain ⟨nx, h1, h2, h3, h4, h5⟩ := h
  have k : ∀ p, 27 ≤ p → p < 189 → p ∉ S := fun p a b c => by have := hs p c; omega
  exact ⟨nx, h1, (congrFun (f.i (k 27 (by decide) (by decide))) 1).trans h2, (congrFun (f.i (k 27 (by decide) (by decide))) 2).trans h3, h4, fun i c hc => (h5 i c hc).fr f (k _ (by omega) (by omega)) (k _ (by omega) (by omega)) (k _ (by omega) (by omega)) (k _ (by omega) (by omega))⟩
theorem z_take (c : q_Cs) (us : List q_Cs) : ((c :: us).take 40).length = if us.length < 40 then us.length + 1 else 40 := by
  rw [List.length_take, List.length_cons]
  split <;> omega
set_option maxHeartbeats 4000000 in
set_option maxRecDepth 20000 in
theorem c_keep {Z : q_Z} {m : q_Mm} {d : Nat} {us : List q_Cs} {c : q_Cs} (hC : ColC m 19 c) (hP : Pst m us) : q_V (q_g Z) mX7_keep (d+2) 0 0 0 [some (.ref (q_ad Z 27)), some (.ref (q_ad Z 19))] [] (q_W Z m) (q_P Z fun r m2 => r = none ∧ Fr q_pastL m m2 ∧ Pst m2 ((c :: us).take 40)) := by
  obtain ⟨nx, hnx, h2, h3, h4, h5⟩ := hP
  refine q_aload_n (pc' := 1) dX7_keep_0 rfl rfl ?_
  refine h_getr (pc' := 4) dX7_keep_1 fX7_11 rfl rfl rfl ?_
  refine q_aload_n (pc' := 5) dX7_keep_4 rfl rfl ?_
  refine h_geti (pc' := 8) dX7_keep_5 fX7_18 rfl rfl rfl ?_
  refine h_aald (pc' := 9) dX7_keep_8 (h2) (hnx) rfl ?_
  refine q_aload_n (pc' := 10) dX7_keep_9 rfl rfl ?_
  refine h_callV (pc' := 13) (M' := mX2_become) (As := [_]) dX7_keep_10 iX2_become lX7_22 rfl ((cs_past nx hnx).1) rfl rfl (Nat.le_of_ble_eq_true rfl) (Nat.le_of_ble_eq_true rfl) rfl rfl (c_become (cs_past nx hnx) cs_19 (by omega) hC) (fun r m' hq => ?_)
  obtain ⟨rfl, f1, hC1⟩ := hq
  have g1 : m'.1 27 = m.1 27 := f1.i (by simp; omega)
  have fr : Fr q_pastL m m' := f1.mono (fun p hp => by rw [pl_in]; simp at hp; omega)
  have key : ∀ (m2 : q_Mm), Fr [27] m' m2 → m2.1 27 1 = nI ((nx + 1) % 40) → m2.1 27 2 = nI ((c :: us).take 40).length → Pst m2 ((c :: us).take 40) := by
    intro m2 f2 a b
    refine ⟨(nx + 1) % 40, Nat.mod_lt _ (by decide), a, b, by rw [List.length_take]; omega, ?_⟩
    intro i c' hc
    rw [List.getElem?_take] at hc
    split at hc
    · rename_i hi
      cases i with
      | zero =>
        simp only [List.getElem?_cons_zero, Option.some.injEq] at hc
        subst hc
        rw [show ((nx + 1) % 40 + 39 - 0) % 40 = nx by omega]
        exact hC1.fr f2 (by simp; omega) (by simp; omega) (by simp; omega) (by simp; omega)
      | succ i =>
        simp only [List.getElem?_cons_succ] at hc
        rw [show ((nx + 1) % 40 + 39 - (i + 1)) % 40 = (nx + 39 - i) % 40 by omega]
        exact ((h5 i c' hc).fr f1 (by simp; omega) (by simp; omega) (by simp; omega) (by simp; omega)).fr f2 (by simp; omega) (by simp; omega) (by simp; omega) (by simp; omega)
    · cases hc
  refine q_aload_n (pc' := 14) dX7_keep_13 rfl rfl ?_
  refine q_aload_n (pc' := 15) dX7_keep_14 rfl rfl ?_
  refine h_getiE (pc' := 18) dX7_keep_15 fX7_18 rfl rfl ((congrFun g1 1).trans h2) rfl ?_
  refine q_iconst (pc' := 19) (v := nI 1) dX7_keep_18 rfl rfl ?_
  refine q_iaddN (pc' := 20) dX7_keep_19 rfl ?_
  refine q_bipush (pc' := 22) (v := nI 40) dX7_keep_20 rfl rfl ?_
  refine q_iremN (pc' := 23) dX7_keep_22 (by omega) rfl ?_
  refine h_puti (pc' := 26) dX7_keep_23 fX7_18 rfl rfl rfl rfl rfl ?_
  refine q_aload_n (pc' := 27) dX7_keep_26 rfl rfl ?_
  refine h_getiE (pc' := 30) dX7_keep_27 fX7_26 rfl rfl ((congrFun g1 2).trans h3) rfl ?_
  refine q_bipush (pc' := 32) (v := nI 40) dX7_keep_30 rfl rfl ?_
  refine q_icmp_geN (tgt := 45) (pc' := 35) dX7_keep_32 (by decide) rfl (by omega) (fun c_32 => ?_) (fun c_32 => ?_)
  · exact q_vret dX7_keep_45 rfl ⟨_, rfl, rfl, fr.trans (((Fr.rf (S := [27])).I (by decide)).mono (by simp [pl_in])), key _ (Fr.rf.I (by decide)) rfl (by rw [z_take, if_neg (by omega)]; show m'.1 27 2 = _; rw [congrFun g1 2, h3]; exact congrArg nI (by omega))⟩
  · refine q_aload_n (pc' := 36) dX7_keep_35 rfl rfl ?_
    refine q_dup (pc' := 37) dX7_keep_36 rfl rfl ?_
    refine h_getiE (pc' := 40) dX7_keep_37 fX7_26 rfl rfl ((congrFun g1 2).trans h3) rfl ?_
    refine q_iconst (pc' := 41) (v := nI 1) dX7_keep_40 rfl rfl ?_
    refine q_iaddN (pc' := 42) dX7_keep_41 rfl ?_
    refine h_puti (pc' := 45) dX7_keep_42 fX7_26 rfl rfl rfl rfl rfl ?_
    exact q_vret dX7_keep_45 rfl ⟨_, rfl, rfl, fr.trans ((((Fr.rf (S := [27])).I (by decide)).I (by decide)).mono (by simp [pl_in])), key _ ((Fr.rf.I (by decide)).I (by decide)) rfl (by rw [z_take, if_pos (by omega)]; rfl)⟩
set_option maxHeartbeats 4000000 in
set_option maxRecDepth 20000 in
theorem c_restore {Z : q_Z} {m : q_Mm} {d : Nat} {us : List q_Cs} {c c0 : q_Cs} (hC : ColC m 19 c0) (hP : Pst m (c :: us)) : q_V (q_g Z) mX7_restore (d+2) 0 0 0 [some (.ref (q_ad Z 27)), some (.ref (q_ad Z 19))] [] (q_W Z m) (q_P Z fun r m2 => r = none ∧ Fr [19, 20, 21, 22, 27] m m2 ∧ Pst m2 us ∧ ColC m2 19 c) := by
  obtain ⟨nx, hnx, h2, h3, h4, h5⟩ := hP
  have hl : us.length + 1 ≤ 40 := h4
  have h3 : m.1 27 2 = nI (us.length + 1) := h3
  refine q_aload_n (pc' := 1) dX7_restore_0 rfl rfl ?_
  refine q_aload_n (pc' := 2) dX7_restore_1 rfl rfl ?_
  refine h_getiE (pc' := 5) dX7_restore_2 fX7_18 rfl rfl (h2) rfl ?_
  refine q_bipush (pc' := 7) (v := nI 40) dX7_restore_5 rfl rfl ?_
  refine q_iaddN (pc' := 8) dX7_restore_7 rfl ?_
  refine q_iconst (pc' := 9) (v := nI 1) dX7_restore_8 rfl rfl ?_
  refine q_isubN (pc' := 10) dX7_restore_9 (by omega) rfl ?_
  refine q_bipush (pc' := 12) (v := nI 40) dX7_restore_10 rfl rfl ?_
  refine q_iremN (pc' := 13) dX7_restore_12 (by omega) rfl ?_
  refine h_puti (pc' := 16) dX7_restore_13 fX7_18 rfl rfl rfl rfl rfl ?_
  refine q_aload_n (pc' := 17) dX7_restore_16 rfl rfl ?_
  refine q_dup (pc' := 18) dX7_restore_17 rfl rfl ?_
  refine h_getiE (pc' := 21) dX7_restore_18 fX7_26 rfl rfl (h3) rfl ?_
  refine q_iconst (pc' := 22) (v := nI 1) dX7_restore_21 rfl rfl ?_
  refine q_isubN (pc' := 23) dX7_restore_22 (by omega) rfl ?_
  refine h_puti (pc' := 26) dX7_restore_23 fX7_26 rfl rfl rfl rfl rfl ?_
  generalize hm1 : sI (sI m 27 1 (nI ((nx + 40 - 1) % 40))) 27 2 (nI (us.length + 1 - 1)) = m1
  have f1 : Fr [27] m m1 := hm1 ▸ (Fr.rf.I (by decide)).I (by decide)
  have e1 : m1.1 27 1 = nI ((nx + 40 - 1) % 40) := hm1 ▸ rfl
  have e2 : m1.1 27 2 = nI us.length := hm1 ▸ rfl
  have e3 : (nx + 40 - 1) % 40 = (nx + 39 - 0) % 40 := by omega
  have hx := (h5 0 c rfl).fr f1 (by simp; omega) (by simp; omega) (by simp; omega) (by simp; omega)
  rw [← e3] at hx
  refine q_aload_n (pc' := 27) dX7_restore_26 rfl rfl ?_
  refine q_aload_n (pc' := 28) dX7_restore_27 rfl rfl ?_
  refine h_getr (pc' := 31) dX7_restore_28 fX7_11 rfl rfl rfl ?_
  refine q_aload_n (pc' := 32) dX7_restore_31 rfl rfl ?_
  refine h_geti (pc' := 35) dX7_restore_32 fX7_18 rfl rfl rfl ?_
  refine h_aald (pc' := 36) dX7_restore_35 (e1) (Nat.mod_lt _ (by decide)) rfl ?_
  refine h_callV (pc' := 39) (M' := mX2_become) (As := [_]) dX7_restore_36 iX2_become lX7_22 rfl rfl rfl rfl (Nat.le_of_ble_eq_true rfl) (Nat.le_of_ble_eq_true rfl) rfl rfl (c_become cs_19 (cs_past _ (Nat.mod_lt _ (by decide))) (by omega) hx) (fun r m' hq => ?_)
  obtain ⟨rfl, f2, hC1⟩ := hq
  exact q_vret dX7_restore_39 rfl ⟨_, rfl, rfl, (f1.mono (by decide)).trans (f2.mono (by decide)), ⟨(nx + 40 - 1) % 40, Nat.mod_lt _ (by decide), (congrFun (f2.i (by decide)) 1).trans e1, (congrFun (f2.i (by decide)) 2).trans e2, by omega, fun i c' hc => by rw [show ((nx + 40 - 1) % 40 + 39 - i) % 40 = (nx + 39 - (i + 1)) % 40 by have := (List.getElem?_eq_some_iff.mp hc).1; omega]; exact ((h5 (i + 1) c' hc).fr f1 (by simp; omega) (by simp; omega) (by simp; omega) (by simp; omega)).fr f2 (by simp; omega) (by simp; omega) (by simp; omega) (by simp; omega)⟩, hC1⟩
