/-! ===== GuisePack.value and the law's own value: returned or thrown ===== -/
theorem wL_cw : Cond.codeWith yL_value cL_value 4 (some .int) [(0, 8, 11, 13)] ∈ tbg := tb 1233 (by decide +kernel) (by decide +kernel)
theorem wL_st : Cond.static yL_value ∈ tbg := tb 1232 (by decide +kernel) (by decide +kernel)
theorem wL_lk : Cond.methodLink RL 43 yL_value ∈ tbg := tb 1231 (by decide +kernel) (by decide +kernel)
theorem wL_cl : Cond.classLink RL 13 "java/util/NoSuchElementException" ∈ tbg := tb 1234 (by decide +kernel) (by decide +kernel)
theorem wX_cl : Cond.classLink RX10 147 "java/util/NoSuchElementException" ∈ tbg := tb 1239 (by decide +kernel) (by decide +kernel)
theorem wX_it : Cond.initialized "java/util/NoSuchElementException" ∈ tbg := tb 135 (by decide +kernel) (by decide +kernel)
abbrev v_X3 : String := "java/util/NoSuchElementException"
def v_rx : ByteArray := ⟨#[0x2a, 0x2b, 0xb7, 0x00, 0x0d, 0xb1]⟩
theorem v_rx0 : decode v_rx 0 = .ok (.aload_n 0, 1) := by decide +kernel
theorem v_rx1 : decode v_rx 1 = .ok (.aload_n 1, 1) := by decide +kernel
theorem v_rx2 : decode v_rx 2 = .ok (.invokespecial 13, 3) := by decide +kernel
theorem v_rx5 : decode v_rx 5 = .ok (.return_, 1) := by decide +kernel
abbrev v_at : List Cond := vx_atX RX10 151 v_X3 13 v_rx ["java/lang/RuntimeException", "java/lang/Exception"]
def v_atB : List Cond := [.castable v_X3 v_X3, .declares (Bundle.initS "java/lang/RuntimeException"), .declares (Bundle.initS "java/lang/Exception"), .declares (Bundle.initS Bundle.tN)]
set_option maxRecDepth 20000 in
theorem v_at_in : ∀ w ∈ v_at.filter goodWord, w ∈ lw_tbl := by decide +kernel
set_option maxRecDepth 20000 in
theorem v_at_no : ∀ w ∈ v_at.filter (fun w => !goodWord w), w ∈ v_atB := by decide +kernel
set_option maxRecDepth 20000 in
theorem v_at_need : ∀ w ∈ ([.instantiable v_X3 6, .instanceMethod (Bundle.initS "java/lang/RuntimeException"), .code (Bundle.initS "java/lang/RuntimeException") Bundle.six 2 none, .instanceMethod (Bundle.initS "java/lang/Exception"), .code (Bundle.initS "java/lang/Exception") Bundle.six 2 none, .instanceMethod (Bundle.initS Bundle.tN), .code (Bundle.initS Bundle.tN) LibCode.Throwable.InitS.code 2 none] : List Cond), w ∈ lw_tbl ∧ goodWord w = true := by decide +kernel
theorem v_cast {args : Array Value} {s : State} {C : String} {n : Nat} (h : (Cond.instantiable C n).before args s = true) : (Cond.castable C C).before args s = true := by
  obtain ⟨c1, k, h1, h2, h3, -⟩ := Cond.instantiable_spec h
  have ha : s.vm.assignable c1 c1 = true := by simp [Vm.assignable, Vm.assignableAux, h2, h3, Vm.isSubclass, Vm.isSubclassAux]
  simp [Cond.before, Cond.holds, Cond.value, h1, ha]
theorem v_decl {args : Array Value} {s : State} {x : MethodName} {bytes : ByteArray} {n : Nat} {ret : Option FieldType} (h1 : (Cond.instanceMethod x).before args s = true) (h2 : (Cond.code x bytes n ret).before args s = true) : (Cond.declares x).before args s = true := by
  obtain ⟨m, meth, hn, hm, hst, -⟩ := Cond.instanceMethod_spec h1
  obtain ⟨meth', c, hm', -, -, -, -, -, -, hsig⟩ := Cond.code_spec hn h2
  cases Option.some.inj (hm.symm.trans hm')
  simp [Cond.before, Cond.holds, Cond.value, hn, hm, hst, hsig]
theorem v_hat {args : Array Value} {s : State} (hts : ∀ w ∈ tbg, w.before args s = true) : ∀ w ∈ v_at, w.before args s = true := by
  have nd : ∀ w ∈ ([.instantiable v_X3 6, .instanceMethod (Bundle.initS "java/lang/RuntimeException"), .code (Bundle.initS "java/lang/RuntimeException") Bundle.six 2 none, .instanceMethod (Bundle.initS "java/lang/Exception"), .code (Bundle.initS "java/lang/Exception") Bundle.six 2 none, .instanceMethod (Bundle.initS Bundle.tN), .code (Bundle.initS Bundle.tN) LibCode.Throwable.InitS.code 2 none] : List Cond), w.before args s = true := fun w h => hts w (List.mem_filter.mpr (v_at_need w h))
  refine vx_hat (B := v_atB) (fun w h => hts w (List.mem_filter.mpr ⟨v_at_in w h, (List.mem_filter.mp h).2⟩)) v_at_no ?_
  exact vx_c (v_cast (nd (.instantiable v_X3 6) (by simp))) (vx_c (v_decl (nd (.instanceMethod (Bundle.initS "java/lang/RuntimeException")) (by simp)) (nd (.code (Bundle.initS "java/lang/RuntimeException") Bundle.six 2 none) (by simp))) (vx_c (v_decl (nd (.instanceMethod (Bundle.initS "java/lang/Exception")) (by simp)) (nd (.code (Bundle.initS "java/lang/Exception") Bundle.six 2 none) (by simp))) (vx_c (v_decl (nd (.instanceMethod (Bundle.initS Bundle.tN)) (by simp)) (nd (.code (Bundle.initS Bundle.tN) LibCode.Throwable.InitS.code 2 none) (by simp))) vx_n)))
theorem v_ca {args : Array Value} {s : State} (hts : ∀ w ∈ tbg, w.before args s = true) : (Cond.castable v_X3 v_X3).before args s = true := v_cast (hts _ (List.mem_filter.mpr (v_at_need (.instantiable v_X3 6) (by simp))))
set_option maxRecDepth 20000 in
theorem v_at_ot : ∀ w ∈ Cond.classLink RX10 147 v_X3 :: Cond.initialized v_X3 :: v_at, vx_ot w = true := by decide +kernel
section WV
variable {G : q_G} {M M' : q_M} {d : Nat} {p : Program} {e : Env} {R : Room} {s : State} {m : MethodId} {args : Array Value} {below : List Frame} {meth : Method} {c : Code} {H : Heap} {locs : List Loc} {cells slots : Nat} {A : Nat → Prop} {Q : State → Prop} {ls : Array Slot} {pc : Nat} {st : List Value} {ws : va_W}
theorem w_get {idx ci j k a : Nat} {ty : FieldType} {fin : Bool} {fs : List Value} {v : Value} (X : q_X G M d p s m args meth c R A) (hP : va_P G.2.1 vwCl ws H) (hd : decode M.2.2.1 pc = .ok (.getfield idx, 3)) (hf : q_F M.1 idx ci j ty fin) (hw : ws[k]? = some (a, .inr (ci, fs))) (hv : fs[j]? = some v) (kk : W p G.1 e R s m args below meth c H locs cells slots Q (F0 m (pc + 3) ls (v :: st))) : W p G.1 e R s m args below meth c H locs cells slots Q (F0 m pc ls (.ref a :: st)) := by
  obtain ⟨C, T, N, t0, hc, hj, hlk, hin, hty, hnm, hCT, hfin, htj⟩ := hf
  exact va_get (D := G.2.1) X.1 X.2.1 X.2.2.2.2.2.1 hin X.2.2.2.2.1 X.2.2.2.2.2.2.2.2.2.2.1 hP k hw hc j hj (X.2.2.2.2.2.1 _ hlk) (fun x h => hCT ▸ h) hv hd kk
theorem w_cw {idx n mc1 ms1 d1 : Nat} (hts : ∀ w ∈ tbg, w.before args s = true) (hM : q_I M' n) (hlk : Cond.methodLink M.1 idx M'.2.1 ∈ tbg) (hR : d1 + 1 ≤ R.frames ∧ 8 + (M'.2.2.2.1 + 11) + 40 * d1 ≤ R.locals) : CallW R s args M.1 M'.1 idx M'.2.1 M'.2.2.1 M'.2.2.2.1 M'.2.2.2.2 (q_cw M') (q_rm d1 mc1 ms1) mc1 ms1 n := by
  obtain ⟨h1, h2, h3, h4, ⟨h5, h6, h7, h8⟩, h9, h10⟩ := hM
  have hG : GoodIn tbg (wsV M.1 idx M'.1 M'.2.1 (q_cw M')) := by
    refine q_good fun w hw => ?_
    simp only [wsV, List.cons_append, List.nil_append, List.mem_cons] at hw
    rcases hw with rfl | rfl | rfl | rfl | rfl | hw
    · exact hlk
    · exact h2
    · exact h3
    · exact h4
    · exact h1
    · exact hw
  exact cwV n hts hG rfl rfl rfl ⟨h5, h6, h7, h8⟩ hR
end WV
abbrev v_A (Z : q_Z) (m : q_Mm) (sz : Nat) : Nat → Prop := va_A (q_W Z m) sz
abbrev v_B (Z : q_Z) (m m2 : q_Mm) (sz : Nat) : Unit → State → Prop := fun _ t => va_P Z.2.1 vwCl (q_W Z m2) t.heap ∧ va_D (v_A Z m sz) (q_W Z m2)
theorem qb_eq0 {b : Bool} (h : q_b b = 0) : b = false := by
  cases b with
  | false => rfl
  | true => exact absurd h (by decide)
theorem qb_ne0 {b : Bool} (h : ¬ q_b b = 0) : b = true := by
  cases b with
  | true => rfl
  | false => exact absurd rfl h
set_option maxHeartbeats 4000000 in
set_option maxRecDepth 20000 in
theorem v_has {Z : q_Z} {mm : q_Mm} {n k : Nat} {t : Bool} {x : Int32} {rl : Nat → Nat} {xs : Nat → Int64} {nt : Nat → Int32} (sz : Nat) (hC : Col mm 19 n k xs rl nt) (ht : mm.1 0 14 = q_b t) : Met Z.1 mX10_hasPlace.2.1 (q_cw mX10_hasPlace) (q_rm 0 0 0) (q_Pc (q_g Z) [.ref (q_ad Z 0), .int x] (q_W Z mm) sz) (va_Qi (fun (r : Int32) (_ : Unit) => r = q_b (s_has t n x)) (v_B Z mm mm sz) (v_A Z mm sz)) 0 0 (v_A Z mm sz) := by
  refine Met.ofW (cc := cX10_hasPlace) (maxL := 2) (ret := some .boolean) (by decide +kernel) rfl ?_
  intro p e s m args below meth c s₁ B hml hv
  obtain ⟨rfl, hsz, hP, hD0, hE⟩ := hv
  subst hsz
  have hts := atoms_spec (ws := q_cw mX10_hasPlace) B.pre
  have hown : s.vm.findClass RX10 = some m.cls := findClass_of_methodNamed B.named
  have hlocks := B.notSynchronized
  have hin : meth.name = mX10_hasPlace.2.1.name := (name_of_methodNamed B.named B.method).1
  have X : q_X (q_g Z) mX10_hasPlace 0 p s m [.ref (q_ad Z 0), .int x].toArray meth c (q_rm 0 0 0) (v_A Z mm s.heap.size) := ⟨B.exec, B.bytes, B.returns, hml, hown, fun w hw => hts w (List.mem_cons_of_mem _ hw), hlocks, hin, ⟨Nat.le_refl _, Nat.le_refl _⟩, fun q h => Or.inr h, hE⟩
  have hl := lv_entry ([.ref (q_ad Z 0), .int x]) (n := 2) (Nat.le_of_ble_eq_true rfl)
  rw [lg_entry_eq]
  generalize (lg_sl ([.ref (q_ad Z 0), .int x]) ++ List.replicate (2 - (lg_sl ([.ref (q_ad Z 0), .int x])).length) Slot.unset).toArray = ls at hl ⊢
  have hl : lv_has ls 2 [(0, .ref (q_ad Z 0)), (1, .int x)] := hl
  have hS : va_S (v_A Z mm s.heap.size) s.heap s.heap [] := va_S.rf
  have hn := hC.2.2.1
  have fin : ∀ b, b = s_has t n x → W p Z.1 e (q_rm 0 0 0) s m [.ref (q_ad Z 0), .int x].toArray below meth c s.heap [] 0 0 (MQ below (va_Qi (fun (r : Int32) (_ : Unit) => r = q_b (s_has t n x)) (v_B Z mm mm s.heap.size) (v_A Z mm s.heap.size)) [.ref (q_ad Z 0), .int x].toArray s 0 0 (v_A Z mm s.heap.size)) (F0 m 27 ls [.int (q_b b)]) := by
    intro b hb
    subst hb
    exact W.zret (v := q_b (s_has t n x)) B.exec B.bytes B.returns (q_nb _) (fun t9 ht9 hW => ⟨⟨_, (), rfl, rfl, by rw [ht9]; exact hP, hD0.self⟩, hS.F (s := s) ht9⟩) hS.2.2 dX10_hasPlace_27
  have e1 : q_fv Z mm 0 14 (0, 0) = .int (q_b t) := by
    show Value.int (mm.1 0 14) = _
    rw [ht]
  have e2 : q_fv Z mm 19 3 (0, 0) = .int (nI n) := by
    show Value.int (mm.1 19 3) = _
    rw [hC.1]
  refine lv_aload_n X.1 X.2.1 dX10_hasPlace_0 rfl (lv_at hl 0 rfl) ?_
  refine w_get X hP dX10_hasPlace_1 fX10_122 (q_W_get (p := 0) rfl) ((q_fs_get rfl).trans (congrArg some e1)) ?_
  refine lv_if_eq (tgt := 26) X.1 X.2.1 dX10_hasPlace_4 (by decide) (fun c4 => ?_) (fun c4 => ?_)
  · refine lv_iconst (v := 0) X.1 X.2.1 dX10_hasPlace_26 (by decide) ?_
    exact fin false (by unfold s_has; rw [qb_eq0 c4]; rfl)
  have c4 := qb_ne0 c4
  refine lv_iload_n X.1 X.2.1 dX10_hasPlace_7 rfl (lv_at hl 1 rfl) ?_
  refine lv_if_lt (tgt := 26) X.1 X.2.1 dX10_hasPlace_8 (by decide) (fun c8 => ?_) (fun c8 => ?_)
  · rw [z_lt, z_0] at c8
    refine lv_iconst (v := 0) X.1 X.2.1 dX10_hasPlace_26 (by decide) ?_
    exact fin false (by unfold s_has; rw [decide_eq_false (fun z => by omega), Bool.and_false])
  rw [z_lt, z_0] at c8
  refine lv_iload_n X.1 X.2.1 dX10_hasPlace_11 rfl (lv_at hl 1 rfl) ?_
  refine lv_aload_n X.1 X.2.1 dX10_hasPlace_12 rfl (lv_at hl 0 rfl) ?_
  refine w_get X hP dX10_hasPlace_13 fX10_45 (q_W_get (p := 0) rfl) (q_fs_get rfl) ?_
  refine w_get X hP dX10_hasPlace_16 fX10_128 (q_W_get (p := 19) rfl) ((q_fs_get rfl).trans (congrArg some e2)) ?_
  refine lv_icmp_ge (tgt := 26) X.1 X.2.1 dX10_hasPlace_19 (by decide) (fun c19 => ?_) (fun c19 => ?_)
  · rw [z_le, z_n (by omega)] at c19
    refine lv_iconst (v := 0) X.1 X.2.1 dX10_hasPlace_26 (by decide) ?_
    exact fin false (by unfold s_has; rw [decide_eq_false (fun z => by omega), Bool.and_false])
  rw [z_le, z_n (by omega)] at c19
  refine lv_iconst (v := 1) X.1 X.2.1 dX10_hasPlace_22 (by decide) ?_
  refine lv_goto (tgt := 27) X.1 X.2.1 dX10_hasPlace_23 (by decide) ?_
  exact fin true (by unfold s_has; rw [c4, Bool.true_and]; exact (decide_eq_true (by omega)).symm)
/-- what a throw leaves -/
abbrev v_X (Z : q_Z) (m : q_Mm) (sz : Nat) (P : Prop) : String → State → State → Prop := vx_X (fun _ : Unit => P) (fun E _ t => E = "java/util/NoSuchElementException" ∧ va_P Z.2.1 vwCl (q_W Z m) t.heap ∧ va_D (v_A Z m sz) (q_W Z m)) (v_A Z m sz)
theorem v_blind {G : q_G} {av : List Value} {ws : va_W} {sz : Nat} : FrameBlind (q_Pc G av ws sz) := fun a U g mk q => by
  obtain ⟨q0, q1, qP, qD, qE⟩ := q
  exact ⟨q0, q1, qP, qD, qE.calling⟩
set_option maxHeartbeats 4000000 in
set_option maxRecDepth 20000 in
theorem v_val {Z : q_Z} {mm : q_Mm} {n k : Nat} {t : Bool} {x : Int32} {rl : Nat → Nat} {xs : Nat → Int64} {nt : Nat → Int32} (sz : Nat) (hst : Z.1.stackTraces = false) (hC : Col mm 19 n k xs rl nt) (ht : mm.1 0 14 = q_b t) : vx_Met Z.1 mX10_value.2.1 (q_cw mX10_value) (q_rm 7 1 6) (q_Pc (q_g Z) [.ref (q_ad Z 0), .int x] (q_W Z mm) sz) (va_Ql (fun (r : Int64) (_ : Unit) => s_has t n x = true ∧ r = xs (s_i x)) (v_B Z mm mm sz) (v_A Z mm sz)) (v_X Z mm sz (s_has t n x = false)) 1 6 (v_A Z mm sz) := by
  refine vx_ofW (cc := cX10_value) (maxL := 2) (ret := some .long) (by decide +kernel) rfl ?_
  intro p e s m args below meth c s₁ B hml htb hv
  obtain ⟨rfl, hsz, hP, hD0, hE⟩ := hv
  subst hsz
  have hts := atoms_spec (ws := q_cw mX10_value) B.pre
  have hown : s.vm.findClass RX10 = some m.cls := findClass_of_methodNamed B.named
  have hlocks := B.notSynchronized
  have hin : meth.name = mX10_value.2.1.name := (name_of_methodNamed B.named B.method).1
  have X : q_X (q_g Z) mX10_value 7 p s m [.ref (q_ad Z 0), .int x].toArray meth c (q_rm 7 1 6) (v_A Z mm s.heap.size) := ⟨B.exec, B.bytes, B.returns, hml, hown, fun w hw => hts w (List.mem_cons_of_mem _ hw), hlocks, hin, ⟨Nat.le_refl _, Nat.le_refl _⟩, fun q h => Or.inr h, hE⟩
  have hl := lv_entry ([.ref (q_ad Z 0), .int x]) (n := 2) (Nat.le_of_ble_eq_true rfl)
  rw [lg_entry_eq]
  generalize (lg_sl ([.ref (q_ad Z 0), .int x]) ++ List.replicate (2 - (lg_sl ([.ref (q_ad Z 0), .int x])).length) Slot.unset).toArray = ls at hl ⊢
  have hl : lv_has ls 2 [(0, .ref (q_ad Z 0)), (1, .int x)] := hl
  have hS : va_S (v_A Z mm s.heap.size) s.heap s.heap [] := va_S.rf
  have hn := hC.2.2.1
  refine lv_aload_n X.1 X.2.1 dX10_value_0 rfl (lv_at hl 0 rfl) ?_
  refine lv_iload_n X.1 X.2.1 dX10_value_1 rfl (lv_at hl 1 rfl) ?_
  refine va_calli (va_runV (As := [.int x]) (rest := []) ⟨X.1, X.2.1, X.2.2.2.1, X.2.2.2.2.1, X.2.2.2.2.2.1⟩ (v_has (x := x) s.heap.size hC ht) (w_cw X.2.2.2.2.2.1 iX10_hasPlace lX10_144 ⟨by decide, by decide⟩) ⟨v_blind, va_recv X.2.2.2.2.2.2.2.2.2.2.1 hP (ci := 10) rfl (q_W_get (p := 0) rfl), fun U hU hW => ⟨rfl, by rw [hU], by rw [hU]; exact hP, hD0, hE.to hS hU hW (fun _ h => h)⟩⟩ rfl rfl hl.1 rfl (Nat.le_of_ble_eq_true rfl) dX10_value_2 ⟨Nat.zero_le _, Nat.zero_le _⟩) hS (fun q _ h => h) (fun q h => h) (fun r u t9 H1 locs htt hvm hw hB hz1 hk1 hS => ?_)
  obtain ⟨hP1, hD1⟩ := hB
  rw [htt] at hP1
  rw [hw]
  refine lv_if_ne (tgt := 18) X.1 X.2.1 dX10_value_5 (by decide) (fun c5 => ?_) (fun c5 => ?_)
  · have c5 := qb_ne0 c5
    obtain ⟨j, hx, hj⟩ := z_has c5 (by omega)
    refine lv_aload_n X.1 X.2.1 dX10_value_18 rfl (lv_at hl 0 rfl) ?_
    refine w_get X hP1 dX10_value_19 fX10_45 (q_W_get (p := 0) rfl) (q_fs_get rfl) ?_
    refine w_get X hP1 dX10_value_22 fX10_154 (q_W_get (p := 19) rfl) (q_fs_get rfl) ?_
    refine lv_iload_n X.1 X.2.1 dX10_value_25 rfl (lv_at hl 1 rfl) ?_
    refine va_lald (D := Z.2.1) X.1 X.2.1 X.2.2.2.2.2.2.2.2.2.2.1 hP1 20 1 (q_W_get (p := 20) rfl) rfl (by rw [hx]; exact vp_in_nI (by omega) (by omega)) dX10_value_26 ?_
    refine W.widen (k := 1) (n := 6) (Nat.zero_le _) (Nat.zero_le _) ?_
    refine vx_ret ?_
    exact W.lret B.exec B.bytes B.returns (fun t8 ht8 hW => ⟨⟨_, (), rfl, ⟨c5, by rw [hx, nI_clamp (by omega), s_i_n (by omega)]; exact hC.2.2.2.2.1 j hj⟩, by rw [ht8]; exact hP1, hD1⟩, hS.F (s := s) ht8⟩) hS.2.2 dX10_value_27
  · have c5 : s_has t n x = false := qb_eq0 (Classical.not_not.mp (fun z => by first | exact z c5 | exact c5 z))
    obtain ⟨sa, hsa⟩ := hE.2.2.2.2.2.2.2.2
    refine vx_throwSX (own := RX10) (cls := "java/util/NoSuchElementException") (text := "no such VALUE") (names := ["java/lang/RuntimeException", "java/lang/Exception"]) (ik := 147) (is := 149) (ic := 151) (sa := sa) (A := v_A Z mm s.heap.size) X.1 X.2.1 hst v_rx0 v_rx1 v_rx2 v_rx5 hown (by decide +kernel) (by decide +kernel) (X.2.2.2.2.2.1 _ wX_cl) (X.2.2.2.2.2.1 _ wX_it) hsa (v_hat X.2.2.2.2.2.1) v_at_ot hE.2.2.2.2.2.2.1 hE.2.2.2.2.2.2.2.1 hS (hl.1.trans hml.symm) dX10_value_8 dX10_value_11 dX10_value_12 dX10_value_14 dX10_value_17 (fun x9 h9 => absurd (htb x9 h9) id) (by decide) (by decide) (by decide) (by decide) hlocks (fun t8 hA8 hz8 hk8 => ⟨(), c5, ⟨rfl, hP1.kept (fun k9 x9 hx9 => hk8 _ (hP1 k9 x9 hx9).lt), hD1⟩, ⟨Nat.le_trans hS.1 hz8, fun q h1 h2 => (hk8 q (Nat.lt_of_lt_of_le h1 hS.1)).trans (hS.2.1 q h1 h2)⟩⟩) hS.2.2 (Nat.le_refl _) (Nat.le_refl _)
set_option maxHeartbeats 4000000 in
set_option maxRecDepth 20000 in
theorem v_law {Z : q_Z} {mm m2 : q_Mm} {n k : Nat} {t : Bool} {x r0 : Int32} {rl : Nat → Nat} {xs : Nat → Int64} {nt : Nat → Int32} (sz : Nat) (hst : Z.1.stackTraces = false) (hC : Col mm 19 n k xs rl nt) (ht : mm.1 0 14 = q_b t) (hm : (s_has t n x = true ∧ m2 = sL mm 242 (q_u (mm.2.2.2.1 242) 0 (xs (s_i x))) ∧ r0 = 0) ∨ (s_has t n x = false ∧ m2 = mm ∧ r0 = 1)) : vx_Met Z.1 yL_value (Cond.codeWith yL_value cL_value 4 (some .int) [(0, 8, 11, 13)] :: tbg) (q_rm 9 1 6) (q_Pc (q_g Z) [.ref (q_ad Z 0), .int x, .ref (q_ad Z 242)] (q_W Z mm) sz) (va_Qi (fun (r : Int32) (_ : Unit) => r = r0) (v_B Z mm m2 sz) (v_A Z mm sz)) (v_X Z mm sz False) 1 6 (v_A Z mm sz) := by
  refine vx_ofWH (cc := cL_value) (maxL := 4) (ret := some .int) (hh := [(0, 8, 11, 13)]) (by decide +kernel) rfl ?_
  intro p e s m args below meth c s₁ B hml hv
  obtain ⟨rfl, hsz, hP, hD0, hE⟩ := hv
  subst hsz
  have hts := atoms_spec (ws := Cond.codeWith yL_value cL_value 4 (some .int) [(0, 8, 11, 13)] :: tbg) B.pre
  have htg : ∀ w ∈ tbg, w.before [.ref (q_ad Z 0), .int x, .ref (q_ad Z 242)].toArray s = true := fun w hw => hts w (List.mem_cons_of_mem _ hw)
  have hown : s.vm.findClass RL = some m.cls := findClass_of_methodNamed B.named
  have hlocks := B.notSynchronized
  have hx := B.exec
  have hb := B.bytes
  have hl := lv_entry ([.ref (q_ad Z 0), .int x, .ref (q_ad Z 242)]) (n := 4) (Nat.le_of_ble_eq_true rfl)
  rw [lg_entry_eq]
  generalize (lg_sl ([.ref (q_ad Z 0), .int x, .ref (q_ad Z 242)]) ++ List.replicate (4 - (lg_sl ([.ref (q_ad Z 0), .int x, .ref (q_ad Z 242)])).length) Slot.unset).toArray = ls at hl ⊢
  have hl : lv_has ls 4 [(0, .ref (q_ad Z 0)), (1, .int x), (2, .ref (q_ad Z 242))] := hl
  have hS : va_S (v_A Z mm s.heap.size) s.heap s.heap [] := va_S.rf
  have hK : va_K Z.2.1 vwCl (q_g Z).2.2.1 s := hE.1
  refine lv_aload_n hx hb dL_value_0 rfl (lv_at hl 2 rfl) ?_
  refine lv_iconst (v := 0) hx hb dL_value_1 (by decide) ?_
  refine lv_aload_n hx hb dL_value_2 rfl (lv_at hl 0 rfl) ?_
  refine lv_iload_n hx hb dL_value_3 rfl (lv_at hl 1 rfl) ?_
  refine vx_calll (vx_runV (As := [.int x]) (rest := [.int 0, .ref (q_ad Z 242)]) ⟨hx, hb, hml, hown, htg⟩ (v_val (x := x) s.heap.size hst hC ht) (w_cw (M := mL "") htg iX10_value lL_7 ⟨by decide, by decide⟩) ⟨v_blind, va_recv hK hP (ci := 10) rfl (q_W_get (p := 0) rfl), fun U hU hW => ⟨rfl, by rw [hU], by rw [hU]; exact hP, hD0, hE.to hS hU hW (fun _ h => h)⟩⟩ rfl rfl hl.1 rfl (Nat.le_of_ble_eq_true rfl) dL_value_4 ⟨Nat.le_refl _, Nat.le_refl _⟩) hS (fun q _ h => h) (fun q h => h) (fun q _ h => h) (fun E ce q9 u t9 H1 locs htt hvm hpx hbx hz1 hk1 hS hce hcv hcl => ?_) (fun r u t9 H1 locs htt hvm hw hB hz1 hk1 hS => ?_)
  · obtain ⟨rfl, hP1, hD1⟩ := hbx
    rw [htt] at hP1
    have hm : m2 = mm ∧ r0 = 1 := by
      rcases hm with h | h
      · rw [hpx] at h; exact absurd h.1 (by decide)
      · exact h.2
    obtain ⟨rfl, rfl⟩ := hm
    refine vx_catch (own := RL) (name := "java/util/NoSuchElementException") hown [] _ [] ((vx_table (x := yL_value) B (hts _ List.mem_cons_self)).trans rfl) (fun z hz => absurd hz List.not_mem_nil) rfl (by decide) (htg _ wL_cl) (v_ca htg) hce hcv hcl ?_
    refine lv_astore_n (lv' := [(3, .ref q9), (0, .ref (q_ad Z 0)), (1, .int x), (2, .ref (q_ad Z 242))]) hx hb dL_value_11 rfl hl (by decide) rfl (fun ls hl => ?_)
    refine lv_iconst (v := 1) hx hb dL_value_12 (by decide) ?_
    refine vx_ret ?_
    exact W.iret B.exec B.bytes B.returns (fun t8 ht8 hW => ⟨⟨_, (), rfl, rfl, by rw [ht8]; exact hP1, hD1⟩, hS.F (s := s) ht8⟩) hS.2.2 dL_value_13
  · obtain ⟨hP1, hD1⟩ := hB
    rw [htt] at hP1
    obtain ⟨hw1, hw2⟩ := hw
    have hm : m2 = sL mm 242 (q_u (mm.2.2.2.1 242) 0 (xs (s_i x))) ∧ r0 = 0 := by
      rcases hm with h | h
      · exact h.2
      · rw [hw1] at h; exact absurd h.1 (by decide)
    obtain ⟨rfl, rfl⟩ := hm
    rw [hw2]
    refine va_last (D := Z.2.1) hx hb hK hP1 hD1 hS 242 1 (q_W_get (p := 242) rfl) rfl (show vp_in (0 : Int32) 1 from vp_in_nI (show 0 < 1 by decide) (by decide)) dL_value_7 (fun H2 locs2 hP2 hD2 hS2 => ?_)
    have e2 : (q_W Z mm).set 242 (q_ad Z 242, q_cl Z (sL mm 242 (q_u (mm.2.2.2.1 242) 0 (xs (s_i x)))) 242 (.inr (1, 1))) = q_W Z (sL mm 242 (q_u (mm.2.2.2.1 242) 0 (xs (s_i x)))) := q_W_set (p := 242) (s := .inr (1, 1)) rfl (fun q s' hq => q_cl_n (rfl) (rfl) (rfl) (by simp [sL, q_up, hq]) (rfl))
    have e3 : (q_W Z mm).set 242 (q_ad Z 242, .inl (Z.2.2.1 1, 1, .inr (.inl (vp_updL (mm.2.2.2.1 242) (nI 0).toNatClampNeg (xs (s_i x)))))) = q_W Z (sL mm 242 (q_u (mm.2.2.2.1 242) 0 (xs (s_i x)))) := by
      rw [← e2]
      simp only [q_cl, sL, q_up_s]
      rfl
    have hP2 : va_P Z.2.1 vwCl ((q_W Z mm).set 242 (q_ad Z 242, .inl (Z.2.2.1 1, 1, .inr (.inl (vp_updL (mm.2.2.2.1 242) (nI 0).toNatClampNeg (xs (s_i x))))))) H2 := hP2
    have hD2 : va_D (v_A Z mm s.heap.size) ((q_W Z mm).set 242 (q_ad Z 242, .inl (Z.2.2.1 1, 1, .inr (.inl (vp_updL (mm.2.2.2.1 242) (nI 0).toNatClampNeg (xs (s_i x))))))) := hD2
    rw [e3] at hP2 hD2
    refine lv_goto (tgt := 14) hx hb dL_value_8 (by decide) ?_
    refine lv_iconst (v := 0) hx hb dL_value_14 (by decide) ?_
    refine vx_ret ?_
    exact W.iret B.exec B.bytes B.returns (fun t8 ht8 hW => ⟨⟨_, (), rfl, rfl, by rw [ht8]; exact hP2, hD2⟩, hS2.F (s := s) ht8⟩) hS2.2.2 dL_value_15
/-- the law's call of its own value -/
theorem l_value {Z : q_Z} {nm : String} {mc ms n k : Nat} {m : q_Mm} {t : Bool} {x : Int32} {rl : Nat → Nat} {xs : Nat → Int64} {nt : Nat → Int32} {lv : List (Option Value)} {post : Option Value → va_W → Prop} (hst : Z.1.stackTraces = false) (hC : Col m 19 n k xs rl nt) (ht : m.1 0 14 = q_b t) (k1 : s_has t n x = true → q_V (q_g Z) (mL nm) 12 mc ms 376 lv [.int 0] (q_W Z (sL m 242 (q_u (m.2.2.2.1 242) 0 (xs (s_i x))))) post) (k2 : s_has t n x = false → q_V (q_g Z) (mL nm) 12 mc ms 376 lv [.int 1] (q_W Z m) post) : q_V (q_g Z) (mL nm) 12 (mc + 1) (ms + 6) 373 lv [.ref (q_ad Z 242), .int x, .ref (q_ad Z 0)] (q_W Z m) post := by
  obtain ⟨m2, r0, hm, kk⟩ : ∃ (m2 : q_Mm) (r0 : Int32), ((s_has t n x = true ∧ m2 = sL m 242 (q_u (m.2.2.2.1 242) 0 (xs (s_i x))) ∧ r0 = 0) ∨ (s_has t n x = false ∧ m2 = m ∧ r0 = 1)) ∧ q_V (q_g Z) (mL nm) 12 mc ms 376 lv [.int r0] (q_W Z m2) post := by
    cases h : s_has t n x with
    | true => exact ⟨_, _, Or.inl ⟨rfl, rfl, rfl⟩, k1 h⟩
    | false => exact ⟨_, _, Or.inr ⟨rfl, rfl, rfl⟩, k2 h⟩
  intro p e s mi args below meth c R H locs cells slots d0 A Q X ls hl
  have hro := X.1.2.2.2.2.2.2.2.2.1
  have hrm := X.2.2.1
  have hS := X.2.2.2.2.2.1
  have hA0 := X.1.2.2.2.2.2.2.2.2.2.1
  have hA : ∀ q, va_A (q_W Z m) H.size q → A q := by
    intro q hq
    rcases hq with ⟨k9, e9, hq⟩ | hq
    · exact X.2.2.2.2.1.2 k9 (q, e9) hq
    · exact hA0 q (Nat.le_trans hS.1 hq)
  have hG : GoodIn tbg (va_wsS RL 43 yL_value (Cond.codeWith yL_value cL_value 4 (some .int) [(0, 8, 11, 13)] :: tbg)) := by
    refine q_good fun w hw => ?_
    simp only [va_wsS, List.cons_append, List.nil_append, List.mem_cons] at hw
    rcases hw with rfl | rfl | rfl | rfl | hw
    · exact wL_lk
    · exact wL_st
    · exact itL
    · exact wL_cw
    · exact hw
  have hcw : vx_CSW R (s.setDrawn d0) args RL 43 yL_value cL_value 4 (some .int) [(0, 8, 11, 13)] (Cond.codeWith yL_value cL_value 4 (some .int) [(0, 8, 11, 13)] :: tbg) (q_rm 9 1 6) 1 6 3 := vx_cwSW 3 X.ts hG rfl rfl rfl ⟨by decide +kernel, by decide +kernel, by decide +kernel⟩ ⟨by show 9 + 1 ≤ R.frames; omega, by show 8 + (4 + 11) + 40 * 9 ≤ R.locals; omega⟩
  have hpre := q_pre X [.ref (q_ad Z 0), .int x, .ref (q_ad Z 242)]
  refine vx_calli (vx_runSX (As := [.ref (q_ad Z 0), .int x, .ref (q_ad Z 242)]) (rest := []) ⟨X.1.1, X.1.2.1, X.1.2.2.2.1, X.1.2.2.2.2.1, X.ts⟩ (v_law H.size hst hC ht hm) hcw hpre rfl rfl hl.1 rfl (by show 2 * 0 + _ ≤ 8; decide) dL_law_373 ⟨by omega, by omega⟩) hS (fun q _ h => hA q h) hA (fun q _ h => hA q h) (fun E ce q9 u t9 H1 locs1 htt hvm hpx hbx hz1 hk1 hS1 hce hcv hcl => absurd hpx id) (fun r u t9 H1 locs1 htt hvm hw hB hz1 hk1 hS1 => ?_)
  obtain ⟨hP1, hD1⟩ := hB
  rw [htt] at hP1
  rw [hw]
  exact kk ⟨X.1, X.2.1, ⟨by omega, by omega⟩, hP1, hD1.weaken (fun _ q _ h => hA q.1 h), hS1, X.2.2.2.2.2.2⟩ ls hl
