/-! ===== the claim, from the law's entry ===== -/
theorem ns_w : ∀ z ∈ q_nestF, Cond.fieldLinkNest z.1 z.2.1 z.2.2.1 z.2.2.2.1 z.2.2.2.2.1 z.2.2.2.2.2 ∈ lw_tbl := by decide +kernel
theorem ns_m : ∀ z ∈ q_nestM, Cond.methodLinkNest z.1 z.2.1 z.2.2.1 z.2.2.2 ∈ lw_tbl := by decide +kernel
theorem ls_w : ∀ z ∈ q_stat, Cond.laysStatic z.1 z.2.1 z.2.2.1 ∈ lw_tbl ∧ Cond.initialized z.1 ∈ lw_tbl := by decide +kernel
theorem lt_w : Cond.laysStatic Bundle.tN "UNASSIGNED_STACK" Bundle.steD ∈ lw_tbl ∧ Cond.laysStatic Bundle.tN "SUPPRESSED_SENTINEL" Bundle.listD ∈ lw_tbl ∧ Cond.initialized Bundle.tN ∈ lw_tbl := by decide +kernel
theorem ao_w : Cond.arrayOver (.object "GuisePack$Column") ∈ lw_tbl := List.mem_of_getElem? (i := 306) (by decide +kernel)
theorem sr_w : Cond.stringRef RX10 149 "no such VALUE" ∈ lw_tbl := by decide +kernel
/-- a row of five that the class keeps, given as read off -/
theorem five_of {args : Array Value} {s : State} {C n d : String} {ty : FieldType} {f : Nat → Value} {A : Nat → Prop} {v0 v1 v2 v3 v4 : Int32} (h0 : f 0 = .int v0) (h1 : f 1 = .int v1) (h2 : f 2 = .int v2) (h3 : f 3 = .int v3) (h4 : f 4 = .int v4) (harr : (Cond.arrayOf (.static C n d) ty).before args s = true) (hlen : (Cond.eq (.length (.static C n d)) (.int 5)).before args s = true)
    (e0 : (Cond.eq (.elem (.static C n d) (.int 0)) (.int v0)).before args s = true) (e1 : (Cond.eq (.elem (.static C n d) (.int 1)) (.int v1)).before args s = true) (e2 : (Cond.eq (.elem (.static C n d) (.int 2)) (.int v2)).before args s = true) (e3 : (Cond.eq (.elem (.static C n d) (.int 3)) (.int v3)).before args s = true) (e4 : (Cond.eq (.elem (.static C n d) (.int 4)) (.int v4)).before args s = true)
    (hl : (Cond.laysStatic C n d).before args s = true) (hini : (Cond.initialized C).before args s = true) (hA : ∀ a : Nat, a < s.heap.size → ¬ A a) : ∃ t : Nat, va_T ty t 5 f A s s.heap ∧ va_Z C n d (.ref t) A s s.heap := by
  obtain ⟨t, ht, hT⟩ := va_Tof (N := 5) (f := f) (by decide) harr (va_eqt hlen) (fun j hj => by
    rcases (show j = 0 ∨ j = 1 ∨ j = 2 ∨ j = 3 ∨ j = 4 by omega) with rfl | rfl | rfl | rfl | rfl
    · rw [h0]; exact va_eqt e0
    · rw [h1]; exact va_eqt e1
    · rw [h2]; exact va_eqt e2
    · rw [h3]; exact va_eqt e3
    · rw [h4]; exact va_eqt e4) hA
  exact ⟨t, hT, va_Zof hl hini ht hA⟩
def R_law : String := "GuisePackLaw"
def lw_P (b : Addr) (xs : List Int32) (args : Array Value) (s : State) : Prop := args = #[.ref b] ∧ s.IntsAt b xs ∧ xs.length ≤ 3072 ∧ (Jvm.Cond.and given_1 narrow_1).before args s = true
/-- what a walk over the start with the record d0 says of its end, said of the start itself -/
theorem lw_closed {s t : State} {o : Outcome} {d0 : Drawn} {L : List Loc} {k n : Nat} (hd0 : s.drawn.sameBut d0 lw_cs) (hv : ∃ v, o = .returned v) (hW : (s.setDrawn d0).WarmedH t.vm) (hs : (s.setDrawn d0).sameButNew ({ t with vm := s.vm } : State) L k n) : State.butDraws s t lw_cs (fun t1 => Framed s o t1 L k n) := by
  have h2 : t.drawn = d0 := congrArg State.drawn hs.1
  refine ⟨⟨hv, hW, State.sameButNew.setDrawn hs s.drawn⟩, ?_, by decide⟩
  rw [h2]
  exact hd0
def lw_Q (_ : Array Value) (s : State) (o : Outcome) (t : State) : Prop := o = .returned (some (.int 1)) ∧ State.butDraws s t lw_cs (fun t1 => Framed s o t1 [] 601024 7293034)
def lw_Z (below : List Frame) (a : Array Value) (s : State) : State → Prop := fun t => ∃ o, t.status = .running ∧ Ended t below o ∧ lw_Q a s o t
/-- the law's own end, with 1 on the stack, nothing written that was there before, its room as the claim has it; d0: the record of draws at this point (at the entry s.drawn: begin with 'refine W.base ?_' and 'have hd0 := Drawn.sameBut.refl s.drawn lw_cs') -/
theorem lw_ret {p : Program} {l : Launch} {e : Env} {s : State} {m : MethodId} {below : List Frame} {meth : Method} {c : Code} {b : Nat} {d0 : Drawn} (hd0 : s.drawn.sameBut d0 lw_cs) (hx : p.tables.exec = Jvm.exec) (hb : c.code = code) (hr : meth.sig.returnType = ret) (hlocks : meth.locks = false) {pc : Nat} {H : Heap} {ls : Array Slot} (hdg : decode code pc = .ok (.ireturn, 1)) : W p l e room_1 (s.setDrawn d0) m #[Value.ref b] below meth c H [] 601024 7293034 (lw_Z below #[Value.ref b] s) (F0 m pc ls [.int 1]) := by
  intro T hT X
  obtain ⟨fs, hret, hrun, hended, hW, hframe⟩ := X.leave (v := some (.int 1)) (hlocks := hlocks) (fun h => by rw [hr] at h; cases h)
  have hmeth' : T.vm.method? m = some meth := X.method'
  refine ⟨T.setFrames fs, ?_, .returned (some (.int 1)), hrun, hended, rfl, lw_closed hd0 ⟨_, rfl⟩ hW hframe⟩
  jvm_step X.here [X.here.top, hx, hb, hdg, hmeth', hr, ret, narrow_b1]
  (try refine ⟨rfl, ?_⟩); (try refine ⟨rfl, ?_⟩)
  first | (intro acts; rw [hret _ acts rfl rfl rfl]) | rw [hret _ _ rfl rfl rfl]
  exact Steps.refl _
/-- what holds at the law's entry: the machine, the code, the tables' words (any of lw_tbl by 'hts w (by decide +kernel)'), the script of L ints xs at the cell b, what the Statement gives of the start (any of its parts by flat_of_before) -/
def lw_At (p : Program) (s : State) (m : MethodId) (meth : Method) (c : Code) (b L : Nat) (xs : Nat → Int32) : Prop :=
  p.tables.exec = Jvm.exec ∧ c.code = code ∧ meth.sig.returnType = ret ∧ c.maxLocals = 8 ∧ s.vm.findClass R_law = some m.cls ∧ (∀ w ∈ lw_tbl, w.before #[Value.ref b] s = true) ∧ va_X b L xs s s.heap ∧ b < s.heap.size ∧ meth.locks = false ∧ (Jvm.Cond.and given_1 narrow_1).before #[Value.ref b] s = true
theorem arr_of {args : Array Value} {s : State} {ty : FieldType} (h : (Cond.arrayClass ty).before args s = true) : ∃ c : ClassId, ArrOfT s c ty ∧ s.vm.findClass ("[" ++ ty.toString) = some c := by
  obtain ⟨c, k, comp, h1, h2, h3⟩ := Cond.arrayClass_spec h
  exact ⟨c, fun n z => ⟨(fun k h => by cases h), k, h2, comp, h3⟩, h1⟩
set_option maxHeartbeats 8000000 in
set_option maxRecDepth 100000 in
/-- from the entry, for every script of at most 3072 ints, the law comes to its end with true -/
theorem whole_start {p : Program} {e : Env} {s : State} {m : MethodId} {below : List Frame} {meth : Method} {c : Code} (l : Launch) (hflags : l.flags = flags0) {b L : Nat} {xs : Nat → Int32} (hL : L ≤ 3072) (C0 : lw_At p s m meth c b L xs) : W p l e room_1 s m #[Value.ref b] below meth c s.heap [] 0 0 (lw_Z below #[Value.ref b] s) (entryFrame m ([Value.ref b] : List Value).toArray 8) := by
  obtain ⟨hx, hb, hr, hml, hown, hts, hX, hbl, hlocks, hgv⟩ := C0
  have htg : ∀ w ∈ tbg, w.before #[Value.ref b] s = true := fun w h => hts w (List.mem_filter.mp h).1
  have hfl := flat_of_before _ hgv
  have hA : ∀ q : Nat, s.heap.size ≤ q → (fun q : Nat => s.heap.size ≤ q) q := fun _ h => h
  have hnA : ∀ a : Nat, a < s.heap.size → ¬ (fun q : Nat => s.heap.size ≤ q) a := fun a h => Nat.not_le.mpr h
  have hst : l.stackTraces = false := by
    unfold Launch.stackTraces
    rw [hflags]
    decide
  obtain ⟨cc0, ci0, hk0⟩ := u_known (C := RX0) (T := TX0) (N := 8) (n := 8) htg iwX0 (htg _ izX0)
  obtain ⟨cc1, ci1, hk1⟩ := u_known (C := RX1) (T := TX1) (N := 3) (n := 3) htg iwX1 (htg _ izX1)
  obtain ⟨cc2, ci2, hk2⟩ := u_known (C := RX2) (T := TX2) (N := 5) (n := 5) htg iwX2 (htg _ izX2)
  obtain ⟨cc3, ci3, hk3⟩ := u_known (C := RX3) (T := TX3) (N := 4) (n := 4) htg iwX3 (htg _ izX3)
  obtain ⟨cc4, ci4, hk4⟩ := u_known (C := RX4) (T := TX4) (N := 5) (n := 5) htg iwX4 (htg _ izX4)
  obtain ⟨cc5, ci5, hk5⟩ := u_known (C := RX5) (T := TX5) (N := 2) (n := 2) htg iwX5 (htg _ izX5)
  obtain ⟨cc6, ci6, hk6⟩ := u_known (C := RX6) (T := TX6) (N := 6) (n := 6) htg iwX6 (htg _ izX6)
  obtain ⟨cc7, ci7, hk7⟩ := u_known (C := RX7) (T := TX7) (N := 3) (n := 3) htg iwX7 (htg _ izX7)
  obtain ⟨cc8, ci8, hk8⟩ := u_known (C := RX8) (T := TX8) (N := 16) (n := 16) htg iwX8 (htg _ izX8)
  obtain ⟨cc9, ci9, hk9⟩ := u_known (C := RX9) (T := TX9) (N := 7) (n := 7) htg iwX9 (htg _ izX9)
  obtain ⟨cc10, ci10, hk10⟩ := u_known (C := RX10) (T := TX10) (N := 17) (n := 17) htg iwX10 (htg _ izX10)
  obtain ⟨cc11, ci11, hk11⟩ := u_known (C := RX11) (T := TX11) (N := 56) (n := 56) htg iwX11 (htg _ izX11)
  obtain ⟨D, hKc⟩ : ∃ D : va_G, ∀ (k : Nat) (q : vw_C), vwCl[k]? = some q → u_Kn s q.1 q.2.1 q.2.2 (D.1 k) (D.2 k) := by
    refine ⟨(fun k => match k with | 0 => cc0 | 1 => cc1 | 2 => cc2 | 3 => cc3 | 4 => cc4 | 5 => cc5 | 6 => cc6 | 7 => cc7 | 8 => cc8 | 9 => cc9 | 10 => cc10 | _ => cc11, fun k => match k with | 0 => ci0 | 1 => ci1 | 2 => ci2 | 3 => ci3 | 4 => ci4 | 5 => ci5 | 6 => ci6 | 7 => ci7 | 8 => ci8 | 9 => ci9 | 10 => ci10 | _ => ci11), ?_⟩
    intro k q hq
    match k, hq with
    | 0, hq => cases hq; exact hk0
    | 1, hq => cases hq; exact hk1
    | 2, hq => cases hq; exact hk2
    | 3, hq => cases hq; exact hk3
    | 4, hq => cases hq; exact hk4
    | 5, hq => cases hq; exact hk5
    | 6, hq => cases hq; exact hk6
    | 7, hq => cases hq; exact hk7
    | 8, hq => cases hq; exact hk8
    | 9, hq => cases hq; exact hk9
    | 10, hq => cases hq; exact hk10
    | 11, hq => cases hq; exact hk11
    | k + 12, hq => simp [vwCl] at hq
  obtain ⟨ai, hai, hai2⟩ := arr_of (htg _ aw_int)
  obtain ⟨al, hal, hal2⟩ := arr_of (htg _ aw_long)
  obtain ⟨ad, had, had2⟩ := arr_of (htg _ aw_double)
  obtain ⟨az, haz, haz2⟩ := arr_of (htg _ aw_boolean)
  obtain ⟨cp, ac, kc, hc1, -, hc3, hc4, hc5⟩ := Cond.arrayOver_spec (hts _ ao_w)
  obtain ⟨tLOWEST, hTLOWEST, hZLOWEST⟩ := five_of (C := "GuisePack") (n := "LOWEST") (d := "[I") (ty := .int) (f := fun j => .int (q_low j)) (A := fun q : Nat => s.heap.size ≤ q) (v0 := 2) (v1 := 1) (v2 := 0) (v3 := 4) (v4 := 1) rfl rfl rfl rfl rfl (hfl _ (by decide +kernel)) (hfl _ (by decide +kernel)) (hfl _ (by decide +kernel)) (hfl _ (by decide +kernel)) (hfl _ (by decide +kernel)) (hfl _ (by decide +kernel)) (hfl _ (by decide +kernel)) (hts _ (ls_w ("GuisePack", "LOWEST", "[I", 0) (by simp [q_stat])).1) (hts _ (ls_w ("GuisePack", "LOWEST", "[I", 0) (by simp [q_stat])).2) hnA
  obtain ⟨tHIGHEST, hTHIGHEST, hZHIGHEST⟩ := five_of (C := "GuisePack") (n := "HIGHEST") (d := "[I") (ty := .int) (f := fun j => .int (q_high j)) (A := fun q : Nat => s.heap.size ≤ q) (v0 := 16) (v1 := 16) (v2 := 14) (v3 := 16) (v4 := 8) rfl rfl rfl rfl rfl (hfl _ (by decide +kernel)) (hfl _ (by decide +kernel)) (hfl _ (by decide +kernel)) (hfl _ (by decide +kernel)) (hfl _ (by decide +kernel)) (hfl _ (by decide +kernel)) (hfl _ (by decide +kernel)) (hts _ (ls_w ("GuisePack", "HIGHEST", "[I", 1) (by simp [q_stat])).1) (hts _ (ls_w ("GuisePack", "HIGHEST", "[I", 1) (by simp [q_stat])).2) hnA
  obtain ⟨tUSUAL, hTUSUAL, hZUSUAL⟩ := five_of (C := "GuisePack") (n := "USUAL") (d := "[I") (ty := .int) (f := fun j => .int (q_usual j)) (A := fun q : Nat => s.heap.size ≤ q) (v0 := 8) (v1 := 4) (v2 := 10) (v3 := 12) (v4 := 4) rfl rfl rfl rfl rfl (hfl _ (by decide +kernel)) (hfl _ (by decide +kernel)) (hfl _ (by decide +kernel)) (hfl _ (by decide +kernel)) (hfl _ (by decide +kernel)) (hfl _ (by decide +kernel)) (hfl _ (by decide +kernel)) (hts _ (ls_w ("GuisePack", "USUAL", "[I", 2) (by simp [q_stat])).1) (hts _ (ls_w ("GuisePack", "USUAL", "[I", 2) (by simp [q_stat])).2) hnA
  obtain ⟨tLETTERS, hTLETTERS, hZLETTERS⟩ := five_of (C := "GuisePack") (n := "LETTERS") (d := "[C") (ty := .char) (f := fun j => .int (q_letters j)) (A := fun q : Nat => s.heap.size ≤ q) (v0 := 98) (v1 := 109) (v2 := 101) (v3 := 108) (v4 := 100) rfl rfl rfl rfl rfl (hfl _ (by decide +kernel)) (hfl _ (by decide +kernel)) (hfl _ (by decide +kernel)) (hfl _ (by decide +kernel)) (hfl _ (by decide +kernel)) (hfl _ (by decide +kernel)) (hfl _ (by decide +kernel)) (hts _ (ls_w ("GuisePack", "LETTERS", "[C", 3) (by simp [q_stat])).1) (hts _ (ls_w ("GuisePack", "LETTERS", "[C", 3) (by simp [q_stat])).2) hnA
  obtain ⟨sa, -, -, -, hsa, -⟩ := Cond.exactly_spec (t := Term.string "GuisePack" 149) (cls := "java/lang/String") (hfl _ (by decide +kernel))
  have hTs : va_T .int b L (fun j => .int (xs j)) (fun q : Nat => s.heap.size ≤ q) s s.heap := by
    obtain ⟨scr, h1, h2, h3, h4, h5⟩ := hX
    exact ⟨scr, h1, h2, h3, by rw [h4]; exact Nat.le_refl _, by rw [h4], h5, hnA b hbl⟩
  obtain ⟨Z, hZ⟩ : ∃ Z : q_Z, Z = (l, D, (fun k => match k with | 0 => ai | 1 => al | 2 => ad | 3 => az | _ => ac), (fun _ => 0), (fun k => match k with | 0 => tLOWEST | 1 => tHIGHEST | 2 => tUSUAL | 3 => tLETTERS | _ => b), L, xs) := ⟨_, rfl⟩
  have hE : q_E (q_g Z) (fun q : Nat => s.heap.size ≤ q) s := by
    rw [hZ]
    refine ⟨⟨hKc, ?_⟩, fun z hz => va_Nw.of rfl (hts _ (ns_w z hz)), fun z hz => va_Nw.of rfl (hts _ (ns_m z hz)), ?_, ?_, va_AO.of (hts _ ao_w), vx_Zqof (hts _ lt_w.1) (hts _ lt_w.2.2) (hfl _ (by decide +kernel)) hnA, vx_Zqof (hts _ lt_w.2.1) (hts _ lt_w.2.2) (hfl _ (by decide +kernel)) hnA, sa, vk_R.of (hts _ sr_w) hsa⟩
    · intro k q hq
      match k, hq with
      | 0, hq => cases hq; exact ⟨hai, hai2⟩
      | 1, hq => cases hq; exact ⟨hal, hal2⟩
      | 2, hq => cases hq; exact ⟨had, had2⟩
      | 3, hq => cases hq; exact ⟨haz, haz2⟩
      | 4, hq => cases hq; exact ⟨fun N z => ⟨(fun k h => by cases h), kc, hc3, cp, hc4⟩, kc, cp, hc3, hc4, hc1, hc5⟩
      | k + 5, hq => simp [q_g] at hq
    · intro e9 he
      simp only [q_g, q_ro, List.mem_cons, List.not_mem_nil, or_false] at he
      rcases he with rfl | rfl | rfl | rfl | rfl
      · exact hTLOWEST
      · exact hTHIGHEST
      · exact hTUSUAL
      · exact hTLETTERS
      · exact hTs
    · intro z hz e9 he
      simp only [q_stat, List.mem_cons, List.not_mem_nil, or_false] at hz
      rcases hz with rfl | rfl | rfl | rfl
      · have e9e : some (tLOWEST, FieldType.int, 5, fun j => Value.int (q_low j)) = some e9 := he
        cases e9e
        exact hZLOWEST
      · have e9e : some (tHIGHEST, FieldType.int, 5, fun j => Value.int (q_high j)) = some e9 := he
        cases e9e
        exact hZHIGHEST
      · have e9e : some (tUSUAL, FieldType.int, 5, fun j => Value.int (q_usual j)) = some e9 := he
        cases e9e
        exact hZUSUAL
      · have e9e : some (tLETTERS, FieldType.char, 5, fun j => Value.int (q_letters j)) = some e9 := he
        cases e9e
        exact hZLETTERS
  have V := law_start (Z := Z) (nm := meth.name) (by rw [hZ]; exact hst) (by rw [hZ]; exact hL)
  have eb : Z.2.2.2.2.1 4 = b := by
    rw [hZ]
    rfl
  have el : Z.1 = l := by rw [hZ]
  rw [eb] at V
  refine W.base ?_
  have hl := lv_entry ([.ref b]) (n := 8) (Nat.le_of_ble_eq_true rfl)
  rw [lg_entry_eq]
  generalize (lg_sl ([.ref b]) ++ List.replicate (8 - (lg_sl ([.ref b])).length) Slot.unset).toArray = ls at hl ⊢
  have hq := q_has.of (lv := [some (.ref b), none, none, none, none, none, none, none]) hl (fun j w h => q_args_mem (nL := 8) (vs := [.ref b]) h)
  have eg : (q_g Z).1 = l := el
  rw [← eg]
  refine V (p := p) (e := e) (s := s) (m := m) (args := #[Value.ref b]) (below := below) (meth := meth) (c := c) (R := room_1) (H := s.heap) (locs := []) (cells := 0) (slots := 0) (d0 := s.drawn) (A := fun q : Nat => s.heap.size ≤ q) (Q := lw_Z below #[Value.ref b] s) ⟨⟨hx, hb, hr, hml, hown, htg, hlocks, rfl, ⟨by decide, by decide⟩, hA, hE⟩, Drawn.sameBut.refl _ _, ⟨Nat.le_of_ble_eq_true rfl, Nat.le_of_ble_eq_true rfl⟩, fun k q h => by simp at h, ⟨fun i j p q h => by simp at h, fun k q h => by simp at h⟩, va_S.rf, ?_⟩ ls hq
  intro r ws H' locs' cells' slots' d1 pc' ls' hpost hc' hs' hd1 hP' hD' hS' hret
  subst hpost
  refine va_forget (fun q hq => hS'.2.2 q hq) ?_
  refine W.widen (k := 601024) (n := 7293034) hc' hs' ?_
  exact lw_ret hd1 hx hb hr hlocks hret.1
