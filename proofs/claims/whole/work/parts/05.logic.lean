/-! ===== the logic: judgements on one method's frame over a world of cells, with the machine's own parts put away ===== -/
abbrev q_G : Type := Launch × va_G × List (ClassId × FieldType) × List (Nat × FieldType × Nat × (Nat → Value))
def q_stat : List (String × String × String × Nat) := [("GuisePack", "LOWEST", "[I", 0), ("GuisePack", "HIGHEST", "[I", 1), ("GuisePack", "USUAL", "[I", 2), ("GuisePack", "LETTERS", "[C", 3)]
/-- links to private members of a nest mate: own class, place in its pool, the member, the host -/
def q_nestF : List (String × Nat × String × String × String × String) := [("GuisePack$Column", 32, "GuisePack", "USUAL", "[I", "GuisePack"), ("GuisePack$BlockWriter", 71, "GuisePack$Plan", "fits", "LGuisePack$Fits;", "GuisePack"), ("GuisePack$TextReader", 78, "GuisePack", "LETTERS", "[C", "GuisePack")]
def q_nestM : List (String × Nat × MethodName × String) := [("GuisePack$TextReader", 89, ⟨"GuisePack", "isBound", "(II)Z"⟩, "GuisePack"), ("GuisePack$BlockReader", 108, ⟨"GuisePack", "bitLength", "(J)I"⟩, "GuisePack"), ("GuisePack$Fits", 41, ⟨"GuisePack", "isFinite", "(J)Z"⟩, "GuisePack"), ("GuisePack$Plan", 78, ⟨"GuisePack", "pairNumber", "(II)I"⟩, "GuisePack"), ("GuisePack$Plan", 56, ⟨"GuisePack", "blocksFor", "(II)I"⟩, "GuisePack"), ("GuisePack$Plan", 140, ⟨"GuisePack", "bitLength", "(J)I"⟩, "GuisePack"), ("GuisePack$Parts", 39, ⟨"GuisePack", "bitLength", "(J)I"⟩, "GuisePack"), ("GuisePack$Doubles", 62, ⟨"GuisePack", "isFinite", "(J)Z"⟩, "GuisePack"), ("GuisePack$Column", 41, ⟨"GuisePack", "blocksFor", "(II)I"⟩, "GuisePack"), ("GuisePack$Column", 49, ⟨"GuisePack", "isMissing", "(J)Z"⟩, "GuisePack"), ("GuisePack$Column", 53, ⟨"GuisePack", "isFinite", "(J)Z"⟩, "GuisePack")]
/-- what throwing and an array of Columns rest on -/
def q_EX (A : Nat → Prop) (s : State) : Prop :=
  va_AO "GuisePack$Column" s ∧ vx_Zq Bundle.tN "UNASSIGNED_STACK" Bundle.steD A s s.heap ∧ vx_Zq Bundle.tN "SUPPRESSED_SENTINEL" Bundle.listD A s s.heap ∧ ∃ sa, vk_R RX10 149 "no such VALUE" sa s
/-- what holds of the tables all the while -/
def q_E (G : q_G) (A : Nat → Prop) (s : State) : Prop :=
  va_K G.2.1 vwCl G.2.2.1 s ∧ (∀ z ∈ q_nestF, va_Nw (.fieldLinkNest z.1 z.2.1 z.2.2.1 z.2.2.2.1 z.2.2.2.2.1 z.2.2.2.2.2) s) ∧ (∀ z ∈ q_nestM, va_Nw (.methodLinkNest z.1 z.2.1 z.2.2.1 z.2.2.2) s) ∧
  (∀ e ∈ G.2.2.2, va_T e.2.1 e.1 e.2.2.1 e.2.2.2 A s s.heap) ∧ (∀ z ∈ q_stat, ∀ e, G.2.2.2[z.2.2.2]? = some e → va_Z z.1 z.2.1 z.2.2.1 (.ref e.1) A s s.heap) ∧ q_EX A s
theorem q_E.calling {G : q_G} {A : Nat → Prop} {U : State} {g : JFrame} {mk : MethodId} {a : Array Value} (h : q_E G A U) : q_E G A (U.calling g mk a) :=
  ⟨va_K.moved (u := U) (U := U.calling g mk a) (Vm.Alike.refl U.vm) h.1, fun z hz => va_Nw.same (u := U) rfl rfl (h.2.1 z hz), fun z hz => va_Nw.same (u := U) rfl rfl (h.2.2.1 z hz), fun e he => (h.2.2.2.1 e he).moved (U := U.calling g mk a) (Vm.Alike.refl U.vm), fun z hz e he => (h.2.2.2.2.1 z hz e he).moved (U := U.calling g mk a) (Vm.Alike.refl U.vm),
    va_AO.moved (u := U) (U := U.calling g mk a) (Vm.Alike.refl U.vm) h.2.2.2.2.2.1, vx_Zq.moved (u := U) (U := U.calling g mk a) (Vm.Alike.refl U.vm) h.2.2.2.2.2.2.1, vx_Zq.moved (u := U) (U := U.calling g mk a) (Vm.Alike.refl U.vm) h.2.2.2.2.2.2.2.1, h.2.2.2.2.2.2.2.2.imp fun _ z => vk_R.same (u := U) (U := U.calling g mk a) rfl z⟩
theorem q_E.to {G : q_G} {A B : Nat → Prop} {s U : State} {H : Heap} {locs : List Loc} (h : q_E G A s) (hS : va_S A s.heap H locs) (hU : U.heap = H) (hW : s.WarmedH U.vm) (hB : ∀ q, B q → A q) : q_E G B U := by
  subst hU
  exact ⟨h.1.moved hW.alike, fun z hz => va_Nw.warmF hW (h.2.1 z hz), fun z hz => va_Nw.warmM hW (h.2.2.1 z hz), fun e he => (((h.2.2.2.1 e he).kept hS.2.1).moved hW.alike).narrow hB, fun z hz e he => (((h.2.2.2.2.1 z hz e he).kept hS.2.1).moved hW.alike).narrow hB,
    h.2.2.2.2.2.1.moved hW.alike, ((h.2.2.2.2.2.2.1.kept hS.2.1).moved hW.alike).narrow hB, ((h.2.2.2.2.2.2.2.1.kept hS.2.1).moved hW.alike).narrow hB, h.2.2.2.2.2.2.2.2.imp fun _ z => vk_R.warm hW z⟩
/-! locals by their places -/
def q_two : Option (Option Value) → Bool
  | some (some (.long _)) => true
  | some (some (.double _)) => true
  | _ => false
def q_cut (lv : List (Option Value)) : Nat → List (Option Value)
  | 0 => lv
  | j + 1 => if q_two lv[j]? = true then lv.set j none else lv
def q_st1 (lv : List (Option Value)) (i : Nat) (v : Value) : List (Option Value) := (q_cut lv i).set i (some v)
def q_st2 (lv : List (Option Value)) (i : Nat) (v : Value) : List (Option Value) := (q_st1 lv i v).set (i + 1) none
def q_has (ls : Array Slot) (nL : Nat) (lv : List (Option Value)) : Prop := ls.size = nL ∧ lv_wf ls ∧ ∀ (i : Nat) (v : Value), lv[i]? = some (some v) → ls[i]? = some (.val v)
def q_al (lv : List (Option Value)) : List (Nat × Value) := (List.range lv.length).filterMap (fun i => (lv[i]?.join).map (fun v => (i, v)))
theorem q_al_mem {lv : List (Option Value)} {j : Nat} {w : Value} : (j, w) ∈ q_al lv ↔ lv[j]? = some (some w) := by
  unfold q_al
  rw [List.mem_filterMap]
  constructor
  · rintro ⟨i, -, hi⟩
    cases h : lv[i]? with
    | none => rw [h] at hi; simp at hi
    | some o =>
      cases o with
      | none => rw [h] at hi; simp at hi
      | some v =>
        rw [h] at hi
        simp only [Option.join_some, Option.map_some, Option.some.injEq, Prod.mk.injEq] at hi
        obtain ⟨rfl, rfl⟩ := hi
        exact h
  · intro h
    have hl := (List.getElem?_eq_some_iff.mp h).1
    exact ⟨j, List.mem_range.mpr hl, by rw [h]; rfl⟩
theorem q_has.lv {ls : Array Slot} {nL : Nat} {lv : List (Option Value)} (h : q_has ls nL lv) : lv_has ls nL (q_al lv) := ⟨h.1, h.2.1, fun q hq => h.2.2 q.1 q.2 (q_al_mem.mp hq)⟩
theorem q_has.of {ls : Array Slot} {nL : Nat} {l : List (Nat × Value)} {lv : List (Option Value)} (h : lv_has ls nL l) (hm : ∀ (j : Nat) (w : Value), lv[j]? = some (some w) → (j, w) ∈ l) : q_has ls nL lv := ⟨h.1, h.2.1, fun i v hv => h.2.2 (i, v) (hm i v hv)⟩
theorem q_two_no {o : Option (Option Value)} {w : Value} (h : ¬ q_two o = true) (ho : o = some (some w)) : ¬ w.category = 2 := by
  subst ho
  cases w <;> simp_all [q_two, Value.category]
theorem q_cut_get {lv : List (Option Value)} {i j : Nat} {w : Value} (h : (q_cut lv i)[j]? = some (some w)) : lv[j]? = some (some w) ∧ ¬ (j + 1 = i ∧ w.category = 2) := by
  cases i with
  | zero => exact ⟨h, fun q => by omega⟩
  | succ i =>
    replace h : (if q_two lv[i]? = true then lv.set i none else lv)[j]? = some (some w) := h
    by_cases hq : q_two lv[i]? = true
    · rw [if_pos hq] at h
      by_cases hj : j = i
      · subst hj
        rw [List.getElem?_set] at h
        split at h
        · split at h <;> cases h
        · exact absurd rfl ‹_›
      · rw [List.getElem?_set_ne (Ne.symm hj)] at h
        exact ⟨h, fun q => hj (by omega)⟩
    · rw [if_neg hq] at h
      refine ⟨h, fun q => ?_⟩
      have e : j = i := by omega
      rw [e] at h
      exact q_two_no hq h q.2
theorem q_st1_mem {lv : List (Option Value)} {i j : Nat} {v w : Value} (h : (q_st1 lv i v)[j]? = some (some w)) : (j, w) ∈ (i, v) :: (q_al lv).filter (fun q => !(q.1 == i) && !(q.1 + 1 == i && q.2.category == 2)) := by
  unfold q_st1 at h
  by_cases hj : j = i
  · subst hj
    rw [List.getElem?_set] at h
    split at h
    · split at h
      · cases h; exact List.mem_cons_self
      · cases h
    · exact absurd rfl ‹_›
  · rw [List.getElem?_set_ne (Ne.symm hj)] at h
    obtain ⟨h1, h2⟩ := q_cut_get h
    refine List.mem_cons_of_mem _ (List.mem_filter.mpr ⟨q_al_mem.mpr h1, ?_⟩)
    simp only [Bool.and_eq_true, Bool.not_eq_true', beq_eq_false_iff_ne, ne_eq, Bool.and_eq_false_iff]
    refine ⟨hj, ?_⟩
    by_cases hz : j + 1 = i
    · exact Or.inr fun q => h2 ⟨hz, q⟩
    · exact Or.inl hz
theorem q_st2_mem {lv : List (Option Value)} {i j : Nat} {v w : Value} (h : (q_st2 lv i v)[j]? = some (some w)) : (j, w) ∈ (i, v) :: (q_al lv).filter (fun q => !(q.1 == i) && (!(q.1 == i + 1) && !(q.1 + 1 == i && q.2.category == 2))) := by
  unfold q_st2 at h
  have hne : ¬ j = i + 1 := by
    intro hj
    subst hj
    rw [List.getElem?_set] at h
    split at h
    · split at h <;> cases h
    · exact absurd rfl ‹_›
  rw [List.getElem?_set_ne (fun q => hne q.symm)] at h
  have h1 := q_st1_mem h
  rcases List.mem_cons.mp h1 with h1 | h1
  · rw [h1]; exact List.mem_cons_self
  · obtain ⟨a, b⟩ := List.mem_filter.mp h1
    refine List.mem_cons_of_mem _ (List.mem_filter.mpr ⟨a, ?_⟩)
    simp only [Bool.and_eq_true, Bool.not_eq_true', beq_eq_false_iff_ne, ne_eq] at b ⊢
    exact ⟨b.1, hne, b.2⟩
def q_sl (vs : List Value) : List (Option Value) := vs.flatMap fun v => if v.category = 2 then [some v, none] else [some v]
theorem q_sl_mem (vs : List Value) : ∀ (k j : Nat) (w : Value), (q_sl vs)[j]? = some (some w) → (k + j, w) ∈ lv_args k vs := by
  induction vs with
  | nil => intro k j w h; simp [q_sl] at h
  | cons v vs ih =>
    intro k j w h
    have e : q_sl (v :: vs) = (if v.category = 2 then [some v, none] else [some v]) ++ q_sl vs := by simp [q_sl]
    rw [e] at h
    unfold lv_args
    by_cases hc : v.category = 2
    · rw [if_pos hc] at h
      rw [if_pos hc]
      match j, h with
      | 0, h => simp at h; subst h; simp
      | 1, h => simp at h
      | j + 2, h =>
        have h2 : (q_sl vs)[j]? = some (some w) := by simpa using h
        have := ih (k + 2) j w h2
        rw [show k + (j + 2) = k + 2 + j by omega]
        exact List.mem_cons_of_mem _ this
    · rw [if_neg hc] at h
      rw [if_neg hc]
      match j, h with
      | 0, h => simp at h; subst h; simp
      | j + 1, h =>
        have h2 : (q_sl vs)[j]? = some (some w) := by simpa using h
        have := ih (k + 1) j w h2
        rw [show k + (j + 1) = k + 1 + j by omega]
        exact List.mem_cons_of_mem _ this
/-- the locals with which a method begins -/
def q_args (nL : Nat) (vs : List Value) : List (Option Value) := q_sl vs ++ List.replicate (nL - (q_sl vs).length) none
theorem q_args_mem {nL : Nat} {vs : List Value} {j : Nat} {w : Value} (h : (q_args nL vs)[j]? = some (some w)) : (j, w) ∈ lv_args 0 vs := by
  unfold q_args at h
  by_cases hj : j < (q_sl vs).length
  · rw [List.getElem?_append_left hj] at h
    have := q_sl_mem vs 0 j w h
    rwa [Nat.zero_add] at this
  · rw [List.getElem?_append_right (by omega), List.getElem?_replicate] at h
    split at h <;> cases h
/-! the judgement -/
/-- what holds of the machine while the method runs -/
def q_X (G : q_G) (M : q_M) (d : Nat) (p : Program) (s : State) (m : MethodId) (args : Array Value) (meth : Method) (c : Code) (R : Room) (A : Nat → Prop) : Prop :=
  p.tables.exec = Jvm.exec ∧ c.code = M.2.2.1 ∧ meth.sig.returnType = M.2.2.2.2 ∧ c.maxLocals = M.2.2.2.1 ∧ s.vm.findClass M.1 = some m.cls ∧ (∀ w ∈ tbg, w.before args s = true) ∧ meth.locks = false ∧ meth.name = M.2.1.name ∧ (d ≤ R.frames ∧ 40 * d ≤ R.locals) ∧ (∀ q : Nat, s.heap.size ≤ q → A q) ∧ q_E G A s
def q_ret (M : q_M) (pc : Nat) : Option Value → Prop
  | none => decode M.2.2.1 pc = .ok (.return_, 1) ∧ M.2.2.2.2 = none
  | some (.int v) => decode M.2.2.1 pc = .ok (.ireturn, 1) ∧ ∃ ty, M.2.2.2.2 = some ty ∧ narrow ty (.int v) = .int v
  | some (.long _) => decode M.2.2.1 pc = .ok (.lreturn, 1) ∧ M.2.2.2.2 = some .long
  | some (.double _) => decode M.2.2.1 pc = .ok (.dreturn, 1) ∧ M.2.2.2.2 = some .double
  | some (.ref _) => decode M.2.2.1 pc = .ok (.areturn, 1) ∧ ∃ n, M.2.2.2.2 = some (.object n)
  | _ => False
def q_Fin (G : q_G) (M : q_M) (post : Option Value → va_W → Prop) (p : Program) (e : Env) (s : State) (m : MethodId) (args : Array Value) (below : List Frame) (meth : Method) (c : Code) (R : Room) (A : Nat → Prop) (Q : State → Prop) : Prop :=
  ∀ (r : Option Value) (ws : va_W) (H : Heap) (locs : List Loc) (cells slots : Nat) (d1 : Drawn) (pc : Nat) (ls : Array Slot), post r ws → cells ≤ R.cells → slots ≤ R.slots → s.drawn.sameBut d1 lw_cs → va_P G.2.1 vwCl ws H → va_D A ws → va_S A s.heap H locs → q_ret M pc r → W p G.1 e R (s.setDrawn d1) m args below meth c H locs cells slots Q (F0 m pc ls r.toList)
def q_S (G : q_G) (M : q_M) (d mc ms : Nat) (ws : va_W) (post : Option Value → va_W → Prop) (p : Program) (e : Env) (s : State) (m : MethodId) (args : Array Value) (below : List Frame) (meth : Method) (c : Code) (R : Room) (H : Heap) (locs : List Loc) (cells slots : Nat) (d0 : Drawn) (A : Nat → Prop) (Q : State → Prop) : Prop :=
  q_X G M d p s m args meth c R A ∧ s.drawn.sameBut d0 lw_cs ∧ (cells + mc ≤ R.cells ∧ slots + ms ≤ R.slots) ∧ va_P G.2.1 vwCl ws H ∧ va_D A ws ∧ va_S A s.heap H locs ∧ q_Fin G M post p e s m args below meth c R A Q
/-- from this point of the method, with these locals, this stack, this world, and with room for mc cells of ms slots, calls d deep, every run comes to the method's end, and 'post' holds there -/
def q_V (G : q_G) (M : q_M) (d mc ms pc : Nat) (lv : List (Option Value)) (st : List Value) (ws : va_W) (post : Option Value → va_W → Prop) : Prop :=
  ∀ ⦃p : Program⦄ ⦃e : Env⦄ ⦃s : State⦄ ⦃m : MethodId⦄ ⦃args : Array Value⦄ ⦃below : List Frame⦄ ⦃meth : Method⦄ ⦃c : Code⦄ ⦃R : Room⦄ ⦃H : Heap⦄ ⦃locs : List Loc⦄ ⦃cells slots : Nat⦄ ⦃d0 : Drawn⦄ ⦃A : Nat → Prop⦄ ⦃Q : State → Prop⦄,
    q_S G M d mc ms ws post p e s m args below meth c R H locs cells slots d0 A Q → ∀ ls : Array Slot, q_has ls M.2.2.2.1 lv → W p G.1 e R (s.setDrawn d0) m args below meth c H locs cells slots Q (F0 m pc ls st)
theorem q_good {ws : List Cond} (h : ∀ w ∈ ws, w ∈ tbg) : GoodIn tbg ws := fun w hw => ⟨h w hw, good_of_word (List.mem_filter.mp (h w hw)).2⟩
/-- a method's end, as its contract has it -/
def q_Qc (G : q_G) (post : Option Value → va_W → Prop) (A : Nat → Prop) : Array Value → State → Outcome → State → Prop := fun _ st oc t =>
  (∃ (r : Option Value) (ws : va_W), oc = .returned r ∧ post r ws ∧ va_P G.2.1 vwCl ws t.heap ∧ va_D A ws) ∧ va_F A st t
def q_Pc (G : q_G) (args : List Value) (ws : va_W) (sz : Nat) : Array Value → State → Prop := va_Pc args (fun U => U.heap.size = sz ∧ va_P G.2.1 vwCl ws U.heap ∧ va_D (fun _ => True) ws ∧ q_E G (va_A ws sz) U)
abbrev q_cw (M : q_M) : List Cond := Cond.code M.2.1 M.2.2.1 M.2.2.2.1 M.2.2.2.2 :: tbg
abbrev q_rm (d mc ms : Nat) : Room := { frames := d, cells := mc, slots := ms, locals := 40 * d }
theorem q_met {G : q_G} {M : q_M} {d mc ms sz : Nat} {args : List Value} {ws : va_W} {post : Option Value → va_W → Prop} (hp : plainName M.2.1.cls = true) (hc : M.2.1.cls = M.1) (hlen : (lg_sl args).length ≤ M.2.2.2.1) (hV : q_V G M d mc ms 0 (q_args M.2.2.2.1 args) [] ws post) :
    MetD lw_cs G.1 M.2.1 (q_cw M) (q_rm d mc ms) (q_Pc G args ws sz) (q_Qc G post (va_A ws sz)) mc ms (va_A ws sz) := by
  refine MetD.ofW (cc := M.2.2.1) (maxL := M.2.2.2.1) (ret := M.2.2.2.2) hp rfl ?_
  intro p e s m args' below meth c s₁ B hml hv hd0
  obtain ⟨rfl, hsz, hP, hD0, hE⟩ := hv
  subst hsz
  have hts := atoms_spec (ws := q_cw M) B.pre
  have hown : s.vm.findClass M.1 = some m.cls := hc ▸ findClass_of_methodNamed B.named
  have hlocks := B.notSynchronized
  have hin : meth.name = M.2.1.name := (name_of_methodNamed B.named B.method).1
  have hl := lv_entry args (n := M.2.2.2.1) hlen
  rw [lg_entry_eq]
  generalize (lg_sl args ++ List.replicate (M.2.2.2.1 - (lg_sl args).length) Slot.unset).toArray = ls at hl ⊢
  refine hV (e := e) (below := below) (c := c) (meth := meth) (R := q_rm d mc ms) (locs := []) (cells := 0) (slots := 0) (A := va_A ws s.heap.size) ⟨⟨B.exec, B.bytes, B.returns, hml, hown, fun w hw => hts w (List.mem_cons_of_mem _ hw), hlocks, hin, ⟨Nat.le_refl _, Nat.le_refl _⟩, fun q h => Or.inr h, hE⟩, hd0, ⟨by simp, by simp⟩, hP, hD0.self, va_S.rf, ?_⟩ ls (q_has.of hl fun j w h => q_args_mem h)
  intro r ws' H' locs' cells' slots' d1 pc' ls' hpost hc' hs' hd1 hP' hD' hS' hret
  refine W.endD hd1 ?_
  refine W.widen (k := mc) (n := ms) hc' hs' ?_
  have hq : ∀ t : State, t.heap = H' → (s.setDrawn d1).WarmedH t.vm → q_Qc G post (va_A ws s.heap.size) args.toArray (s.setDrawn d1) (.returned r) t := fun t ht _ => ⟨⟨r, ws', rfl, hpost, by rw [ht]; exact hP', hD'⟩, hS'.F (s := s.setDrawn d1) ht⟩
  match r, hret, hq with
  | none, hret, hq => exact W.vret B.exec B.bytes (B.returns.trans hret.2) hq hS'.2.2 hret.1
  | some (.int v), hret, hq =>
    obtain ⟨h1, ty, h2, h3⟩ := hret
    exact W.zret B.exec B.bytes (B.returns.trans h2) h3 hq hS'.2.2 h1
  | some (.long v), hret, hq => exact W.lret B.exec B.bytes (B.returns.trans hret.2) hq hS'.2.2 hret.1
  | some (.double v), hret, hq => exact W.dret B.exec B.bytes (B.returns.trans hret.2) hq hS'.2.2 hret.1
  | some (.ref a), hret, hq =>
    obtain ⟨h1, n, h2⟩ := hret
    exact W.aret B.exec B.bytes (B.returns.trans h2) (Or.inl ⟨n, rfl⟩) (Or.inr ⟨a, rfl⟩) hq hS'.2.2 h1
