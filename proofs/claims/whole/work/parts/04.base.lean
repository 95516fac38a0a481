/-! words: what fields, methods and constants rest on, in one list for all methods -/
def tbg : List Cond := lw_tbl.filter goodWord
theorem tb {w : Cond} (i : Nat) (h : lw_tbl[i]? = some w) (g : goodWord w = true) : w ∈ tbg := List.mem_filter.mpr ⟨List.mem_of_getElem? h, g⟩
theorem tb_all (ws : List Cond) (ps : List Nat) (h : ws = ps.filterMap (fun i => lw_tbl[i]?)) (g : ws.all goodWord = true) : ∀ w ∈ ws, w ∈ tbg := by
  intro w hw
  have h1 := List.all_eq_true.mp g w hw
  rw [h] at hw
  obtain ⟨i, -, hi⟩ := List.mem_filterMap.mp hw
  exact tb i hi h1
/-- a method: its class, its name, its code, its locals, what it answers -/
abbrev q_M : Type := String × MethodName × ByteArray × Nat × Option FieldType
def q_F (own : String) (idx ci j : Nat) (ty : FieldType) (fin : Bool) : Prop := ∃ (C : String) (T : u_T) (N : Nat) (t0 : Nat → FieldType), vwCl[ci]? = some (C, T, N) ∧ j < N ∧ Cond.fieldLink own idx C (T j).2.1 (T j).2.2.1 ∈ tbg ∧ (∀ w ∈ u_ws C T N, w ∈ tbg) ∧ (∀ k, k < N → parseFieldDescriptor (T k).2.2.1 = some (t0 k)) ∧ (∀ a, a < N → ∀ b, b < N → a ≠ b → (T a).2.1 ≠ (T b).2.1) ∧ (T j).1 = C ∧ (T j).2.2.2 = fin ∧ t0 j = ty
def q_mh : String := "java/lang/invoke/MethodHandle"
def q_I (M : q_M) (n : Nat) : Prop := Cond.code M.2.1 M.2.2.1 M.2.2.2.1 M.2.2.2.2 ∈ tbg ∧ Cond.instanceMethod M.2.1 ∈ tbg ∧ Cond.selects M.1 M.2.1 M.2.1 ∈ tbg ∧ Cond.initialized M.1 ∈ tbg ∧ (M.2.1.cls = M.1 ∧ M.2.1.cls ≠ "java/lang/invoke/MethodHandle" ∧ M.2.1.cls ≠ "java/lang/invoke/VarHandle" ∧ (parseMethodDescriptor M.2.1.desc).map (fun d => d.parameters.length) = some n) ∧ plainName M.2.1.cls = true ∧ M.2.2.2.1 ≤ 21
def q_St (M : q_M) (n : Nat) : Prop := Cond.code M.2.1 M.2.2.1 M.2.2.2.1 M.2.2.2.2 ∈ tbg ∧ Cond.static M.2.1 ∈ tbg ∧ Cond.initialized M.1 ∈ tbg ∧ (M.2.1.cls = M.1 ∧ M.2.1.cls ≠ "java/lang/invoke/MethodHandle" ∧ M.2.1.cls ≠ "java/lang/invoke/VarHandle" ∧ (parseMethodDescriptor M.2.1.desc).map (fun d => d.parameters.length) = some n) ∧ plainName M.2.1.cls = true ∧ M.2.2.2.1 ≤ 21
def q_In (M : q_M) (n : Nat) : Prop := Cond.code M.2.1 M.2.2.1 M.2.2.2.1 M.2.2.2.2 ∈ tbg ∧ Cond.instanceMethod M.2.1 ∈ tbg ∧ Cond.initialized M.1 ∈ tbg ∧ (M.2.1.cls = M.1 ∧ M.2.1.cls ≠ "java/lang/invoke/MethodHandle" ∧ M.2.1.cls ≠ "java/lang/invoke/VarHandle" ∧ (parseMethodDescriptor M.2.1.desc).map (fun d => d.parameters.length) = some n) ∧ plainName M.2.1.cls = true ∧ M.2.2.2.1 ≤ 21 ∧ M.2.2.2.2 = none ∧ M.2.1.name = "<init>"
