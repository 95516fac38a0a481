/-! ===== the world of both objects: a place for each cell, in the order of their making; numbers by place and field, rows by place ===== -/
abbrev q_sh : Type := (Nat × List (Nat × Nat)) ⊕ (Nat × Nat)
def q_shs_0 : List q_sh := [.inl (10, [(2, 1), (2, 6), (2, 8), (2, 10), (2, 16), (2, 19), (2, 23), (2, 27), (2, 189), (2, 194), (2, 203), (2, 212), (2, 213), (2, 214), (0, 0), (0, 0), (0, 0)]), .inl (3, [(2, 2), (2, 3), (2, 4), (2, 5)]), .inr (2, 15), .inr (2, 15), .inr (2, 10), .inr (2, 10), .inl (5, [(2, 7), (0, 0)]), .inr (0, 320), .inl (5, [(2, 9), (0, 0)]), .inr (0, 320), .inl (9, [(2, 6), (2, 1), (2, 11), (2, 15), (0, 0), (0, 0), (1, 0)]), .inl (2, [(2, 12), (2, 13), (2, 14), (0, 0), (0, 0)]), .inr (1, 64), .inr (0, 5), .inr (0, 180), .inr (3, 5), .inl (0, [(2, 6), (2, 1), (2, 17), (0, 0), (2, 18), (0, 0), (0, 0), (1, 0)]), .inr (1, 16), .inr (0, 8), .inl (2, [(2, 20), (2, 21), (2, 22), (0, 0), (0, 0)]), .inr (1, 64), .inr (0, 5), .inr (0, 180), .inl (2, [(2, 24), (2, 25), (2, 26), (0, 0), (0, 0)]), .inr (1, 64), .inr (0, 5), .inr (0, 180)]
def q_shs_1 : List q_sh := [.inl (7, [(2, 28), (0, 0), (0, 0)]), .inr (4, 40), .inl (2, [(2, 30), (2, 31), (2, 32), (0, 0), (0, 0)]), .inr (1, 64), .inr (0, 5), .inr (0, 180), .inl (2, [(2, 34), (2, 35), (2, 36), (0, 0), (0, 0)]), .inr (1, 64), .inr (0, 5), .inr (0, 180), .inl (2, [(2, 38), (2, 39), (2, 40), (0, 0), (0, 0)]), .inr (1, 64), .inr (0, 5), .inr (0, 180), .inl (2, [(2, 42), (2, 43), (2, 44), (0, 0), (0, 0)]), .inr (1, 64), .inr (0, 5), .inr (0, 180), .inl (2, [(2, 46), (2, 47), (2, 48), (0, 0), (0, 0)]), .inr (1, 64), .inr (0, 5), .inr (0, 180), .inl (2, [(2, 50), (2, 51), (2, 52), (0, 0), (0, 0)]), .inr (1, 64), .inr (0, 5), .inr (0, 180), .inl (2, [(2, 54), (2, 55), (2, 56), (0, 0), (0, 0)])]
def q_shs_2 : List q_sh := [.inr (1, 64), .inr (0, 5), .inr (0, 180), .inl (2, [(2, 58), (2, 59), (2, 60), (0, 0), (0, 0)]), .inr (1, 64), .inr (0, 5), .inr (0, 180), .inl (2, [(2, 62), (2, 63), (2, 64), (0, 0), (0, 0)]), .inr (1, 64), .inr (0, 5), .inr (0, 180), .inl (2, [(2, 66), (2, 67), (2, 68), (0, 0), (0, 0)]), .inr (1, 64), .inr (0, 5), .inr (0, 180), .inl (2, [(2, 70), (2, 71), (2, 72), (0, 0), (0, 0)]), .inr (1, 64), .inr (0, 5), .inr (0, 180), .inl (2, [(2, 74), (2, 75), (2, 76), (0, 0), (0, 0)]), .inr (1, 64), .inr (0, 5), .inr (0, 180), .inl (2, [(2, 78), (2, 79), (2, 80), (0, 0), (0, 0)]), .inr (1, 64), .inr (0, 5), .inr (0, 180)]
def q_shs_3 : List q_sh := [.inl (2, [(2, 82), (2, 83), (2, 84), (0, 0), (0, 0)]), .inr (1, 64), .inr (0, 5), .inr (0, 180), .inl (2, [(2, 86), (2, 87), (2, 88), (0, 0), (0, 0)]), .inr (1, 64), .inr (0, 5), .inr (0, 180), .inl (2, [(2, 90), (2, 91), (2, 92), (0, 0), (0, 0)]), .inr (1, 64), .inr (0, 5), .inr (0, 180), .inl (2, [(2, 94), (2, 95), (2, 96), (0, 0), (0, 0)]), .inr (1, 64), .inr (0, 5), .inr (0, 180), .inl (2, [(2, 98), (2, 99), (2, 100), (0, 0), (0, 0)]), .inr (1, 64), .inr (0, 5), .inr (0, 180), .inl (2, [(2, 102), (2, 103), (2, 104), (0, 0), (0, 0)]), .inr (1, 64), .inr (0, 5), .inr (0, 180), .inl (2, [(2, 106), (2, 107), (2, 108), (0, 0), (0, 0)]), .inr (1, 64), .inr (0, 5)]
def q_shs_4 : List q_sh := [.inr (0, 180), .inl (2, [(2, 110), (2, 111), (2, 112), (0, 0), (0, 0)]), .inr (1, 64), .inr (0, 5), .inr (0, 180), .inl (2, [(2, 114), (2, 115), (2, 116), (0, 0), (0, 0)]), .inr (1, 64), .inr (0, 5), .inr (0, 180), .inl (2, [(2, 118), (2, 119), (2, 120), (0, 0), (0, 0)]), .inr (1, 64), .inr (0, 5), .inr (0, 180), .inl (2, [(2, 122), (2, 123), (2, 124), (0, 0), (0, 0)]), .inr (1, 64), .inr (0, 5), .inr (0, 180), .inl (2, [(2, 126), (2, 127), (2, 128), (0, 0), (0, 0)]), .inr (1, 64), .inr (0, 5), .inr (0, 180), .inl (2, [(2, 130), (2, 131), (2, 132), (0, 0), (0, 0)]), .inr (1, 64), .inr (0, 5), .inr (0, 180), .inl (2, [(2, 134), (2, 135), (2, 136), (0, 0), (0, 0)]), .inr (1, 64)]
def q_shs_5 : List q_sh := [.inr (0, 5), .inr (0, 180), .inl (2, [(2, 138), (2, 139), (2, 140), (0, 0), (0, 0)]), .inr (1, 64), .inr (0, 5), .inr (0, 180), .inl (2, [(2, 142), (2, 143), (2, 144), (0, 0), (0, 0)]), .inr (1, 64), .inr (0, 5), .inr (0, 180), .inl (2, [(2, 146), (2, 147), (2, 148), (0, 0), (0, 0)]), .inr (1, 64), .inr (0, 5), .inr (0, 180), .inl (2, [(2, 150), (2, 151), (2, 152), (0, 0), (0, 0)]), .inr (1, 64), .inr (0, 5), .inr (0, 180), .inl (2, [(2, 154), (2, 155), (2, 156), (0, 0), (0, 0)]), .inr (1, 64), .inr (0, 5), .inr (0, 180), .inl (2, [(2, 158), (2, 159), (2, 160), (0, 0), (0, 0)]), .inr (1, 64), .inr (0, 5), .inr (0, 180), .inl (2, [(2, 162), (2, 163), (2, 164), (0, 0), (0, 0)])]
def q_shs_6 : List q_sh := [.inr (1, 64), .inr (0, 5), .inr (0, 180), .inl (2, [(2, 166), (2, 167), (2, 168), (0, 0), (0, 0)]), .inr (1, 64), .inr (0, 5), .inr (0, 180), .inl (2, [(2, 170), (2, 171), (2, 172), (0, 0), (0, 0)]), .inr (1, 64), .inr (0, 5), .inr (0, 180), .inl (2, [(2, 174), (2, 175), (2, 176), (0, 0), (0, 0)]), .inr (1, 64), .inr (0, 5), .inr (0, 180), .inl (2, [(2, 178), (2, 179), (2, 180), (0, 0), (0, 0)]), .inr (1, 64), .inr (0, 5), .inr (0, 180), .inl (2, [(2, 182), (2, 183), (2, 184), (0, 0), (0, 0)]), .inr (1, 64), .inr (0, 5), .inr (0, 180), .inl (2, [(2, 186), (2, 187), (2, 188), (0, 0), (0, 0)]), .inr (1, 64), .inr (0, 5), .inr (0, 180)]
def q_shs_7 : List q_sh := [.inl (4, [(2, 1), (2, 190), (2, 191), (2, 192), (2, 193)]), .inr (0, 120), .inr (3, 64), .inr (1, 64), .inr (1, 7680), .inl (8, [(2, 189), (2, 19), (2, 195), (2, 196), (0, 0), (2, 197), (2, 198), (0, 0), (2, 199), (1, 0), (1, 0), (0, 0), (0, 0), (0, 0), (0, 0), (0, 0)]), .inr (0, 5), .inr (0, 64), .inr (0, 5), .inr (0, 5), .inl (6, [(2, 200), (0, 0), (0, 0), (2, 201), (2, 202), (0, 0)]), .inr (0, 8), .inr (0, 16), .inr (0, 16), .inl (8, [(2, 189), (2, 19), (2, 204), (2, 205), (0, 0), (2, 206), (2, 207), (0, 0), (2, 208), (1, 0), (1, 0), (0, 0), (0, 0), (0, 0), (0, 0), (0, 0)]), .inr (0, 5), .inr (0, 64), .inr (0, 5), .inr (0, 5), .inl (6, [(2, 209), (0, 0), (0, 0), (2, 210), (2, 211), (0, 0)]), .inr (0, 8), .inr (0, 16), .inr (0, 16), .inl (1, [(2, 8), (0, 0), (0, 0)]), .inr (0, 5), .inr (1, 64), .inl (11, [(0, 0), (2, 216), (2, 217), (2, 218), (0, 0), (0, 0), (0, 0), (2, 219), (2, 220), (0, 0), (1, 0), (2, 221), (0, 0), (0, 0), (0, 0), (2, 222), (2, 223), (2, 224), (2, 225), (2, 226), (0, 0), (0, 0), (0, 0), (0, 0), (2, 227), (0, 0), (1, 0), (1, 0), (0, 0), (0, 0), (2, 228), (2, 229), (0, 0), (2, 230), (2, 231), (0, 0), (0, 0), (0, 0), (0, 0), (0, 0), (2, 232), (0, 0), (0, 0), (2, 233), (2, 234), (2, 235), (2, 236), (2, 237), (0, 0), (2, 238), (2, 239), (2, 240), (2, 241), (0, 0), (0, 0), (0, 0)])]
def q_shs_8 : List q_sh := [.inr (2, 15), .inr (2, 15), .inr (0, 320), .inr (0, 5), .inr (1, 40), .inr (1, 16), .inr (0, 8), .inr (1, 64), .inr (0, 5), .inr (0, 180), .inr (0, 5), .inr (1, 64), .inr (0, 16), .inr (0, 16), .inr (0, 5), .inr (0, 5), .inr (0, 400), .inr (1, 2560), .inr (0, 200), .inr (0, 7200), .inr (0, 40), .inr (0, 40), .inr (2, 64), .inr (1, 64), .inr (0, 5), .inr (0, 180), .inr (1, 1)]
def q_shs : List q_sh := q_shs_0 ++ q_shs_1 ++ q_shs_2 ++ q_shs_3 ++ q_shs_4 ++ q_shs_5 ++ q_shs_6 ++ q_shs_7 ++ q_shs_8
/-- the machine's own parts: the launch, the classes' numbers, the array classes, the places' addresses, the static rows' addresses, the script -/
abbrev q_Z : Type := Launch × va_G × (Nat → ClassId) × (Nat → Nat) × (Nat → Nat) × Nat × (Nat → Int32)
/-- the numbers: ints and longs of objects by place and field; rows of ints, longs, doubles by place -/
abbrev q_Mm : Type := (Nat → Nat → Int32) × (Nat → Nat → Int64) × (Nat → Nat → Int32) × (Nat → Nat → Int64) × (Nat → Nat → UInt64)
abbrev q_ad (Z : q_Z) (p : Nat) : Nat := Z.2.2.2.1 p
def q_low : Nat → Int32 := fun k => match k with | 0 => 2 | 1 => 1 | 2 => 0 | 3 => 4 | _ => 1
def q_high : Nat → Int32 := fun k => match k with | 0 => 16 | 1 => 16 | 2 => 14 | 3 => 16 | _ => 8
def q_usual : Nat → Int32 := fun k => match k with | 0 => 8 | 1 => 4 | 2 => 10 | 3 => 12 | _ => 4
def q_letters : Nat → Int32 := fun k => match k with | 0 => 98 | 1 => 109 | 2 => 101 | 3 => 108 | _ => 100
def q_ro (Z : q_Z) : List (Nat × FieldType × Nat × (Nat → Value)) := [(Z.2.2.2.2.1 0, .int, 5, fun j => .int (q_low j)), (Z.2.2.2.2.1 1, .int, 5, fun j => .int (q_high j)), (Z.2.2.2.2.1 2, .int, 5, fun j => .int (q_usual j)), (Z.2.2.2.2.1 3, .char, 5, fun j => .int (q_letters j)), (Z.2.2.2.2.1 4, .int, Z.2.2.2.2.2.1, fun j => .int (Z.2.2.2.2.2.2 j))]
def q_g (Z : q_Z) : q_G := (Z.1, Z.2.1, [(Z.2.2.1 0, .int), (Z.2.2.1 1, .long), (Z.2.2.1 2, .double), (Z.2.2.1 3, .boolean), (Z.2.2.1 4, .object "GuisePack$Column")], q_ro Z)
def q_fv (Z : q_Z) (m : q_Mm) (p j : Nat) (f : Nat × Nat) : Value := match f.1 with
  | 0 => .int (m.1 p j)
  | 1 => .long (m.2.1 p j)
  | _ => .ref (q_ad Z f.2)
def q_fs (Z : q_Z) (m : q_Mm) (p : Nat) (fl : List (Nat × Nat)) : List Value := (List.range fl.length).map fun j => q_fv Z m p j (fl.getD j (2, 0))
def q_cl (Z : q_Z) (m : q_Mm) (p : Nat) : q_sh → va_E
  | .inl (ci, fl) => .inr (ci, q_fs Z m p fl)
  | .inr (t, len) => match t with
    | 0 => .inl (Z.2.2.1 0, len, .inl (m.2.2.1 p))
    | 1 => .inl (Z.2.2.1 1, len, .inr (.inl (m.2.2.2.1 p)))
    | 2 => .inl (Z.2.2.1 2, len, .inr (.inr (.inr (.inl (m.2.2.2.2 p)))))
    | 3 => .inl (Z.2.2.1 3, len, .inl (m.2.2.1 p))
    | _ => .inl (Z.2.2.1 4, len, .inr (.inr (.inr (.inr (fun i => some (q_ad Z (29 + 4 * i)))))))
def q_cell (Z : q_Z) (m : q_Mm) (p : Nat) : va_E := match q_shs[p]? with
  | some s => q_cl Z m p s
  | none => .inr (0, [])
def q_W (Z : q_Z) (m : q_Mm) : va_W := (List.range 243).map fun p => (q_ad Z p, q_cell Z m p)
theorem q_shs_len : q_shs.length = 243 := by decide +kernel
theorem q_W_get {Z : q_Z} {m : q_Mm} {p : Nat} {s : q_sh} (h : q_shs[p]? = some s) : (q_W Z m)[p]? = some (q_ad Z p, q_cl Z m p s) := by
  have hl : p < 243 := by rw [← q_shs_len]; exact (List.getElem?_eq_some_iff.mp h).1
  unfold q_W
  rw [List.getElem?_map, List.getElem?_range hl]
  show some (q_ad Z p, q_cell Z m p) = _
  unfold q_cell
  rw [h]
theorem q_W_set {Z : q_Z} {m m' : q_Mm} {p : Nat} {s : q_sh} (h : q_shs[p]? = some s) (ho : ∀ q s', q ≠ p → q_cl Z m' q s' = q_cl Z m q s') : (q_W Z m).set p (q_ad Z p, q_cl Z m' p s) = q_W Z m' := by
  have hl : p < 243 := by rw [← q_shs_len]; exact (List.getElem?_eq_some_iff.mp h).1
  refine List.ext_getElem? fun q => ?_
  by_cases hq : q = p
  · subst hq
    rw [List.getElem?_set_self (by unfold q_W; simpa using hl), q_W_get h]
  · rw [List.getElem?_set_ne (Ne.symm hq)]
    unfold q_W
    rw [List.getElem?_map, List.getElem?_map]
    by_cases hq2 : q < 243
    · rw [List.getElem?_range hq2]
      show some (q_ad Z q, q_cell Z m q) = some (q_ad Z q, q_cell Z m' q)
      unfold q_cell
      cases q_shs[q]? with
      | none => rfl
      | some s' => exact congrArg (fun z => some (q_ad Z q, z)) (ho q s' hq).symm
    · rw [List.getElem?_eq_none (by simpa using Nat.le_of_not_lt hq2)]
      rfl
/-! writes -/
def q_up {α : Type} (F : Nat → Nat → α) (p : Nat) (f : Nat → α) : Nat → Nat → α := fun q => if q = p then f else F q
theorem q_up_s {α : Type} (F : Nat → Nat → α) (p : Nat) (f : Nat → α) : q_up F p f p = f := by simp [q_up]
theorem q_up_n {α : Type} (F : Nat → Nat → α) {p q : Nat} (f : Nat → α) (h : q ≠ p) : q_up F p f q = F q := by simp [q_up, h]
def q_u {α : Type} (f : Nat → α) (i : Nat) (x : α) : Nat → α := fun j => if j = i then x else f j
def sI (m : q_Mm) (p j : Nat) (x : Int32) : q_Mm := (q_up m.1 p (q_u (m.1 p) j x), m.2)
def sJ (m : q_Mm) (p j : Nat) (x : Int64) : q_Mm := (m.1, q_up m.2.1 p (q_u (m.2.1 p) j x), m.2.2)
def sA (m : q_Mm) (p : Nat) (f : Nat → Int32) : q_Mm := (m.1, m.2.1, q_up m.2.2.1 p f, m.2.2.2)
def sL (m : q_Mm) (p : Nat) (f : Nat → Int64) : q_Mm := (m.1, m.2.1, m.2.2.1, q_up m.2.2.2.1 p f, m.2.2.2.2)
def sD (m : q_Mm) (p : Nat) (f : Nat → UInt64) : q_Mm := (m.1, m.2.1, m.2.2.1, m.2.2.2.1, q_up m.2.2.2.2 p f)
theorem q_cl_n {Z : q_Z} {m m' : q_Mm} {q : Nat} {s : q_sh} (h1 : m'.1 q = m.1 q) (h2 : m'.2.1 q = m.2.1 q) (h3 : m'.2.2.1 q = m.2.2.1 q) (h4 : m'.2.2.2.1 q = m.2.2.2.1 q) (h5 : m'.2.2.2.2 q = m.2.2.2.2 q) : q_cl Z m' q s = q_cl Z m q s := by
  cases s with
  | inl o =>
    obtain ⟨ci, fl⟩ := o
    show Sum.inr (ci, q_fs Z m' q fl) = Sum.inr (ci, q_fs Z m q fl)
    unfold q_fs q_fv
    rw [h1, h2]
  | inr a =>
    obtain ⟨t, len⟩ := a
    unfold q_cl
    rw [h3, h4, h5]
theorem q_fs_len {Z : q_Z} {m : q_Mm} {p : Nat} {fl : List (Nat × Nat)} : (q_fs Z m p fl).length = fl.length := by simp [q_fs]
theorem q_fs_get {Z : q_Z} {m : q_Mm} {p j : Nat} {fl : List (Nat × Nat)} {f : Nat × Nat} (h : fl[j]? = some f) : (q_fs Z m p fl)[j]? = some (q_fv Z m p j f) := by
  have hl := (List.getElem?_eq_some_iff.mp h).1
  unfold q_fs
  rw [List.getElem?_map, List.getElem?_range hl]
  show some (q_fv Z m p j (fl.getD j (2, 0))) = _
  rw [List.getD_eq_getElem?_getD, h]
  rfl
theorem q_fs_set {Z : q_Z} {m m' : q_Mm} {p j : Nat} {fl : List (Nat × Nat)} {f : Nat × Nat} {v : Value} (h : fl[j]? = some f) (hv : q_fv Z m' p j f = v) (ho : ∀ i g, i ≠ j → q_fv Z m' p i g = q_fv Z m p i g) : (q_fs Z m p fl).set j v = q_fs Z m' p fl := by
  have hl := (List.getElem?_eq_some_iff.mp h).1
  refine List.ext_getElem? fun i => ?_
  by_cases hi : i = j
  · subst hi
    rw [List.getElem?_set_self (by rw [q_fs_len]; exact hl), q_fs_get h, hv]
  · rw [List.getElem?_set_ne (Ne.symm hi)]
    unfold q_fs
    rw [List.getElem?_map, List.getElem?_map]
    by_cases hq2 : i < fl.length
    · rw [List.getElem?_range hq2]
      exact congrArg some (ho i _ hi).symm
    · rw [List.getElem?_eq_none (by simpa using Nat.le_of_not_lt hq2)]
      rfl
/-- what a method's end says in these words -/
def q_P (Z : q_Z) (P : Option Value → q_Mm → Prop) : Option Value → va_W → Prop := fun r ws => ∃ m, ws = q_W Z m ∧ P r m
section HROWS
variable {Z : q_Z} {M M' : q_M} {d pc pc' : Nat} {lv lv' : List (Option Value)} {st : List Value} {m : q_Mm} {post : Option Value → va_W → Prop}
theorem h_geti {idx p j ci tg : Nat} {ty : FieldType} {fin : Bool} {fl : List (Nat × Nat)} (hd : decode M.2.2.1 pc = .ok (.getfield idx, 3)) (hf : q_F M.1 idx ci j ty fin) (hs : q_shs[p]? = some (.inl (ci, fl))) (hj : fl[j]? = some (0, tg)) (hp : pc + 3 = pc') (kk : q_V (q_g Z) M d 0 0 pc' lv (.int (m.1 p j) :: st) (q_W Z m) post) : q_V (q_g Z) M d 0 0 pc lv (.ref (q_ad Z p) :: st) (q_W Z m) post :=
  q_get hd hf (q_W_get hs) (q_fs_get hj) hp kk
theorem h_getj {idx p j ci tg : Nat} {ty : FieldType} {fin : Bool} {fl : List (Nat × Nat)} (hd : decode M.2.2.1 pc = .ok (.getfield idx, 3)) (hf : q_F M.1 idx ci j ty fin) (hs : q_shs[p]? = some (.inl (ci, fl))) (hj : fl[j]? = some (1, tg)) (hp : pc + 3 = pc') (kk : q_V (q_g Z) M d 0 0 pc' lv (.long (m.2.1 p j) :: st) (q_W Z m) post) : q_V (q_g Z) M d 0 0 pc lv (.ref (q_ad Z p) :: st) (q_W Z m) post :=
  q_get hd hf (q_W_get hs) (q_fs_get hj) hp kk
theorem h_getr {idx p j ci tg : Nat} {ty : FieldType} {fin : Bool} {fl : List (Nat × Nat)} (hd : decode M.2.2.1 pc = .ok (.getfield idx, 3)) (hf : q_F M.1 idx ci j ty fin) (hs : q_shs[p]? = some (.inl (ci, fl))) (hj : fl[j]? = some (2, tg)) (hp : pc + 3 = pc') (kk : q_V (q_g Z) M d 0 0 pc' lv (.ref (q_ad Z tg) :: st) (q_W Z m) post) : q_V (q_g Z) M d 0 0 pc lv (.ref (q_ad Z p) :: st) (q_W Z m) post :=
  q_get hd hf (q_W_get hs) (q_fs_get hj) hp kk
theorem h_puti {idx p j ci tg : Nat} {x : Int32} {ty : FieldType} {fl : List (Nat × Nat)} (hd : decode M.2.2.1 pc = .ok (.putfield idx, 3)) (hf : q_F M.1 idx ci j ty false) (hs : q_shs[p]? = some (.inl (ci, fl))) (hj : fl[j]? = some (0, tg)) (hn : narrow ty (.int x) = .int x) (hfit : fits ty (.int x) = true) (hp : pc + 3 = pc') (kk : q_V (q_g Z) M d 0 0 pc' lv (st) (q_W Z (sI m p j x)) post) : q_V (q_g Z) M d 0 0 pc lv (.int x :: .ref (q_ad Z p) :: st) (q_W Z m) post := by
  refine q_put hd hf (q_W_get hs) hn hfit (by rw [q_fs_len]; exact (List.getElem?_eq_some_iff.mp hj).1) hp ?_
  have e : (q_fs Z m p fl).set j (.int x) = q_fs Z (sI m p j x) p fl := q_fs_set hj (by simp [q_fv, sI, q_up, q_u]) (fun i g hi => by simp [q_fv, sI, q_up, q_u, hi])
  rw [e]
  have e2 : (q_W Z m).set p (q_ad Z p, .inr (ci, q_fs Z (sI m p j x) p fl)) = q_W Z (sI m p j x) := q_W_set (m' := sI m p j x) hs (fun q s' hq => q_cl_n (by simp [sI, q_up, hq]) (by simp [sI, q_up, hq]) rfl rfl rfl)
  rw [e2]
  exact kk
theorem h_putj {idx p j ci tg : Nat} {x : Int64} {ty : FieldType} {fl : List (Nat × Nat)} (hd : decode M.2.2.1 pc = .ok (.putfield idx, 3)) (hf : q_F M.1 idx ci j ty false) (hs : q_shs[p]? = some (.inl (ci, fl))) (hj : fl[j]? = some (1, tg)) (hn : narrow ty (.long x) = .long x) (hfit : fits ty (.long x) = true) (hp : pc + 3 = pc') (kk : q_V (q_g Z) M d 0 0 pc' lv (st) (q_W Z (sJ m p j x)) post) : q_V (q_g Z) M d 0 0 pc lv (.long x :: .ref (q_ad Z p) :: st) (q_W Z m) post := by
  refine q_put hd hf (q_W_get hs) hn hfit (by rw [q_fs_len]; exact (List.getElem?_eq_some_iff.mp hj).1) hp ?_
  have e : (q_fs Z m p fl).set j (.long x) = q_fs Z (sJ m p j x) p fl := q_fs_set hj (by simp [q_fv, sJ, q_up, q_u]) (fun i g hi => by simp [q_fv, sJ, q_up, q_u, hi])
  rw [e]
  have e2 : (q_W Z m).set p (q_ad Z p, .inr (ci, q_fs Z (sJ m p j x) p fl)) = q_W Z (sJ m p j x) := q_W_set (m' := sJ m p j x) hs (fun q s' hq => q_cl_n (by simp [sJ, q_up, hq]) (by simp [sJ, q_up, hq]) rfl rfl rfl)
  rw [e2]
  exact kk
theorem h_iald {p k len : Nat} {i : Int32} (hd : decode M.2.2.1 pc = .ok (.iaload, 1)) (hs : q_shs[p]? = some (.inr (0, len))) (hi : i = nI k) (hk : k < len) (hl : len < 10000) (hp : pc + 1 = pc') (kk : q_V (q_g Z) M d 0 0 pc' lv (.int (m.2.2.1 p k) :: st) (q_W Z m) post) : q_V (q_g Z) M d 0 0 pc lv (.int i :: .ref (q_ad Z p) :: st) (q_W Z m) post := by
  subst hi
  refine q_iald (t := 0) hd (q_W_get hs) rfl (vp_in_nI hk (by omega)) hp ?_
  rw [nI_clamp (by omega)]
  exact kk
theorem h_lald {p k len : Nat} {i : Int32} (hd : decode M.2.2.1 pc = .ok (.laload, 1)) (hs : q_shs[p]? = some (.inr (1, len))) (hi : i = nI k) (hk : k < len) (hl : len < 10000) (hp : pc + 1 = pc') (kk : q_V (q_g Z) M d 0 0 pc' lv (.long (m.2.2.2.1 p k) :: st) (q_W Z m) post) : q_V (q_g Z) M d 0 0 pc lv (.int i :: .ref (q_ad Z p) :: st) (q_W Z m) post := by
  subst hi
  refine q_lald (t := 1) hd (q_W_get hs) rfl (vp_in_nI hk (by omega)) hp ?_
  rw [nI_clamp (by omega)]
  exact kk
theorem h_dald {p k len : Nat} {i : Int32} (hd : decode M.2.2.1 pc = .ok (.daload, 1)) (hs : q_shs[p]? = some (.inr (2, len))) (hi : i = nI k) (hk : k < len) (hl : len < 10000) (hp : pc + 1 = pc') (kk : q_V (q_g Z) M d 0 0 pc' lv (.double (m.2.2.2.2 p k) :: st) (q_W Z m) post) : q_V (q_g Z) M d 0 0 pc lv (.int i :: .ref (q_ad Z p) :: st) (q_W Z m) post := by
  subst hi
  refine q_dald (t := 2) hd (q_W_get hs) rfl (vp_in_nI hk (by omega)) hp ?_
  rw [nI_clamp (by omega)]
  exact kk
theorem h_zald {p k len : Nat} {i : Int32} (hd : decode M.2.2.1 pc = .ok (.baload, 1)) (hs : q_shs[p]? = some (.inr (3, len))) (hi : i = nI k) (hk : k < len) (hl : len < 10000) (hp : pc + 1 = pc') (kk : q_V (q_g Z) M d 0 0 pc' lv (.int (m.2.2.1 p k) :: st) (q_W Z m) post) : q_V (q_g Z) M d 0 0 pc lv (.int i :: .ref (q_ad Z p) :: st) (q_W Z m) post := by
  subst hi
  refine q_zald (t := 3) hd (q_W_get hs) rfl (vp_in_nI hk (by omega)) hp ?_
  rw [nI_clamp (by omega)]
  exact kk
theorem h_iast {p k len : Nat} {i : Int32} {x : Int32} (hd : decode M.2.2.1 pc = .ok (.iastore, 1)) (hs : q_shs[p]? = some (.inr (0, len))) (hi : i = nI k) (hk : k < len) (hl : len < 10000) (hp : pc + 1 = pc') (kk : q_V (q_g Z) M d 0 0 pc' lv (st) (q_W Z (sA m p (q_u (m.2.2.1 p) k x))) post) : q_V (q_g Z) M d 0 0 pc lv (.int x :: .int i :: .ref (q_ad Z p) :: st) (q_W Z m) post := by
  subst hi
  refine q_iast (t := 0) hd (q_W_get hs) rfl (vp_in_nI hk (by omega)) hp ?_
  rw [nI_clamp (by omega)]
  have e2 : (q_W Z m).set p (q_ad Z p, q_cl Z (sA m p (q_u (m.2.2.1 p) k x)) p (.inr (0, len))) = q_W Z (sA m p (q_u (m.2.2.1 p) k x)) := q_W_set hs (fun q s' hq => q_cl_n (rfl) (rfl) (by simp [sA, q_up, hq]) (rfl) (rfl))
  have e3 : q_cl Z (sA m p (q_u (m.2.2.1 p) k x)) p (.inr (0, len)) = _ := rfl
  simp only [q_cl, sA, q_up_s] at e2
  exact e2 ▸ kk
theorem h_last {p k len : Nat} {i : Int32} {x : Int64} (hd : decode M.2.2.1 pc = .ok (.lastore, 1)) (hs : q_shs[p]? = some (.inr (1, len))) (hi : i = nI k) (hk : k < len) (hl : len < 10000) (hp : pc + 1 = pc') (kk : q_V (q_g Z) M d 0 0 pc' lv (st) (q_W Z (sL m p (q_u (m.2.2.2.1 p) k x))) post) : q_V (q_g Z) M d 0 0 pc lv (.long x :: .int i :: .ref (q_ad Z p) :: st) (q_W Z m) post := by
  subst hi
  refine q_last (t := 1) hd (q_W_get hs) rfl (vp_in_nI hk (by omega)) hp ?_
  rw [nI_clamp (by omega)]
  have e2 : (q_W Z m).set p (q_ad Z p, q_cl Z (sL m p (q_u (m.2.2.2.1 p) k x)) p (.inr (1, len))) = q_W Z (sL m p (q_u (m.2.2.2.1 p) k x)) := q_W_set hs (fun q s' hq => q_cl_n (rfl) (rfl) (rfl) (by simp [sL, q_up, hq]) (rfl))
  have e3 : q_cl Z (sL m p (q_u (m.2.2.2.1 p) k x)) p (.inr (1, len)) = _ := rfl
  simp only [q_cl, sL, q_up_s] at e2
  exact e2 ▸ kk
theorem h_dast {p k len : Nat} {i : Int32} {x : UInt64} (hd : decode M.2.2.1 pc = .ok (.dastore, 1)) (hs : q_shs[p]? = some (.inr (2, len))) (hi : i = nI k) (hk : k < len) (hl : len < 10000) (hp : pc + 1 = pc') (kk : q_V (q_g Z) M d 0 0 pc' lv (st) (q_W Z (sD m p (q_u (m.2.2.2.2 p) k x))) post) : q_V (q_g Z) M d 0 0 pc lv (.double x :: .int i :: .ref (q_ad Z p) :: st) (q_W Z m) post := by
  subst hi
  refine q_dast (t := 2) hd (q_W_get hs) rfl (vp_in_nI hk (by omega)) hp ?_
  rw [nI_clamp (by omega)]
  have e2 : (q_W Z m).set p (q_ad Z p, q_cl Z (sD m p (q_u (m.2.2.2.2 p) k x)) p (.inr (2, len))) = q_W Z (sD m p (q_u (m.2.2.2.2 p) k x)) := q_W_set hs (fun q s' hq => q_cl_n (rfl) (rfl) (rfl) (rfl) (by simp [sD, q_up, hq]))
  have e3 : q_cl Z (sD m p (q_u (m.2.2.2.2 p) k x)) p (.inr (2, len)) = _ := rfl
  simp only [q_cl, sD, q_up_s] at e2
  exact e2 ▸ kk
theorem h_zast {p k len : Nat} {i : Int32} {x : Int32} (hd : decode M.2.2.1 pc = .ok (.bastore, 1)) (hs : q_shs[p]? = some (.inr (3, len))) (hi : i = nI k) (hk : k < len) (hl : len < 10000) (hp : pc + 1 = pc') (kk : q_V (q_g Z) M d 0 0 pc' lv (st) (q_W Z (sA m p (q_u (m.2.2.1 p) k (vp_nar .boolean x)))) post) : q_V (q_g Z) M d 0 0 pc lv (.int x :: .int i :: .ref (q_ad Z p) :: st) (q_W Z m) post := by
  subst hi
  refine q_zast (t := 3) hd (q_W_get hs) rfl (vp_in_nI hk (by omega)) hp ?_
  rw [nI_clamp (by omega)]
  have e2 : (q_W Z m).set p (q_ad Z p, q_cl Z (sA m p (q_u (m.2.2.1 p) k (vp_nar .boolean x))) p (.inr (3, len))) = q_W Z (sA m p (q_u (m.2.2.1 p) k (vp_nar .boolean x))) := q_W_set hs (fun q s' hq => q_cl_n (rfl) (rfl) (by simp [sA, q_up, hq]) (rfl) (rfl))
  have e3 : q_cl Z (sA m p (q_u (m.2.2.1 p) k (vp_nar .boolean x))) p (.inr (3, len)) = _ := rfl
  simp only [q_cl, sA, q_up_s] at e2
  exact e2 ▸ kk
theorem h_aald {k : Nat} {i : Int32} (hd : decode M.2.2.1 pc = .ok (.aaload, 1)) (hi : i = nI k) (hk : k < 40) (hp : pc + 1 = pc') (kk : q_V (q_g Z) M d 0 0 pc' lv (.ref (q_ad Z (29 + 4 * k)) :: st) (q_W Z m) post) : q_V (q_g Z) M d 0 0 pc lv (.int i :: .ref (q_ad Z 28) :: st) (q_W Z m) post := by
  subst hi
  refine q_aald (t := 4) (k := 28) hd (q_W_get (m := m) (s := .inr (4, 40)) rfl) rfl (vp_in_nI hk (by omega)) hp ?_
  rw [nI_clamp (by omega)]
  exact kk
theorem h_copyi {idx p0 p1 n0 n1 sk dk nk : Nat} {sp dp n : Int32} (hd : decode M.2.2.1 pc = .ok (.invokestatic idx, 3)) (hlk : Cond.methodLink M.1 idx arraycopyName ∈ tbg) (h0 : Cond.native arraycopyName ∈ tbg) (h1 : Cond.static arraycopyName ∈ tbg) (h2 : Cond.initialized "java/lang/System" ∈ tbg) (hs0 : q_shs[p0]? = some (.inr (0, n0))) (hs1 : q_shs[p1]? = some (.inr (0, n1))) (e1 : sp = nI sk) (e2 : dp = nI dk) (e3 : n = nI nk) (g4 : sk + nk ≤ n0) (g5 : dk + nk ≤ n1) (hl : n0 < 10000 ∧ n1 < 10000) (hr : q_cat st ≤ 8) (hp : pc + 3 = pc') (kk : q_V (q_g Z) M (d + 1) 0 0 pc' lv (st) (q_W Z (sA m p1 (va_cpy (m.2.2.1 p0) (m.2.2.1 p1) sk dk nk))) post) : q_V (q_g Z) M (d + 1) 0 0 pc lv (.int n :: .int dp :: .ref (q_ad Z p1) :: .int sp :: .ref (q_ad Z p0) :: st) (q_W Z m) post := by
  subst e1; subst e2; subst e3
  refine q_copyi (t := 0) hd hlk h0 h1 h2 (q_W_get hs0) (q_W_get hs1) rfl (nI_pos (by omega)) (nI_pos (by omega)) (nI_pos (by omega)) (by rw [nI_clamp (by omega), nI_clamp (by omega)]; exact g4) (by rw [nI_clamp (by omega), nI_clamp (by omega)]; exact g5) hr hp ?_
  rw [nI_clamp (by omega), nI_clamp (by omega), nI_clamp (by omega)]
  have e2 : (q_W Z m).set p1 (q_ad Z p1, q_cl Z (sA m p1 (va_cpy (m.2.2.1 p0) (m.2.2.1 p1) sk dk nk)) p1 (.inr (0, n1))) = q_W Z (sA m p1 (va_cpy (m.2.2.1 p0) (m.2.2.1 p1) sk dk nk)) := q_W_set hs1 (fun q s' hq => q_cl_n (rfl) (rfl) (by simp [sA, q_up, hq]) (rfl) (rfl))
  simp only [q_cl, sA, q_up_s] at e2
  exact e2 ▸ kk
theorem h_copyl {idx p0 p1 n0 n1 sk dk nk : Nat} {sp dp n : Int32} (hd : decode M.2.2.1 pc = .ok (.invokestatic idx, 3)) (hlk : Cond.methodLink M.1 idx arraycopyName ∈ tbg) (h0 : Cond.native arraycopyName ∈ tbg) (h1 : Cond.static arraycopyName ∈ tbg) (h2 : Cond.initialized "java/lang/System" ∈ tbg) (hs0 : q_shs[p0]? = some (.inr (1, n0))) (hs1 : q_shs[p1]? = some (.inr (1, n1))) (e1 : sp = nI sk) (e2 : dp = nI dk) (e3 : n = nI nk) (g4 : sk + nk ≤ n0) (g5 : dk + nk ≤ n1) (hl : n0 < 10000 ∧ n1 < 10000) (hr : q_cat st ≤ 8) (hp : pc + 3 = pc') (kk : q_V (q_g Z) M (d + 1) 0 0 pc' lv (st) (q_W Z (sL m p1 (va_cpy (m.2.2.2.1 p0) (m.2.2.2.1 p1) sk dk nk))) post) : q_V (q_g Z) M (d + 1) 0 0 pc lv (.int n :: .int dp :: .ref (q_ad Z p1) :: .int sp :: .ref (q_ad Z p0) :: st) (q_W Z m) post := by
  subst e1; subst e2; subst e3
  refine q_copyl (t := 1) hd hlk h0 h1 h2 (q_W_get hs0) (q_W_get hs1) rfl (nI_pos (by omega)) (nI_pos (by omega)) (nI_pos (by omega)) (by rw [nI_clamp (by omega), nI_clamp (by omega)]; exact g4) (by rw [nI_clamp (by omega), nI_clamp (by omega)]; exact g5) hr hp ?_
  rw [nI_clamp (by omega), nI_clamp (by omega), nI_clamp (by omega)]
  have e2 : (q_W Z m).set p1 (q_ad Z p1, q_cl Z (sL m p1 (va_cpy (m.2.2.2.1 p0) (m.2.2.2.1 p1) sk dk nk)) p1 (.inr (1, n1))) = q_W Z (sL m p1 (va_cpy (m.2.2.2.1 p0) (m.2.2.2.1 p1) sk dk nk)) := q_W_set hs1 (fun q s' hq => q_cl_n (rfl) (rfl) (rfl) (by simp [sL, q_up, hq]) (rfl))
  simp only [q_cl, sL, q_up_s] at e2
  exact e2 ▸ kk
theorem h_callV {P : Option Value → q_Mm → Prop} {idx n p ci : Nat} {fl : List (Nat × Nat)} {T : u_T} {N : Nat} {As st0 : List Value} {lw : List (Option Value)} (hd : decode M.2.2.1 pc = .ok (.invokevirtual idx, 3)) (hM : q_I M' n) (hlk : Cond.methodLink M.1 idx M'.2.1 ∈ tbg) (hst : st0 = As.reverse ++ .ref (q_ad Z p) :: st) (hs : q_shs[p]? = some (.inl (ci, fl))) (hci : vwCl[ci]? = some (M'.1, T, N)) (hn : As.length = n) (hlen : (lg_sl (.ref (q_ad Z p) :: As)).length ≤ M'.2.2.2.1) (hr : q_cat st ≤ 8) (hp : pc + 3 = pc') (hlw : q_args M'.2.2.2.1 (.ref (q_ad Z p) :: As) = lw)
    (hV : q_V (q_g Z) M' d 0 0 0 lw [] (q_W Z m) (q_P Z P)) (kk : ∀ (r : Option Value) (m' : q_Mm), P r m' → q_V (q_g Z) M (d + 1) 0 0 pc' lv (r.toList ++ st) (q_W Z m') post) : q_V (q_g Z) M (d + 1) 0 0 pc lv st0 (q_W Z m) post :=
  q_callV (mc1 := 0) (ms1 := 0) (mc2 := 0) (ms2 := 0) hd hM hlk hst (q_W_get hs) hci hn hlen hr hp (hlw ▸ hV) (fun r ws h => by obtain ⟨m', rfl, h⟩ := h; exact kk r m' h)
theorem h_callS {P : Option Value → q_Mm → Prop} {idx n : Nat} {As st0 : List Value} {lw : List (Option Value)} (hd : decode M.2.2.1 pc = .ok (.invokestatic idx, 3)) (hM : q_St M' n) (hlk : Cond.methodLink M.1 idx M'.2.1 ∈ tbg) (hst : st0 = As.reverse ++ st) (hn : As.length = n) (hlen : (lg_sl As).length ≤ M'.2.2.2.1) (hr : q_cat st ≤ 8) (hp : pc + 3 = pc') (hlw : q_args M'.2.2.2.1 As = lw)
    (hV : q_V (q_g Z) M' d 0 0 0 lw [] (q_W Z m) (q_P Z P)) (kk : ∀ (r : Option Value) (m' : q_Mm), P r m' → q_V (q_g Z) M (d + 1) 0 0 pc' lv (r.toList ++ st) (q_W Z m') post) : q_V (q_g Z) M (d + 1) 0 0 pc lv st0 (q_W Z m) post :=
  q_callS (mc1 := 0) (ms1 := 0) (mc2 := 0) (ms2 := 0) hd hM hlk hst hn hlen hr hp (hlw ▸ hV) (fun r ws h => by obtain ⟨m', rfl, h⟩ := h; exact kk r m' h)
theorem h_callSN {P : Option Value → q_Mm → Prop} {idx n : Nat} {As st0 : List Value} {host : String} {lw : List (Option Value)} (hd : decode M.2.2.1 pc = .ok (.invokestatic idx, 3)) (hM : q_St M' n) (hlk : (M.1, idx, M'.2.1, host) ∈ q_nestM) (hst : st0 = As.reverse ++ st) (hn : As.length = n) (hlen : (lg_sl As).length ≤ M'.2.2.2.1) (hr : q_cat st ≤ 8) (hp : pc + 3 = pc') (hlw : q_args M'.2.2.2.1 As = lw)
    (hV : q_V (q_g Z) M' d 0 0 0 lw [] (q_W Z m) (q_P Z P)) (kk : ∀ (r : Option Value) (m' : q_Mm), P r m' → q_V (q_g Z) M (d + 1) 0 0 pc' lv (r.toList ++ st) (q_W Z m') post) : q_V (q_g Z) M (d + 1) 0 0 pc lv st0 (q_W Z m) post :=
  q_callSN (mc1 := 0) (ms1 := 0) (mc2 := 0) (ms2 := 0) hd hM hlk hst hn hlen hr hp (hlw ▸ hV) (fun r ws h => by obtain ⟨m', rfl, h⟩ := h; exact kk r m' h)
theorem h_weak {P P' : Option Value → q_Mm → Prop} {d : Nat} (h : q_V (q_g Z) M d 0 0 pc lv st (q_W Z m) (q_P Z P)) (hi : ∀ r m', P r m' → P' r m') : q_V (q_g Z) M d 0 0 pc lv st (q_W Z m) (q_P Z P') := by
  intro p e s m1 args below meth c R H locs cells slots d0 A Q X ls hl
  refine h ⟨X.1, X.2.1, X.2.2.1, X.2.2.2.1, X.2.2.2.2.1, X.2.2.2.2.2.1, ?_⟩ ls hl
  intro r ws H' locs' cells' slots' d1 pc9 ls9 hp
  obtain ⟨m', e9, hp⟩ := hp
  exact X.2.2.2.2.2.2 r ws H' locs' cells' slots' d1 pc9 ls9 ⟨m', e9, hi r m' hp⟩
/-- a method that needs calls d deep has them where there is room for more -/
theorem q_V.up {G : q_G} {M : q_M} {d d' mc ms pc : Nat} {lv : List (Option Value)} {st : List Value} {ws : va_W} {post : Option Value → va_W → Prop} (h : q_V G M d mc ms pc lv st ws post) (hd : d ≤ d') : q_V G M d' mc ms pc lv st ws post := by
  intro p e s m1 args below meth c R H locs cells slots d0 A Q X ls hl
  refine h ⟨⟨X.1.1, X.1.2.1, X.1.2.2.1, X.1.2.2.2.1, X.1.2.2.2.2.1, X.1.2.2.2.2.2.1, X.1.2.2.2.2.2.2.1, X.1.2.2.2.2.2.2.2.1, ⟨Nat.le_trans hd X.1.2.2.2.2.2.2.2.2.1.1, Nat.le_trans (Nat.mul_le_mul_left 40 hd) X.1.2.2.2.2.2.2.2.2.1.2⟩, X.1.2.2.2.2.2.2.2.2.2⟩, X.2⟩ ls hl
end HROWS
