/-! ===== frames: which places a method leaves as they were ===== -/
def q_at (m : q_Mm) (p : Nat) : (Nat → Int32) × (Nat → Int64) × (Nat → Int32) × (Nat → Int64) × (Nat → UInt64) := (m.1 p, m.2.1 p, m.2.2.1 p, m.2.2.2.1 p, m.2.2.2.2 p)
def Fr (S : List Nat) (m m2 : q_Mm) : Prop := ∀ p, p ∉ S → q_at m2 p = q_at m p
theorem Fr.rf {S : List Nat} {m : q_Mm} : Fr S m m := fun _ _ => rfl
theorem Fr.trans {S : List Nat} {m m1 m2 : q_Mm} (h1 : Fr S m m1) (h2 : Fr S m1 m2) : Fr S m m2 := fun p hp => (h2 p hp).trans (h1 p hp)
theorem Fr.mono {S S' : List Nat} {m m2 : q_Mm} (h : Fr S m m2) (hs : ∀ p ∈ S, p ∈ S') : Fr S' m m2 := fun p hp => h p (fun q => hp (hs p q))
theorem Fr.then {S S1 S2 : List Nat} {m m1 m2 : q_Mm} (h1 : Fr S1 m m1) (h2 : Fr S2 m1 m2) (a : ∀ p ∈ S1, p ∈ S) (b : ∀ p ∈ S2, p ∈ S) : Fr S m m2 := (h1.mono a).trans (h2.mono b)
theorem Fr.I {S : List Nat} {m m1 : q_Mm} {p j : Nat} {x : Int32} (h : Fr S m m1) (hp : p ∈ S) : Fr S m (sI m1 p j x) := fun q hq => by
  have e : q ≠ p := fun e => hq (e ▸ hp)
  rw [← h q hq]
  simp [q_at, sI, q_up, e]
theorem Fr.J {S : List Nat} {m m1 : q_Mm} {p j : Nat} {x : Int64} (h : Fr S m m1) (hp : p ∈ S) : Fr S m (sJ m1 p j x) := fun q hq => by
  have e : q ≠ p := fun e => hq (e ▸ hp)
  rw [← h q hq]
  simp [q_at, sJ, q_up, e]
theorem Fr.A {S : List Nat} {m m1 : q_Mm} {p : Nat} {f : Nat → Int32} (h : Fr S m m1) (hp : p ∈ S) : Fr S m (sA m1 p f) := fun q hq => by
  have e : q ≠ p := fun e => hq (e ▸ hp)
  rw [← h q hq]
  simp [q_at, sA, q_up, e]
theorem Fr.L {S : List Nat} {m m1 : q_Mm} {p : Nat} {f : Nat → Int64} (h : Fr S m m1) (hp : p ∈ S) : Fr S m (sL m1 p f) := fun q hq => by
  have e : q ≠ p := fun e => hq (e ▸ hp)
  rw [← h q hq]
  simp [q_at, sL, q_up, e]
theorem Fr.D {S : List Nat} {m m1 : q_Mm} {p : Nat} {f : Nat → UInt64} (h : Fr S m m1) (hp : p ∈ S) : Fr S m (sD m1 p f) := fun q hq => by
  have e : q ≠ p := fun e => hq (e ▸ hp)
  rw [← h q hq]
  simp [q_at, sD, q_up, e]
theorem Fr.i {S : List Nat} {m m2 : q_Mm} (h : Fr S m m2) {p : Nat} (hp : p ∉ S) : m2.1 p = m.1 p := congrArg (fun z => z.1) (h p hp)
theorem Fr.j {S : List Nat} {m m2 : q_Mm} (h : Fr S m m2) {p : Nat} (hp : p ∉ S) : m2.2.1 p = m.2.1 p := congrArg (fun z => z.2.1) (h p hp)
theorem Fr.a {S : List Nat} {m m2 : q_Mm} (h : Fr S m m2) {p : Nat} (hp : p ∉ S) : m2.2.2.1 p = m.2.2.1 p := congrArg (fun z => z.2.2.1) (h p hp)
theorem Fr.l {S : List Nat} {m m2 : q_Mm} (h : Fr S m m2) {p : Nat} (hp : p ∉ S) : m2.2.2.2.1 p = m.2.2.2.1 p := congrArg (fun z => z.2.2.2.1) (h p hp)
theorem Fr.d {S : List Nat} {m m2 : q_Mm} (h : Fr S m m2) {p : Nat} (hp : p ∉ S) : m2.2.2.2.2 p = m.2.2.2.2 p := congrArg (fun z => z.2.2.2.2) (h p hp)
theorem Oct.fr {S : List Nat} {m m2 : q_Mm} {o : Nat} {B : List Nat} (h : Oct m o B) (f : Fr S m m2) (h1 : o ∉ S) (h2 : o + 1 ∉ S) : Oct m2 o B := ⟨(congrFun (f.i h1) 1).trans h.1, h.2.1, fun i hi => (congrFun (f.a h2) i).trans (h.2.2.1 i hi), h.2.2.2⟩
theorem Col.fr {S : List Nat} {m m2 : q_Mm} {o n k : Nat} {xs : Nat → Int64} {r : Nat → Nat} {nt : Nat → Int32} (h : Col m o n k xs r nt) (f : Fr S m m2) (h0 : o ∉ S) (h1 : o + 1 ∉ S) (h2 : o + 2 ∉ S) (h3 : o + 3 ∉ S) : Col m2 o n k xs r nt :=
  ⟨(congrFun (f.i h0) 3).trans h.1, (congrFun (f.i h0) 4).trans h.2.1, h.2.2.1, h.2.2.2.1, fun i hi => (congrFun (f.l h1) i).trans (h.2.2.2.2.1 i hi), fun i hi => (congrFun (f.a h2) i).trans (h.2.2.2.2.2.1 i hi), fun i hi => (congrFun (f.a h3) i).trans (h.2.2.2.2.2.2.1 i hi), h.2.2.2.2.2.2.2⟩
theorem oct_app {m : q_Mm} {o b : Nat} {B : List Nat} {x : Int32} (hO : Oct m o B) (hle : B.length < 320) (hx : x = nI b) (hb : b < 256) : Oct (sI (sA m (o + 1) (q_u (m.2.2.1 (o + 1)) B.length x)) o 1 (nI (B.length + 1))) o (B ++ [b]) := by
  refine ⟨by simp [sI, q_up, q_u], by simp; omega, fun i hi => ?_, fun z hz => ?_⟩
  · rw [List.length_append, List.length_singleton] at hi
    show q_up (m.2.2.1) (o + 1) (q_u (m.2.2.1 (o + 1)) B.length x) (o + 1) i = _
    rw [q_up_s]
    unfold q_u
    by_cases h : i = B.length
    · rw [if_pos h, hx, h]
      simp [List.getD_eq_getElem?_getD]
    · rw [if_neg h, hO.2.2.1 i (by omega)]
      simp [List.getD_eq_getElem?_getD, List.getElem?_append_left (show i < B.length by omega)]
  · rcases List.mem_append.mp hz with h | h
    · exact hO.2.2.2 z h
    · rw [List.mem_singleton.mp h]; exact hb
/-- the four bytes of an int, the eight of a long, the first first -/
def s_i4 (x : Int32) : List Nat := [x.toBitVec.toNat / 2 ^ 24 % 256, x.toBitVec.toNat / 2 ^ 16 % 256, x.toBitVec.toNat / 2 ^ 8 % 256, x.toBitVec.toNat % 256]
theorem z_byte (x : Int32) : x &&& nI 255 = nI (x.toBitVec.toNat % 256) := pk_and x 8 rfl
theorem z_byteS (x s : Int32) (k : Nat) (hs : ((s.toUInt32 &&& Int32.toUInt32 31).toBitVec % 32).toNat = k) : (x.toUInt32 >>> (s.toUInt32 &&& Int32.toUInt32 31)).toInt32 &&& nI 255 = nI (x.toBitVec.toNat / 2 ^ k % 256) := by
  rw [z_byte, pk_ushr x s k hs]
