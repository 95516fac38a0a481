/-! ===== Long.bitCount is the count of bits ===== -/
def w_rep (k : Nat) : Nat → Nat
  | 0 => 0
  | n + 1 => 256 * w_rep k n + k
def w_mp (f : Nat → Nat) : Nat → Nat → Nat
  | 0, _ => 0
  | n + 1, v => 256 * w_mp f n (v / 256) + f (v % 256)
def w_ok : Nat → Nat → Prop
  | 0, _ => True
  | n + 1, b => (b % 16 ≤ 4 ∧ b % 256 / 16 ≤ 4) ∧ w_ok n (b / 256)
theorem w_and2 {k : Nat} (hk : k < 256) (x M : Nat) : x &&& (256 * M + k) = 256 * (x / 256 &&& M) + (x % 256 &&& k) := by
  have h1 : (x &&& (256 * M + k)) / 256 = x / 256 &&& M := by
    have := @Nat.shiftRight_and_distrib 8 x (256 * M + k)
    rw [Nat.shiftRight_eq_div_pow, Nat.shiftRight_eq_div_pow, Nat.shiftRight_eq_div_pow] at this
    rw [show (2:Nat) ^ 8 = 256 from rfl] at this
    rw [this]; congr 1; omega
  have h2 : (x &&& (256 * M + k)) % 256 = x % 256 &&& k := by
    have := @Nat.and_mod_two_pow x (256 * M + k) 8
    rw [show (2:Nat) ^ 8 = 256 from rfl] at this
    rw [this]; congr 1; omega
  omega
theorem w_s1 : ∀ n v, v < 256 ^ n → v - (v / 2 &&& w_rep 85 n) = w_mp w_A n v
  | 0, v, h => by rw [Nat.pow_zero] at h; rw [show v = 0 by omega]; rfl
  | n + 1, v, h => by
    have ih := w_s1 n (v / 256) (by rw [Nat.pow_succ] at h; omega)
    have b1 : v / 2 &&& w_rep 85 (n + 1) = 256 * (v / 256 / 2 &&& w_rep 85 n) + (v % 256 / 2 &&& 85) := by
      have := w_and2 (k := 85) (by decide) (v / 2) (w_rep 85 n)
      rw [show w_rep 85 (n + 1) = 256 * w_rep 85 n + 85 from rfl, this, show v / 2 / 256 = v / 256 / 2 by omega, show v / 2 % 256 = 128 * (v / 256 % 2) + v % 256 / 2 by omega]
      have w1 : 128 * (v / 256 % 2) + v % 256 / 2 &&& 85 = v % 256 / 2 &&& 85 := w_1 ⟨v % 256, Nat.mod_lt _ (by decide)⟩ ⟨v / 256 % 2, Nat.mod_lt _ (by decide)⟩
      rw [w1]
    have h1 : (v / 256 / 2 &&& w_rep 85 n) ≤ v / 256 / 2 := Nat.and_le_left
    have h2 : (v % 256 / 2 &&& 85) ≤ v % 256 / 2 := Nat.and_le_left
    rw [b1, show w_mp w_A (n + 1) v = 256 * w_mp w_A n (v / 256) + w_A (v % 256) from rfl, ← ih]
    unfold w_A
    omega
theorem w_mp_lt {f : Nat → Nat} (hf : ∀ b, b < 256 → f b < 256) : ∀ n v, w_mp f n v < 256 ^ n
  | 0, _ => by rw [Nat.pow_zero]; exact Nat.one_pos
  | n + 1, v => by
    have h1 := w_mp_lt hf n (v / 256)
    have h2 := hf (v % 256) (Nat.mod_lt _ (by decide))
    rw [show w_mp f (n + 1) v = 256 * w_mp f n (v / 256) + f (v % 256) from rfl, Nat.pow_succ]
    omega
def w_Q (a : Nat) : Nat := (a &&& 51) + (a / 4 &&& 51)
theorem w_s2 : ∀ n a, a < 256 ^ n → (a &&& w_rep 51 n) + (a / 4 &&& w_rep 51 n) = w_mp w_Q n a
  | 0, a, h => by rw [Nat.pow_zero] at h; rw [show a = 0 by omega]; rfl
  | n + 1, a, h => by
    have ih := w_s2 n (a / 256) (by rw [Nat.pow_succ] at h; omega)
    have e1 := w_and2 (k := 51) (by decide) a (w_rep 51 n)
    have e2 := w_and2 (k := 51) (by decide) (a / 4) (w_rep 51 n)
    have w2 : 64 * (a / 256 % 4) + a % 256 / 4 &&& 51 = a % 256 / 4 &&& 51 := w_2 ⟨a % 256, Nat.mod_lt _ (by decide)⟩ ⟨a / 256 % 4, Nat.mod_lt _ (by decide)⟩
    rw [show a / 4 / 256 = a / 256 / 4 by omega, show a / 4 % 256 = 64 * (a / 256 % 4) + a % 256 / 4 by omega, w2] at e2
    rw [show w_rep 51 (n + 1) = 256 * w_rep 51 n + 51 from rfl, e1, e2, show w_mp w_Q (n + 1) a = 256 * w_mp w_Q n (a / 256) + w_Q (a % 256) from rfl, ← ih]
    unfold w_Q
    omega
theorem w_mp_mp {f g : Nat → Nat} (hf : ∀ b, b < 256 → f b < 256) : ∀ n v, w_mp g n (w_mp f n v) = w_mp (fun b => g (f b)) n v
  | 0, _ => rfl
  | n + 1, v => by
    have h2 := hf (v % 256) (Nat.mod_lt _ (by decide))
    have ih := w_mp_mp (g := g) hf n (v / 256)
    show 256 * w_mp g n ((256 * w_mp f n (v / 256) + f (v % 256)) / 256) + g ((256 * w_mp f n (v / 256) + f (v % 256)) % 256) = 256 * w_mp (fun b => g (f b)) n (v / 256) + g (f (v % 256))
    rw [show (256 * w_mp f n (v / 256) + f (v % 256)) / 256 = w_mp f n (v / 256) by omega, show (256 * w_mp f n (v / 256) + f (v % 256)) % 256 = f (v % 256) by omega, ih]
theorem w_mp_ok {f : Nat → Nat} (hf : ∀ b, b < 256 → f b < 256 ∧ f b % 16 ≤ 4 ∧ f b / 16 ≤ 4) : ∀ n v, w_ok n (w_mp f n v)
  | 0, _ => trivial
  | n + 1, v => by
    obtain ⟨h1, h2, h3⟩ := hf (v % 256) (Nat.mod_lt _ (by decide))
    have ih := w_mp_ok hf n (v / 256)
    rw [show w_mp f (n + 1) v = 256 * w_mp f n (v / 256) + f (v % 256) from rfl]
    refine ⟨⟨by omega, by omega⟩, ?_⟩
    rw [show (256 * w_mp f n (v / 256) + f (v % 256)) / 256 = w_mp f n (v / 256) by omega]
    exact ih
def w_R (y : Nat) : Nat := (y + y / 16) % 16
theorem w_s3 : ∀ n b, b < 256 ^ n → w_ok n b → (b + b / 16) &&& w_rep 15 n = w_mp w_R n b
  | 0, b, h, _ => by rw [Nat.pow_zero] at h; rw [show b = 0 by omega]; rfl
  | n + 1, b, h, ho => by
    obtain ⟨⟨h1, h2⟩, ho⟩ := ho
    have hb : b / 256 < 256 ^ n := by rw [Nat.pow_succ] at h; omega
    have ih := w_s3 n (b / 256) hb ho
    have h4 : b / 256 % 16 ≤ 4 := by
      cases n with
      | zero => rw [Nat.pow_zero] at hb; omega
      | succ n => exact ho.1.1
    have e1 := w_and2 (k := 15) (by decide) (b + b / 16) (w_rep 15 n)
    rw [show (b + b / 16) / 256 = b / 256 + b / 256 / 16 by omega, Nat.and_two_pow_sub_one_eq_mod _ 4] at e1
    rw [show w_rep 15 (n + 1) = 256 * w_rep 15 n + 15 from rfl, e1, ih, show w_mp w_R (n + 1) b = 256 * w_mp w_R n (b / 256) + w_R (b % 256) from rfl]
    unfold w_R
    omega
theorem w_b1 : ∀ b : Fin 256, w_A b.1 < 256 ∧ w_P b.1 < 256 := by decide +kernel
theorem w_b2 : ∀ b : Fin 256, s_pc 8 b.1 ≤ 8 := by decide +kernel
theorem w_mp_congr {f g : Nat → Nat} (h : ∀ b, b < 256 → f b = g b) : ∀ n v, w_mp f n v = w_mp g n v
  | 0, _ => rfl
  | n + 1, v => by
    rw [show w_mp f (n + 1) v = 256 * w_mp f n (v / 256) + f (v % 256) from rfl, w_mp_congr h n, h _ (Nat.mod_lt _ (by decide))]
    rfl
theorem w_c8 {v : Nat} (hv : v < 256 ^ 8) : let a := v - (v / 2 &&& w_rep 85 8)
    let b := (a &&& w_rep 51 8) + (a / 4 &&& w_rep 51 8)
    (b + b / 16) &&& w_rep 15 8 = w_mp (s_pc 8) 8 v := by
  have hA : ∀ b, b < 256 → w_A b < 256 := fun b hb => (w_b1 ⟨b, hb⟩).1
  have hP : ∀ b, b < 256 → w_P b < 256 := fun b hb => (w_b1 ⟨b, hb⟩).2
  have h1 := w_s1 8 v hv
  have h2 := w_s2 8 (w_mp w_A 8 v) (w_mp_lt hA 8 v)
  rw [w_mp_mp hA] at h2
  have h2 : (w_mp w_A 8 v &&& w_rep 51 8) + (w_mp w_A 8 v / 4 &&& w_rep 51 8) = w_mp w_P 8 v := h2
  have h3 := w_s3 8 (w_mp w_P 8 v) (w_mp_lt hP 8 v) (w_mp_ok (fun b hb => ⟨hP b hb, (w_3 ⟨b, hb⟩).1, (w_3 ⟨b, hb⟩).2.1⟩) 8 v)
  rw [w_mp_mp hP] at h3
  have h4 : w_mp (fun b => w_R (w_P b)) 8 v = w_mp (s_pc 8) 8 v := w_mp_congr (fun b hb => by
    obtain ⟨a1, a2, a3⟩ := w_3 ⟨b, hb⟩
    have a1 : w_P b % 16 ≤ 4 := a1
    have a2 : w_P b / 16 ≤ 4 := a2
    have a3 : w_P b % 16 + w_P b / 16 = s_pc 8 b := a3
    show (w_P b + w_P b / 16) % 16 = s_pc 8 b
    rw [← a3]
    omega) 8 v
  show (_ + _ / 16) &&& w_rep 15 8 = _
  rw [h1, h2, h3, h4]
