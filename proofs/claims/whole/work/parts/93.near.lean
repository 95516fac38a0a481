/-! ===== Long.bitCount is the count of bits ===== -/
def w_rep (k : Nat) : Nat → Nat
  | 0 => 0
  | n + 1 => 256 * w_rep k n + k
def w_mp (f : Nat → Nat) : Nat → Nat → Nat
  | 0, _ => 0
  | n + 1, v => 256 * w_mp f n (v / 256) + f (v % 256)
def w_ok : Nat → Nat → Prop
  | 0, _ => True
  | n + 1, b => (b % 16 ≤ 4 ∧ b % 256 / 16 ≤ 4) ∧ w_ok n (b / 256)
theorem w_and2 {k : Nat} (hk : k < 256) (x M : Nat) : x &&& (256 * M + k) = 256 * (x / 256 &&& M) + (x % 256 &&& k) := by
  have h1 : (x &&& (256 * M + k)) / 256 = x / 256 &&& M := by
    have := @Nat.shiftRight_and_distrib 8 x (256 * M + k)
    rw [Nat.shiftRight_eq_div_pow, Nat.shiftRight_eq_div_pow, Nat.shiftRight_eq_div_pow] at this
    rw [show (2:Nat) ^ 8 = 256 from rfl] at this
    rw [this]; congr 1; omega
  have h2 : (x &&& (256 * M + k)) % 256 = x % 256 &&& k := by
    have := @Nat.and_mod_two_pow x (256 * M + k) 8
    rw [show (2:Nat) ^ 8 = 256 from rfl] at this
    rw [this]; congr 1; omega
  omega
theorem w_s1 : ∀ n v, v < 256 ^ n → v - (v / 2 &&& w_rep 85 n) = w_mp w_A n v
  | 0, v, h => by rw [Nat.pow_zero] at h; rw [show v = 0 by omega]; rfl
  | n + 1, v, h => by
    have ih := w_s1 n (v / 256) (by rw [Nat.pow_succ] at h; omega)
    have b1 : v / 2 &&& w_rep 85 (n + 1) = 256 * (v / 256 / 2 &&& w_rep 85 n) + (v % 256 / 2 &&& 85) := by
      have := w_and2 (k := 85) (by decide) (v / 2) (w_rep 85 n)
      rw [show w_rep 85 (n + 1) = 256 * w_rep 85 n + 85 from rfl, this, show v / 2 / 256 = v / 256 / 2 by omega, show v / 2 % 256 = 128 * (v / 256 % 2) + v % 256 / 2 by omega]
      have w1 : 128 * (v / 256 % 2) + v % 256 / 2 &&& 85 = v % 256 / 2 &&& 85 := w_1 ⟨v % 256, Nat.mod_lt _ (by decide)⟩ ⟨v / 256 % 2, Nat.mod_lt _ (by decide)⟩
      rw [w1]
    have h1 : (v / 256 / 2 &&& w_rep 85 n) ≤ v / 256 / 2 := Nat.and_le_left
    have h2 : (v % 256 / 2 &&& 85) ≤ v % 256 / 2 := Nat.and_le_left
    rw [b1, show w_mp w_A (n + 1) v = 256 * w_mp w_A n (v / 256) + w_A (v % 256) from rfl, ← ih]
    unfold w_A
    omega
theorem w_mp_lt {f : Nat → Nat} (hf : ∀ b, b < 256 → f b < 256) : ∀ n v, w_mp f n v < 256 ^ n
  | 0, _ => by rw [Nat.pow_zero]; exact Nat.one_pos
  | n + 1, v => by
    have h1 := w_mp_lt hf n (v / 256)
    have h2 := hf (v % 256) (Nat.mod_lt _ (by decide))
    rw [show w_mp f (n + 1) v = 256 * w_mp f n (v / 256) + f (v % 256) from rfl, Nat.pow_succ]
    omega
def w_Q (a : Nat) : Nat := (a &&& 51) + (a / 4 &&& 51)
theorem w_s2 : ∀ n a, a < 256 ^ n → (a &&& w_rep 51 n) + (a / 4 &&& w_rep 51 n) = w_mp w_Q n a
  | 0, a, h => by rw [Nat.pow_zero] at h; rw [show a = 0 by omega]; rfl
  | n + 1, a, h => by
    have ih := w_s2 n (a / 256) (by rw [Nat.pow_succ] at h; omega)
    have e1 := w_and2 (k := 51) (by decide) a (w_rep 51 n)
    have e2 := w_and2 (k := 51) (by decide) (a / 4) (w_rep 51 n)
    have w2 : 64 * (a / 256 % 4) + a % 256 / 4 &&& 51 = a % 256 / 4 &&& 51 := w_2 ⟨a % 256, Nat.mod_lt _ (by decide)⟩ ⟨a / 256 % 4, Nat.mod_lt _ (by decide)⟩
    rw [show a / 4 / 256 = a / 256 / 4 by omega, show a / 4 % 256 = 64 * (a / 256 % 4) + a % 256 / 4 by omega, w2] at e2
    rw [show w_rep 51 (n + 1) = 256 * w_rep 51 n + 51 from rfl, e1, e2, show w_mp w_Q (n + 1) a = 256 * w_mp w_Q n (a / 256) + w_Q (a % 256) from rfl, ← ih]
    unfold w_Q
    omega
theorem w_mp_mp {f g : Nat → Nat} (hf : ∀ b, b < 256 → f b < 256) : ∀ n v, w_mp g n (w_mp f n v) = w_mp (fun b => g (f b)) n v
  | 0, _ => rfl
  | n + 1, v => by
    have h2 := hf (v % 256) (Nat.mod_lt _ (by decide))
    have ih := w_mp_mp (g := g) hf n (v / 256)
    show 256 * w_mp g n ((256 * w_mp f n (v / 256) + f (v % 256)) / 256) + g ((256 * w_mp f n (v / 256) + f (v % 256)) % 256) = 256 * w_mp (fun b => g (f b)) n (v / 256) + g (f (v % 256))
    rw [show (256 * w_mp f n (v / 256) + f (v % 256)) / 256 = w_mp f n (v / 256) by omega, show (256 * w_mp f n (v / 256) + f (v % 256)) % 256 = f (v % 256) by omega, ih]
theorem w_mp_ok {f : Nat → Nat} (hf : ∀ b, b < 256 → f b < 256 ∧ f b % 16 ≤ 4 ∧ f b / 16 ≤ 4) : ∀ n v, w_ok n (w_mp f n v)
  | 0, _ => trivial
  | n + 1, v => by
    obtain ⟨h1, h2, h3⟩ := hf (v % 256) (Nat.mod_lt _ (by decide))
    have ih := w_mp_ok hf n (v / 256)
    rw [show w_mp f (n + 1) v = 256 * w_mp f n (v / 256) + f (v % 256) from rfl]
    refine ⟨⟨by omega, by omega⟩, ?_⟩
    rw [show (256 * w_mp f n (v / 256) + f (v % 256)) / 256 = w_mp f n (v / 256) by omega]
    exact ih
def w_R (y : Nat) : Nat := (y + y / 16) % 16
theorem w_s3 : ∀ n b, b < 256 ^ n → w_ok n b → (b + b / 16) &&& w_rep 15 n = w_mp w_R n b
  | 0, b, h, _ => by rw [Nat.pow_zero] at h; rw [show b = 0 by omega]; rfl
  | n + 1, b, h, ho => by
    obtain ⟨⟨h1, h2⟩, ho⟩ := ho
    have hb : b / 256 < 256 ^ n := by rw [Nat.pow_succ] at h; omega
    have ih := w_s3 n (b / 256) hb ho
    have h4 : b / 256 % 16 ≤ 4 := by
      cases n with
      | zero => rw [Nat.pow_zero] at hb; omega
      | succ n => exact ho.1.1
    have e1 := w_and2 (k := 15) (by decide) (b + b / 16) (w_rep 15 n)
    rw [show (b + b / 16) / 256 = b / 256 + b / 256 / 16 by omega, Nat.and_two_pow_sub_one_eq_mod _ 4] at e1
    rw [show w_rep 15 (n + 1) = 256 * w_rep 15 n + 15 from rfl, e1, ih, show w_mp w_R (n + 1) b = 256 * w_mp w_R n (b / 256) + w_R (b % 256) from rfl]
    unfold w_R
    omega
theorem w_b1 : ∀ b : Fin 256, w_A b.1 < 256 ∧ w_P b.1 < 256 := by decide +kernel
theorem w_b2 : ∀ b : Fin 256, s_pc 8 b.1 ≤ 8 := by decide +kernel
theorem w_mp_congr {f g : Nat → Nat} (h : ∀ b, b < 256 → f b = g b) : ∀ n v, w_mp f n v = w_mp g n v
  | 0, _ => rfl
  | n + 1, v => by
    rw [show w_mp f (n + 1) v = 256 * w_mp f n (v / 256) + f (v % 256) from rfl, w_mp_congr h n, h _ (Nat.mod_lt _ (by decide))]
    rfl
theorem w_c8 {v : Nat} (hv : v < 256 ^ 8) : let a := v - (v / 2 &&& w_rep 85 8)
    let b := (a &&& w_rep 51 8) + (a / 4 &&& w_rep 51 8)
    (b + b / 16) &&& w_rep 15 8 = w_mp (s_pc 8) 8 v := by
  have hA : ∀ b, b < 256 → w_A b < 256 := fun b hb => (w_b1 ⟨b, hb⟩).1
  have hP : ∀ b, b < 256 → w_P b < 256 := fun b hb => (w_b1 ⟨b, hb⟩).2
  have h1 := w_s1 8 v hv
  have h2 := w_s2 8 (w_mp w_A 8 v) (w_mp_lt hA 8 v)
  rw [w_mp_mp hA] at h2
  have h2 : (w_mp w_A 8 v &&& w_rep 51 8) + (w_mp w_A 8 v / 4 &&& w_rep 51 8) = w_mp w_P 8 v := h2
  have h3 := w_s3 8 (w_mp w_P 8 v) (w_mp_lt hP 8 v) (w_mp_ok (fun b hb => ⟨hP b hb, (w_3 ⟨b, hb⟩).1, (w_3 ⟨b, hb⟩).2.1⟩) 8 v)
  rw [w_mp_mp hP] at h3
  have h4 : w_mp (fun b => w_R (w_P b)) 8 v = w_mp (s_pc 8) 8 v := w_mp_congr (fun b hb => by
    obtain ⟨a1, a2, a3⟩ := w_3 ⟨b, hb⟩
    have a1 : w_P b % 16 ≤ 4 := a1
    have a2 : w_P b / 16 ≤ 4 := a2
    have a3 : w_P b % 16 + w_P b / 16 = s_pc 8 b := a3
    show (w_P b + w_P b / 16) % 16 = s_pc 8 b
    rw [← a3]
    omega) 8 v
  show (_ + _ / 16) &&& w_rep 15 8 = _
  rw [h1, h2, h3, h4]
theorem w_fin {p0 p1 p2 p3 p4 p5 p6 p7 : Nat} (h0 : p0 ≤ 8) (h1 : p1 ≤ 8) (h2 : p2 ≤ 8) (h3 : p3 ≤ 8) (h4 : p4 ≤ 8) (h5 : p5 ≤ 8) (h6 : p6 ≤ 8) (h7 : p7 ≤ 8) {c e g : Nat} (hc : c = 256 * (256 * (256 * (256 * (256 * (256 * (256 * (256 * 0 + p7) + p6) + p5) + p4) + p3) + p2) + p1) + p0) (he : e = c + c / 256) (hg : g = e + e / 65536) : c < 2 ^ 60 ∧ e < 2 ^ 61 ∧ g < 2 ^ 62 ∧ (g + g / 4294967296) % 128 = p0 + (p1 + (p2 + (p3 + (p4 + (p5 + (p6 + p7)))))) := by
  have e1 : c / 256 = p1 + 256 * p2 + 65536 * p3 + 16777216 * p4 + 4294967296 * p5 + 1099511627776 * p6 + 281474976710656 * p7 := by omega
  have e2 : e = (p0 + p1) + 256 * (p1 + p2) + 65536 * (p2 + p3) + 16777216 * (p3 + p4) + 4294967296 * (p4 + p5) + 1099511627776 * (p5 + p6) + 281474976710656 * (p6 + p7) + 72057594037927936 * p7 := by omega
  have e3 : e / 65536 = (p2 + p3) + 256 * (p3 + p4) + 65536 * (p4 + p5) + 16777216 * (p5 + p6) + 4294967296 * (p6 + p7) + 1099511627776 * p7 := by omega
  have e4 : g = (p0 + p1 + p2 + p3) + 256 * (p1 + p2 + p3 + p4) + 65536 * (p2 + p3 + p4 + p5) + 16777216 * (p3 + p4 + p5 + p6) + 4294967296 * (p4 + p5 + p6 + p7) + 1099511627776 * (p5 + p6 + p7) + 281474976710656 * (p6 + p7) + 72057594037927936 * p7 := by omega
  have e5 : g / 4294967296 = (p4 + p5 + p6 + p7) + 256 * (p5 + p6 + p7) + 65536 * (p6 + p7) + 16777216 * p7 := by omega
  refine ⟨by omega, by omega, by omega, ?_⟩
  rw [e5, e4]
  omega
theorem N_u (x : Int64) (s : Int32) (k : Nat) (hs : (s.toInt64.toUInt64 &&& Int64.toUInt64 63).toNat % 64 = k) : s_N (x.toUInt64 >>> (s.toInt64.toUInt64 &&& Int64.toUInt64 63)).toInt64 = s_N x / 2 ^ k := by
  show (x.toUInt64 >>> (s.toInt64.toUInt64 &&& Int64.toUInt64 63)).toNat = _
  rw [UInt64.toNat_shiftRight, hs, Nat.shiftRight_eq_div_pow]
  rfl
theorem N_and (a b : Int64) : s_N (a &&& b) = s_N a &&& s_N b := by
  show (a &&& b).toBitVec.toNat = _
  rw [Int64.toBitVec_and, BitVec.toNat_and]
  rfl
theorem N_sub {a b : Int64} (h : s_N b ≤ s_N a) : s_N (a - b) = s_N a - s_N b := by
  have h1 := s_N_lt a
  show (a - b).toBitVec.toNat = _
  rw [Int64.toBitVec_sub, BitVec.toNat_sub, s_N_bv, s_N_bv]
  omega
theorem N_add {a b : Int64} (h : s_N a + s_N b < 2 ^ 64) : s_N (a + b) = s_N a + s_N b := by
  show (a + b).toBitVec.toNat = _
  rw [Int64.toBitVec_add, BitVec.toNat_add, s_N_bv, s_N_bv]
  omega
theorem N_i (x : Int64) : x.toInt32 &&& nI 127 = nI (s_N x % 128) := by
  apply Int32.toBitVec_inj.mp
  apply BitVec.eq_of_toNat_eq
  rw [Int32.toBitVec_and, BitVec.toNat_and, pk_tn (show 127 < 2 ^ 32 by decide), pk_tn (by omega), Int64.toBitVec_toInt32, BitVec.signExtend_eq_setWidth_of_le _ (by decide), BitVec.toNat_setWidth, Nat.and_two_pow_sub_one_eq_mod _ 7, s_N_bv]
  omega
theorem s_pc64 (v : Nat) : s_pc 64 v = s_pc 8 (v % 256) + (s_pc 8 (v / 256 % 256) + (s_pc 8 (v / 256 / 256 % 256) + (s_pc 8 (v / 256 / 256 / 256 % 256) + (s_pc 8 (v / 256 / 256 / 256 / 256 % 256) + (s_pc 8 (v / 256 / 256 / 256 / 256 / 256 % 256) + (s_pc 8 (v / 256 / 256 / 256 / 256 / 256 / 256 % 256) + s_pc 8 (v / 256 / 256 / 256 / 256 / 256 / 256 / 256 % 256))))))) := by
  rw [show s_pc 64 v = _ from w_pcs 56 v, show s_pc 56 (v / 256) = _ from w_pcs 48 (v / 256), show s_pc 48 (v / 256 / 256) = _ from w_pcs 40 (v / 256 / 256), show s_pc 40 (v / 256 / 256 / 256) = _ from w_pcs 32 (v / 256 / 256 / 256), show s_pc 32 (v / 256 / 256 / 256 / 256) = _ from w_pcs 24 (v / 256 / 256 / 256 / 256), show s_pc 24 (v / 256 / 256 / 256 / 256 / 256) = _ from w_pcs 16 (v / 256 / 256 / 256 / 256 / 256), show s_pc 16 (v / 256 / 256 / 256 / 256 / 256 / 256) = _ from w_pcs 8 (v / 256 / 256 / 256 / 256 / 256 / 256), show s_pc 8 (v / 256 / 256 / 256 / 256 / 256 / 256 / 256) = _ from w_pcs 0 (v / 256 / 256 / 256 / 256 / 256 / 256 / 256)]
  rfl
theorem s_bcl_n (x : Int64) : s_bcl x = nI (s_pc 64 (s_N x)) := by
  have hx := s_N_lt x
  have hk := w_c8 (v := s_N x) hx
  have l1 : (s_N x / 2 &&& w_rep 85 8) ≤ s_N x / 2 := Nat.and_le_left
  unfold s_bcl
  simp only []
  obtain ⟨a, ha⟩ : ∃ a, x - ((x.toUInt64 >>> ((nI 1).toInt64.toUInt64 &&& Int64.toUInt64 63)).toInt64 &&& 6148914691236517205) = a := ⟨_, rfl⟩
  have na : s_N a = s_N x - (s_N x / 2 &&& w_rep 85 8) := by
    have e := N_and (x.toUInt64 >>> ((nI 1).toInt64.toUInt64 &&& Int64.toUInt64 63)).toInt64 6148914691236517205
    rw [N_u x (nI 1) 1 rfl, show s_N 6148914691236517205 = w_rep 85 8 from rfl, show 2 ^ 1 = 2 from rfl] at e
    rw [← ha, N_sub (by rw [e]; omega), e]
  rw [ha]
  obtain ⟨b, hb⟩ : ∃ b, (a &&& 3689348814741910323) + ((a.toUInt64 >>> ((nI 2).toInt64.toUInt64 &&& Int64.toUInt64 63)).toInt64 &&& 3689348814741910323) = b := ⟨_, rfl⟩
  have l2 : (s_N a &&& w_rep 51 8) ≤ w_rep 51 8 := Nat.and_le_right
  have l3 : (s_N a / 4 &&& w_rep 51 8) ≤ w_rep 51 8 := Nat.and_le_right
  rw [show w_rep 51 8 = 3689348814741910323 from rfl] at l2 l3
  have nb : s_N b = (s_N a &&& 3689348814741910323) + (s_N a / 4 &&& 3689348814741910323) := by
    have e := N_and (a.toUInt64 >>> ((nI 2).toInt64.toUInt64 &&& Int64.toUInt64 63)).toInt64 3689348814741910323
    have e2 := N_and a 3689348814741910323
    rw [N_u a (nI 2) 2 rfl, show s_N 3689348814741910323 = 3689348814741910323 from rfl, show 2 ^ 2 = 4 from rfl] at e
    rw [show s_N 3689348814741910323 = 3689348814741910323 from rfl] at e2
    rw [← hb, N_add (by rw [e, e2]; omega), e, e2]
  rw [hb]
  obtain ⟨c, hc⟩ : ∃ c, b + (b.toUInt64 >>> ((nI 4).toInt64.toUInt64 &&& Int64.toUInt64 63)).toInt64 &&& 1085102592571150095 = c := ⟨_, rfl⟩
  have nc : s_N c = w_mp (s_pc 8) 8 (s_N x) := by
    have e := N_u b (nI 4) 4 rfl
    rw [show 2 ^ 4 = 16 from rfl] at e
    rw [← hc, N_and, N_add (by rw [e, nb]; omega), e, show s_N 1085102592571150095 = w_rep 15 8 from rfl, nb, na]
    exact hk
  rw [hc]
  obtain ⟨f, hf⟩ : ∃ f, c + (c.toUInt64 >>> ((nI 8).toInt64.toUInt64 &&& Int64.toUInt64 63)).toInt64 = f := ⟨_, rfl⟩
  rw [hf]
  obtain ⟨g, hg⟩ : ∃ g, f + (f.toUInt64 >>> ((nI 16).toInt64.toUInt64 &&& Int64.toUInt64 63)).toInt64 = g := ⟨_, rfl⟩
  rw [hg, N_i]
  have q : ∀ v, s_pc 8 (v % 256) ≤ 8 := fun v => w_b2 ⟨v % 256, Nat.mod_lt _ (by decide)⟩
  have W := fun (e g : Nat) => w_fin (q (s_N x)) (q (s_N x / 256)) (q (s_N x / 256 / 256)) (q (s_N x / 256 / 256 / 256)) (q (s_N x / 256 / 256 / 256 / 256)) (q (s_N x / 256 / 256 / 256 / 256 / 256)) (q (s_N x / 256 / 256 / 256 / 256 / 256 / 256)) (q (s_N x / 256 / 256 / 256 / 256 / 256 / 256 / 256)) (c := s_N c) (e := e) (g := g) nc
  obtain ⟨w1, w2, w3, w4⟩ := W _ _ rfl rfl
  have nf : s_N f = s_N c + s_N c / 256 := by
    have e := N_u c (nI 8) 8 rfl
    rw [show 2 ^ 8 = 256 from rfl] at e
    rw [← hf, N_add (by rw [e]; omega), e]
  have ng : s_N g = s_N f + s_N f / 65536 := by
    have e := N_u f (nI 16) 16 rfl
    rw [show 2 ^ 16 = 65536 from rfl] at e
    rw [← hg, N_add (by rw [e, nf]; omega), e]
  have e := N_u g (nI 32) 32 rfl
  rw [show 2 ^ 32 = 4294967296 from rfl] at e
  rw [N_add (by rw [e, ng, nf]; omega), e, ng, nf, w4, s_pc64]
/-! ===== the reference's near ===== -/
set_option maxHeartbeats 4000000 in
set_option maxRecDepth 20000 in
theorem k_near {Z : q_Z} {m : q_Mm} {d : Nat} {n : Nat} {t : Bool} {x y : Int32} {rl : Nat → Nat} {xs : Nat → Int64} (hV : t = true → MV m n rl xs) (ht : m.1 215 22 = q_b t) (hn : m.1 215 20 = nI n) (hn6 : n ≤ 64) : q_V (q_g Z) mX11_near (d+2) 0 0 0 [some (.ref (q_ad Z 215)), some (.int x), some (.int y), none, none, none, none] [] (q_W Z m) (q_P Z fun r m2 => r = some (.int (if (s_has t n x && s_has t n y) = true then s_bcl (xs (s_i x) ^^^ xs (s_i y)) else -1)) ∧ m2 = m) := by
  refine q_aload_n (pc' := 1) dX11_near_0 rfl rfl ?_
  refine q_iload_n (pc' := 2) dX11_near_1 rfl rfl ?_
  refine h_callV (pc' := 5) (M' := mX11_isPlace) (As := [_]) dX11_near_2 iX11_isPlace lX11_375 rfl rfl rfl rfl (Nat.le_of_ble_eq_true rfl) (Nat.le_of_ble_eq_true rfl) rfl rfl (k_isPlace ht hn hn6) (fun r m' hq => ?_)
  obtain ⟨rfl, hmm⟩ := hq
  subst m'
  refine q_if_eqB (tgt := 16) (pc' := 8) dX11_near_5 (by decide) rfl (fun c_5 => ?_) (fun c_5 => ?_)
  · refine q_iconst (pc' := 17) (v := (-1)) dX11_near_16 rfl rfl ?_
    refine q_iret dX11_near_17 rfl rfl ⟨_, rfl, by rw [c_5, Bool.false_and, if_neg (by decide)], rfl⟩
  refine q_aload_n (pc' := 9) dX11_near_8 rfl rfl ?_
  refine q_iload_n (pc' := 10) dX11_near_9 rfl rfl ?_
  refine h_callV (pc' := 13) (M' := mX11_isPlace) (As := [_]) dX11_near_10 iX11_isPlace lX11_375 rfl rfl rfl rfl (Nat.le_of_ble_eq_true rfl) (Nat.le_of_ble_eq_true rfl) rfl rfl (k_isPlace ht hn hn6) (fun r m' hq => ?_)
  obtain ⟨rfl, hmm⟩ := hq
  subst m'
  refine q_if_neB (tgt := 18) (pc' := 16) dX11_near_13 (by decide) rfl (fun c_13 => ?_) (fun c_13 => ?_)
  rotate_left
  · refine q_iconst (pc' := 17) (v := (-1)) dX11_near_16 rfl rfl ?_
    refine q_iret dX11_near_17 rfl rfl ⟨_, rfl, by rw [c_5, c_13, if_neg (by decide)], rfl⟩
  obtain ⟨i, hx, hi⟩ := z_has c_5 (by omega)
  obtain ⟨j, hy, hj⟩ := z_has c_13 (by omega)
  have htt : t = true := by
    unfold s_has at c_5
    rw [Bool.and_eq_true] at c_5
    exact c_5.1
  have hV := hV htt
  rw [c_5, c_13, Bool.and_self, if_pos rfl, hx, hy, s_i_n (by omega), s_i_n (by omega), s_bcl_n, s_pc_cnt]
  obtain ⟨v, hv⟩ : ∃ v, xs i ^^^ xs j = v := ⟨_, rfl⟩
  rw [hv]
  refine q_aload_n (pc' := 19) dX11_near_18 rfl rfl ?_
  refine h_getr (pc' := 22) dX11_near_19 fX11_33 rfl rfl rfl ?_
  refine q_iload_n (pc' := 23) dX11_near_22 rfl rfl ?_
  refine h_laldE (pc' := 24) dX11_near_23 rfl (rfl) (by omega) (by decide) (hV.2.2.1 i hi) rfl ?_
  refine q_aload_n (pc' := 25) dX11_near_24 rfl rfl ?_
  refine h_getr (pc' := 28) dX11_near_25 fX11_33 rfl rfl rfl ?_
  refine q_iload_n (pc' := 29) dX11_near_28 rfl rfl ?_
  refine h_laldE (pc' := 30) dX11_near_29 rfl (rfl) (by omega) (by decide) (hV.2.2.1 j hj) rfl ?_
  refine q_lxor (pc' := 31) dX11_near_30 rfl ?_
  rw [hv]
  refine q_lstore_n (pc' := 32) (lv' := [_, _, _, _, _, _, _]) dX11_near_31 (by decide) rfl rfl ?_
  refine q_iconst (pc' := 33) (v := nI 0) dX11_near_32 rfl rfl ?_
  refine q_istore (pc' := 35) (lv' := [_, _, _, _, _, _, _]) dX11_near_33 (by decide) rfl rfl ?_
  refine q_iconst (pc' := 36) (v := nI 0) dX11_near_35 rfl rfl ?_
  refine q_istore (pc' := 38) (lv' := [_, _, _, _, _, _, _]) dX11_near_36 (by decide) rfl rfl ?_
  suffices h : ∀ g k, k + g = 64 → q_V (q_g Z) mX11_near (d+2) 0 0 38 [some (.ref (q_ad Z 215)), some (.int (nI i)), some (.int (nI j)), some (.long v), none, some (.int (nI (s_cnt (fun i => decide (s_N v / 2 ^ i % 2 = 1)) k))), some (.int (nI k))] [] (q_W Z (m)) (q_P Z fun r m2 => r = some (.int (nI (s_cnt (fun i => decide (s_N v / 2 ^ i % 2 = 1)) 64))) ∧ m2 = m) from h 64 0 rfl
  intro g
  induction g with
  | zero =>
    intro k hk
    obtain rfl : k = 64 := by omega
    refine q_iload (pc' := 40) dX11_near_38 rfl rfl ?_
    refine q_bipush (pc' := 42) (v := nI 64) dX11_near_40 rfl rfl ?_
    refine q_icmp_geN (tgt := 72) (pc' := 45) dX11_near_42 (by decide) rfl (by omega) (fun c_42 => ?_) (fun c_42 => ?_)
    rotate_left
    · omega
    refine q_iload (pc' := 74) dX11_near_72 rfl rfl ?_
    refine q_iret dX11_near_74 rfl rfl ⟨_, rfl, rfl, rfl⟩
  | succ g ih =>
    intro k hk
    have ih := ih (k + 1) (by omega)
    have e : s_N ((v.toUInt64 >>> ((nI k).toInt64.toUInt64 &&& Int64.toUInt64 63)).toInt64 &&& 1) = s_N v / 2 ^ k % 2 := by
      rw [N_and, N_u v (nI k) k (z_us64 ⟨k, by omega⟩), show s_N 1 = 2 ^ 1 - 1 from rfl, Nat.and_two_pow_sub_one_eq_mod]
    have hc := s_cnt_le (fun i => decide (s_N v / 2 ^ i % 2 = 1)) k
    refine q_iload (pc' := 40) dX11_near_38 rfl rfl ?_
    refine q_bipush (pc' := 42) (v := nI 64) dX11_near_40 rfl rfl ?_
    refine q_icmp_geN (tgt := 72) (pc' := 45) dX11_near_42 (by decide) rfl (by omega) (fun c_42 => ?_) (fun c_42 => ?_)
    · omega
    refine q_iload (pc' := 47) dX11_near_45 rfl rfl ?_
    refine q_lload_n (pc' := 48) dX11_near_47 rfl rfl ?_
    refine q_iload (pc' := 50) dX11_near_48 rfl rfl ?_
    refine q_lushr (pc' := 51) dX11_near_50 rfl rfl ?_
    refine q_lconst (pc' := 52) (v := 1) dX11_near_51 rfl rfl ?_
    refine q_land (pc' := 53) dX11_near_52 rfl ?_
    refine q_lconst (pc' := 54) (v := 1) dX11_near_53 rfl rfl ?_
    refine q_lcmp (pc' := 55) dX11_near_54 rfl ?_
    refine q_if_neL (tgt := 62) (pc' := 58) dX11_near_55 (by decide) rfl (fun c_55 => ?_) (fun c_55 => ?_)
    · rw [s_cnt_f (decide_eq_false (fun z => c_55 (s_N_inj (e.trans z))))] at ih
      refine q_iconst (pc' := 63) (v := nI 0) dX11_near_62 rfl rfl ?_
      refine q_iaddN (pc' := 64) dX11_near_63 rfl ?_
      refine q_istore (pc' := 66) (lv' := [_, _, _, _, _, _, _]) dX11_near_64 (by decide) rfl rfl ?_
      refine q_iincN (pc' := 69) (j := 1) (lv' := [_, _, _, _, _, _, _]) dX11_near_66 rfl (by decide) rfl rfl ?_
      refine q_goto (pc' := 38) dX11_near_69 (by decide) ?_
      exact ih
    · rw [s_cnt_t (decide_eq_true (e.symm.trans (congrArg s_N c_55)))] at ih
      refine q_iconst (pc' := 59) (v := nI 1) dX11_near_58 rfl rfl ?_
      refine q_goto (pc' := 63) dX11_near_59 (by decide) ?_
      refine q_iaddN (pc' := 64) dX11_near_63 rfl ?_
      refine q_istore (pc' := 66) (lv' := [_, _, _, _, _, _, _]) dX11_near_64 (by decide) rfl rfl ?_
      refine q_iincN (pc' := 69) (j := 1) (lv' := [_, _, _, _, _, _, _]) dX11_near_66 rfl (by decide) rfl rfl ?_
      refine q_goto (pc' := 38) dX11_near_69 (by decide) ?_
      exact ih
