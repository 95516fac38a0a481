/-! ===== Long.bitCount told ===== -/
theorem s_bcl_n (x : Int64) : s_bcl x = nI (s_pc 64 (s_N x)) := by
  have hx := s_N_lt x
  have hk := w_c8 (v := s_N x) hx
  have l1 : (s_N x / 2 &&& w_rep 85 8) ≤ s_N x / 2 := Nat.and_le_left
  unfold s_bcl
  simp only []
  obtain ⟨a, ha⟩ : ∃ a, x - ((x.toUInt64 >>> ((nI 1).toInt64.toUInt64 &&& Int64.toUInt64 63)).toInt64 &&& 6148914691236517205) = a := ⟨_, rfl⟩
  have na : s_N a = s_N x - (s_N x / 2 &&& w_rep 85 8) := by
    have e := N_and (x.toUInt64 >>> ((nI 1).toInt64.toUInt64 &&& Int64.toUInt64 63)).toInt64 6148914691236517205
    rw [N_u x (nI 1) 1 rfl, show s_N 6148914691236517205 = w_rep 85 8 from rfl, show 2 ^ 1 = 2 from rfl] at e
    rw [← ha, N_sub (by rw [e]; omega), e]
  rw [ha]
  obtain ⟨b, hb⟩ : ∃ b, (a &&& 3689348814741910323) + ((a.toUInt64 >>> ((nI 2).toInt64.toUInt64 &&& Int64.toUInt64 63)).toInt64 &&& 3689348814741910323) = b := ⟨_, rfl⟩
  have l2 : (s_N a &&& w_rep 51 8) ≤ w_rep 51 8 := Nat.and_le_right
  have l3 : (s_N a / 4 &&& w_rep 51 8) ≤ w_rep 51 8 := Nat.and_le_right
  rw [show w_rep 51 8 = 3689348814741910323 from rfl] at l2 l3
  have nb : s_N b = (s_N a &&& 3689348814741910323) + (s_N a / 4 &&& 3689348814741910323) := by
    have e := N_and (a.toUInt64 >>> ((nI 2).toInt64.toUInt64 &&& Int64.toUInt64 63)).toInt64 3689348814741910323
    have e2 := N_and a 3689348814741910323
    rw [N_u a (nI 2) 2 rfl, show s_N 3689348814741910323 = 3689348814741910323 from rfl, show 2 ^ 2 = 4 from rfl] at e
    rw [show s_N 3689348814741910323 = 3689348814741910323 from rfl] at e2
    rw [← hb, N_add (by rw [e, e2]; omega), e, e2]
  rw [hb]
  obtain ⟨c, hc⟩ : ∃ c, b + (b.toUInt64 >>> ((nI 4).toInt64.toUInt64 &&& Int64.toUInt64 63)).toInt64 &&& 1085102592571150095 = c := ⟨_, rfl⟩
  have nc : s_N c = w_mp (s_pc 8) 8 (s_N x) := by
    have e := N_u b (nI 4) 4 rfl
    rw [show 2 ^ 4 = 16 from rfl] at e
    rw [← hc, N_and, N_add (by rw [e, nb]; omega), e, show s_N 1085102592571150095 = w_rep 15 8 from rfl, nb, na]
    exact hk
  rw [hc]
  obtain ⟨f, hf⟩ : ∃ f, c + (c.toUInt64 >>> ((nI 8).toInt64.toUInt64 &&& Int64.toUInt64 63)).toInt64 = f := ⟨_, rfl⟩
  rw [hf]
  obtain ⟨g, hg⟩ : ∃ g, f + (f.toUInt64 >>> ((nI 16).toInt64.toUInt64 &&& Int64.toUInt64 63)).toInt64 = g := ⟨_, rfl⟩
  rw [hg, N_i]
  have q : ∀ v, s_pc 8 (v % 256) ≤ 8 := fun v => w_b2 ⟨v % 256, Nat.mod_lt _ (by decide)⟩
  have W := fun (e g : Nat) => w_fin (q (s_N x)) (q (s_N x / 256)) (q (s_N x / 256 / 256)) (q (s_N x / 256 / 256 / 256)) (q (s_N x / 256 / 256 / 256 / 256)) (q (s_N x / 256 / 256 / 256 / 256 / 256)) (q (s_N x / 256 / 256 / 256 / 256 / 256 / 256)) (q (s_N x / 256 / 256 / 256 / 256 / 256 / 256 / 256)) (c := s_N c) (e := e) (g := g) nc
  obtain ⟨w1, w2, w3, w4⟩ := W _ _ rfl rfl
  have nf : s_N f = s_N c + s_N c / 256 := by
    have e := N_u c (nI 8) 8 rfl
    rw [show 2 ^ 8 = 256 from rfl] at e
    rw [← hf, N_add (by rw [e]; omega), e]
  have ng : s_N g = s_N f + s_N f / 65536 := by
    have e := N_u f (nI 16) 16 rfl
    rw [show 2 ^ 16 = 65536 from rfl] at e
    rw [← hg, N_add (by rw [e, nf]; omega), e]
  have e := N_u g (nI 32) 32 rfl
  rw [show 2 ^ 32 = 4294967296 from rfl] at e
  rw [N_add (by rw [e, ng, nf]; omega), e, ng, nf, w4, s_pc64]
