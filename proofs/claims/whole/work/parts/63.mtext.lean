/-! ===== the reference: the TEXT ===== -/
theorem s_skb_n {B : List Nat} (a : Nat) : s_sg B (s_skb B a) ≠ 32 := by
  rcases Nat.lt_or_ge (s_skb B a) (a + (B.length - a)) with q | q
  · have h : (!decide (s_sg B (s_skb B a) = 32)) = true := s_find_hit (p := fun j => !decide (s_sg B j = 32)) (B.length - a) a q
    simpa using h
  · rw [s_sg_end (by omega)]; decide
theorem s_skb_id {B : List Nat} {b : Nat} (h : s_sg B b ≠ 32) : s_skb B b = b := by
  unfold s_skb
  cases B.length - b with
  | zero => rfl
  | succ g => exact s_find_t (by rw [decide_eq_false h]; rfl)
theorem s_hr_no {B : List Nat} (hb : ∀ x ∈ B, x < 256) {a : Nat} : s_hr B a = -1 ↔ B.length ≤ a := by
  have := s_sgb hb a
  unfold s_hr
  split
  · exact ⟨fun z => absurd z (z_m1n (by omega)), fun z => by omega⟩
  · exact ⟨fun _ => by omega, fun _ => rfl⟩
def s_ruN (ru : Bool) : Nat := if ru = true then 1 else 0
set_option maxHeartbeats 4000000 in
set_option maxRecDepth 20000 in
theorem k_readColumn {Z : q_Z} {m : q_Mm} {d : Nat} {B : List Nat} (hM : MD m) (hT : MT m B) : q_V (q_g Z) mX11_readColumn (d+4) 0 0 0 [some (.ref (q_ad Z 215)), none, none, none] [] (q_W Z m) (q_P Z fun r m2 => r = some (.int (s_on (s_text B).1)) ∧ Fr [215, 219, 220] m m2 ∧ Kp 215 [5, 6, 9] m m2 ∧ ((s_text B).1 = none → m2.1 215 9 = nI (s_text B).2.1 ∧ (s_text B).2.1 ≤ 40 ∧ (∀ i, i < (s_text B).2.1 → m2.2.2.2.1 220 i = (s_text B).2.2.1 i) ∧ ∀ i, i < 5 → m2.2.2.1 219 i = nI ((s_text B).2.2.2 i))) := by
  have hb := hT.2.1
  have hb2 := hT.2.2.2
  obtain ⟨R, hR⟩ : ∃ R, s_text B = R := ⟨_, rfl⟩
  rw [hR]
  have finW : ∀ m1 x y z a, Fr [215, 219, 220] m m1 → Kp 215 [5, 6, 9] m m1 → a ≤ 320 → m1.1 215 6 = nI a → R.1 = some a → q_V (q_g Z) mX11_readColumn (d+4) 0 0 178 [some (.ref (q_ad Z 215)), some (.int x), some (.int y), z] [] (q_W Z (m1)) (q_P Z fun r m2 => r = some (.int (s_on R.1)) ∧ Fr [215, 219, 220] m m2 ∧ Kp 215 [5, 6, 9] m m2 ∧ (R.1 = none → m2.1 215 9 = nI R.2.1 ∧ R.2.1 ≤ 40 ∧ (∀ i, i < R.2.1 → m2.2.2.2.1 220 i = R.2.2.1 i) ∧ ∀ i, i < 5 → m2.2.2.1 219 i = nI (R.2.2.2 i))) := by
    intro m1 x y z a f1 k1 le e6 hr
    refine q_aload_n (pc' := 179) dX11_readColumn_178 rfl rfl ?_
    refine h_getiE (pc' := 182) dX11_readColumn_179 fX11_110 rfl rfl (e6) rfl ?_
    refine q_iconst (pc' := 183) (v := (-1)) dX11_readColumn_182 rfl rfl ?_
    refine q_icmp_ne (tgt := 198) (pc' := 186) dX11_readColumn_183 (by decide) rfl (fun c_183 => ?_) (fun c_183 => ?_)
    rotate_left
    · exact absurd c_183 (z_m1n (by omega))
    refine q_aload_n (pc' := 199) dX11_readColumn_198 rfl rfl ?_
    refine h_getiE (pc' := 202) dX11_readColumn_199 fX11_110 rfl rfl (e6) rfl ?_
    refine q_iret dX11_readColumn_202 rfl rfl ⟨_, rfl, by rw [hr]; rfl, f1, k1, fun z => by rw [hr] at z; cases z⟩
  have finN : ∀ m1 x y z a, Fr [215, 219, 220] m m1 → Kp 215 [5, 6, 9] m m1 → a ≤ 320 → m1.1 215 5 = nI a → m1.1 215 6 = -1 → s_sg B a ≠ 32 → (a < B.length → R.1 = some a) → (B.length ≤ a → R.1 = none ∧ m1.1 215 9 = nI R.2.1 ∧ R.2.1 ≤ 40 ∧ (∀ i, i < R.2.1 → m1.2.2.2.1 220 i = R.2.2.1 i) ∧ ∀ i, i < 5 → m1.2.2.1 219 i = nI (R.2.2.2 i)) → q_V (q_g Z) mX11_readColumn (d+4) 0 0 178 [some (.ref (q_ad Z 215)), some (.int x), some (.int y), z] [] (q_W Z (m1)) (q_P Z fun r m2 => r = some (.int (s_on R.1)) ∧ Fr [215, 219, 220] m m2 ∧ Kp 215 [5, 6, 9] m m2 ∧ (R.1 = none → m2.1 215 9 = nI R.2.1 ∧ R.2.1 ≤ 40 ∧ (∀ i, i < R.2.1 → m2.2.2.2.1 220 i = R.2.2.1 i) ∧ ∀ i, i < 5 → m2.2.2.1 219 i = nI (R.2.2.2 i))) := by
    intro m1 x y z a f1 k1 le e5 e6 hn h1 h2
    refine q_aload_n (pc' := 179) dX11_readColumn_178 rfl rfl ?_
    refine h_getiE (pc' := 182) dX11_readColumn_179 fX11_110 rfl rfl (e6) rfl ?_
    refine q_iconst (pc' := 183) (v := (-1)) dX11_readColumn_182 rfl rfl ?_
    refine q_icmp_ne (tgt := 198) (pc' := 186) dX11_readColumn_183 (by decide) rfl (fun c_183 => ?_) (fun c_183 => ?_)
    · exact absurd rfl c_183
    have hT1 := hT.fr f1 (k1 4 (by decide)) (by decide)
    refine q_aload_n (pc' := 187) dX11_readColumn_186 rfl rfl ?_
    refine h_callV (pc' := 190) (M' := mX11_ahead) (As := []) dX11_readColumn_187 iX11_ahead lX11_117 rfl rfl rfl rfl (Nat.le_of_ble_eq_true rfl) (Nat.le_of_ble_eq_true rfl) rfl rfl ((k_ahead (d := d) hT1 e5 le).up (by omega)) (fun r m' hq => ?_)
    obtain ⟨rfl, t1⟩ := hq
    rw [s_skb_id hn] at t1 ⊢
    have f2 : Fr [215, 219, 220] m m' := f1.trans (t1.1.mono (by decide))
    have k2 : Kp 215 [5, 6, 9] m m' := k1.trans (t1.2.1.mono (by decide))
    have e62 := (t1.2.1 6 (by decide)).trans e6
    refine q_iconst (pc' := 191) (v := (-1)) dX11_readColumn_190 rfl rfl ?_
    refine q_icmp_eq (tgt := 198) (pc' := 194) dX11_readColumn_191 (by decide) rfl (fun c_191 => ?_) (fun c_191 => ?_)
    · have hge := (s_hr_no hb2).mp c_191
      obtain ⟨g1, g2, g3, g4, g5⟩ := h2 hge
      refine q_aload_n (pc' := 199) dX11_readColumn_198 rfl rfl ?_
      refine h_getiE (pc' := 202) dX11_readColumn_199 fX11_110 rfl rfl (e62) rfl ?_
      refine q_iret dX11_readColumn_202 rfl rfl ⟨_, rfl, by rw [g1]; rfl, f2, k2, fun _ => ⟨(t1.2.1 9 (by decide)).trans g2, g3, fun i hi => (congrFun (t1.1.l (by decide)) i).trans (g4 i hi), fun i hi => (congrFun (t1.1.a (by decide)) i).trans (g5 i hi)⟩⟩
    · have hlt : a < B.length := by
        rcases Nat.lt_or_ge a B.length with q | q
        · exact q
        · exact absurd ((s_hr_no hb2).mpr q) c_191
      refine q_aload_n (pc' := 195) dX11_readColumn_194 rfl rfl ?_
      refine h_callV (pc' := 198) (M' := mX11_bad) (As := []) dX11_readColumn_195 iX11_bad lX11_120 rfl rfl rfl rfl (Nat.le_of_ble_eq_true rfl) (Nat.le_of_ble_eq_true rfl) rfl rfl ((k_bad t1.2.2.2 e62).up (Nat.zero_le _)) (fun r m' hq => ?_)
      obtain ⟨rfl, hmm⟩ := hq
      subst m'
      rw [if_pos rfl]
      have hr := h1 hlt
      refine q_aload_n (pc' := 199) dX11_readColumn_198 rfl rfl ?_
      refine h_getiE (pc' := 202) dX11_readColumn_199 fX11_110 rfl rfl ((rfl : _ = nI a)) rfl ?_
      refine q_iret dX11_readColumn_202 rfl rfl ⟨_, rfl, by rw [hr]; rfl, f2.I (by decide), kp_I k2 (by decide), fun z => by rw [hr] at z; cases z⟩
  have zero : ∀ m1 x z, (∀ y, q_V (q_g Z) mX11_readColumn (d+4) 0 0 178 [some (.ref (q_ad Z 215)), some (.int x), some (.int y), z] [] (q_W Z (m1)) (q_P Z fun r m2 => r = some (.int (s_on R.1)) ∧ Fr [215, 219, 220] m m2 ∧ Kp 215 [5, 6, 9] m m2 ∧ (R.1 = none → m2.1 215 9 = nI R.2.1 ∧ R.2.1 ≤ 40 ∧ (∀ i, i < R.2.1 → m2.2.2.2.1 220 i = R.2.2.1 i) ∧ ∀ i, i < 5 → m2.2.2.1 219 i = nI (R.2.2.2 i)))) → q_V (q_g Z) mX11_readColumn (d+4) 0 0 42 [some (.ref (q_ad Z 215)), some (.int x), some (.int (nI 0)), z] [] (q_W Z (m1)) (q_P Z fun r m2 => r = some (.int (s_on R.1)) ∧ Fr [215, 219, 220] m m2 ∧ Kp 215 [5, 6, 9] m m2 ∧ (R.1 = none → m2.1 215 9 = nI R.2.1 ∧ R.2.1 ≤ 40 ∧ (∀ i, i < R.2.1 → m2.2.2.2.1 220 i = R.2.2.1 i) ∧ ∀ i, i < 5 → m2.2.2.1 219 i = nI (R.2.2.2 i))) := by
    intro m1 x z h
    refine q_iload_n (pc' := 43) dX11_readColumn_42 rfl rfl ?_
    refine q_if_eqN (tgt := 178) (pc' := 46) dX11_readColumn_43 (by decide) rfl (by omega) (fun c_43 => ?_) (fun c_43 => ?_)
    · exact h _
    · omega
  have j2 : ∀ m1 x y z a, Fr [215, 219, 220] m m1 → Kp 215 [5, 6, 9] m m1 → a ≤ 320 → m1.1 215 5 = nI a → m1.1 215 6 = nI a → R.1 = some a → q_V (q_g Z) mX11_readColumn (d+4) 0 0 134 [some (.ref (q_ad Z 215)), some (.int x), some (.int y), some (.int z)] [] (q_W Z (m1)) (q_P Z fun r m2 => r = some (.int (s_on R.1)) ∧ Fr [215, 219, 220] m m2 ∧ Kp 215 [5, 6, 9] m m2 ∧ (R.1 = none → m2.1 215 9 = nI R.2.1 ∧ R.2.1 ≤ 40 ∧ (∀ i, i < R.2.1 → m2.2.2.2.1 220 i = R.2.2.1 i) ∧ ∀ i, i < 5 → m2.2.2.1 219 i = nI (R.2.2.2 i))) := by
    intro m1 x y z a f1 k1 le e5 e6 hr
    refine q_aload_n (pc' := 135) dX11_readColumn_134 rfl rfl ?_
    refine h_getiE (pc' := 138) dX11_readColumn_135 fX11_110 rfl rfl (e6) rfl ?_
    refine q_iconst (pc' := 139) (v := (-1)) dX11_readColumn_138 rfl rfl ?_
    refine q_icmp_ne (tgt := 155) (pc' := 142) dX11_readColumn_139 (by decide) rfl (fun c_139 => ?_) (fun c_139 => ?_)
    rotate_left
    · exact absurd c_139 (z_m1n (by omega))
    refine q_iconst (pc' := 156) (v := nI 0) dX11_readColumn_155 rfl rfl ?_
    refine q_istore_n (pc' := 157) (lv' := [_, _, _, _]) dX11_readColumn_156 (by decide) rfl rfl ?_
    refine q_aload_n (pc' := 158) dX11_readColumn_157 rfl rfl ?_
    refine q_dup (pc' := 159) dX11_readColumn_158 rfl rfl ?_
    refine h_getiE (pc' := 162) dX11_readColumn_159 fX11_103 rfl rfl (e5) rfl ?_
    refine q_iload_n (pc' := 163) dX11_readColumn_162 rfl rfl ?_
    refine q_if_eqN (tgt := 170) (pc' := 166) dX11_readColumn_163 (by decide) rfl (by omega) (fun c_163 => ?_) (fun c_163 => ?_)
    rotate_left
    · omega
    refine q_iconst (pc' := 171) (v := nI 0) dX11_readColumn_170 rfl rfl ?_
    refine q_iaddN (pc' := 172) dX11_readColumn_171 rfl ?_
    refine h_puti (pc' := 175) dX11_readColumn_172 fX11_103 rfl rfl rfl rfl rfl ?_
    refine q_goto (pc' := 42) dX11_readColumn_175 (by decide) ?_
    refine zero _ _ _ (fun y => finW _ _ _ _ a (f1.I (by decide)) (kp_I k1 (by decide)) le e6 hr)
  have main : ∀ f a ru n xs rl m1 z, n + s_ruN ru + f = 42 → n ≤ 40 → a ≤ 320 → Fr [215, 219, 220] m m1 → Kp 215 [5, 6, 9] m m1 → m1.1 215 5 = nI a → m1.1 215 6 = -1 → m1.1 215 9 = nI n → (∀ i, i < n → m1.2.2.2.1 220 i = xs i) → (∀ i, i < 5 → m1.2.2.1 219 i = nI (rl i)) → s_tx B f a ru n xs rl = R → q_V (q_g Z) mX11_readColumn (d+4) 0 0 42 [some (.ref (q_ad Z 215)), some (.int (q_b ru)), some (.int (nI 1)), z] [] (q_W Z (m1)) (q_P Z fun r m2 => r = some (.int (s_on R.1)) ∧ Fr [215, 219, 220] m m2 ∧ Kp 215 [5, 6, 9] m m2 ∧ (R.1 = none → m2.1 215 9 = nI R.2.1 ∧ R.2.1 ≤ 40 ∧ (∀ i, i < R.2.1 → m2.2.2.2.1 220 i = R.2.2.1 i) ∧ ∀ i, i < 5 → m2.2.2.1 219 i = nI (R.2.2.2 i))) := by
    intro f
    induction f with
    | zero =>
      intro a ru n xs rl m1 z hf hn
      exfalso
      unfold s_ruN at hf
      split at hf <;> omega
    | succ f ih =>
      intro a ru n xs rl m1 z hf hn ha f1 k1 e5 e6 e9 hx hr hs
      unfold s_tx at hs
      have hT1 := hT.fr f1 (k1 4 (by decide)) (by decide)
      have hM1 := hM.fr f1 (by decide) (by decide)
      have hsk := s_skb_le ha hb
      refine q_iload_n (pc' := 43) dX11_readColumn_42 rfl rfl ?_
      refine q_if_eqN (tgt := 178) (pc' := 46) dX11_readColumn_43 (by decide) rfl (by omega) (fun c_43 => ?_) (fun c_43 => ?_)
      · omega
      refine q_aload_n (pc' := 47) dX11_readColumn_46 rfl rfl ?_
      refine h_getiE (pc' := 50) dX11_readColumn_47 fX11_110 rfl rfl (e6) rfl ?_
      refine q_iconst (pc' := 51) (v := (-1)) dX11_readColumn_50 rfl rfl ?_
      refine q_icmp_ne (tgt := 178) (pc' := 54) dX11_readColumn_51 (by decide) rfl (fun c_51 => ?_) (fun c_51 => ?_)
      · exact absurd rfl c_51
      refine q_aload_n (pc' := 55) dX11_readColumn_54 rfl rfl ?_
      refine h_callV (pc' := 58) (M' := mX11_ahead) (As := []) dX11_readColumn_55 iX11_ahead lX11_117 rfl rfl rfl rfl (Nat.le_of_ble_eq_true rfl) (Nat.le_of_ble_eq_true rfl) rfl rfl ((k_ahead (d := d) hT1 e5 ha).up (by omega)) (fun r m' hq => ?_)
      obtain ⟨rfl, t2⟩ := hq
      have f2 : Fr [215, 219, 220] m m' := f1.trans (t2.1.mono (by decide))
      have k2 : Kp 215 [5, 6, 9] m m' := k1.trans (t2.2.1.mono (by decide))
      have e52 := t2.2.2.2
      have e62 := (t2.2.1 6 (by decide)).trans e6
      have e92 := (t2.2.1 9 (by decide)).trans e9
      have hx2 : ∀ i, i < n → m'.2.2.2.1 220 i = xs i := fun i hi => (congrFun (t2.1.l (by decide)) i).trans (hx i hi)
      have hr2 : ∀ i, i < 5 → m'.2.2.1 219 i = nI (rl i) := fun i hi => (congrFun (t2.1.a (by decide)) i).trans (hr i hi)
      have hM2 := hM.fr f2 (by decide) (by decide)
      have hT2 := hT.fr f2 (k2 4 (by decide)) (by decide)
      generalize s_skb B a = b at hs hsk e52
      clear t2
      generalize hm2 : m' = m2 at f2 k2 e52 e62 e92 hx2 hr2 hM2 hT2
      have hcb := s_sgb hb2 b
      have j1 : ∀ m3 y c a2 ru2 n2 xs2 rl2, s_cls B b ru n xs rl = (true, a2, ru2, n2, xs2, rl2) → n2 + s_ruN ru2 + f = 42 → n2 ≤ 40 → a2 ≤ 320 → Fr [215, 219, 220] m m3 → Kp 215 [5, 6, 9] m m3 → m3.1 215 5 = nI a2 → m3.1 215 6 = -1 → m3.1 215 9 = nI n2 → (∀ i, i < n2 → m3.2.2.2.1 220 i = xs2 i) → (∀ i, i < 5 → m3.2.2.1 219 i = nI (rl2 i)) → q_V (q_g Z) mX11_readColumn (d+4) 0 0 134 [some (.ref (q_ad Z 215)), some (.int (q_b ru2)), some (.int y), some (.int c)] [] (q_W Z (m3)) (q_P Z fun r m2 => r = some (.int (s_on R.1)) ∧ Fr [215, 219, 220] m m2 ∧ Kp 215 [5, 6, 9] m m2 ∧ (R.1 = none → m2.1 215 9 = nI R.2.1 ∧ R.2.1 ≤ 40 ∧ (∀ i, i < R.2.1 → m2.2.2.2.1 220 i = R.2.2.1 i) ∧ ∀ i, i < 5 → m2.2.2.1 219 i = nI (R.2.2.2 i))) := by
        intro m3 y c a2 ru2 n2 xs2 rl2 hS hf2 hn2 ha2 f3 k3 e53 e63 e93 hx3 hr3
        rw [hS, if_pos rfl] at hs
        have hT3 := hT.fr f3 (k3 4 (by decide)) (by decide)
        have hnn := s_skb_n (B := B) a2
        have hsk2 := s_skb_le ha2 hb
        refine q_aload_n (pc' := 135) dX11_readColumn_134 rfl rfl ?_
        refine h_getiE (pc' := 138) dX11_readColumn_135 fX11_110 rfl rfl (e63) rfl ?_
        refine q_iconst (pc' := 139) (v := (-1)) dX11_readColumn_138 rfl rfl ?_
        refine q_icmp_ne (tgt := 155) (pc' := 142) dX11_readColumn_139 (by decide) rfl (fun c_139 => ?_) (fun c_139 => ?_)
        · exact absurd rfl c_139
        refine q_aload_n (pc' := 143) dX11_readColumn_142 rfl rfl ?_
        refine h_callV (pc' := 146) (M' := mX11_ahead) (As := []) dX11_readColumn_143 iX11_ahead lX11_117 rfl rfl rfl rfl (Nat.le_of_ble_eq_true rfl) (Nat.le_of_ble_eq_true rfl) rfl rfl ((k_ahead (d := d) hT3 e53 ha2).up (by omega)) (fun r m' hq => ?_)
        obtain ⟨rfl, t4⟩ := hq
        have f4 : Fr [215, 219, 220] m m' := f3.trans (t4.1.mono (by decide))
        have k4 : Kp 215 [5, 6, 9] m m' := k3.trans (t4.2.1.mono (by decide))
        have e54 := t4.2.2.2
        have e64 := (t4.2.1 6 (by decide)).trans e63
        have e94 := (t4.2.1 9 (by decide)).trans e93
        have hx4 : ∀ i, i < n2 → m'.2.2.2.1 220 i = xs2 i := fun i hi => (congrFun (t4.1.l (by decide)) i).trans (hx3 i hi)
        have hr4 : ∀ i, i < 5 → m'.2.2.1 219 i = nI (rl2 i) := fun i hi => (congrFun (t4.1.a (by decide)) i).trans (hr3 i hi)
        have hs : (if B.length ≤ s_skb B a2 then (none, n2, xs2, rl2) else if s_sg B (s_skb B a2) = 59 then s_tx B f (s_skb B a2 + 1) ru2 n2 xs2 rl2 else (some (s_skb B a2), n, xs, rl)) = R := hs
        generalize s_skb B a2 = b2 at hs hnn hsk2 e54
        refine q_bipush (pc' := 148) (v := nI 59) dX11_readColumn_146 rfl rfl ?_
        refine q_icmp_ne (tgt := 155) (pc' := 151) dX11_readColumn_148 (by decide) rfl (fun c_148 => ?_) (fun c_148 => ?_)
        · have h59 : ¬ s_sg B b2 = 59 := fun z => c_148 ((s_hr_eq hb2 (by decide) (by decide)).mpr z)
          rw [if_neg h59] at hs
          refine q_iconst (pc' := 156) (v := nI 0) dX11_readColumn_155 rfl rfl ?_
          refine q_istore_n (pc' := 157) (lv' := [_, _, _, _]) dX11_readColumn_156 (by decide) rfl rfl ?_
          refine q_aload_n (pc' := 158) dX11_readColumn_157 rfl rfl ?_
          refine q_dup (pc' := 159) dX11_readColumn_158 rfl rfl ?_
          refine h_getiE (pc' := 162) dX11_readColumn_159 fX11_103 rfl rfl (e54) rfl ?_
          refine q_iload_n (pc' := 163) dX11_readColumn_162 rfl rfl ?_
          refine q_if_eqN (tgt := 170) (pc' := 166) dX11_readColumn_163 (by decide) rfl (by omega) (fun c_163 => ?_) (fun c_163 => ?_)
          rotate_left
          · omega
          refine q_iconst (pc' := 171) (v := nI 0) dX11_readColumn_170 rfl rfl ?_
          refine q_iaddN (pc' := 172) dX11_readColumn_171 rfl ?_
          refine h_puti (pc' := 175) dX11_readColumn_172 fX11_103 rfl rfl rfl rfl rfl ?_
          refine q_goto (pc' := 42) dX11_readColumn_175 (by decide) ?_
          refine zero _ _ _ (fun y => finN _ _ _ _ b2 (f4.I (by decide)) (kp_I k4 (by decide)) hsk2 rfl e64 hnn (fun q => by rw [if_neg (by omega)] at hs; rw [← hs]) (fun q => ?_))
          rw [if_pos q] at hs
          subst hs
          exact ⟨rfl, e94, hn2, hx4, hr4⟩
        · have h59 := (s_hr_eq hb2 (by decide) (by decide)).mp c_148
          have hin := s_sg_in (B := B) (a := b2) (by rw [h59]; decide)
          rw [if_neg (by omega), if_pos h59] at hs
          refine q_iconst (pc' := 152) (v := nI 1) dX11_readColumn_151 rfl rfl ?_
          refine q_goto (pc' := 156) dX11_readColumn_152 (by decide) ?_
          refine q_istore_n (pc' := 157) (lv' := [_, _, _, _]) dX11_readColumn_156 (by decide) rfl rfl ?_
          refine q_aload_n (pc' := 158) dX11_readColumn_157 rfl rfl ?_
          refine q_dup (pc' := 159) dX11_readColumn_158 rfl rfl ?_
          refine h_getiE (pc' := 162) dX11_readColumn_159 fX11_103 rfl rfl (e54) rfl ?_
          refine q_iload_n (pc' := 163) dX11_readColumn_162 rfl rfl ?_
          refine q_if_eqN (tgt := 170) (pc' := 166) dX11_readColumn_163 (by decide) rfl (by omega) (fun c_163 => ?_) (fun c_163 => ?_)
          · omega
          refine q_iconst (pc' := 167) (v := nI 1) dX11_readColumn_166 rfl rfl ?_
          refine q_goto (pc' := 171) dX11_readColumn_167 (by decide) ?_
          refine q_iaddN (pc' := 172) dX11_readColumn_171 rfl ?_
          refine h_puti (pc' := 175) dX11_readColumn_172 fX11_103 rfl rfl rfl rfl rfl ?_
          refine q_goto (pc' := 42) dX11_readColumn_175 (by decide) ?_
          exact ih (b2 + 1) ru2 n2 xs2 rl2 _ _ hf2 hn2 (by omega) (f4.I (by decide)) (kp_I k4 (by decide)) rfl e64 e94 hx4 hr4 hs
      have bad : ∀ x y z, (s_cls B b ru n xs rl).1 = false → (s_cls B b ru n xs rl).2.1 = b → q_V (q_g Z) mX11_readColumn (d+4) 0 0 130 [some (.ref (q_ad Z 215)), some (.int x), some (.int y), some (.int z)] [] (q_W Z (m2)) (q_P Z fun r m2 => r = some (.int (s_on R.1)) ∧ Fr [215, 219, 220] m m2 ∧ Kp 215 [5, 6, 9] m m2 ∧ (R.1 = none → m2.1 215 9 = nI R.2.1 ∧ R.2.1 ≤ 40 ∧ (∀ i, i < R.2.1 → m2.2.2.2.1 220 i = R.2.2.1 i) ∧ ∀ i, i < 5 → m2.2.2.1 219 i = nI (R.2.2.2 i))) := by
        intro x y z h1 h2
        rw [if_neg (by rw [h1]; decide), h2] at hs
        refine q_aload_n (pc' := 131) dX11_readColumn_130 rfl rfl ?_
        refine h_callV (pc' := 134) (M' := mX11_bad) (As := []) dX11_readColumn_131 iX11_bad lX11_120 rfl rfl rfl rfl (Nat.le_of_ble_eq_true rfl) (Nat.le_of_ble_eq_true rfl) rfl rfl ((k_bad e52 e62).up (Nat.zero_le _)) (fun r m' hq => ?_)
        obtain ⟨rfl, hmm⟩ := hq
        subst m'
        rw [if_pos rfl]
        exact j2 _ _ _ _ b (f2.I (by decide)) (kp_I k2 (by decide)) hsk e52 rfl (by rw [← hs])
      subst hm2
      have val : ¬ (s_sg B b = 115 ∧ ru = false) → q_V (q_g Z) mX11_readColumn (d+4) 0 0 88 [some (.ref (q_ad Z 215)), some (.int (q_b ru)), some (.int (nI 1)), some (.int (s_hr B b))] [] (q_W Z (m')) (q_P Z fun r m2 => r = some (.int (s_on R.1)) ∧ Fr [215, 219, 220] m m2 ∧ Kp 215 [5, 6, 9] m m2 ∧ (R.1 = none → m2.1 215 9 = nI R.2.1 ∧ R.2.1 ≤ 40 ∧ (∀ i, i < R.2.1 → m2.2.2.2.1 220 i = R.2.2.1 i) ∧ ∀ i, i < 5 → m2.2.2.1 219 i = nI (R.2.2.2 i))) := by
        intro h115
        have b115 : s_sg B b = 115 → s_beg (s_sg B b) = false := fun z => by rw [z]; decide
        have ru1 : s_sg B b = 115 → ru = true := fun z => by
          cases hru : ru with
          | true => rfl
          | false => exact absurd ⟨z, hru⟩ h115
        obtain ⟨m2, hm2⟩ : ∃ z, z = m' := ⟨_, rfl⟩
        subst hm2
        refine q_iload_n (pc' := 89) dX11_readColumn_88 rfl rfl ?_
        refine h_callS (pc' := 92) (M' := mX11_begins) (As := [_]) dX11_readColumn_89 iX11_begins lX11_182 rfl rfl (Nat.le_of_ble_eq_true rfl) (Nat.le_of_ble_eq_true rfl) rfl rfl ((k_begins (d := d) hb2).up (by omega)) (fun r m' hq => ?_)
        obtain ⟨rfl, hmm⟩ := hq
        subst m'
        refine q_if_eqB (tgt := 130) (pc' := 95) dX11_readColumn_92 (by decide) rfl (fun c_92 => ?_) (fun c_92 => ?_)
        · obtain ⟨v1, v2⟩ := s_val_n c_92
          refine bad _ _ _ ?_ ?_
          · unfold s_cls
            split
            · rw [if_pos (ru1 ‹_›)]
            · split
              · exact v1
              · rfl
          · unfold s_cls
            split
            · rw [if_pos (ru1 ‹_›)]
            · split
              · exact v2
              · rfl
        have n115 : ¬ s_sg B b = 115 := fun z => by rw [b115 z] at c_92; cases c_92
        refine q_aload_n (pc' := 96) dX11_readColumn_95 rfl rfl ?_
        refine h_getiE (pc' := 99) dX11_readColumn_96 fX11_173 rfl rfl (e92) rfl ?_
        refine q_bipush (pc' := 101) (v := nI 40) dX11_readColumn_99 rfl rfl ?_
        refine q_icmp_geN (tgt := 130) (pc' := 104) dX11_readColumn_101 (by decide) rfl (by omega) (fun c_101 => ?_) (fun c_101 => ?_)
        · refine bad _ _ _ ?_ ?_
          · unfold s_cls; rw [if_neg n115, if_neg (by omega)]
          · unfold s_cls; rw [if_neg n115, if_neg (by omega)]
        have hS : s_cls B b ru n xs rl = ((s_val B b).1, (s_val B b).2.1, ru, n + 1, q_u xs n (s_val B b).2.2, rl) := by unfold s_cls; rw [if_neg n115, if_pos c_101]
        have hvle := s_val_le (B := B) hsk hb
        refine q_aload_n (pc' := 105) dX11_readColumn_104 rfl rfl ?_
        refine h_getr (pc' := 108) dX11_readColumn_105 fX11_23 rfl rfl rfl ?_
        refine q_aload_n (pc' := 109) dX11_readColumn_108 rfl rfl ?_
        refine h_getiE (pc' := 112) dX11_readColumn_109 fX11_173 rfl rfl (e92) rfl ?_
        refine q_aload_n (pc' := 113) dX11_readColumn_112 rfl rfl ?_
        refine h_callV (pc' := 116) (M' := mX11_readOne) (As := []) dX11_readColumn_113 iX11_readOne lX11_185 rfl rfl rfl rfl (Nat.le_of_ble_eq_true rfl) (Nat.le_of_ble_eq_true rfl) rfl rfl (k_readOne hM2 hT2 e52 hsk e62) (fun r m' hq => ?_)
        obtain ⟨x, rfl, t3, hx3⟩ := hq
        have e93 := (t3.2.1 9 (by decide)).trans e92
        have f3 : Fr [215, 219, 220] m m' := f2.trans (t3.1.mono (by decide))
        have k3 : Kp 215 [5, 6, 9] m m' := k2.trans (t3.2.1.mono (by decide))
        refine h_last (pc' := 117) dX11_readColumn_116 rfl (rfl) (by omega) (by decide) rfl ?_
        refine q_aload_n (pc' := 118) dX11_readColumn_117 rfl rfl ?_
        refine q_dup (pc' := 119) dX11_readColumn_118 rfl rfl ?_
        refine h_getiE (pc' := 122) dX11_readColumn_119 fX11_173 rfl rfl (e93) rfl ?_
        refine q_iconst (pc' := 123) (v := nI 1) dX11_readColumn_122 rfl rfl ?_
        refine q_iaddN (pc' := 124) dX11_readColumn_123 rfl ?_
        refine h_puti (pc' := 127) dX11_readColumn_124 fX11_173 rfl rfl rfl rfl rfl ?_
        refine q_goto (pc' := 134) dX11_readColumn_127 (by decide) ?_
        generalize hv1 : (s_val B b).1 = v1 at hS t3 hx3
        cases v1 with
        | true =>
          rw [if_pos rfl] at t3
          refine j1 _ _ _ _ _ _ _ _ hS (by omega) (by omega) hvle ((f3.L (by decide)).I (by decide)) (kp_I (m1 := sL m' 220 _) k3 (by decide)) t3.2.2.1 t3.2.2.2 rfl (fun i hi => ?_) (fun i hi => (congrFun (t3.1.a (by decide)) i).trans (hr2 i hi))
          show q_u (m'.2.2.2.1 220) n x i = q_u xs n (s_val B b).2.2 i
          by_cases z : i = n
          · rw [z, q_u_s, q_u_s]; exact hx3 rfl
          · rw [q_u_n _ _ z, q_u_n _ _ z]
            exact (congrFun (t3.1.l (by decide)) i).trans (hx2 i (by omega))
        | false =>
          rw [if_neg (by decide)] at t3
          rw [hS, if_neg (by simp)] at hs
          exact j2 _ _ _ _ _ ((f3.L (by decide)).I (by decide)) (kp_I (m1 := sL m' 220 _) k3 (by decide)) hvle t3.2.2.1 t3.2.2.2 (by rw [← hs])
      obtain ⟨m2, hm2⟩ : ∃ z, z = m' := ⟨_, rfl⟩
      subst hm2
      refine q_istore_n (pc' := 59) (lv' := [_, _, _, _]) dX11_readColumn_58 (by decide) rfl rfl ?_
      refine q_iload_n (pc' := 60) dX11_readColumn_59 rfl rfl ?_
      refine q_bipush (pc' := 62) (v := nI 115) dX11_readColumn_60 rfl rfl ?_
      refine q_icmp_ne (tgt := 88) (pc' := 65) dX11_readColumn_62 (by decide) rfl (fun c_62 => ?_) (fun c_62 => ?_)
      · exact val (fun z => c_62 ((s_hr_eq hb2 (by decide) (by decide)).mpr z.1))
      have h115 := (s_hr_eq hb2 (by decide) (by decide)).mp c_62
      refine q_iload_n (pc' := 66) dX11_readColumn_65 rfl rfl ?_
      refine q_if_neB (tgt := 88) (pc' := 69) dX11_readColumn_66 (by decide) rfl (fun c_66 => ?_) (fun c_66 => ?_)
      · exact val (fun z => by rw [c_66] at z; exact absurd z.2 (by decide))
      have hin := s_sg_in (B := B) (a := b) (by rw [h115]; decide)
      have hS : s_cls B b ru n xs rl = ((s_rul B 6 (b + 1) (fun _ => false) rl).1, (s_rul B 6 (b + 1) (fun _ => false) rl).2.1, true, n, xs, (s_rul B 6 (b + 1) (fun _ => false) rl).2.2) := by unfold s_cls; rw [if_pos h115, if_neg (by rw [c_66]; decide)]
      refine q_iconst (pc' := 70) (v := nI 1) dX11_readColumn_69 rfl rfl ?_
      refine q_istore_n (pc' := 71) (lv' := [_, _, _, _]) dX11_readColumn_70 (by decide) rfl rfl ?_
      refine q_aload_n (pc' := 72) dX11_readColumn_71 rfl rfl ?_
      refine q_dup (pc' := 73) dX11_readColumn_72 rfl rfl ?_
      refine h_getiE (pc' := 76) dX11_readColumn_73 fX11_103 rfl rfl (e52) rfl ?_
      refine q_iconst (pc' := 77) (v := nI 1) dX11_readColumn_76 rfl rfl ?_
      refine q_iaddN (pc' := 78) dX11_readColumn_77 rfl ?_
      refine h_puti (pc' := 81) dX11_readColumn_78 fX11_103 rfl rfl rfl rfl rfl ?_
      refine q_aload_n (pc' := 82) dX11_readColumn_81 rfl rfl ?_
      refine h_callV (pc' := 85) (M' := mX11_readRules) (As := []) dX11_readColumn_82 iX11_readRules lX11_179 rfl rfl rfl rfl (Nat.le_of_ble_eq_true rfl) (Nat.le_of_ble_eq_true rfl) rfl rfl ((k_readRules (d := d) (rl := rl) (hT2.fr ((Fr.rf (S := [215])).I (by decide)) rfl (by decide)) (a := b + 1) rfl (by omega) (by exact e62) (by exact hr2)).up (by omega)) (fun r m' hq => ?_)
      obtain ⟨rfl, f3, k3, le3, e53, h3⟩ := hq
      have f4 : Fr [215, 219, 220] m m' := f2.trans ((Fr.rf.I (by decide)).trans (f3.mono (by decide)))
      have k4 : Kp 215 [5, 6, 9] m m' := k2.trans ((kp_I Kp.rf (by decide)).trans (k3.mono (by decide)))
      have e94 : m'.1 215 9 = nI n := (k3 9 (by decide)).trans e92
      have hx4 : ∀ i, i < n → m'.2.2.2.1 220 i = xs i := fun i hi => (congrFun (f3.l (by decide)) i).trans (hx2 i hi)
      refine q_goto (pc' := 134) dX11_readColumn_85 (by decide) ?_
      have hru : nI 1 = q_b true := rfl
      generalize s_rul B 6 (b + 1) (fun _ => false) rl = Q at hS le3 e53 h3
      obtain ⟨Q1, Q2, Q3⟩ := Q
      cases Q1 with
      | true =>
        rw [if_pos rfl] at h3
        have hf3 : n + s_ruN true + f = 42 := by unfold s_ruN at hf ⊢; rw [c_66, if_neg (by decide)] at hf; rw [if_pos rfl]; omega
        exact j1 m' _ _ Q2 true n xs Q3 hS hf3 hn le3 f4 k4 e53 h3.1 e94 hx4 h3.2
      | false =>
        rw [if_neg (by simp)] at h3
        rw [hS, if_neg (by simp)] at hs
        rcases h3 with h3 | h3
        · exact j2 m' _ _ _ Q2 f4 k4 le3 e53 h3 (by rw [← hs])
        · have hlt : Q2 < B.length := s_rb_in h3.2
          have hn32 : s_sg B Q2 ≠ 32 := fun z => by have h := h3.2; rw [show s_sg B Q2 = 32 from z] at h; exact absurd h (by decide)
          have hn59 : s_sg B Q2 ≠ 59 := fun z => by have h := h3.2; rw [show s_sg B Q2 = 59 from z] at h; exact absurd h (by decide)
          have hT4 := hT.fr f4 (k4 4 (by decide)) (by decide)
          have h31 : m'.1 215 6 = -1 := h3.1
          have e53 : m'.1 215 5 = nI Q2 := e53
          refine q_aload_n (pc' := 135) dX11_readColumn_134 rfl rfl ?_
          refine h_getiE (pc' := 138) dX11_readColumn_135 fX11_110 rfl rfl (h31) rfl ?_
          refine q_iconst (pc' := 139) (v := (-1)) dX11_readColumn_138 rfl rfl ?_
          refine q_icmp_ne (tgt := 155) (pc' := 142) dX11_readColumn_139 (by decide) rfl (fun c_139 => ?_) (fun c_139 => ?_)
          · exact absurd rfl c_139
          refine q_aload_n (pc' := 143) dX11_readColumn_142 rfl rfl ?_
          refine h_callV (pc' := 146) (M' := mX11_ahead) (As := []) dX11_readColumn_143 iX11_ahead lX11_117 rfl rfl rfl rfl (Nat.le_of_ble_eq_true rfl) (Nat.le_of_ble_eq_true rfl) rfl rfl ((k_ahead (d := d) hT4 e53 le3).up (by omega)) (fun r m' hq => ?_)
          obtain ⟨rfl, t5⟩ := hq
          rw [s_skb_id hn32] at t5 ⊢
          refine q_bipush (pc' := 148) (v := nI 59) dX11_readColumn_146 rfl rfl ?_
          refine q_icmp_ne (tgt := 155) (pc' := 151) dX11_readColumn_148 (by decide) rfl (fun c_148 => ?_) (fun c_148 => ?_)
          rotate_left
          · exact absurd ((s_hr_eq hb2 (by decide) (by decide)).mp c_148) hn59
          refine q_iconst (pc' := 156) (v := nI 0) dX11_readColumn_155 rfl rfl ?_
          refine q_istore_n (pc' := 157) (lv' := [_, _, _, _]) dX11_readColumn_156 (by decide) rfl rfl ?_
          refine q_aload_n (pc' := 158) dX11_readColumn_157 rfl rfl ?_
          refine q_dup (pc' := 159) dX11_readColumn_158 rfl rfl ?_
          refine h_getiE (pc' := 162) dX11_readColumn_159 fX11_103 rfl rfl (t5.2.2.2) rfl ?_
          refine q_iload_n (pc' := 163) dX11_readColumn_162 rfl rfl ?_
          refine q_if_eqN (tgt := 170) (pc' := 166) dX11_readColumn_163 (by decide) rfl (by omega) (fun c_163 => ?_) (fun c_163 => ?_)
          rotate_left
          · omega
          refine q_iconst (pc' := 171) (v := nI 0) dX11_readColumn_170 rfl rfl ?_
          refine q_iaddN (pc' := 172) dX11_readColumn_171 rfl ?_
          refine h_puti (pc' := 175) dX11_readColumn_172 fX11_103 rfl rfl rfl rfl rfl ?_
          refine q_goto (pc' := 42) dX11_readColumn_175 (by decide) ?_
          refine zero _ _ _ (fun y => finN _ _ _ _ Q2 ((f4.trans (t5.1.mono (by decide))).I (by decide)) (kp_I (k4.trans (t5.2.1.mono (by decide))) (by decide)) le3 rfl ((t5.2.1 6 (by decide)).trans h31) hn32 (fun _ => by rw [← hs]) (fun q => by omega))
  refine q_aload_n (pc' := 1) dX11_readColumn_0 rfl rfl ?_
  refine q_iconst (pc' := 2) (v := nI 0) dX11_readColumn_1 rfl rfl ?_
  refine h_puti (pc' := 5) dX11_readColumn_2 fX11_103 rfl rfl rfl rfl rfl ?_
  refine q_aload_n (pc' := 6) dX11_readColumn_5 rfl rfl ?_
  refine q_iconst (pc' := 7) (v := (-1)) dX11_readColumn_6 rfl rfl ?_
  refine h_puti (pc' := 10) dX11_readColumn_7 fX11_110 rfl rfl rfl rfl rfl ?_
  refine q_aload_n (pc' := 11) dX11_readColumn_10 rfl rfl ?_
  refine q_iconst (pc' := 12) (v := nI 0) dX11_readColumn_11 rfl rfl ?_
  refine h_puti (pc' := 15) dX11_readColumn_12 fX11_173 rfl rfl rfl rfl rfl ?_
  refine q_iconst (pc' := 16) (v := nI 0) dX11_readColumn_15 rfl rfl ?_
  refine q_istore_n (pc' := 17) (lv' := [_, _, _, _]) dX11_readColumn_16 (by decide) rfl rfl ?_
  refine q_iconst (pc' := 18) (v := nI 0) dX11_readColumn_17 rfl rfl ?_
  refine q_istore_n (pc' := 19) (lv' := [_, _, _, _]) dX11_readColumn_18 (by decide) rfl rfl ?_
  suffices h : ∀ g j m1, j + g = 5 → Fr [215, 219] m m1 → Kp 215 [5, 6, 9] m m1 → m1.1 215 5 = nI 0 → m1.1 215 6 = -1 → m1.1 215 9 = nI 0 → (∀ i, i < j → m1.2.2.1 219 i = nI (s_usual i)) → q_V (q_g Z) mX11_readColumn (d+4) 0 0 19 [some (.ref (q_ad Z 215)), some (.int (q_b false)), some (.int (nI j)), none] [] (q_W Z (m1)) (q_P Z fun r m2 => r = some (.int (s_on R.1)) ∧ Fr [215, 219, 220] m m2 ∧ Kp 215 [5, 6, 9] m m2 ∧ (R.1 = none → m2.1 215 9 = nI R.2.1 ∧ R.2.1 ≤ 40 ∧ (∀ i, i < R.2.1 → m2.2.2.2.1 220 i = R.2.2.1 i) ∧ ∀ i, i < 5 → m2.2.2.1 219 i = nI (R.2.2.2 i))) from h 5 0 _ rfl (((Fr.rf.I (by decide)).I (by decide)).I (by decide)) (kp_I (kp_I (kp_I Kp.rf (by decide)) (by decide)) (by decide)) rfl rfl rfl (fun i hi => absurd hi (by omega))
  intro g
  induction g with
  | zero =>
    intro j m1 hj f1 k1 e5 e6 e9 hr
    refine q_iload_n (pc' := 20) dX11_readColumn_19 rfl rfl ?_
    refine q_iconst (pc' := 21) (v := nI 5) dX11_readColumn_20 rfl rfl ?_
    refine q_icmp_geN (tgt := 40) (pc' := 24) dX11_readColumn_21 (by decide) rfl (by omega) (fun c_21 => ?_) (fun c_21 => ?_)
    rotate_left
    · omega
    refine q_iconst (pc' := 41) (v := nI 1) dX11_readColumn_40 rfl rfl ?_
    refine q_istore_n (pc' := 42) (lv' := [_, _, _, _]) dX11_readColumn_41 (by decide) rfl rfl ?_
    exact main 42 0 false 0 (fun _ => 0) s_usual m1 _ rfl (by decide) (by decide) (f1.mono (by decide)) k1 e5 e6 e9 (fun i hi => absurd hi (by omega)) (fun i hi => hr i (by omega)) hR
  | succ g ih =>
    intro j m1 hj f1 k1 e5 e6 e9 hr
    refine q_iload_n (pc' := 20) dX11_readColumn_19 rfl rfl ?_
    refine q_iconst (pc' := 21) (v := nI 5) dX11_readColumn_20 rfl rfl ?_
    refine q_icmp_geN (tgt := 40) (pc' := 24) dX11_readColumn_21 (by decide) rfl (by omega) (fun c_21 => ?_) (fun c_21 => ?_)
    · omega
    refine q_aload_n (pc' := 25) dX11_readColumn_24 rfl rfl ?_
    refine h_getr (pc' := 28) dX11_readColumn_25 fX11_20 rfl rfl rfl ?_
    refine q_iload_n (pc' := 29) dX11_readColumn_28 rfl rfl ?_
    refine q_iload_n (pc' := 30) dX11_readColumn_29 rfl rfl ?_
    refine h_callS (pc' := 33) (M' := mX11_usual) (As := [_]) dX11_readColumn_30 iX11_usual lX11_176 rfl rfl (Nat.le_of_ble_eq_true rfl) (Nat.le_of_ble_eq_true rfl) rfl rfl ((k_usual (by omega)).up (Nat.zero_le _)) (fun r m' hq => ?_)
    obtain ⟨rfl, hmm⟩ := hq
    subst m'
    refine h_iast (pc' := 34) dX11_readColumn_33 rfl (rfl) (by omega) (by decide) rfl ?_
    refine q_iincN (pc' := 37) (j := 1) (lv' := [_, _, _, _]) dX11_readColumn_34 rfl (by decide) rfl rfl ?_
    refine q_goto (pc' := 19) dX11_readColumn_37 (by decide) ?_
    refine ih (j + 1) _ (by omega) (f1.A (by decide)) k1 e5 e6 e9 (fun i hi => ?_)
    show q_u (m1.2.2.1 219) j (nI (s_usual j)) i = _
    by_cases z : i = j
    · rw [z, q_u_s]
    · rw [q_u_n _ _ z]; exact hr i (by omega)
