/-! ===== rows of the logic for small whole numbers (nI) and truth values ===== -/
def q_b (b : Bool) : Int32 := if b = true then nI 1 else nI 0
theorem q_nb0 : narrow .boolean (.int (nI 0)) = .int (nI 0) := by decide +kernel
theorem q_nb1 : narrow .boolean (.int (nI 1)) = .int (nI 1) := by decide +kernel
theorem q_nb (b : Bool) : narrow .boolean (.int (q_b b)) = .int (q_b b) := by cases b <;> simp [q_b, q_nb0, q_nb1]
theorem q_b_dec {p : Prop} [Decidable p] (h : p) : q_b (decide p) = nI 1 := by simp [q_b, h]
theorem q_b_ndec {p : Prop} [Decidable p] (h : ¬ p) : q_b (decide p) = nI 0 := by simp [q_b, h]
section NROWS
variable {G : q_G} {M : q_M} {d mc ms pc pc' tgt : Nat} {lv lv' : List (Option Value)} {st : List Value} {ws : va_W} {post : Option Value → va_W → Prop}
theorem q_iaddN {a b : Nat} (hd : decode M.2.2.1 pc = .ok (.iadd, 1)) (hp : pc + 1 = pc') (k : q_V G M d mc ms pc' lv (.int (nI (a + b)) :: st) ws post) : q_V G M d mc ms pc lv (.int (nI b) :: .int (nI a) :: st) ws post := q_iadd hd hp (by rw [nI_add]; exact k)
theorem q_isubN {a b : Nat} (hd : decode M.2.2.1 pc = .ok (.isub, 1)) (h : b ≤ a) (hp : pc + 1 = pc') (k : q_V G M d mc ms pc' lv (.int (nI (a - b)) :: st) ws post) : q_V G M d mc ms pc lv (.int (nI b) :: .int (nI a) :: st) ws post := q_isub hd hp (by rw [pk_sub h]; exact k)
theorem q_imulN {a b : Nat} (hd : decode M.2.2.1 pc = .ok (.imul, 1)) (hp : pc + 1 = pc') (k : q_V G M d mc ms pc' lv (.int (nI (a * b)) :: st) ws post) : q_V G M d mc ms pc lv (.int (nI b) :: .int (nI a) :: st) ws post := q_imul hd hp (by rw [pk_mul]; exact k)
theorem q_idivN {a b : Nat} (hd : decode M.2.2.1 pc = .ok (.idiv, 1)) (h : 0 < b ∧ b < 2 ^ 31 ∧ a < 2 ^ 31) (hp : pc + 1 = pc') (k : q_V G M d mc ms pc' lv (.int (nI (a / b)) :: st) ws post) : q_V G M d mc ms pc lv (.int (nI b) :: .int (nI a) :: st) ws post := q_idiv hd (nI_ne0 h.1 h.2.1) hp (by rw [pk_div h.2.2 h.1 h.2.1]; exact k)
theorem q_iremN {a b : Nat} (hd : decode M.2.2.1 pc = .ok (.irem, 1)) (h : 0 < b ∧ b < 2 ^ 31 ∧ a < 2 ^ 31) (hp : pc + 1 = pc') (k : q_V G M d mc ms pc' lv (.int (nI (a % b)) :: st) ws post) : q_V G M d mc ms pc lv (.int (nI b) :: .int (nI a) :: st) ws post := q_irem hd (nI_ne0 h.1 h.2.1) hp (by rw [pk_rem h.2.2 h.1 h.2.1]; exact k)
theorem q_inc_eq (k j : Nat) : nI k + Int32.ofInt (j : Int) = nI (k + j) := by
  rw [show Int32.ofInt (j : Int) = nI j from rfl, nI_add]
theorem q_iincN {i k j : Nat} (hd : decode M.2.2.1 pc = .ok (.iinc i (j : Int), 3)) (hx : lv[i]? = some (some (.int (nI k)))) (hn : i < M.2.2.2.1) (hv : q_st1 lv i (.int (nI (k + j))) = lv') (hp : pc + 3 = pc') (kk : q_V G M d mc ms pc' lv' st ws post) : q_V G M d mc ms pc lv st ws post := q_iinc hd hx hn (by rw [q_inc_eq]; exact hv) hp kk
theorem q_idecN {i k : Nat} (hd : decode M.2.2.1 pc = .ok (.iinc i (-1), 3)) (hx : lv[i]? = some (some (.int (nI (k + 1))))) (hn : i < M.2.2.2.1) (hv : q_st1 lv i (.int (nI k)) = lv') (hp : pc + 3 = pc') (kk : q_V G M d mc ms pc' lv' st ws post) : q_V G M d mc ms pc lv st ws post := q_iinc hd hx hn (by rw [show nI (k + 1) + Int32.ofInt (-1) = nI k from pk_m1 k]; exact hv) hp kk
theorem q_icmp_eqN {a b : Nat} {off : Int} (hd : decode M.2.2.1 pc = .ok (.if_icmp .eq off, 3)) (ht : (pc : Int) + off = (tgt : Int)) (hp : pc + 3 = pc') (h : a < 2 ^ 31 ∧ b < 2 ^ 31) (kt : a = b → q_V G M d mc ms tgt lv st ws post) (kf : a ≠ b → q_V G M d mc ms pc' lv st ws post) : q_V G M d mc ms pc lv (.int (nI b) :: .int (nI a) :: st) ws post := q_icmp_eq hd ht hp (fun c => kt ((nI_eq h.1 h.2).mp c)) (fun c => kf (fun e => c ((nI_eq h.1 h.2).mpr e)))
theorem q_icmp_neN {a b : Nat} {off : Int} (hd : decode M.2.2.1 pc = .ok (.if_icmp .ne off, 3)) (ht : (pc : Int) + off = (tgt : Int)) (hp : pc + 3 = pc') (h : a < 2 ^ 31 ∧ b < 2 ^ 31) (kt : a ≠ b → q_V G M d mc ms tgt lv st ws post) (kf : a = b → q_V G M d mc ms pc' lv st ws post) : q_V G M d mc ms pc lv (.int (nI b) :: .int (nI a) :: st) ws post := q_icmp_ne hd ht hp (fun c => kt (fun e => c ((nI_eq h.1 h.2).mpr e))) (fun c => kf ((nI_eq h.1 h.2).mp c))
theorem q_icmp_ltN {a b : Nat} {off : Int} (hd : decode M.2.2.1 pc = .ok (.if_icmp .lt off, 3)) (ht : (pc : Int) + off = (tgt : Int)) (hp : pc + 3 = pc') (h : a < 2 ^ 31 ∧ b < 2 ^ 31) (kt : a < b → q_V G M d mc ms tgt lv st ws post) (kf : b ≤ a → q_V G M d mc ms pc' lv st ws post) : q_V G M d mc ms pc lv (.int (nI b) :: .int (nI a) :: st) ws post := q_icmp_lt hd ht hp (fun c => kt ((nI_ltI h.1 h.2).mp c)) (fun c => kf (Nat.le_of_not_lt fun e => c ((nI_ltI h.1 h.2).mpr e)))
theorem q_icmp_geN {a b : Nat} {off : Int} (hd : decode M.2.2.1 pc = .ok (.if_icmp .ge off, 3)) (ht : (pc : Int) + off = (tgt : Int)) (hp : pc + 3 = pc') (h : a < 2 ^ 31 ∧ b < 2 ^ 31) (kt : b ≤ a → q_V G M d mc ms tgt lv st ws post) (kf : a < b → q_V G M d mc ms pc' lv st ws post) : q_V G M d mc ms pc lv (.int (nI b) :: .int (nI a) :: st) ws post := q_icmp_ge hd ht hp (fun c => kt ((nI_leI h.2 h.1).mp c)) (fun c => kf (Nat.lt_of_not_le fun e => c ((nI_leI h.2 h.1).mpr e)))
theorem q_icmp_gtN {a b : Nat} {off : Int} (hd : decode M.2.2.1 pc = .ok (.if_icmp .gt off, 3)) (ht : (pc : Int) + off = (tgt : Int)) (hp : pc + 3 = pc') (h : a < 2 ^ 31 ∧ b < 2 ^ 31) (kt : b < a → q_V G M d mc ms tgt lv st ws post) (kf : a ≤ b → q_V G M d mc ms pc' lv st ws post) : q_V G M d mc ms pc lv (.int (nI b) :: .int (nI a) :: st) ws post := q_icmp_gt hd ht hp (fun c => kt ((nI_ltI h.2 h.1).mp c)) (fun c => kf (Nat.le_of_not_lt fun e => c ((nI_ltI h.2 h.1).mpr e)))
theorem q_icmp_leN {a b : Nat} {off : Int} (hd : decode M.2.2.1 pc = .ok (.if_icmp .le off, 3)) (ht : (pc : Int) + off = (tgt : Int)) (hp : pc + 3 = pc') (h : a < 2 ^ 31 ∧ b < 2 ^ 31) (kt : a ≤ b → q_V G M d mc ms tgt lv st ws post) (kf : b < a → q_V G M d mc ms pc' lv st ws post) : q_V G M d mc ms pc lv (.int (nI b) :: .int (nI a) :: st) ws post := q_icmp_le hd ht hp (fun c => kt ((nI_leI h.1 h.2).mp c)) (fun c => kf (Nat.lt_of_not_le fun e => c ((nI_leI h.1 h.2).mpr e)))
theorem q_if_eqN {a : Nat} {off : Int} (hd : decode M.2.2.1 pc = .ok (.ifCond .eq off, 3)) (ht : (pc : Int) + off = (tgt : Int)) (hp : pc + 3 = pc') (h : a < 2 ^ 31) (kt : a = 0 → q_V G M d mc ms tgt lv st ws post) (kf : 0 < a → q_V G M d mc ms pc' lv st ws post) : q_V G M d mc ms pc lv (.int (nI a) :: st) ws post := q_if_eq hd ht hp (fun c => kt ((nI_eq (b := 0) h (by decide)).mp c)) (fun c => kf (Nat.pos_of_ne_zero fun e => c (by rw [e]; rfl)))
theorem q_if_neN {a : Nat} {off : Int} (hd : decode M.2.2.1 pc = .ok (.ifCond .ne off, 3)) (ht : (pc : Int) + off = (tgt : Int)) (hp : pc + 3 = pc') (h : a < 2 ^ 31) (kt : 0 < a → q_V G M d mc ms tgt lv st ws post) (kf : a = 0 → q_V G M d mc ms pc' lv st ws post) : q_V G M d mc ms pc lv (.int (nI a) :: st) ws post := q_if_ne hd ht hp (fun c => kt (Nat.pos_of_ne_zero fun e => c (by rw [e]; rfl))) (fun c => kf ((nI_eq (b := 0) h (by decide)).mp c))
theorem q_if_leN {a : Nat} {off : Int} (hd : decode M.2.2.1 pc = .ok (.ifCond .le off, 3)) (ht : (pc : Int) + off = (tgt : Int)) (hp : pc + 3 = pc') (h : a < 2 ^ 31) (kt : a = 0 → q_V G M d mc ms tgt lv st ws post) (kf : 0 < a → q_V G M d mc ms pc' lv st ws post) : q_V G M d mc ms pc lv (.int (nI a) :: st) ws post := q_if_le hd ht hp (fun c => kt (Nat.le_zero.mp ((nI_leI (b := 0) h (by decide)).mp c))) (fun c => kf (Nat.lt_of_not_le fun e => c ((nI_leI (b := 0) h (by decide)).mpr e)))
theorem q_if_gtN {a : Nat} {off : Int} (hd : decode M.2.2.1 pc = .ok (.ifCond .gt off, 3)) (ht : (pc : Int) + off = (tgt : Int)) (hp : pc + 3 = pc') (h : a < 2 ^ 31) (kt : 0 < a → q_V G M d mc ms tgt lv st ws post) (kf : a = 0 → q_V G M d mc ms pc' lv st ws post) : q_V G M d mc ms pc lv (.int (nI a) :: st) ws post := q_if_gt hd ht hp (fun c => kt ((nI_ltI (a := 0) (by decide) h).mp c)) (fun c => kf (Nat.le_zero.mp (Nat.le_of_not_lt fun e => c ((nI_ltI (a := 0) (by decide) h).mpr e))))
theorem q_if_ltN {a : Nat} {off : Int} (hd : decode M.2.2.1 pc = .ok (.ifCond .lt off, 3)) (hp : pc + 3 = pc') (h : a < 2 ^ 31) (ht : (pc : Int) + off = (tgt : Int)) (kf : q_V G M d mc ms pc' lv st ws post) : q_V G M d mc ms pc lv (.int (nI a) :: st) ws post := q_if_lt hd ht hp (fun c => absurd c (nI_pos h)) (fun _ => kf)
theorem q_if_eqB {b : Bool} {off : Int} (hd : decode M.2.2.1 pc = .ok (.ifCond .eq off, 3)) (ht : (pc : Int) + off = (tgt : Int)) (hp : pc + 3 = pc') (kt : b = false → q_V G M d mc ms tgt lv st ws post) (kf : b = true → q_V G M d mc ms pc' lv st ws post) : q_V G M d mc ms pc lv (.int (q_b b) :: st) ws post := q_if_eq hd ht hp (fun c => by cases b with
  | false => exact kt rfl
  | true => exact absurd c (by decide)) (fun c => by cases b with
  | false => exact absurd rfl c
  | true => exact kf rfl)
theorem q_if_neB {b : Bool} {off : Int} (hd : decode M.2.2.1 pc = .ok (.ifCond .ne off, 3)) (ht : (pc : Int) + off = (tgt : Int)) (hp : pc + 3 = pc') (kt : b = true → q_V G M d mc ms tgt lv st ws post) (kf : b = false → q_V G M d mc ms pc' lv st ws post) : q_V G M d mc ms pc lv (.int (q_b b) :: st) ws post := q_if_ne hd ht hp (fun c => by cases b with
  | false => exact absurd rfl c
  | true => exact kt rfl) (fun c => by cases b with
  | false => exact kf rfl
  | true => exact absurd c (by decide))
end NROWS
section HROWS2
variable {Z : q_Z} {M : q_M} {d pc pc' : Nat} {lv : List (Option Value)} {st : List Value} {m : q_Mm} {post : Option Value → va_W → Prop}
theorem h_getiE {idx p j ci tg : Nat} {ty : FieldType} {fin : Bool} {fl : List (Nat × Nat)} {v : Int32} (hd : decode M.2.2.1 pc = .ok (.getfield idx, 3)) (hf : q_F M.1 idx ci j ty fin) (hs : q_shs[p]? = some (.inl (ci, fl))) (hj : fl[j]? = some (0, tg)) (hv : m.1 p j = v) (hp : pc + 3 = pc') (kk : q_V (q_g Z) M d 0 0 pc' lv (.int v :: st) (q_W Z m) post) : q_V (q_g Z) M d 0 0 pc lv (.ref (q_ad Z p) :: st) (q_W Z m) post := h_geti hd hf hs hj hp (by rw [hv]; exact kk)
theorem h_getjE {idx p j ci tg : Nat} {ty : FieldType} {fin : Bool} {fl : List (Nat × Nat)} {v : Int64} (hd : decode M.2.2.1 pc = .ok (.getfield idx, 3)) (hf : q_F M.1 idx ci j ty fin) (hs : q_shs[p]? = some (.inl (ci, fl))) (hj : fl[j]? = some (1, tg)) (hv : m.2.1 p j = v) (hp : pc + 3 = pc') (kk : q_V (q_g Z) M d 0 0 pc' lv (.long v :: st) (q_W Z m) post) : q_V (q_g Z) M d 0 0 pc lv (.ref (q_ad Z p) :: st) (q_W Z m) post := h_getj hd hf hs hj hp (by rw [hv]; exact kk)
end HROWS2
section HROWS3
variable {Z : q_Z} {M M' : q_M} {d pc pc' : Nat} {lv : List (Option Value)} {st : List Value} {m : q_Mm} {post : Option Value → va_W → Prop}
theorem h_gets {idx q : Nat} {n ds : String} (hd : decode M.2.2.1 pc = .ok (.getstatic idx, 3)) (hz : ("GuisePack", n, ds, q) ∈ q_stat) (hq : q < 4) (hlk : Cond.fieldLink M.1 idx "GuisePack" n ds ∈ tbg) (hp : pc + 3 = pc') (kk : q_V (q_g Z) M d 0 0 pc' lv (.ref (Z.2.2.2.2.1 q) :: st) (q_W Z m) post) : q_V (q_g Z) M d 0 0 pc lv st (q_W Z m) post := by
  match q, hq with
  | 0, _ => exact q_gets (G := q_g Z) hd hz rfl hlk hp kk
  | 1, _ => exact q_gets (G := q_g Z) hd hz rfl hlk hp kk
  | 2, _ => exact q_gets (G := q_g Z) hd hz rfl hlk hp kk
  | 3, _ => exact q_gets (G := q_g Z) hd hz rfl hlk hp kk
theorem h_getsN {idx q : Nat} {n ds host : String} (hd : decode M.2.2.1 pc = .ok (.getstatic idx, 3)) (hz : ("GuisePack", n, ds, q) ∈ q_stat) (hq : q < 4) (hlk : (M.1, idx, "GuisePack", n, ds, host) ∈ q_nestF) (hp : pc + 3 = pc') (kk : q_V (q_g Z) M d 0 0 pc' lv (.ref (Z.2.2.2.2.1 q) :: st) (q_W Z m) post) : q_V (q_g Z) M d 0 0 pc lv st (q_W Z m) post := by
  match q, hq with
  | 0, _ => exact q_getsN (G := q_g Z) hd hz rfl hlk hp kk
  | 1, _ => exact q_getsN (G := q_g Z) hd hz rfl hlk hp kk
  | 2, _ => exact q_getsN (G := q_g Z) hd hz rfl hlk hp kk
  | 3, _ => exact q_getsN (G := q_g Z) hd hz rfl hlk hp kk
theorem h_ti {k q : Nat} {i : Int32} {f : Nat → Int32} (hd : decode M.2.2.1 pc = .ok (.iaload, 1)) (he : (Z.2.2.2.2.1 q, FieldType.int, 5, fun j => Value.int (f j)) ∈ q_ro Z) (hi : i = nI k) (hk : k < 5) (hp : pc + 1 = pc') (kk : q_V (q_g Z) M d 0 0 pc' lv (.int (f k) :: st) (q_W Z m) post) : q_V (q_g Z) M d 0 0 pc lv (.int i :: .ref (Z.2.2.2.2.1 q) :: st) (q_W Z m) post := by
  subst hi
  exact q_ti (G := q_g Z) hd he (vp_in_nI hk (by decide)) (v := .int (f k)) (by rw [nI_clamp (by omega)]) hp kk
theorem h_tc {k q : Nat} {i : Int32} {f : Nat → Int32} (hd : decode M.2.2.1 pc = .ok (.caload, 1)) (he : (Z.2.2.2.2.1 q, FieldType.char, 5, fun j => Value.int (f j)) ∈ q_ro Z) (hi : i = nI k) (hk : k < 5) (hp : pc + 1 = pc') (kk : q_V (q_g Z) M d 0 0 pc' lv (.int (f k) :: st) (q_W Z m) post) : q_V (q_g Z) M d 0 0 pc lv (.int i :: .ref (Z.2.2.2.2.1 q) :: st) (q_W Z m) post := by
  subst hi
  exact q_tc (G := q_g Z) hd he (vp_in_nI hk (by decide)) (v := .int (f k)) (by rw [nI_clamp (by omega)]) hp kk
theorem ro_0 {Z : q_Z} : (Z.2.2.2.2.1 0, FieldType.int, 5, fun j => Value.int (q_low j)) ∈ q_ro Z := by simp [q_ro]
theorem ro_1 {Z : q_Z} : (Z.2.2.2.2.1 1, FieldType.int, 5, fun j => Value.int (q_high j)) ∈ q_ro Z := by simp [q_ro]
theorem ro_2 {Z : q_Z} : (Z.2.2.2.2.1 2, FieldType.int, 5, fun j => Value.int (q_usual j)) ∈ q_ro Z := by simp [q_ro]
theorem ro_3 {Z : q_Z} : (Z.2.2.2.2.1 3, FieldType.char, 5, fun j => Value.int (q_letters j)) ∈ q_ro Z := by simp [q_ro]
end HROWS3
/-! plain facts on numbers -/
theorem z_lt (a b : Int32) : a < b ↔ a.toInt < b.toInt := Int32.lt_iff_toInt_lt
theorem z_le (a b : Int32) : a ≤ b ↔ a.toInt ≤ b.toInt := Int32.le_iff_toInt_le
theorem z_eq (a b : Int32) : a = b ↔ a.toInt = b.toInt := ⟨fun h => h ▸ rfl, fun h => Int32.toInt_inj.mp h⟩
theorem z_rng (x : Int32) : -2147483648 ≤ x.toInt ∧ x.toInt < 2147483648 := ⟨Int32.le_toInt x, Int32.toInt_lt x⟩
theorem z_0 : (0 : Int32).toInt = 0 := rfl
theorem z_n {n : Nat} (h : n < 2 ^ 31) : (nI n).toInt = (n : Int) := nI_toInt h
theorem z_ex {x : Int32} {n : Nat} (h0 : 0 ≤ x.toInt) (h1 : x.toInt < (n : Int)) (hn : n < 2 ^ 31) : ∃ j : Nat, j < n ∧ x = nI j := by
  refine ⟨x.toInt.toNat, by omega, ?_⟩
  rw [z_eq, z_n (by omega)]
  omega
theorem st_0 : ("GuisePack", "LOWEST", "[I", 0) ∈ q_stat := by simp [q_stat]
theorem st_1 : ("GuisePack", "HIGHEST", "[I", 1) ∈ q_stat := by simp [q_stat]
theorem st_2 : ("GuisePack", "USUAL", "[I", 2) ∈ q_stat := by simp [q_stat]
theorem st_3 : ("GuisePack", "LETTERS", "[C", 3) ∈ q_stat := by simp [q_stat]
theorem nf_X2_32 : (RX2, 32, "GuisePack", "USUAL", "[I", "GuisePack") ∈ q_nestF := by simp [q_nestF, RX2]
theorem nf_X1_71 : (RX1, 71, RX8, "fits", "LGuisePack$Fits;", "GuisePack") ∈ q_nestF := by simp [q_nestF, RX1, RX8]
theorem nf_X9_78 : (RX9, 78, "GuisePack", "LETTERS", "[C", "GuisePack") ∈ q_nestF := by simp [q_nestF, RX9]
theorem nm_X9_89 : (RX9, 89, yX10_isBound, "GuisePack") ∈ q_nestM := by simp [q_nestM, RX9, RX10, yX10_isBound]
theorem nm_X0_108 : (RX0, 108, yX10_bitLength, "GuisePack") ∈ q_nestM := by simp [q_nestM, RX0, RX10, yX10_bitLength]
theorem nm_X4_41 : (RX4, 41, yX10_isFinite, "GuisePack") ∈ q_nestM := by simp [q_nestM, RX4, RX10, yX10_isFinite]
theorem nm_X8_78 : (RX8, 78, yX10_pairNumber, "GuisePack") ∈ q_nestM := by simp [q_nestM, RX8, RX10, yX10_pairNumber]
theorem nm_X8_56 : (RX8, 56, yX10_blocksFor, "GuisePack") ∈ q_nestM := by simp [q_nestM, RX8, RX10, yX10_blocksFor]
theorem nm_X8_140 : (RX8, 140, yX10_bitLength, "GuisePack") ∈ q_nestM := by simp [q_nestM, RX8, RX10, yX10_bitLength]
theorem nm_X6_39 : (RX6, 39, yX10_bitLength, "GuisePack") ∈ q_nestM := by simp [q_nestM, RX6, RX10, yX10_bitLength]
theorem nm_X3_62 : (RX3, 62, yX10_isFinite, "GuisePack") ∈ q_nestM := by simp [q_nestM, RX3, RX10, yX10_isFinite]
theorem nm_X2_41 : (RX2, 41, yX10_blocksFor, "GuisePack") ∈ q_nestM := by simp [q_nestM, RX2, RX10, yX10_blocksFor]
theorem nm_X2_49 : (RX2, 49, yX10_isMissing, "GuisePack") ∈ q_nestM := by simp [q_nestM, RX2, RX10, yX10_isMissing]
theorem nm_X2_53 : (RX2, 53, yX10_isFinite, "GuisePack") ∈ q_nestM := by simp [q_nestM, RX2, RX10, yX10_isFinite]
