/-! ===== words of what is made ===== -/
theorem aw_int : Cond.arrayClass .int ∈ tbg := tb 190 (by decide +kernel) (by decide +kernel)
theorem aw_long : Cond.arrayClass .long ∈ tbg := tb 239 (by decide +kernel) (by decide +kernel)
theorem aw_double : Cond.arrayClass .double ∈ tbg := tb 169 (by decide +kernel) (by decide +kernel)
theorem aw_boolean : Cond.arrayClass .boolean ∈ tbg := tb 263 (by decide +kernel) (by decide +kernel)
theorem itL : Cond.initialized RL ∈ tbg := tb 116 (by decide +kernel) (by decide +kernel)
theorem itX10 : Cond.initialized RX10 ∈ tbg := tb 117 (by decide +kernel) (by decide +kernel)
theorem itX3 : Cond.initialized RX3 ∈ tbg := tb 118 (by decide +kernel) (by decide +kernel)
theorem itX5 : Cond.initialized RX5 ∈ tbg := tb 119 (by decide +kernel) (by decide +kernel)
theorem itX9 : Cond.initialized RX9 ∈ tbg := tb 120 (by decide +kernel) (by decide +kernel)
theorem itX2 : Cond.initialized RX2 ∈ tbg := tb 121 (by decide +kernel) (by decide +kernel)
theorem itX0 : Cond.initialized RX0 ∈ tbg := tb 123 (by decide +kernel) (by decide +kernel)
theorem itX7 : Cond.initialized RX7 ∈ tbg := tb 124 (by decide +kernel) (by decide +kernel)
theorem itX4 : Cond.initialized RX4 ∈ tbg := tb 125 (by decide +kernel) (by decide +kernel)
theorem itX8 : Cond.initialized RX8 ∈ tbg := tb 126 (by decide +kernel) (by decide +kernel)
theorem itX6 : Cond.initialized RX6 ∈ tbg := tb 127 (by decide +kernel) (by decide +kernel)
theorem itX1 : Cond.initialized RX1 ∈ tbg := tb 128 (by decide +kernel) (by decide +kernel)
theorem itX11 : Cond.initialized RX11 ∈ tbg := tb 129 (by decide +kernel) (by decide +kernel)
theorem clL_8 : Cond.classLink RL 8 RX10 ∈ tbg := tb 139 (by decide +kernel) (by decide +kernel)
theorem izX10 : Cond.instantiable RX10 17 ∈ tbg := tb 140 (by decide +kernel) (by decide +kernel)
theorem loX10_3 : Cond.methodLink RX10 3 Lib.objectInit ∈ tbg := tb 144 (by decide +kernel) (by decide +kernel)
theorem oi_i : Cond.instanceMethod Lib.objectInit ∈ tbg := tb 145 (by decide +kernel) (by decide +kernel)
theorem oi_c : Cond.code Lib.objectInit ⟨#[0xb1]⟩ 1 none ∈ tbg := tb 146 (by decide +kernel) (by decide +kernel)
theorem clX10_9 : Cond.classLink RX10 9 RX3 ∈ tbg := tb 147 (by decide +kernel) (by decide +kernel)
theorem izX3 : Cond.instantiable RX3 4 ∈ tbg := tb 148 (by decide +kernel) (by decide +kernel)
theorem loX3_3 : Cond.methodLink RX3 3 Lib.objectInit ∈ tbg := tb 152 (by decide +kernel) (by decide +kernel)
theorem clX10_16 : Cond.classLink RX10 16 RX5 ∈ tbg := tb 170 (by decide +kernel) (by decide +kernel)
theorem izX5 : Cond.instantiable RX5 2 ∈ tbg := tb 171 (by decide +kernel) (by decide +kernel)
theorem loX5_3 : Cond.methodLink RX5 3 Lib.objectInit ∈ tbg := tb 175 (by decide +kernel) (by decide +kernel)
theorem clX10_26 : Cond.classLink RX10 26 RX9 ∈ tbg := tb 191 (by decide +kernel) (by decide +kernel)
theorem izX9 : Cond.instantiable RX9 7 ∈ tbg := tb 192 (by decide +kernel) (by decide +kernel)
theorem loX9_3 : Cond.methodLink RX9 3 Lib.objectInit ∈ tbg := tb 196 (by decide +kernel) (by decide +kernel)
theorem clX9_9 : Cond.classLink RX9 9 RX2 ∈ tbg := tb 197 (by decide +kernel) (by decide +kernel)
theorem izX2 : Cond.instantiable RX2 5 ∈ tbg := tb 198 (by decide +kernel) (by decide +kernel)
theorem loX2_3 : Cond.methodLink RX2 3 Lib.objectInit ∈ tbg := tb 202 (by decide +kernel) (by decide +kernel)
theorem clX10_35 : Cond.classLink RX10 35 RX0 ∈ tbg := tb 264 (by decide +kernel) (by decide +kernel)
theorem izX0 : Cond.instantiable RX0 8 ∈ tbg := tb 265 (by decide +kernel) (by decide +kernel)
theorem loX0_3 : Cond.methodLink RX0 3 Lib.objectInit ∈ tbg := tb 269 (by decide +kernel) (by decide +kernel)
theorem clX10_42 : Cond.classLink RX10 42 RX2 ∈ tbg := tb 297 (by decide +kernel) (by decide +kernel)
theorem clX10_52 : Cond.classLink RX10 52 RX7 ∈ tbg := tb 299 (by decide +kernel) (by decide +kernel)
theorem izX7 : Cond.instantiable RX7 3 ∈ tbg := tb 300 (by decide +kernel) (by decide +kernel)
theorem loX7_3 : Cond.methodLink RX7 3 Lib.objectInit ∈ tbg := tb 304 (by decide +kernel) (by decide +kernel)
theorem clX7_9 : Cond.classLink RX7 9 RX2 ∈ tbg := tb 305 (by decide +kernel) (by decide +kernel)
theorem clX10_59 : Cond.classLink RX10 59 RX4 ∈ tbg := tb 319 (by decide +kernel) (by decide +kernel)
theorem izX4 : Cond.instantiable RX4 5 ∈ tbg := tb 320 (by decide +kernel) (by decide +kernel)
theorem loX4_3 : Cond.methodLink RX4 3 Lib.objectInit ∈ tbg := tb 324 (by decide +kernel) (by decide +kernel)
theorem clX10_68 : Cond.classLink RX10 68 RX8 ∈ tbg := tb 342 (by decide +kernel) (by decide +kernel)
theorem izX8 : Cond.instantiable RX8 16 ∈ tbg := tb 343 (by decide +kernel) (by decide +kernel)
theorem loX8_3 : Cond.methodLink RX8 3 Lib.objectInit ∈ tbg := tb 347 (by decide +kernel) (by decide +kernel)
theorem clX8_24 : Cond.classLink RX8 24 RX6 ∈ tbg := tb 348 (by decide +kernel) (by decide +kernel)
theorem izX6 : Cond.instantiable RX6 6 ∈ tbg := tb 349 (by decide +kernel) (by decide +kernel)
theorem loX6_3 : Cond.methodLink RX6 3 Lib.objectInit ∈ tbg := tb 353 (by decide +kernel) (by decide +kernel)
theorem clX10_80 : Cond.classLink RX10 80 RX1 ∈ tbg := tb 450 (by decide +kernel) (by decide +kernel)
theorem izX1 : Cond.instantiable RX1 3 ∈ tbg := tb 451 (by decide +kernel) (by decide +kernel)
theorem loX1_3 : Cond.methodLink RX1 3 Lib.objectInit ∈ tbg := tb 455 (by decide +kernel) (by decide +kernel)
theorem clL_16 : Cond.classLink RL 16 RX11 ∈ tbg := tb 1305 (by decide +kernel) (by decide +kernel)
theorem izX11 : Cond.instantiable RX11 56 ∈ tbg := tb 1306 (by decide +kernel) (by decide +kernel)
theorem loX11_1 : Cond.methodLink RX11 1 Lib.objectInit ∈ tbg := tb 1310 (by decide +kernel) (by decide +kernel)
/-! ===== rows of the logic: what is made ===== -/
section MADE
variable {G : q_G} {M M' : q_M} {d mc ms mc1 ms1 pc pc' : Nat} {lv : List (Option Value)} {st : List Value} {ws ws0 L : va_W} {post : Option Value → va_W → Prop}
theorem q_oinit {idx a : Nat} (hd : decode M.2.2.1 pc = .ok (.invokespecial idx, 3)) (hlk : Cond.methodLink M.1 idx Lib.objectInit ∈ tbg) (hr : q_cat st ≤ 8) (hp : pc + 3 = pc') (k : q_V G M (d + 1) mc ms pc' lv st ws post) : q_V G M (d + 1) mc ms pc lv (.ref a :: st) ws post := by
  subst hp
  intro p e s m args below meth c R H locs cl0 sl0 d0 A Q X ls hl
  have hro := X.1.2.2.2.2.2.2.2.2.1
  refine W.objInit (s := s.setDrawn d0) X.1.1 X.1.2.1 X.1.2.2.2.2.1 (X.ts _ hlk) (X.ts _ oi_i) (X.ts _ oi_c) rfl (hl.1.trans X.1.2.2.2.1.symm) rfl hd (by omega) (by show 2 * 0 + _ + 12 ≤ _; unfold q_cat at hr; omega) ?_
  exact k X ls hl
theorem q_new {idx ci N : Nat} {C : String} {T : u_T} {ty : Nat → FieldType} {fs : List Value} (hd : decode M.2.2.1 pc = .ok (.new idx, 3)) (hcl : Cond.classLink M.1 idx C ∈ tbg) (hin : ∀ w ∈ u_ws C T N, w ∈ tbg) (hty : ∀ k, k < N → parseFieldDescriptor (T k).2.2.1 = some (ty k)) (hinst : Cond.instantiable C N ∈ tbg) (hini : Cond.initialized C ∈ tbg) (hc : vwCl[ci]? = some (C, T, N)) (hfs : (List.range N).map (fun j => defaultValue (ty j)) = fs) (hp : pc + 3 = pc') (k : ∀ q : Nat, q_V G M d mc ms pc' lv (.ref q :: st) (ws ++ [(q, .inr (ci, fs))]) post) : q_V G M d (mc + 1) (ms + N) pc lv st ws post := by
  subst hp
  intro p e s m args below meth c R H locs cl0 sl0 d0 A Q X ls hl
  have hrm := X.2.2.1
  refine va_new (fs := fs) (D := G.2.1) (s := s.setDrawn d0) X.1.1 X.1.2.1 X.ts hin ty hty X.1.2.2.2.2.1 (X.ts _ hcl) (X.ts _ hinst) (X.ts _ hini) X.K X.2.2.2.1 X.2.2.2.2.1 X.2.2.2.2.2.1 X.1.2.2.2.2.2.2.2.2.2.1 hc (fun j hj => ?_) (by omega) (by omega) hd (fun q H1 hP hD hS => ?_)
  · subst hfs
    unfold vp_V
    rw [List.getD_eq_getElem?_getD, List.getElem?_map, List.getElem?_range hj]
    rfl
  · exact k q ⟨X.1, X.2.1, ⟨by omega, by omega⟩, hP, hD, hS, X.2.2.2.2.2.2⟩ ls hl
theorem q_newa {tp : ArrayType} {ty : FieldType} {t N : Nat} {cA : ClassId} {n : Int32} {a0 : vp_A} (hd : decode M.2.2.1 pc = .ok (.newarray tp, 2)) (harr : Cond.arrayClass (newarray.typeOf tp) ∈ tbg) (hty : newarray.typeOf tp = ty) (ht : G.2.2.1[t]? = some (cA, ty)) (ha : ∀ cA : ClassId, vp_cell cA a0 = arrV cA N (fun _ => defaultValue ty)) (hR : ∀ (U : State) (c1 c2 : ClassId), va_RA U c1 ty → va_RA U c2 ty → c1 = c2) (hcb : componentBytes ty ≤ 8) (hn : n = nI N) (hN : N < 10000) (hp : pc + 2 = pc') (k : ∀ q : Nat, q_V G M d mc ms pc' lv (.ref q :: st) (ws ++ [(q, .inl (cA, a0))]) post) : q_V G M d (mc + 1) (ms + N) pc lv (.int n :: st) ws post := by
  subst hp
  subst hn
  intro p e s m args below meth c R H locs cl0 sl0 d0 A Q X ls hl
  have hrm := X.2.2.1
  have hbb : N * componentBytes ty ≤ N * 8 := Nat.mul_le_mul_left _ hcb
  refine va_newa (D := G.2.1) (s := s.setDrawn d0) X.1.1 X.1.2.1 (X.ts _ harr) hty X.K X.2.2.2.1 X.2.2.2.2.1 X.2.2.2.2.2.1 X.1.2.2.2.2.2.2.2.2.2.1 ha (nI_pos (by omega)) (nI_clamp (by omega)) (by omega) (by omega) (by omega) hd (fun q c1 H1 hK hP hD hS => ?_)
  have e1 := (hK.2 G.2.2.1.length (c1, ty) (by rw [List.getElem?_append_right (Nat.le_refl _), Nat.sub_self]; rfl)).2
  have e : c1 = cA := hR _ _ _ e1 (X.K.2 t _ ht).2
  subst e
  exact k q ⟨X.1, X.2.1, ⟨by omega, by omega⟩, hP, hD, hS, X.2.2.2.2.2.2⟩ ls hl
theorem ra_u {U : State} {c1 c2 : ClassId} {tx : String} (h1 : U.vm.findClass tx = some c1) (h2 : U.vm.findClass tx = some c2) : c1 = c2 := Option.some.inj (h1.symm.trans h2)
theorem q_newq {idx t N : Nat} {C : String} {cA : ClassId} {n : Int32} (hd : decode M.2.2.1 pc = .ok (.anewarray idx, 3)) (hcl : Cond.classLink M.1 idx C ∈ tbg) (hC : C = "GuisePack$Column") (ht : G.2.2.1[t]? = some (cA, .object C)) (hn : n = nI N) (hN : N < 10000) (hp : pc + 3 = pc') (k : ∀ q : Nat, q_V G M d mc ms pc' lv (.ref q :: st) (ws ++ [(q, .inl (cA, N, .inr (.inr (.inr (.inr (fun _ => none))))))]) post) : q_V G M d (mc + 1) (ms + N) pc lv (.int n :: st) ws post := by
  subst hp
  subst hn
  subst hC
  intro p e s m args below meth c R H locs cl0 sl0 d0 A Q X ls hl
  have hrm := X.2.2.1
  have hao : va_AO "GuisePack$Column" (s.setDrawn d0) := va_AO.moved (u := s) (U := s.setDrawn d0) (Vm.Alike.refl _) X.E.2.2.2.2.2.1
  refine va_newq (D := G.2.1) (s := s.setDrawn d0) X.1.1 X.1.2.1 X.1.2.2.2.2.1 (X.ts _ hcl) hao X.K X.2.2.2.1 X.2.2.2.2.1 X.2.2.2.2.2.1 X.1.2.2.2.2.2.2.2.2.2.1 (nI_pos (by omega)) (nI_clamp (by omega)) (by omega) (by omega) (by omega) hd (fun q c1 H1 hK hP hD hS => ?_)
  obtain ⟨_, _, _, _, _, e1⟩ := (hK.2 G.2.2.1.length (c1, .object "GuisePack$Column") (by rw [List.getElem?_append_right (Nat.le_refl _), Nat.sub_self]; rfl)).2
  obtain ⟨_, _, _, _, _, e2⟩ := (X.K.2 t _ ht).2
  have e : c1 = cA := ra_u e1 e2
  subst e
  exact k q ⟨X.1, X.2.1, ⟨by omega, by omega⟩, hP, hD, hS, X.2.2.2.2.2.2⟩ ls hl
theorem q_aast {t k kv a n ci v : Nat} {C : String} {T : u_T} {N : Nat} {vs : List Value} {cA : ClassId} {f : Nat → Option Nat} {i : Int32} (hd : decode M.2.2.1 pc = .ok (.aastore, 1)) (hw : ws[k]? = some (a, .inl (cA, n, .inr (.inr (.inr (.inr f)))))) (ht : G.2.2.1[t]? = some (cA, .object C)) (hv : ws[kv]? = some (v, .inr (ci, vs))) (hc : vwCl[ci]? = some (C, T, N)) (hin : vp_in i n) (hp : pc + 1 = pc') (kk : q_V G M d mc ms pc' lv st (ws.set k (a, .inl (cA, n, .inr (.inr (.inr (.inr (va_up f i.toNatClampNeg (some v)))))))) post) : q_V G M d mc ms pc lv (.ref v :: .int i :: .ref a :: st) ws post := by
  subst hp
  intro p e s m args below meth c R H locs cl0 sl0 d0 A Q X ls hl
  exact va_astq (D := G.2.1) (s := s.setDrawn d0) X.1.1 X.1.2.1 X.K X.2.2.2.1 X.2.2.2.2.1 X.2.2.2.2.2.1 k t kv ci hw ht hv hc hin hd (fun H1 locs1 hP hD hS => kk (X.to hP hD hS) ls hl)
/-! with a world that begins as it began -/
theorem w_at {n : Nat} {x : Nat × va_E} (h : L[n]? = some x) : (ws0 ++ L)[ws0.length + n]? = some x := by
  rw [List.getElem?_append_right (Nat.le_add_right _ _), Nat.add_sub_cancel_left]
  exact h
theorem w_set {n : Nat} {x : Nat × va_E} : (ws0 ++ L).set (ws0.length + n) x = ws0 ++ L.set n x := by
  rw [List.set_append_right _ _ (Nat.le_add_right _ _), Nat.add_sub_cancel_left]
theorem n_get {n idx ci j a : Nat} {ty : FieldType} {fin : Bool} {fs : List Value} {v : Value} (hd : decode M.2.2.1 pc = .ok (.getfield idx, 3)) (hf : q_F M.1 idx ci j ty fin) (hw : L[n]? = some (a, .inr (ci, fs))) (hv : fs[j]? = some v) (hp : pc + 3 = pc') (kk : q_V G M d mc ms pc' lv (v :: st) (ws0 ++ L) post) : q_V G M d mc ms pc lv (.ref a :: st) (ws0 ++ L) post := q_get hd hf (w_at hw) hv hp kk
theorem n_put {n idx ci j a : Nat} {ty : FieldType} {fs : List Value} {v : Value} {L' : va_W} (hd : decode M.2.2.1 pc = .ok (.putfield idx, 3)) (hf : q_F M.1 idx ci j ty false) (hw : L[n]? = some (a, .inr (ci, fs))) (hn : narrow ty v = v) (hfit : fits ty v = true) (hlt : j < fs.length) (hL : L.set n (a, .inr (ci, fs.set j v)) = L') (hp : pc + 3 = pc') (kk : q_V G M d mc ms pc' lv st (ws0 ++ L') post) : q_V G M d mc ms pc lv (v :: .ref a :: st) (ws0 ++ L) post := q_put hd hf (w_at hw) hn hfit hlt hp (by rw [w_set, hL]; exact kk)
theorem n_putF {n idx ci j a : Nat} {ty : FieldType} {fs : List Value} {v : Value} {L' : va_W} (hd : decode M.2.2.1 pc = .ok (.putfield idx, 3)) (hf : q_F M.1 idx ci j ty true) (hi : M.2.1.name = "<init>") (hc0 : ∃ T N, vwCl[ci]? = some (M.1, T, N)) (hw : L[n]? = some (a, .inr (ci, fs))) (hn : narrow ty v = v) (hfit : fits ty v = true) (hlt : j < fs.length) (hL : L.set n (a, .inr (ci, fs.set j v)) = L') (hp : pc + 3 = pc') (kk : q_V G M d mc ms pc' lv st (ws0 ++ L') post) : q_V G M d mc ms pc lv (v :: .ref a :: st) (ws0 ++ L) post := q_putF hd hf hi hc0 (w_at hw) hn hfit hlt hp (by rw [w_set, hL]; exact kk)
theorem n_iast {n t a len k : Nat} {cA : ClassId} {f : Nat → Int32} {i x : Int32} {L' : va_W} (hd : decode M.2.2.1 pc = .ok (.iastore, 1)) (hw : L[n]? = some (a, .inl (cA, len, .inl f))) (ht : G.2.2.1[t]? = some (cA, .int)) (hi : i = nI k) (hk : k < len) (hl : len < 10000) (hL : L.set n (a, .inl (cA, len, .inl (q_u f k x))) = L') (hp : pc + 1 = pc') (kk : q_V G M d mc ms pc' lv st (ws0 ++ L') post) : q_V G M d mc ms pc lv (.int x :: .int i :: .ref a :: st) (ws0 ++ L) post := by
  subst hi
  refine q_iast hd (w_at hw) ht (vp_in_nI hk (by omega)) hp ?_
  rw [nI_clamp (by omega), w_set]
  subst hL
  exact kk
theorem n_dast {n t a len k : Nat} {cA : ClassId} {f : Nat → UInt64} {i : Int32} {x : UInt64} {L' : va_W} (hd : decode M.2.2.1 pc = .ok (.dastore, 1)) (hw : L[n]? = some (a, .inl (cA, len, .inr (.inr (.inr (.inl f)))))) (ht : G.2.2.1[t]? = some (cA, .double)) (hi : i = nI k) (hk : k < len) (hl : len < 10000) (hL : L.set n (a, .inl (cA, len, .inr (.inr (.inr (.inl (q_u f k x)))))) = L') (hp : pc + 1 = pc') (kk : q_V G M d mc ms pc' lv st (ws0 ++ L') post) : q_V G M d mc ms pc lv (.double x :: .int i :: .ref a :: st) (ws0 ++ L) post := by
  subst hi
  refine q_dast hd (w_at hw) ht (vp_in_nI hk (by omega)) hp ?_
  rw [nI_clamp (by omega), w_set]
  subst hL
  exact kk
theorem n_dald {n t a len k : Nat} {cA : ClassId} {f : Nat → UInt64} {i : Int32} {v : UInt64} (hd : decode M.2.2.1 pc = .ok (.daload, 1)) (hw : L[n]? = some (a, .inl (cA, len, .inr (.inr (.inr (.inl f)))))) (ht : G.2.2.1[t]? = some (cA, .double)) (hi : i = nI k) (hk : k < len) (hl : len < 10000) (hv : f k = v) (hp : pc + 1 = pc') (kk : q_V G M d mc ms pc' lv (.double v :: st) (ws0 ++ L) post) : q_V G M d mc ms pc lv (.int i :: .ref a :: st) (ws0 ++ L) post := by
  subst hi
  refine q_dald hd (w_at hw) ht (vp_in_nI hk (by omega)) hp ?_
  rw [nI_clamp (by omega), hv]
  exact kk
theorem n_new {idx ci N : Nat} {C : String} {T : u_T} {ty : Nat → FieldType} {fs : List Value} {L' : Nat → va_W} (hd : decode M.2.2.1 pc = .ok (.new idx, 3)) (hcl : Cond.classLink M.1 idx C ∈ tbg) (hin : ∀ w ∈ u_ws C T N, w ∈ tbg) (hty : ∀ k, k < N → parseFieldDescriptor (T k).2.2.1 = some (ty k)) (hinst : Cond.instantiable C N ∈ tbg) (hini : Cond.initialized C ∈ tbg) (hc : vwCl[ci]? = some (C, T, N)) (hfs : (List.range N).map (fun j => defaultValue (ty j)) = fs) (hL : ∀ q, L ++ [(q, .inr (ci, fs))] = L' q) (hp : pc + 3 = pc') (k : ∀ q : Nat, q_V G M d mc ms pc' lv (.ref q :: st) (ws0 ++ L' q) post) : q_V G M d (mc + 1) (ms + N) pc lv st (ws0 ++ L) post :=
  q_new hd hcl hin hty hinst hini hc hfs hp (fun q => by rw [List.append_assoc, hL]; exact k q)
theorem n_newi {t N : Nat} {cA : ClassId} {n : Int32} {L' : Nat → va_W} (hd : decode M.2.2.1 pc = .ok (.newarray .int, 2)) (ht : G.2.2.1[t]? = some (cA, .int)) (hn : n = nI N) (hN : N < 10000) (hL : ∀ q, L ++ [(q, .inl (cA, N, .inl (fun _ => 0)))] = L' q) (hp : pc + 2 = pc') (k : ∀ q : Nat, q_V G M d mc ms pc' lv (.ref q :: st) (ws0 ++ L' q) post) : q_V G M d (mc + 1) (ms + N) pc lv (.int n :: st) (ws0 ++ L) post :=
  q_newa (ty := .int) hd aw_int rfl ht (fun _ => rfl) (fun _ _ _ h1 h2 => ra_u h1 h2) (by decide) hn hN hp (fun q => by rw [List.append_assoc, hL]; exact k q)
theorem n_newl {t N : Nat} {cA : ClassId} {n : Int32} {L' : Nat → va_W} (hd : decode M.2.2.1 pc = .ok (.newarray .long, 2)) (ht : G.2.2.1[t]? = some (cA, .long)) (hn : n = nI N) (hN : N < 10000) (hL : ∀ q, L ++ [(q, .inl (cA, N, .inr (.inl (fun _ => 0))))] = L' q) (hp : pc + 2 = pc') (k : ∀ q : Nat, q_V G M d mc ms pc' lv (.ref q :: st) (ws0 ++ L' q) post) : q_V G M d (mc + 1) (ms + N) pc lv (.int n :: st) (ws0 ++ L) post :=
  q_newa (ty := .long) hd aw_long rfl ht (fun _ => rfl) (fun _ _ _ h1 h2 => ra_u h1 h2) (by decide) hn hN hp (fun q => by rw [List.append_assoc, hL]; exact k q)
theorem n_newd {t N : Nat} {cA : ClassId} {n : Int32} {L' : Nat → va_W} (hd : decode M.2.2.1 pc = .ok (.newarray .double, 2)) (ht : G.2.2.1[t]? = some (cA, .double)) (hn : n = nI N) (hN : N < 10000) (hL : ∀ q, L ++ [(q, .inl (cA, N, .inr (.inr (.inr (.inl (fun _ => 0))))))] = L' q) (hp : pc + 2 = pc') (k : ∀ q : Nat, q_V G M d mc ms pc' lv (.ref q :: st) (ws0 ++ L' q) post) : q_V G M d (mc + 1) (ms + N) pc lv (.int n :: st) (ws0 ++ L) post :=
  q_newa (ty := .double) hd aw_double rfl ht (fun _ => rfl) (fun _ _ _ h1 h2 => ra_u h1 h2) (by decide) hn hN hp (fun q => by rw [List.append_assoc, hL]; exact k q)
theorem n_newz {t N : Nat} {cA : ClassId} {n : Int32} {L' : Nat → va_W} (hd : decode M.2.2.1 pc = .ok (.newarray .boolean, 2)) (ht : G.2.2.1[t]? = some (cA, .boolean)) (hn : n = nI N) (hN : N < 10000) (hL : ∀ q, L ++ [(q, .inl (cA, N, .inl (fun _ => 0)))] = L' q) (hp : pc + 2 = pc') (k : ∀ q : Nat, q_V G M d mc ms pc' lv (.ref q :: st) (ws0 ++ L' q) post) : q_V G M d (mc + 1) (ms + N) pc lv (.int n :: st) (ws0 ++ L) post :=
  q_newa (ty := .boolean) hd aw_boolean rfl ht (fun _ => rfl) (fun _ _ _ h1 h2 => ra_u h1 h2) (by decide) hn hN hp (fun q => by rw [List.append_assoc, hL]; exact k q)
/-- a constructor of what was made last -/
theorem n_callI {idx n a : Nat} {x : va_E} {As st0 : List Value} {L1 : va_W} {P : va_W → Prop} (hd : decode M.2.2.1 pc = .ok (.invokespecial idx, 3)) (hM : q_In M' n) (hlk : Cond.methodLink M.1 idx M'.2.1 ∈ tbg) (hst : st0 = As.reverse ++ .ref a :: st) (hn : As.length = n) (hlen : (lg_sl (.ref a :: As)).length ≤ M'.2.2.2.1) (hr : q_cat st ≤ 8) (hL1 : L = L1 ++ [(a, x)]) (hp : pc + 3 = pc')
    (hV : q_V G M' d mc1 ms1 0 (q_args M'.2.2.2.1 (.ref a :: As)) [] ((ws0 ++ L1) ++ [(a, x)]) (fun r ws => r = none ∧ ∃ B, P B ∧ ws = (ws0 ++ L1) ++ B)) (kk : ∀ B, P B → q_V G M (d + 1) mc ms pc' lv st (ws0 ++ (L1 ++ B)) post) : q_V G M (d + 1) (mc + mc1) (ms + ms1) pc lv st0 (ws0 ++ L) post := by
  rw [hL1, ← List.append_assoc, Nat.add_comm mc, Nat.add_comm ms]
  refine q_callI hd hM hlk hst hn hlen hr hp hV (fun r ws' h => ?_)
  obtain ⟨rfl, B, hB, rfl⟩ := h
  rw [List.append_assoc]
  exact kk B hB
/-- more room than is needed -/
theorem q_more {mc2 ms2 : Nat} (h1 : mc ≤ mc2) (h2 : ms ≤ ms2) (k : q_V G M d mc ms pc lv st ws post) : q_V G M d mc2 ms2 pc lv st ws post := by
  intro p e s m args below meth c R H locs cl0 sl0 d0 A Q X ls hl
  have hrm := X.2.2.1
  exact k ⟨X.1, X.2.1, ⟨by omega, by omega⟩, X.2.2.2⟩ ls hl
theorem q_tsw {dflt lo hi : Int} {offs : Array Int} {len tgt : Nat} {x : Int32} {off : Int} (hd : decode M.2.2.1 pc = .ok (.tableswitch dflt lo hi offs, len)) (h1 : ¬ x.toInt < lo) (h2 : ¬ hi < x.toInt) (ho : offs[(x.toInt - lo).toNat]? = some off) (ht : (pc : Int) + off = (tgt : Int)) (k : q_V G M d mc ms tgt lv st ws post) : q_V G M d mc ms pc lv (.int x :: st) ws post := by
  intro p e s m args below meth c R H locs cl0 sl0 d0 A Q X ls hl
  exact lv_tableIn X.1.1 X.1.2.1 hd h1 h2 ho ht (k X ls hl)
theorem q_tso {dflt lo hi : Int} {offs : Array Int} {len tgt : Nat} {x : Int32} (hd : decode M.2.2.1 pc = .ok (.tableswitch dflt lo hi offs, len)) (h : x.toInt < lo ∨ hi < x.toInt) (ht : (pc : Int) + dflt = (tgt : Int)) (k : q_V G M d mc ms tgt lv st ws post) : q_V G M d mc ms pc lv (.int x :: st) ws post := by
  intro p e s m args below meth c R H locs cl0 sl0 d0 A Q X ls hl
  exact lv_tableOut X.1.1 X.1.2.1 hd h ht (k X ls hl)
end MADE
