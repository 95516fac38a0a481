/-! ===== rows of the logic, an instruction each ===== -/
section QROWS
variable {G : q_G} {M : q_M} {d mc ms pc pc' : Nat} {lv lv' : List (Option Value)} {st : List Value} {ws : va_W} {post : Option Value → va_W → Prop}
theorem q_S.ts {p : Program} {e : Env} {s : State} {m : MethodId} {args : Array Value} {below : List Frame} {meth : Method} {c : Code} {R : Room} {H : Heap} {locs : List Loc} {cells slots : Nat} {d0 : Drawn} {A : Nat → Prop} {Q : State → Prop} (X : q_S G M d mc ms ws post p e s m args below meth c R H locs cells slots d0 A Q) : ∀ z ∈ tbg, z.before args (s.setDrawn d0) = true := dr_words X.1.2.2.2.2.2.1 d0
theorem q_S.E {p : Program} {e : Env} {s : State} {m : MethodId} {args : Array Value} {below : List Frame} {meth : Method} {c : Code} {R : Room} {H : Heap} {locs : List Loc} {cells slots : Nat} {d0 : Drawn} {A : Nat → Prop} {Q : State → Prop} (X : q_S G M d mc ms ws post p e s m args below meth c R H locs cells slots d0 A Q) : q_E G A s := X.1.2.2.2.2.2.2.2.2.2.2
theorem q_S.K {p : Program} {e : Env} {s : State} {m : MethodId} {args : Array Value} {below : List Frame} {meth : Method} {c : Code} {R : Room} {H : Heap} {locs : List Loc} {cells slots : Nat} {d0 : Drawn} {A : Nat → Prop} {Q : State → Prop} (X : q_S G M d mc ms ws post p e s m args below meth c R H locs cells slots d0 A Q) : va_K G.2.1 vwCl G.2.2.1 (s.setDrawn d0) := X.1.2.2.2.2.2.2.2.2.2.2.1
theorem q_S.to {ws' : va_W} {p : Program} {e : Env} {s : State} {m : MethodId} {args : Array Value} {below : List Frame} {meth : Method} {c : Code} {R : Room} {H H' : Heap} {locs locs' : List Loc} {cells slots : Nat} {d0 : Drawn} {A : Nat → Prop} {Q : State → Prop} (X : q_S G M d mc ms ws post p e s m args below meth c R H locs cells slots d0 A Q) (hP : va_P G.2.1 vwCl ws' H') (hD : va_D A ws') (hS : va_S A s.heap H' locs') : q_S G M d mc ms ws' post p e s m args below meth c R H' locs' cells slots d0 A Q := ⟨X.1, X.2.1, X.2.2.1, hP, hD, hS, X.2.2.2.2.2.2⟩
theorem q_S.draw {p : Program} {e : Env} {s : State} {m : MethodId} {args : Array Value} {below : List Frame} {meth : Method} {c : Code} {R : Room} {H : Heap} {locs : List Loc} {cells slots : Nat} {d0 d1 : Drawn} {A : Nat → Prop} {Q : State → Prop} (X : q_S G M d mc ms ws post p e s m args below meth c R H locs cells slots d0 A Q) (h : s.drawn.sameBut d1 lw_cs) : q_S G M d mc ms ws post p e s m args below meth c R H locs cells slots d1 A Q := ⟨X.1, h, X.2.2⟩
theorem q_iconst {n : Int} {v : Int32} (hd : decode M.2.2.1 pc = .ok (.iconst n, 1)) (hv : Int32.ofInt n = v) (hp : pc + 1 = pc') (k : q_V G M d mc ms pc' lv (.int v :: st) ws post) : q_V G M d mc ms pc lv (st) ws post := by
  subst hp
  intro _ _ s _ _ _ _ _ R H _ cl0 sl0 d0 A _ X ls hl
  exact lv_iconst X.1.1 X.1.2.1 hd hv (k X ls hl)
theorem q_bipush {n : Int} {v : Int32} (hd : decode M.2.2.1 pc = .ok (.bipush n, 2)) (hv : (Int8.ofInt n).toInt32 = v) (hp : pc + 2 = pc') (k : q_V G M d mc ms pc' lv (.int v :: st) ws post) : q_V G M d mc ms pc lv (st) ws post := by
  subst hp
  intro _ _ s _ _ _ _ _ R H _ cl0 sl0 d0 A _ X ls hl
  exact lv_bipush X.1.1 X.1.2.1 hd hv (k X ls hl)
theorem q_sipush {n : Int} {v : Int32} (hd : decode M.2.2.1 pc = .ok (.sipush n, 3)) (hv : (Int16.ofInt n).toInt32 = v) (hp : pc + 3 = pc') (k : q_V G M d mc ms pc' lv (.int v :: st) ws post) : q_V G M d mc ms pc lv (st) ws post := by
  subst hp
  intro _ _ s _ _ _ _ _ R H _ cl0 sl0 d0 A _ X ls hl
  exact lv_sipush X.1.1 X.1.2.1 hd hv (k X ls hl)
theorem q_lconst {n : Fin 2} {v : Int64} (hd : decode M.2.2.1 pc = .ok (.lconst n, 1)) (hv : Int64.ofNat (n : Nat) = v) (hp : pc + 1 = pc') (k : q_V G M d mc ms pc' lv (.long v :: st) ws post) : q_V G M d mc ms pc lv (st) ws post := by
  subst hp
  intro _ _ s _ _ _ _ _ R H _ cl0 sl0 d0 A _ X ls hl
  exact lv_lconst X.1.1 X.1.2.1 hd hv (k X ls hl)
theorem q_dconst0 (hd : decode M.2.2.1 pc = .ok (.dconst 0, 1)) (hp : pc + 1 = pc') (k : q_V G M d mc ms pc' lv (.double FP.dconst0 :: st) ws post) : q_V G M d mc ms pc lv (st) ws post := by
  subst hp
  intro _ _ s _ _ _ _ _ R H _ cl0 sl0 d0 A _ X ls hl
  exact lv_dconst0 X.1.1 X.1.2.1 hd (k X ls hl)
theorem q_dconst1 (hd : decode M.2.2.1 pc = .ok (.dconst 1, 1)) (hp : pc + 1 = pc') (k : q_V G M d mc ms pc' lv (.double FP.dconst1 :: st) ws post) : q_V G M d mc ms pc lv (st) ws post := by
  subst hp
  intro _ _ s _ _ _ _ _ R H _ cl0 sl0 d0 A _ X ls hl
  exact lv_dconst1 X.1.1 X.1.2.1 hd (k X ls hl)
theorem q_ldc {idx : Nat} {v : Int32} (hd : decode M.2.2.1 pc = .ok (.ldc idx, 2)) (hk : Cond.constant M.1 idx v ∈ tbg) (hp : pc + 2 = pc') (k : q_V G M d mc ms pc' lv (.int v :: st) ws post) : q_V G M d mc ms pc lv (st) ws post := by
  subst hp
  intro _ _ s _ _ _ _ _ R H _ cl0 sl0 d0 A _ X ls hl
  exact lv_ldc X.1.1 X.1.2.1 X.1.2.2.2.2.1 (X.ts _ hk) hd (k X ls hl)
theorem q_ldcw {idx : Nat} {v : Int32} (hd : decode M.2.2.1 pc = .ok (.ldc_w idx, 3)) (hk : Cond.constant M.1 idx v ∈ tbg) (hp : pc + 3 = pc') (k : q_V G M d mc ms pc' lv (.int v :: st) ws post) : q_V G M d mc ms pc lv (st) ws post := by
  subst hp
  intro _ _ s _ _ _ _ _ R H _ cl0 sl0 d0 A _ X ls hl
  exact lv_ldcw X.1.1 X.1.2.1 X.1.2.2.2.2.1 (X.ts _ hk) hd (k X ls hl)
theorem q_ldc2 {idx : Nat} {v : Int64} (hd : decode M.2.2.1 pc = .ok (.ldc2_w idx, 3)) (hk : Cond.constantLong M.1 idx v ∈ tbg) (hp : pc + 3 = pc') (k : q_V G M d mc ms pc' lv (.long v :: st) ws post) : q_V G M d mc ms pc lv (st) ws post := by
  subst hp
  intro _ _ s _ _ _ _ _ R H _ cl0 sl0 d0 A _ X ls hl
  exact lv_ldc2 X.1.1 X.1.2.1 X.1.2.2.2.2.1 (X.ts _ hk) hd (k X ls hl)
theorem q_ldc2d {idx : Nat} {v : UInt64} (hd : decode M.2.2.1 pc = .ok (.ldc2_w idx, 3)) (hk : Cond.constantDouble M.1 idx v ∈ tbg) (hp : pc + 3 = pc') (k : q_V G M d mc ms pc' lv (.double v :: st) ws post) : q_V G M d mc ms pc lv (st) ws post := by
  subst hp
  intro _ _ s _ _ _ _ _ R H _ cl0 sl0 d0 A _ X ls hl
  exact lv_ldc2d X.1.1 X.1.2.1 X.1.2.2.2.2.1 (X.ts _ hk) hd (k X ls hl)
theorem q_iload_n {n : Fin 4} {x : Int32} (hd : decode M.2.2.1 pc = .ok (.iload_n n, 1)) (hx : lv[(n : Nat)]? = some (some (.int x))) (hp : pc + 1 = pc') (k : q_V G M d mc ms pc' lv (.int x :: st) ws post) : q_V G M d mc ms pc lv (st) ws post := by
  subst hp
  intro _ _ s _ _ _ _ _ R H _ cl0 sl0 d0 A _ X ls hl
  exact lv_iload_n X.1.1 X.1.2.1 hd rfl (hl.2.2 _ _ hx) (k X ls hl)
theorem q_iload {i : Nat} {x : Int32} (hd : decode M.2.2.1 pc = .ok (.iload i, 2)) (hx : lv[i]? = some (some (.int x))) (hp : pc + 2 = pc') (k : q_V G M d mc ms pc' lv (.int x :: st) ws post) : q_V G M d mc ms pc lv (st) ws post := by
  subst hp
  intro _ _ s _ _ _ _ _ R H _ cl0 sl0 d0 A _ X ls hl
  exact lv_iload X.1.1 X.1.2.1 hd (hl.2.2 _ _ hx) (k X ls hl)
theorem q_istore_n {n : Fin 4} {x : Int32} (hd : decode M.2.2.1 pc = .ok (.istore_n n, 1)) (hn : (n : Nat) < M.2.2.2.1) (hv : q_st1 lv (n : Nat) (.int x) = lv') (hp : pc + 1 = pc') (k : q_V G M d mc ms pc' lv' (st) ws post) : q_V G M d mc ms pc lv (.int x :: st) ws post := by
  subst hp
  intro _ _ s _ _ _ _ _ R H _ cl0 sl0 d0 A _ X ls hl
  exact lv_istore_n X.1.1 X.1.2.1 hd rfl hl.lv hn rfl (fun ls2 hl2 => k X ls2 (q_has.of hl2 fun j z h => q_st1_mem (hv ▸ h)))
theorem q_istore {i : Nat} {x : Int32} (hd : decode M.2.2.1 pc = .ok (.istore i, 2)) (hn : i < M.2.2.2.1) (hv : q_st1 lv i (.int x) = lv') (hp : pc + 2 = pc') (k : q_V G M d mc ms pc' lv' (st) ws post) : q_V G M d mc ms pc lv (.int x :: st) ws post := by
  subst hp
  intro _ _ s _ _ _ _ _ R H _ cl0 sl0 d0 A _ X ls hl
  exact lv_istore X.1.1 X.1.2.1 hd hl.lv hn rfl (fun ls2 hl2 => k X ls2 (q_has.of hl2 fun j z h => q_st1_mem (hv ▸ h)))
theorem q_lload_n {n : Fin 4} {x : Int64} (hd : decode M.2.2.1 pc = .ok (.lload_n n, 1)) (hx : lv[(n : Nat)]? = some (some (.long x))) (hp : pc + 1 = pc') (k : q_V G M d mc ms pc' lv (.long x :: st) ws post) : q_V G M d mc ms pc lv (st) ws post := by
  subst hp
  intro _ _ s _ _ _ _ _ R H _ cl0 sl0 d0 A _ X ls hl
  exact lv_lload_n X.1.1 X.1.2.1 hd rfl (hl.2.2 _ _ hx) (k X ls hl)
theorem q_lload {i : Nat} {x : Int64} (hd : decode M.2.2.1 pc = .ok (.lload i, 2)) (hx : lv[i]? = some (some (.long x))) (hp : pc + 2 = pc') (k : q_V G M d mc ms pc' lv (.long x :: st) ws post) : q_V G M d mc ms pc lv (st) ws post := by
  subst hp
  intro _ _ s _ _ _ _ _ R H _ cl0 sl0 d0 A _ X ls hl
  exact lv_lload X.1.1 X.1.2.1 hd (hl.2.2 _ _ hx) (k X ls hl)
theorem q_lstore_n {n : Fin 4} {x : Int64} (hd : decode M.2.2.1 pc = .ok (.lstore_n n, 1)) (hn : (n : Nat) + 1 < M.2.2.2.1) (hv : q_st2 lv (n : Nat) (.long x) = lv') (hp : pc + 1 = pc') (k : q_V G M d mc ms pc' lv' (st) ws post) : q_V G M d mc ms pc lv (.long x :: st) ws post := by
  subst hp
  intro _ _ s _ _ _ _ _ R H _ cl0 sl0 d0 A _ X ls hl
  exact lv_lstore_n X.1.1 X.1.2.1 hd rfl hl.lv hn rfl (fun ls2 hl2 => k X ls2 (q_has.of hl2 fun j z h => q_st2_mem (hv ▸ h)))
theorem q_lstore {i : Nat} {x : Int64} (hd : decode M.2.2.1 pc = .ok (.lstore i, 2)) (hn : i + 1 < M.2.2.2.1) (hv : q_st2 lv i (.long x) = lv') (hp : pc + 2 = pc') (k : q_V G M d mc ms pc' lv' (st) ws post) : q_V G M d mc ms pc lv (.long x :: st) ws post := by
  subst hp
  intro _ _ s _ _ _ _ _ R H _ cl0 sl0 d0 A _ X ls hl
  exact lv_lstore X.1.1 X.1.2.1 hd hl.lv hn rfl (fun ls2 hl2 => k X ls2 (q_has.of hl2 fun j z h => q_st2_mem (hv ▸ h)))
theorem q_dload_n {n : Fin 4} {x : UInt64} (hd : decode M.2.2.1 pc = .ok (.dload_n n, 1)) (hx : lv[(n : Nat)]? = some (some (.double x))) (hp : pc + 1 = pc') (k : q_V G M d mc ms pc' lv (.double x :: st) ws post) : q_V G M d mc ms pc lv (st) ws post := by
  subst hp
  intro _ _ s _ _ _ _ _ R H _ cl0 sl0 d0 A _ X ls hl
  exact lv_dload_n X.1.1 X.1.2.1 hd rfl (hl.2.2 _ _ hx) (k X ls hl)
theorem q_dload {i : Nat} {x : UInt64} (hd : decode M.2.2.1 pc = .ok (.dload i, 2)) (hx : lv[i]? = some (some (.double x))) (hp : pc + 2 = pc') (k : q_V G M d mc ms pc' lv (.double x :: st) ws post) : q_V G M d mc ms pc lv (st) ws post := by
  subst hp
  intro _ _ s _ _ _ _ _ R H _ cl0 sl0 d0 A _ X ls hl
  exact lv_dload X.1.1 X.1.2.1 hd (hl.2.2 _ _ hx) (k X ls hl)
theorem q_dstore_n {n : Fin 4} {x : UInt64} (hd : decode M.2.2.1 pc = .ok (.dstore_n n, 1)) (hn : (n : Nat) + 1 < M.2.2.2.1) (hv : q_st2 lv (n : Nat) (.double x) = lv') (hp : pc + 1 = pc') (k : q_V G M d mc ms pc' lv' (st) ws post) : q_V G M d mc ms pc lv (.double x :: st) ws post := by
  subst hp
  intro _ _ s _ _ _ _ _ R H _ cl0 sl0 d0 A _ X ls hl
  exact lv_dstore_n X.1.1 X.1.2.1 hd rfl hl.lv hn rfl (fun ls2 hl2 => k X ls2 (q_has.of hl2 fun j z h => q_st2_mem (hv ▸ h)))
theorem q_dstore {i : Nat} {x : UInt64} (hd : decode M.2.2.1 pc = .ok (.dstore i, 2)) (hn : i + 1 < M.2.2.2.1) (hv : q_st2 lv i (.double x) = lv') (hp : pc + 2 = pc') (k : q_V G M d mc ms pc' lv' (st) ws post) : q_V G M d mc ms pc lv (.double x :: st) ws post := by
  subst hp
  intro _ _ s _ _ _ _ _ R H _ cl0 sl0 d0 A _ X ls hl
  exact lv_dstore X.1.1 X.1.2.1 hd hl.lv hn rfl (fun ls2 hl2 => k X ls2 (q_has.of hl2 fun j z h => q_st2_mem (hv ▸ h)))
theorem q_aload_n {n : Fin 4} {x : Nat} (hd : decode M.2.2.1 pc = .ok (.aload_n n, 1)) (hx : lv[(n : Nat)]? = some (some (.ref x))) (hp : pc + 1 = pc') (k : q_V G M d mc ms pc' lv (.ref x :: st) ws post) : q_V G M d mc ms pc lv (st) ws post := by
  subst hp
  intro _ _ s _ _ _ _ _ R H _ cl0 sl0 d0 A _ X ls hl
  exact lv_aload_n X.1.1 X.1.2.1 hd rfl (hl.2.2 _ _ hx) (k X ls hl)
theorem q_aload {i : Nat} {x : Nat} (hd : decode M.2.2.1 pc = .ok (.aload i, 2)) (hx : lv[i]? = some (some (.ref x))) (hp : pc + 2 = pc') (k : q_V G M d mc ms pc' lv (.ref x :: st) ws post) : q_V G M d mc ms pc lv (st) ws post := by
  subst hp
  intro _ _ s _ _ _ _ _ R H _ cl0 sl0 d0 A _ X ls hl
  exact lv_aload X.1.1 X.1.2.1 hd (hl.2.2 _ _ hx) (k X ls hl)
theorem q_astore_n {n : Fin 4} {x : Nat} (hd : decode M.2.2.1 pc = .ok (.astore_n n, 1)) (hn : (n : Nat) < M.2.2.2.1) (hv : q_st1 lv (n : Nat) (.ref x) = lv') (hp : pc + 1 = pc') (k : q_V G M d mc ms pc' lv' (st) ws post) : q_V G M d mc ms pc lv (.ref x :: st) ws post := by
  subst hp
  intro _ _ s _ _ _ _ _ R H _ cl0 sl0 d0 A _ X ls hl
  exact lv_astore_n X.1.1 X.1.2.1 hd rfl hl.lv hn rfl (fun ls2 hl2 => k X ls2 (q_has.of hl2 fun j z h => q_st1_mem (hv ▸ h)))
theorem q_astore {i : Nat} {x : Nat} (hd : decode M.2.2.1 pc = .ok (.astore i, 2)) (hn : i < M.2.2.2.1) (hv : q_st1 lv i (.ref x) = lv') (hp : pc + 2 = pc') (k : q_V G M d mc ms pc' lv' (st) ws post) : q_V G M d mc ms pc lv (.ref x :: st) ws post := by
  subst hp
  intro _ _ s _ _ _ _ _ R H _ cl0 sl0 d0 A _ X ls hl
  exact lv_astore X.1.1 X.1.2.1 hd hl.lv hn rfl (fun ls2 hl2 => k X ls2 (q_has.of hl2 fun j z h => q_st1_mem (hv ▸ h)))
theorem q_iinc {i : Nat} {n : Int} {x : Int32} (hd : decode M.2.2.1 pc = .ok (.iinc i n, 3)) (hx : lv[i]? = some (some (.int x))) (hn : i < M.2.2.2.1) (hv : q_st1 lv i (.int (x + Int32.ofInt n)) = lv') (hp : pc + 3 = pc') (k : q_V G M d mc ms pc' lv' st ws post) : q_V G M d mc ms pc lv st ws post := by
  subst hp
  intro _ _ s _ _ _ _ _ R H _ cl0 sl0 d0 A _ X ls hl
  obtain ⟨j, hj⟩ := List.getElem?_of_mem (q_al_mem.mpr hx)
  exact lv_iinc X.1.1 X.1.2.1 hd hl.lv hj rfl hn rfl (fun ls2 hl2 => k X ls2 (q_has.of hl2 fun j z h => q_st1_mem (hv ▸ h)))
theorem q_iadd {x y : Int32} (hd : decode M.2.2.1 pc = .ok (.iadd, 1)) (hp : pc + 1 = pc') (k : q_V G M d mc ms pc' lv (.int (x + y) :: st) ws post) : q_V G M d mc ms pc lv (.int y :: .int x :: st) ws post := by
  subst hp
  intro _ _ s _ _ _ _ _ R H _ cl0 sl0 d0 A _ X ls hl
  exact lv_iadd X.1.1 X.1.2.1 hd (k X ls hl)
theorem q_isub {x y : Int32} (hd : decode M.2.2.1 pc = .ok (.isub, 1)) (hp : pc + 1 = pc') (k : q_V G M d mc ms pc' lv (.int (x - y) :: st) ws post) : q_V G M d mc ms pc lv (.int y :: .int x :: st) ws post := by
  subst hp
  intro _ _ s _ _ _ _ _ R H _ cl0 sl0 d0 A _ X ls hl
  exact lv_isub X.1.1 X.1.2.1 hd (k X ls hl)
theorem q_imul {x y : Int32} (hd : decode M.2.2.1 pc = .ok (.imul, 1)) (hp : pc + 1 = pc') (k : q_V G M d mc ms pc' lv (.int (x * y) :: st) ws post) : q_V G M d mc ms pc lv (.int y :: .int x :: st) ws post := by
  subst hp
  intro _ _ s _ _ _ _ _ R H _ cl0 sl0 d0 A _ X ls hl
  exact lv_imul X.1.1 X.1.2.1 hd (k X ls hl)
theorem q_iand {x y : Int32} (hd : decode M.2.2.1 pc = .ok (.iand, 1)) (hp : pc + 1 = pc') (k : q_V G M d mc ms pc' lv (.int (x &&& y) :: st) ws post) : q_V G M d mc ms pc lv (.int y :: .int x :: st) ws post := by
  subst hp
  intro _ _ s _ _ _ _ _ R H _ cl0 sl0 d0 A _ X ls hl
  exact lv_iand X.1.1 X.1.2.1 hd (k X ls hl)
theorem q_ior {x y : Int32} (hd : decode M.2.2.1 pc = .ok (.ior, 1)) (hp : pc + 1 = pc') (k : q_V G M d mc ms pc' lv (.int (x ||| y) :: st) ws post) : q_V G M d mc ms pc lv (.int y :: .int x :: st) ws post := by
  subst hp
  intro _ _ s _ _ _ _ _ R H _ cl0 sl0 d0 A _ X ls hl
  exact lv_ior X.1.1 X.1.2.1 hd (k X ls hl)
theorem q_ixor {x y : Int32} (hd : decode M.2.2.1 pc = .ok (.ixor, 1)) (hp : pc + 1 = pc') (k : q_V G M d mc ms pc' lv (.int (x ^^^ y) :: st) ws post) : q_V G M d mc ms pc lv (.int y :: .int x :: st) ws post := by
  subst hp
  intro _ _ s _ _ _ _ _ R H _ cl0 sl0 d0 A _ X ls hl
  exact lv_ixor X.1.1 X.1.2.1 hd (k X ls hl)
theorem q_ladd {x y : Int64} (hd : decode M.2.2.1 pc = .ok (.ladd, 1)) (hp : pc + 1 = pc') (k : q_V G M d mc ms pc' lv (.long (x + y) :: st) ws post) : q_V G M d mc ms pc lv (.long y :: .long x :: st) ws post := by
  subst hp
  intro _ _ s _ _ _ _ _ R H _ cl0 sl0 d0 A _ X ls hl
  exact lv_ladd X.1.1 X.1.2.1 hd (k X ls hl)
theorem q_lsub {x y : Int64} (hd : decode M.2.2.1 pc = .ok (.lsub, 1)) (hp : pc + 1 = pc') (k : q_V G M d mc ms pc' lv (.long (x - y) :: st) ws post) : q_V G M d mc ms pc lv (.long y :: .long x :: st) ws post := by
  subst hp
  intro _ _ s _ _ _ _ _ R H _ cl0 sl0 d0 A _ X ls hl
  exact lv_lsub X.1.1 X.1.2.1 hd (k X ls hl)
theorem q_lmul {x y : Int64} (hd : decode M.2.2.1 pc = .ok (.lmul, 1)) (hp : pc + 1 = pc') (k : q_V G M d mc ms pc' lv (.long (x * y) :: st) ws post) : q_V G M d mc ms pc lv (.long y :: .long x :: st) ws post := by
  subst hp
  intro _ _ s _ _ _ _ _ R H _ cl0 sl0 d0 A _ X ls hl
  exact lv_lmul X.1.1 X.1.2.1 hd (k X ls hl)
theorem q_land {x y : Int64} (hd : decode M.2.2.1 pc = .ok (.land, 1)) (hp : pc + 1 = pc') (k : q_V G M d mc ms pc' lv (.long (x &&& y) :: st) ws post) : q_V G M d mc ms pc lv (.long y :: .long x :: st) ws post := by
  subst hp
  intro _ _ s _ _ _ _ _ R H _ cl0 sl0 d0 A _ X ls hl
  exact lv_land X.1.1 X.1.2.1 hd (k X ls hl)
theorem q_lor {x y : Int64} (hd : decode M.2.2.1 pc = .ok (.lor, 1)) (hp : pc + 1 = pc') (k : q_V G M d mc ms pc' lv (.long (x ||| y) :: st) ws post) : q_V G M d mc ms pc lv (.long y :: .long x :: st) ws post := by
  subst hp
  intro _ _ s _ _ _ _ _ R H _ cl0 sl0 d0 A _ X ls hl
  exact lv_lor X.1.1 X.1.2.1 hd (k X ls hl)
theorem q_lxor {x y : Int64} (hd : decode M.2.2.1 pc = .ok (.lxor, 1)) (hp : pc + 1 = pc') (k : q_V G M d mc ms pc' lv (.long (x ^^^ y) :: st) ws post) : q_V G M d mc ms pc lv (.long y :: .long x :: st) ws post := by
  subst hp
  intro _ _ s _ _ _ _ _ R H _ cl0 sl0 d0 A _ X ls hl
  exact lv_lxor X.1.1 X.1.2.1 hd (k X ls hl)
theorem q_idiv {x y : Int32} (hd : decode M.2.2.1 pc = .ok (.idiv, 1)) (hne : ¬ y = 0) (hp : pc + 1 = pc') (k : q_V G M d mc ms pc' lv (.int (x / y) :: st) ws post) : q_V G M d mc ms pc lv (.int y :: .int x :: st) ws post := by
  subst hp
  intro _ _ s _ _ _ _ _ R H _ cl0 sl0 d0 A _ X ls hl
  exact lv_idiv X.1.1 X.1.2.1 hd hne (k X ls hl)
theorem q_irem {x y : Int32} (hd : decode M.2.2.1 pc = .ok (.irem, 1)) (hne : ¬ y = 0) (hp : pc + 1 = pc') (k : q_V G M d mc ms pc' lv (.int (x - x / y * y) :: st) ws post) : q_V G M d mc ms pc lv (.int y :: .int x :: st) ws post := by
  subst hp
  intro _ _ s _ _ _ _ _ R H _ cl0 sl0 d0 A _ X ls hl
  exact lv_irem X.1.1 X.1.2.1 hd hne (k X ls hl)
theorem q_ineg {x : Int32} (hd : decode M.2.2.1 pc = .ok (.ineg, 1)) (hp : pc + 1 = pc') (k : q_V G M d mc ms pc' lv (.int (-x) :: st) ws post) : q_V G M d mc ms pc lv (.int x :: st) ws post := by
  subst hp
  intro _ _ s _ _ _ _ _ R H _ cl0 sl0 d0 A _ X ls hl
  exact lv_ineg X.1.1 X.1.2.1 hd (k X ls hl)
theorem q_ishl {x y : Int32} (hd : decode M.2.2.1 pc = .ok (.ishl, 1)) (hp : pc + 1 = pc') (k : q_V G M d mc ms pc' lv (.int (x <<< (y &&& 31)) :: st) ws post) : q_V G M d mc ms pc lv (.int y :: .int x :: st) ws post := by
  subst hp
  intro _ _ s _ _ _ _ _ R H _ cl0 sl0 d0 A _ X ls hl
  exact lv_ishl X.1.1 X.1.2.1 hd (k X ls hl)
theorem q_ishr {x y : Int32} (hd : decode M.2.2.1 pc = .ok (.ishr, 1)) (hp : pc + 1 = pc') (k : q_V G M d mc ms pc' lv (.int (x >>> (y &&& 31)) :: st) ws post) : q_V G M d mc ms pc lv (.int y :: .int x :: st) ws post := by
  subst hp
  intro _ _ s _ _ _ _ _ R H _ cl0 sl0 d0 A _ X ls hl
  exact lv_ishr X.1.1 X.1.2.1 hd (k X ls hl)
theorem q_iushr {x y v : Int32} (hd : decode M.2.2.1 pc = .ok (.iushr, 1)) (hv : (x.toUInt32 >>> (y.toUInt32 &&& Int32.toUInt32 31)).toInt32 = v) (hp : pc + 1 = pc') (k : q_V G M d mc ms pc' lv (.int v :: st) ws post) : q_V G M d mc ms pc lv (.int y :: .int x :: st) ws post := by
  subst hp
  intro _ _ s _ _ _ _ _ R H _ cl0 sl0 d0 A _ X ls hl
  exact lv_iushr X.1.1 X.1.2.1 hd hv (k X ls hl)
theorem q_lushr {x v : Int64} {y : Int32} (hd : decode M.2.2.1 pc = .ok (.lushr, 1)) (hv : (x.toUInt64 >>> (y.toInt64.toUInt64 &&& Int64.toUInt64 63)).toInt64 = v) (hp : pc + 1 = pc') (k : q_V G M d mc ms pc' lv (.long v :: st) ws post) : q_V G M d mc ms pc lv (.int y :: .long x :: st) ws post := by
  subst hp
  intro _ _ s _ _ _ _ _ R H _ cl0 sl0 d0 A _ X ls hl
  exact lv_lushr X.1.1 X.1.2.1 hd hv (k X ls hl)
theorem q_lshl {x v : Int64} {y : Int32} (hd : decode M.2.2.1 pc = .ok (.lshl, 1)) (hv : x <<< (y.toInt64 &&& 63) = v) (hp : pc + 1 = pc') (k : q_V G M d mc ms pc' lv (.long v :: st) ws post) : q_V G M d mc ms pc lv (.int y :: .long x :: st) ws post := by
  subst hp
  intro _ _ s _ _ _ _ _ R H _ cl0 sl0 d0 A _ X ls hl
  exact lv_lshl X.1.1 X.1.2.1 hd hv (k X ls hl)
theorem q_i2l {x : Int32} (hd : decode M.2.2.1 pc = .ok (.i2l, 1)) (hp : pc + 1 = pc') (k : q_V G M d mc ms pc' lv (.long x.toInt64 :: st) ws post) : q_V G M d mc ms pc lv (.int x :: st) ws post := by
  subst hp
  intro _ _ s _ _ _ _ _ R H _ cl0 sl0 d0 A _ X ls hl
  exact lv_i2l X.1.1 X.1.2.1 hd rfl (k X ls hl)
theorem q_l2i {x : Int64} (hd : decode M.2.2.1 pc = .ok (.l2i, 1)) (hp : pc + 1 = pc') (k : q_V G M d mc ms pc' lv (.int x.toInt32 :: st) ws post) : q_V G M d mc ms pc lv (.long x :: st) ws post := by
  subst hp
  intro _ _ s _ _ _ _ _ R H _ cl0 sl0 d0 A _ X ls hl
  exact lv_l2i X.1.1 X.1.2.1 hd rfl (k X ls hl)
theorem q_l2d {x : Int64} (hd : decode M.2.2.1 pc = .ok (.l2d, 1)) (hp : pc + 1 = pc') (k : q_V G M d mc ms pc' lv (.double (FP.l2d x) :: st) ws post) : q_V G M d mc ms pc lv (.long x :: st) ws post := by
  subst hp
  intro _ _ s _ _ _ _ _ R H _ cl0 sl0 d0 A _ X ls hl
  exact lv_l2d X.1.1 X.1.2.1 hd (k X ls hl)
theorem q_d2l {x : UInt64} (hd : decode M.2.2.1 pc = .ok (.d2l, 1)) (hp : pc + 1 = pc') (k : q_V G M d mc ms pc' lv (.long (FP.d2l x) :: st) ws post) : q_V G M d mc ms pc lv (.double x :: st) ws post := by
  subst hp
  intro _ _ s _ _ _ _ _ R H _ cl0 sl0 d0 A _ X ls hl
  exact lv_d2l X.1.1 X.1.2.1 hd (k X ls hl)
theorem q_dneg {x : UInt64} (hd : decode M.2.2.1 pc = .ok (.dneg, 1)) (hp : pc + 1 = pc') (k : q_V G M d mc ms pc' lv (.double (FP.dneg x) :: st) ws post) : q_V G M d mc ms pc lv (.double x :: st) ws post := by
  subst hp
  intro _ _ s _ _ _ _ _ R H _ cl0 sl0 d0 A _ X ls hl
  exact lv_dneg X.1.1 X.1.2.1 hd (k X ls hl)
theorem q_dadd {x y : UInt64} (hd : decode M.2.2.1 pc = .ok (.dadd, 1)) (hne : vf_n64 (FP.dadd x y)) (hp : pc + 1 = pc') (k : q_V G M d mc ms pc' lv (.double (FP.dadd x y) :: st) ws post) : q_V G M d mc ms pc lv (.double y :: .double x :: st) ws post := by
  subst hp
  intro _ _ s _ _ _ _ _ R H _ cl0 sl0 d0 A _ X ls hl
  exact lv_dadd X.1.1 X.1.2.1 hd hne (k X ls hl)
theorem q_dsub {x y : UInt64} (hd : decode M.2.2.1 pc = .ok (.dsub, 1)) (hne : vf_n64 (FP.dsub x y)) (hp : pc + 1 = pc') (k : q_V G M d mc ms pc' lv (.double (FP.dsub x y) :: st) ws post) : q_V G M d mc ms pc lv (.double y :: .double x :: st) ws post := by
  subst hp
  intro _ _ s _ _ _ _ _ R H _ cl0 sl0 d0 A _ X ls hl
  exact lv_dsub X.1.1 X.1.2.1 hd hne (k X ls hl)
theorem q_dmul {x y : UInt64} (hd : decode M.2.2.1 pc = .ok (.dmul, 1)) (hne : vf_n64 (FP.dmul x y)) (hp : pc + 1 = pc') (k : q_V G M d mc ms pc' lv (.double (FP.dmul x y) :: st) ws post) : q_V G M d mc ms pc lv (.double y :: .double x :: st) ws post := by
  subst hp
  intro _ _ s _ _ _ _ _ R H _ cl0 sl0 d0 A _ X ls hl
  exact lv_dmul X.1.1 X.1.2.1 hd hne (k X ls hl)
theorem q_ddiv {x y : UInt64} (hd : decode M.2.2.1 pc = .ok (.ddiv, 1)) (hne : vf_n64 (FP.ddiv x y)) (hp : pc + 1 = pc') (k : q_V G M d mc ms pc' lv (.double (FP.ddiv x y) :: st) ws post) : q_V G M d mc ms pc lv (.double y :: .double x :: st) ws post := by
  subst hp
  intro _ _ s _ _ _ _ _ R H _ cl0 sl0 d0 A _ X ls hl
  exact lv_ddiv X.1.1 X.1.2.1 hd hne (k X ls hl)
theorem q_dadd_any {x y : UInt64} (hd : decode M.2.2.1 pc = .ok (.dadd, 1)) (hp : pc + 1 = pc') (k : ∀ r : UInt64, alike64 r (FP.dadd x y) = true → q_V G M d mc ms pc' lv (.double r :: st) ws post) : q_V G M d mc ms pc lv (.double y :: .double x :: st) ws post := by
  subst hp
  intro _ _ s _ _ _ _ _ R H _ cl0 sl0 d0 A _ X ls hl
  exact lv_dadd_any X.2.1 lw_bits X.1.1 X.1.2.1 hd (fun r d1 hal hd1 => k r hal (X.draw hd1) ls hl)
theorem q_lcmp {x y : Int64} (hd : decode M.2.2.1 pc = .ok (.lcmp, 1)) (hp : pc + 1 = pc') (k : q_V G M d mc ms pc' lv (.int (lg_cmp x y) :: st) ws post) : q_V G M d mc ms pc lv (.long y :: .long x :: st) ws post := by
  subst hp
  intro _ _ s _ _ _ _ _ R H _ cl0 sl0 d0 A _ X ls hl
  exact W.lcmp X.1.1 X.1.2.1 hd (k X ls hl)
theorem q_dcmp {x y : UInt64} {op : CmpOp} (hd : decode M.2.2.1 pc = .ok (.dcmp op, 1)) (hp : pc + 1 = pc') (k : q_V G M d mc ms pc' lv (.int (Op.cmpValue (FP.dcmp x y) op) :: st) ws post) : q_V G M d mc ms pc lv (.double y :: .double x :: st) ws post := by
  subst hp
  intro _ _ s _ _ _ _ _ R H _ cl0 sl0 d0 A _ X ls hl
  exact lv_dcmp X.1.1 X.1.2.1 hd (k X ls hl)
theorem q_dup {a : Value} (hd : decode M.2.2.1 pc = .ok (.dup, 1)) (ha : a.category = 1) (hp : pc + 1 = pc') (k : q_V G M d mc ms pc' lv (a :: a :: st) ws post) : q_V G M d mc ms pc lv (a :: st) ws post := by
  subst hp
  intro _ _ s _ _ _ _ _ R H _ cl0 sl0 d0 A _ X ls hl
  exact lv_dup X.1.1 X.1.2.1 hd ha (k X ls hl)
theorem q_pop {a : Value} (hd : decode M.2.2.1 pc = .ok (.pop, 1)) (ha : a.category = 1) (hp : pc + 1 = pc') (k : q_V G M d mc ms pc' lv (st) ws post) : q_V G M d mc ms pc lv (a :: st) ws post := by
  subst hp
  intro _ _ s _ _ _ _ _ R H _ cl0 sl0 d0 A _ X ls hl
  exact lv_pop X.1.1 X.1.2.1 hd ha (k X ls hl)
theorem q_pop2 {a : Value} (hd : decode M.2.2.1 pc = .ok (.pop2, 1)) (ha : a.category = 2) (hp : pc + 1 = pc') (k : q_V G M d mc ms pc' lv (st) ws post) : q_V G M d mc ms pc lv (a :: st) ws post := by
  subst hp
  intro _ _ s _ _ _ _ _ R H _ cl0 sl0 d0 A _ X ls hl
  exact lv_pop2_2 X.1.1 X.1.2.1 hd ha (k X ls hl)
theorem q_dup_x1 {a b : Value} (hd : decode M.2.2.1 pc = .ok (.dup_x1, 1)) (ha : a.category = 1) (hb : b.category = 1) (hp : pc + 1 = pc') (k : q_V G M d mc ms pc' lv (a :: b :: a :: st) ws post) : q_V G M d mc ms pc lv (a :: b :: st) ws post := by
  subst hp
  intro _ _ s _ _ _ _ _ R H _ cl0 sl0 d0 A _ X ls hl
  exact lv_dup_x1 X.1.1 X.1.2.1 hd ha hb (k X ls hl)
theorem q_dup2_11 {a b : Value} (hd : decode M.2.2.1 pc = .ok (.dup2, 1)) (ha : a.category = 1) (hb : b.category = 1) (hp : pc + 1 = pc') (k : q_V G M d mc ms pc' lv (a :: b :: a :: b :: st) ws post) : q_V G M d mc ms pc lv (a :: b :: st) ws post := by
  subst hp
  intro _ _ s _ _ _ _ _ R H _ cl0 sl0 d0 A _ X ls hl
  exact lv_dup2_11 X.1.1 X.1.2.1 hd ha hb (k X ls hl)
theorem q_dup2_2 {a : Value} (hd : decode M.2.2.1 pc = .ok (.dup2, 1)) (ha : a.category = 2) (hp : pc + 1 = pc') (k : q_V G M d mc ms pc' lv (a :: a :: st) ws post) : q_V G M d mc ms pc lv (a :: st) ws post := by
  subst hp
  intro _ _ s _ _ _ _ _ R H _ cl0 sl0 d0 A _ X ls hl
  exact lv_dup2_2 X.1.1 X.1.2.1 hd ha (k X ls hl)
theorem q_goto {off : Int} (hd : decode M.2.2.1 pc = .ok (.goto off, 3)) (hp : (pc : Int) + off = (pc' : Int)) (k : q_V G M d mc ms pc' lv st ws post) : q_V G M d mc ms pc lv st ws post := by
  intro _ _ s _ _ _ _ _ R H _ cl0 sl0 d0 A _ X ls hl
  exact lv_goto X.1.1 X.1.2.1 hd hp (k X ls hl)
theorem q_if_eq {x : Int32} {tgt : Nat} {off : Int} (hd : decode M.2.2.1 pc = .ok (.ifCond .eq off, 3)) (ht : (pc : Int) + off = (tgt : Int)) (hp : pc + 3 = pc') (kt : x = 0 → q_V G M d mc ms tgt lv st ws post) (kf : ¬ x = 0 → q_V G M d mc ms pc' lv st ws post) : q_V G M d mc ms pc lv (.int x :: st) ws post := by
  subst hp
  intro _ _ s _ _ _ _ _ R H _ cl0 sl0 d0 A _ X ls hl
  exact lv_if_eq X.1.1 X.1.2.1 hd ht (fun h => kt h X ls hl) (fun h => kf h X ls hl)
theorem q_icmp_eq {x y : Int32} {tgt : Nat} {off : Int} (hd : decode M.2.2.1 pc = .ok (.if_icmp .eq off, 3)) (ht : (pc : Int) + off = (tgt : Int)) (hp : pc + 3 = pc') (kt : x = y → q_V G M d mc ms tgt lv st ws post) (kf : ¬ x = y → q_V G M d mc ms pc' lv st ws post) : q_V G M d mc ms pc lv (.int y :: .int x :: st) ws post := by
  subst hp
  intro _ _ s _ _ _ _ _ R H _ cl0 sl0 d0 A _ X ls hl
  exact lv_icmp_eq X.1.1 X.1.2.1 hd ht (fun h => kt h X ls hl) (fun h => kf h X ls hl)
theorem q_if_ne {x : Int32} {tgt : Nat} {off : Int} (hd : decode M.2.2.1 pc = .ok (.ifCond .ne off, 3)) (ht : (pc : Int) + off = (tgt : Int)) (hp : pc + 3 = pc') (kt : ¬ x = 0 → q_V G M d mc ms tgt lv st ws post) (kf : x = 0 → q_V G M d mc ms pc' lv st ws post) : q_V G M d mc ms pc lv (.int x :: st) ws post := by
  subst hp
  intro _ _ s _ _ _ _ _ R H _ cl0 sl0 d0 A _ X ls hl
  exact lv_if_ne X.1.1 X.1.2.1 hd ht (fun h => kt h X ls hl) (fun h => kf h X ls hl)
theorem q_icmp_ne {x y : Int32} {tgt : Nat} {off : Int} (hd : decode M.2.2.1 pc = .ok (.if_icmp .ne off, 3)) (ht : (pc : Int) + off = (tgt : Int)) (hp : pc + 3 = pc') (kt : ¬ x = y → q_V G M d mc ms tgt lv st ws post) (kf : x = y → q_V G M d mc ms pc' lv st ws post) : q_V G M d mc ms pc lv (.int y :: .int x :: st) ws post := by
  subst hp
  intro _ _ s _ _ _ _ _ R H _ cl0 sl0 d0 A _ X ls hl
  exact lv_icmp_ne X.1.1 X.1.2.1 hd ht (fun h => kt h X ls hl) (fun h => kf h X ls hl)
theorem q_if_lt {x : Int32} {tgt : Nat} {off : Int} (hd : decode M.2.2.1 pc = .ok (.ifCond .lt off, 3)) (ht : (pc : Int) + off = (tgt : Int)) (hp : pc + 3 = pc') (kt : x < 0 → q_V G M d mc ms tgt lv st ws post) (kf : ¬ x < 0 → q_V G M d mc ms pc' lv st ws post) : q_V G M d mc ms pc lv (.int x :: st) ws post := by
  subst hp
  intro _ _ s _ _ _ _ _ R H _ cl0 sl0 d0 A _ X ls hl
  exact lv_if_lt X.1.1 X.1.2.1 hd ht (fun h => kt h X ls hl) (fun h => kf h X ls hl)
theorem q_icmp_lt {x y : Int32} {tgt : Nat} {off : Int} (hd : decode M.2.2.1 pc = .ok (.if_icmp .lt off, 3)) (ht : (pc : Int) + off = (tgt : Int)) (hp : pc + 3 = pc') (kt : x < y → q_V G M d mc ms tgt lv st ws post) (kf : ¬ x < y → q_V G M d mc ms pc' lv st ws post) : q_V G M d mc ms pc lv (.int y :: .int x :: st) ws post := by
  subst hp
  intro _ _ s _ _ _ _ _ R H _ cl0 sl0 d0 A _ X ls hl
  exact lv_icmp_lt X.1.1 X.1.2.1 hd ht (fun h => kt h X ls hl) (fun h => kf h X ls hl)
theorem q_if_ge {x : Int32} {tgt : Nat} {off : Int} (hd : decode M.2.2.1 pc = .ok (.ifCond .ge off, 3)) (ht : (pc : Int) + off = (tgt : Int)) (hp : pc + 3 = pc') (kt : 0 ≤ x → q_V G M d mc ms tgt lv st ws post) (kf : ¬ 0 ≤ x → q_V G M d mc ms pc' lv st ws post) : q_V G M d mc ms pc lv (.int x :: st) ws post := by
  subst hp
  intro _ _ s _ _ _ _ _ R H _ cl0 sl0 d0 A _ X ls hl
  exact lv_if_ge X.1.1 X.1.2.1 hd ht (fun h => kt h X ls hl) (fun h => kf h X ls hl)
theorem q_icmp_ge {x y : Int32} {tgt : Nat} {off : Int} (hd : decode M.2.2.1 pc = .ok (.if_icmp .ge off, 3)) (ht : (pc : Int) + off = (tgt : Int)) (hp : pc + 3 = pc') (kt : y ≤ x → q_V G M d mc ms tgt lv st ws post) (kf : ¬ y ≤ x → q_V G M d mc ms pc' lv st ws post) : q_V G M d mc ms pc lv (.int y :: .int x :: st) ws post := by
  subst hp
  intro _ _ s _ _ _ _ _ R H _ cl0 sl0 d0 A _ X ls hl
  exact lv_icmp_ge X.1.1 X.1.2.1 hd ht (fun h => kt h X ls hl) (fun h => kf h X ls hl)
theorem q_if_gt {x : Int32} {tgt : Nat} {off : Int} (hd : decode M.2.2.1 pc = .ok (.ifCond .gt off, 3)) (ht : (pc : Int) + off = (tgt : Int)) (hp : pc + 3 = pc') (kt : 0 < x → q_V G M d mc ms tgt lv st ws post) (kf : ¬ 0 < x → q_V G M d mc ms pc' lv st ws post) : q_V G M d mc ms pc lv (.int x :: st) ws post := by
  subst hp
  intro _ _ s _ _ _ _ _ R H _ cl0 sl0 d0 A _ X ls hl
  exact lv_if_gt X.1.1 X.1.2.1 hd ht (fun h => kt h X ls hl) (fun h => kf h X ls hl)
theorem q_icmp_gt {x y : Int32} {tgt : Nat} {off : Int} (hd : decode M.2.2.1 pc = .ok (.if_icmp .gt off, 3)) (ht : (pc : Int) + off = (tgt : Int)) (hp : pc + 3 = pc') (kt : y < x → q_V G M d mc ms tgt lv st ws post) (kf : ¬ y < x → q_V G M d mc ms pc' lv st ws post) : q_V G M d mc ms pc lv (.int y :: .int x :: st) ws post := by
  subst hp
  intro _ _ s _ _ _ _ _ R H _ cl0 sl0 d0 A _ X ls hl
  exact lv_icmp_gt X.1.1 X.1.2.1 hd ht (fun h => kt h X ls hl) (fun h => kf h X ls hl)
theorem q_if_le {x : Int32} {tgt : Nat} {off : Int} (hd : decode M.2.2.1 pc = .ok (.ifCond .le off, 3)) (ht : (pc : Int) + off = (tgt : Int)) (hp : pc + 3 = pc') (kt : x ≤ 0 → q_V G M d mc ms tgt lv st ws post) (kf : ¬ x ≤ 0 → q_V G M d mc ms pc' lv st ws post) : q_V G M d mc ms pc lv (.int x :: st) ws post := by
  subst hp
  intro _ _ s _ _ _ _ _ R H _ cl0 sl0 d0 A _ X ls hl
  exact lv_if_le X.1.1 X.1.2.1 hd ht (fun h => kt h X ls hl) (fun h => kf h X ls hl)
theorem q_icmp_le {x y : Int32} {tgt : Nat} {off : Int} (hd : decode M.2.2.1 pc = .ok (.if_icmp .le off, 3)) (ht : (pc : Int) + off = (tgt : Int)) (hp : pc + 3 = pc') (kt : x ≤ y → q_V G M d mc ms tgt lv st ws post) (kf : ¬ x ≤ y → q_V G M d mc ms pc' lv st ws post) : q_V G M d mc ms pc lv (.int y :: .int x :: st) ws post := by
  subst hp
  intro _ _ s _ _ _ _ _ R H _ cl0 sl0 d0 A _ X ls hl
  exact lv_icmp_le X.1.1 X.1.2.1 hd ht (fun h => kt h X ls hl) (fun h => kf h X ls hl)
theorem q_tabIn {dflt lo hi : Int} {offs : Array Int} {len : Nat} {x : Int32} {off : Int} {tgt : Nat} (hd : decode M.2.2.1 pc = .ok (.tableswitch dflt lo hi offs, len)) (h1 : ¬ x.toInt < lo) (h2 : ¬ hi < x.toInt) (ho : offs[(x.toInt - lo).toNat]? = some off) (ht : (pc : Int) + off = (tgt : Int)) (k : q_V G M d mc ms tgt lv st ws post) : q_V G M d mc ms pc lv (.int x :: st) ws post := by
  intro _ _ s _ _ _ _ _ R H _ cl0 sl0 d0 A _ X ls hl
  exact lv_tableIn X.1.1 X.1.2.1 hd h1 h2 ho ht (k X ls hl)
theorem q_tabOut {dflt lo hi : Int} {offs : Array Int} {len : Nat} {x : Int32} {tgt : Nat} (hd : decode M.2.2.1 pc = .ok (.tableswitch dflt lo hi offs, len)) (h : x.toInt < lo ∨ hi < x.toInt) (ht : (pc : Int) + dflt = (tgt : Int)) (k : q_V G M d mc ms tgt lv st ws post) : q_V G M d mc ms pc lv (.int x :: st) ws post := by
  intro _ _ s _ _ _ _ _ R H _ cl0 sl0 d0 A _ X ls hl
  exact lv_tableOut X.1.1 X.1.2.1 hd h ht (k X ls hl)
theorem q_end {r : Option Value} (hr : q_ret M pc r) (hp : post r ws) : q_V G M d mc ms pc lv r.toList ws post := by
  intro _ _ s _ _ _ _ _ R H _ cl0 sl0 d0 A _ X ls hl
  exact X.2.2.2.2.2.2 r ws H _ _ _ d0 pc ls hp (Nat.le_trans (Nat.le_add_right _ _) X.2.2.1.1) (Nat.le_trans (Nat.le_add_right _ _) X.2.2.1.2) X.2.1 X.2.2.2.1 X.2.2.2.2.1 X.2.2.2.2.2.1 hr
theorem q_iret {v : Int32} {ty : FieldType} (hd : decode M.2.2.1 pc = .ok (.ireturn, 1)) (hr : M.2.2.2.2 = some ty) (hn : narrow ty (.int v) = .int v) (hp : post (some (.int v)) ws) : q_V G M d mc ms pc lv [.int v] ws post := q_end (r := some (.int v)) ⟨hd, ty, hr, hn⟩ hp
theorem q_lret {v : Int64} (hd : decode M.2.2.1 pc = .ok (.lreturn, 1)) (hr : M.2.2.2.2 = some .long) (hp : post (some (.long v)) ws) : q_V G M d mc ms pc lv [.long v] ws post := q_end (r := some (.long v)) ⟨hd, hr⟩ hp
theorem q_dret {v : UInt64} (hd : decode M.2.2.1 pc = .ok (.dreturn, 1)) (hr : M.2.2.2.2 = some .double) (hp : post (some (.double v)) ws) : q_V G M d mc ms pc lv [.double v] ws post := q_end (r := some (.double v)) ⟨hd, hr⟩ hp
theorem q_aret {v : Nat} {n : String} (hd : decode M.2.2.1 pc = .ok (.areturn, 1)) (hr : M.2.2.2.2 = some (.object n)) (hp : post (some (.ref v)) ws) : q_V G M d mc ms pc lv [.ref v] ws post := q_end (r := some (.ref v)) ⟨hd, n, hr⟩ hp
theorem q_vret (hd : decode M.2.2.1 pc = .ok (.return_, 1)) (hr : M.2.2.2.2 = none) (hp : post none ws) : q_V G M d mc ms pc lv [] ws post := q_end (r := none) ⟨hd, hr⟩ hp
theorem q_get {idx ci j k a : Nat} {ty : FieldType} {fin : Bool} {fs : List Value} {v : Value} (hd : decode M.2.2.1 pc = .ok (.getfield idx, 3)) (hf : q_F M.1 idx ci j ty fin) (hw : ws[k]? = some (a, .inr (ci, fs))) (hv : fs[j]? = some v) (hp : pc + 3 = pc') (kk : q_V G M d mc ms pc' lv (v :: st) ws post) : q_V G M d mc ms pc lv (.ref a :: st) ws post := by
  subst hp
  intro _ _ s _ _ _ _ _ R H _ cl0 sl0 d0 A _ X ls hl
  obtain ⟨C, T, N, t0, hc, hj, hlk, hin, hty, hnm, hCT, hfin, htj⟩ := hf
  exact va_get (D := G.2.1) X.1.1 X.1.2.1 X.ts hin X.1.2.2.2.2.1 X.K X.2.2.2.1 k hw hc j hj (X.ts _ hlk) (fun x h => hCT ▸ h) hv hd (kk X ls hl)
theorem q_getN {idx ci j k a : Nat} {host : String} {C : String} {T : u_T} {N : Nat} {fs : List Value} {v : Value} (hd : decode M.2.2.1 pc = .ok (.getfield idx, 3)) (hz : (M.1, idx, C, (T j).2.1, (T j).2.2.1, host) ∈ q_nestF) (hc : vwCl[ci]? = some (C, T, N)) (hj : j < N) (hin : ∀ w ∈ u_ws C T N, w ∈ tbg) (hCT : (T j).1 = C) (hw : ws[k]? = some (a, .inr (ci, fs))) (hv : fs[j]? = some v) (hp : pc + 3 = pc') (kk : q_V G M d mc ms pc' lv (v :: st) ws post) : q_V G M d mc ms pc lv (.ref a :: st) ws post := by
  subst hp
  intro _ _ s _ _ _ _ _ R H _ cl0 sl0 d0 A _ X ls hl
  exact va_getN (D := G.2.1) (host := host) X.1.1 X.1.2.1 X.ts hin X.1.2.2.2.2.1 X.K X.2.2.2.1 k hw hc j hj (va_Nw.use rfl (va_Nw.same (u := s) rfl rfl (X.E.2.1 _ hz))) (fun x h => hCT ▸ h) hv hd (kk X ls hl)
theorem q_put {idx ci j k a : Nat} {ty : FieldType} {fs : List Value} {v : Value} (hd : decode M.2.2.1 pc = .ok (.putfield idx, 3)) (hf : q_F M.1 idx ci j ty false) (hw : ws[k]? = some (a, .inr (ci, fs))) (hn : narrow ty v = v) (hfit : fits ty v = true) (hlt : j < fs.length) (hp : pc + 3 = pc') (kk : q_V G M d mc ms pc' lv st (ws.set k (a, .inr (ci, fs.set j v))) post) : q_V G M d mc ms pc lv (v :: .ref a :: st) ws post := by
  subst hp
  intro _ _ s _ _ _ _ _ R H _ cl0 sl0 d0 A _ X ls hl
  obtain ⟨C, T, N, t0, hc, hj, hlk, hin, hty, hnm, hCT, hfin, htj⟩ := hf
  exact va_put (D := G.2.1) X.1.1 X.1.2.1 X.ts hin t0 hty hnm X.1.2.2.2.2.1 X.K X.2.2.2.1 X.2.2.2.2.1 X.2.2.2.2.2.1 k hw hc j hj (X.ts _ hlk) (fun x h => hCT ▸ h) hfin (hty j hj) (htj ▸ hn) (htj ▸ hfit) hlt hd (fun H1 locs1 hP hD hS => kk (X.to hP hD hS) ls hl)
theorem q_putF {idx ci j k a : Nat} {ty : FieldType} {fs : List Value} {v : Value} (hd : decode M.2.2.1 pc = .ok (.putfield idx, 3)) (hf : q_F M.1 idx ci j ty true) (hi : M.2.1.name = "<init>") (hc0 : ∃ T N, vwCl[ci]? = some (M.1, T, N)) (hw : ws[k]? = some (a, .inr (ci, fs))) (hn : narrow ty v = v) (hfit : fits ty v = true) (hlt : j < fs.length) (hp : pc + 3 = pc') (kk : q_V G M d mc ms pc' lv st (ws.set k (a, .inr (ci, fs.set j v))) post) : q_V G M d mc ms pc lv (v :: .ref a :: st) ws post := by
  subst hp
  intro _ _ s _ _ _ _ _ R H _ cl0 sl0 d0 A _ X ls hl
  obtain ⟨C, T, N, t0, hc, hj, hlk, hin, hty, hnm, hCT, hfin, htj⟩ := hf
  obtain ⟨T', N', hc'⟩ := hc0
  have hCM : C = M.1 := congrArg Prod.fst (Option.some.inj (hc.symm.trans hc'))
  exact va_putF (D := G.2.1) X.1.1 X.1.2.1 X.ts hin t0 hty hnm X.1.2.2.2.2.1 X.K X.2.2.2.1 X.2.2.2.2.1 X.2.2.2.2.2.1 k hw hc j hj (X.ts _ hlk) (fun x h => hCT ▸ h) hfin (X.1.2.2.2.2.2.2.2.1.trans hi) (hCT.trans hCM) (hty j hj) (htj ▸ hn) (htj ▸ hfit) hlt hd (fun H1 locs1 hP hD hS => kk (X.to hP hD hS) ls hl)
theorem q_iald {t k a n : Nat} {cA : ClassId} {f : Nat → Int32} {i : Int32} (hd : decode M.2.2.1 pc = .ok (.iaload, 1)) (hw : ws[k]? = some (a, .inl (cA, n, .inl f))) (ht : G.2.2.1[t]? = some (cA, .int)) (hin : vp_in i n) (hp : pc + 1 = pc') (kk : q_V G M d mc ms pc' lv (.int (f i.toNatClampNeg) :: st) ws post) : q_V G M d mc ms pc lv (.int i :: .ref a :: st) ws post := by
  subst hp
  intro _ _ s _ _ _ _ _ R H _ cl0 sl0 d0 A _ X ls hl
  exact va_iald (D := G.2.1) X.1.1 X.1.2.1 X.K X.2.2.2.1 k t hw ht hin hd (kk X ls hl)
theorem q_zald {t k a n : Nat} {cA : ClassId} {f : Nat → Int32} {i : Int32} (hd : decode M.2.2.1 pc = .ok (.baload, 1)) (hw : ws[k]? = some (a, .inl (cA, n, .inl f))) (ht : G.2.2.1[t]? = some (cA, .boolean)) (hin : vp_in i n) (hp : pc + 1 = pc') (kk : q_V G M d mc ms pc' lv (.int (f i.toNatClampNeg) :: st) ws post) : q_V G M d mc ms pc lv (.int i :: .ref a :: st) ws post := by
  subst hp
  intro _ _ s _ _ _ _ _ R H _ cl0 sl0 d0 A _ X ls hl
  exact va_zald (D := G.2.1) X.1.1 X.1.2.1 X.K X.2.2.2.1 k t hw ht hin hd (kk X ls hl)
theorem q_lald {t k a n : Nat} {cA : ClassId} {f : Nat → Int64} {i : Int32} (hd : decode M.2.2.1 pc = .ok (.laload, 1)) (hw : ws[k]? = some (a, .inl (cA, n, .inr (.inl f)))) (ht : G.2.2.1[t]? = some (cA, .long)) (hin : vp_in i n) (hp : pc + 1 = pc') (kk : q_V G M d mc ms pc' lv (.long (f i.toNatClampNeg) :: st) ws post) : q_V G M d mc ms pc lv (.int i :: .ref a :: st) ws post := by
  subst hp
  intro _ _ s _ _ _ _ _ R H _ cl0 sl0 d0 A _ X ls hl
  exact va_lald (D := G.2.1) X.1.1 X.1.2.1 X.K X.2.2.2.1 k t hw ht hin hd (kk X ls hl)
theorem q_dald {t k a n : Nat} {cA : ClassId} {f : Nat → UInt64} {i : Int32} (hd : decode M.2.2.1 pc = .ok (.daload, 1)) (hw : ws[k]? = some (a, .inl (cA, n, .inr (.inr (.inr (.inl f)))))) (ht : G.2.2.1[t]? = some (cA, .double)) (hin : vp_in i n) (hp : pc + 1 = pc') (kk : q_V G M d mc ms pc' lv (.double (f i.toNatClampNeg) :: st) ws post) : q_V G M d mc ms pc lv (.int i :: .ref a :: st) ws post := by
  subst hp
  intro _ _ s _ _ _ _ _ R H _ cl0 sl0 d0 A _ X ls hl
  exact va_dald (D := G.2.1) X.1.1 X.1.2.1 X.K X.2.2.2.1 k t hw ht hin hd (kk X ls hl)
theorem q_aald {t k a n : Nat} {C : String} {cA : ClassId} {f : Nat → Option Nat} {i : Int32} (hd : decode M.2.2.1 pc = .ok (.aaload, 1)) (hw : ws[k]? = some (a, .inl (cA, n, .inr (.inr (.inr (.inr f)))))) (ht : G.2.2.1[t]? = some (cA, .object C)) (hin : vp_in i n) (hp : pc + 1 = pc') (kk : q_V G M d mc ms pc' lv (va_rf (f i.toNatClampNeg) :: st) ws post) : q_V G M d mc ms pc lv (.int i :: .ref a :: st) ws post := by
  subst hp
  intro _ _ s _ _ _ _ _ R H _ cl0 sl0 d0 A _ X ls hl
  exact va_aldq (D := G.2.1) X.1.1 X.1.2.1 X.K X.2.2.2.1 k t hw ht hin hd (kk X ls hl)
theorem q_iast {t k a n : Nat} {cA : ClassId} {f : Nat → Int32} {i : Int32} {x : Int32} (hd : decode M.2.2.1 pc = .ok (.iastore, 1)) (hw : ws[k]? = some (a, .inl (cA, n, .inl f))) (ht : G.2.2.1[t]? = some (cA, .int)) (hin : vp_in i n) (hp : pc + 1 = pc') (kk : q_V G M d mc ms pc' lv st (ws.set k (a, .inl (cA, n, .inl (upd f i.toNatClampNeg x)))) post) : q_V G M d mc ms pc lv (.int x :: .int i :: .ref a :: st) ws post := by
  subst hp
  intro _ _ s _ _ _ _ _ R H _ cl0 sl0 d0 A _ X ls hl
  exact va_iast (D := G.2.1) X.1.1 X.1.2.1 X.K X.2.2.2.1 X.2.2.2.2.1 X.2.2.2.2.2.1 k t hw ht hin hd (fun H1 locs1 hP hD hS => kk (X.to hP hD hS) ls hl)
theorem q_zast {t k a n : Nat} {cA : ClassId} {f : Nat → Int32} {i : Int32} {x : Int32} (hd : decode M.2.2.1 pc = .ok (.bastore, 1)) (hw : ws[k]? = some (a, .inl (cA, n, .inl f))) (ht : G.2.2.1[t]? = some (cA, .boolean)) (hin : vp_in i n) (hp : pc + 1 = pc') (kk : q_V G M d mc ms pc' lv st (ws.set k (a, .inl (cA, n, .inl (upd f i.toNatClampNeg (vp_nar .boolean x))))) post) : q_V G M d mc ms pc lv (.int x :: .int i :: .ref a :: st) ws post := by
  subst hp
  intro _ _ s _ _ _ _ _ R H _ cl0 sl0 d0 A _ X ls hl
  exact va_zast (D := G.2.1) X.1.1 X.1.2.1 X.K X.2.2.2.1 X.2.2.2.2.1 X.2.2.2.2.2.1 k t hw ht hin hd (fun H1 locs1 hP hD hS => kk (X.to hP hD hS) ls hl)
theorem q_last {t k a n : Nat} {cA : ClassId} {f : Nat → Int64} {i : Int32} {x : Int64} (hd : decode M.2.2.1 pc = .ok (.lastore, 1)) (hw : ws[k]? = some (a, .inl (cA, n, .inr (.inl f)))) (ht : G.2.2.1[t]? = some (cA, .long)) (hin : vp_in i n) (hp : pc + 1 = pc') (kk : q_V G M d mc ms pc' lv st (ws.set k (a, .inl (cA, n, .inr (.inl (vp_updL f i.toNatClampNeg x))))) post) : q_V G M d mc ms pc lv (.long x :: .int i :: .ref a :: st) ws post := by
  subst hp
  intro _ _ s _ _ _ _ _ R H _ cl0 sl0 d0 A _ X ls hl
  exact va_last (D := G.2.1) X.1.1 X.1.2.1 X.K X.2.2.2.1 X.2.2.2.2.1 X.2.2.2.2.2.1 k t hw ht hin hd (fun H1 locs1 hP hD hS => kk (X.to hP hD hS) ls hl)
theorem q_dast {t k a n : Nat} {cA : ClassId} {f : Nat → UInt64} {i : Int32} {x : UInt64} (hd : decode M.2.2.1 pc = .ok (.dastore, 1)) (hw : ws[k]? = some (a, .inl (cA, n, .inr (.inr (.inr (.inl f)))))) (ht : G.2.2.1[t]? = some (cA, .double)) (hin : vp_in i n) (hp : pc + 1 = pc') (kk : q_V G M d mc ms pc' lv st (ws.set k (a, .inl (cA, n, .inr (.inr (.inr (.inl (vf_upd f i.toNatClampNeg x))))))) post) : q_V G M d mc ms pc lv (.double x :: .int i :: .ref a :: st) ws post := by
  subst hp
  intro _ _ s _ _ _ _ _ R H _ cl0 sl0 d0 A _ X ls hl
  exact va_dast (D := G.2.1) X.1.1 X.1.2.1 X.K X.2.2.2.1 X.2.2.2.2.1 X.2.2.2.2.2.1 k t hw ht hin hd (fun H1 locs1 hP hD hS => kk (X.to hP hD hS) ls hl)
theorem q_ti {t N : Nat} {f : Nat → Value} {i : Int32} {v : Value} (hd : decode M.2.2.1 pc = .ok (.iaload, 1)) (he : (t, .int, N, f) ∈ G.2.2.2) (hin : vp_in i N) (hv : f i.toNatClampNeg = v) (hp : pc + 1 = pc') (kk : q_V G M d mc ms pc' lv (v :: st) ws post) : q_V G M d mc ms pc lv (.int i :: .ref t :: st) ws post := by
  subst hp
  intro _ _ s _ _ _ _ _ R H _ cl0 sl0 d0 A _ X ls hl
  exact va_ti X.1.1 X.1.2.1 ((X.E.2.2.2.1 _ he).moved (U := s.setDrawn d0) (Vm.Alike.refl _)) X.2.2.2.2.2.1 hin hv hd (kk X ls hl)
theorem q_tc {t N : Nat} {f : Nat → Value} {i : Int32} {v : Value} (hd : decode M.2.2.1 pc = .ok (.caload, 1)) (he : (t, .char, N, f) ∈ G.2.2.2) (hin : vp_in i N) (hv : f i.toNatClampNeg = v) (hp : pc + 1 = pc') (kk : q_V G M d mc ms pc' lv (v :: st) ws post) : q_V G M d mc ms pc lv (.int i :: .ref t :: st) ws post := by
  subst hp
  intro _ _ s _ _ _ _ _ R H _ cl0 sl0 d0 A _ X ls hl
  exact va_tc X.1.1 X.1.2.1 ((X.E.2.2.2.1 _ he).moved (U := s.setDrawn d0) (Vm.Alike.refl _)) X.2.2.2.2.2.1 hin hv hd (kk X ls hl)
theorem q_tlen {t N : Nat} {ft : FieldType} {f : Nat → Value} {v : Int32} (hd : decode M.2.2.1 pc = .ok (.arraylength, 1)) (he : (t, ft, N, f) ∈ G.2.2.2) (hv : Int32.ofNat N = v) (hp : pc + 1 = pc') (kk : q_V G M d mc ms pc' lv (.int v :: st) ws post) : q_V G M d mc ms pc lv (.ref t :: st) ws post := by
  subst hp
  intro _ _ s _ _ _ _ _ R H _ cl0 sl0 d0 A _ X ls hl
  exact va_tlen X.1.1 X.1.2.1 ((X.E.2.2.2.1 _ he).moved (U := s.setDrawn d0) (Vm.Alike.refl _)) X.2.2.2.2.2.1 hv hd (kk X ls hl)
theorem q_gets {idx q t : Nat} {C n ds : String} {b : FieldType × Nat × (Nat → Value)} (hd : decode M.2.2.1 pc = .ok (.getstatic idx, 3)) (hz : (C, n, ds, q) ∈ q_stat) (he : G.2.2.2[q]? = some (t, b)) (hlk : Cond.fieldLink M.1 idx C n ds ∈ tbg) (hp : pc + 3 = pc') (kk : q_V G M d mc ms pc' lv (.ref t :: st) ws post) : q_V G M d mc ms pc lv st ws post := by
  subst hp
  intro _ _ s _ _ _ _ _ R H _ cl0 sl0 d0 A _ X ls hl
  exact va_gets X.1.1 X.1.2.1 ((X.E.2.2.2.2.1 _ hz _ he).moved (U := s.setDrawn d0) (Vm.Alike.refl _)) X.2.2.2.2.2.1 X.1.2.2.2.2.1 (X.ts _ hlk) (fun x h => h) hd (kk X ls hl)
theorem q_getsN {idx q t : Nat} {C n ds host : String} {b : FieldType × Nat × (Nat → Value)} (hd : decode M.2.2.1 pc = .ok (.getstatic idx, 3)) (hz : (C, n, ds, q) ∈ q_stat) (he : G.2.2.2[q]? = some (t, b)) (hlk : (M.1, idx, C, n, ds, host) ∈ q_nestF) (hp : pc + 3 = pc') (kk : q_V G M d mc ms pc' lv (.ref t :: st) ws post) : q_V G M d mc ms pc lv st ws post := by
  subst hp
  intro _ _ s _ _ _ _ _ R H _ cl0 sl0 d0 A _ X ls hl
  exact va_getsN (host := host) X.1.1 X.1.2.1 ((X.E.2.2.2.2.1 _ hz _ he).moved (U := s.setDrawn d0) (Vm.Alike.refl _)) X.2.2.2.2.2.1 X.1.2.2.2.2.1 (va_Nw.use rfl (va_Nw.same (u := s) rfl rfl (X.E.2.1 _ hlk))) (fun x h => h) hd (kk X ls hl)
def q_cat (st : List Value) : Nat := (st.map fun v => v.category).sum
theorem q_mmax {idx : Nat} {x y : Int32} (hd : decode M.2.2.1 pc = .ok (.invokestatic idx, 3)) (hlk : Cond.methodLink M.1 idx Lib.Math.max.name ∈ tbg) (h1 : Cond.static Lib.Math.max.name ∈ tbg) (h2 : Cond.initialized "java/lang/Math" ∈ tbg) (h3 : Cond.code Lib.Math.max.name Lib.Math.max.code 2 (some .int) ∈ tbg) (hr : q_cat st ≤ 8) (hp : pc + 3 = pc') (kk : q_V G M (d + 1) mc ms pc' lv (.int (if x < y then y else x) :: st) ws post) : q_V G M (d + 1) mc ms pc lv (.int y :: .int x :: st) ws post := by
  subst hp
  intro _ _ s _ _ _ _ _ R H _ cl0 sl0 d0 A _ X ls hl
  have hro := X.1.2.2.2.2.2.2.2.2.1
  have hz1 : 1 ≤ R.frames := by omega
  have hz2 : (st.map fun v => v.category).sum + 32 ≤ R.locals := by unfold q_cat at hr; omega
  have hz3 : cl0 ≤ R.cells := by have := X.2.2.1.1; omega
  have hz4 : sl0 ≤ R.slots := by have := X.2.2.1.2; omega
  exact va_mmax (s := s.setDrawn d0) X.1.1 X.1.2.1 (X.1.2.2.2.1.trans hl.1.symm) X.1.2.2.2.2.1 (X.ts _ hlk) (X.ts _ h1) (X.ts _ h2) (X.ts _ h3) hz1 (Nat.le_trans (Nat.add_le_add_left (by decide) _) hz2) hz3 hz4 hd (kk X ls hl)
theorem q_mmin {idx : Nat} {x y : Int32} (hd : decode M.2.2.1 pc = .ok (.invokestatic idx, 3)) (hlk : Cond.methodLink M.1 idx Lib.Math.min.name ∈ tbg) (h1 : Cond.static Lib.Math.min.name ∈ tbg) (h2 : Cond.initialized "java/lang/Math" ∈ tbg) (h3 : Cond.code Lib.Math.min.name Lib.Math.min.code 2 (some .int) ∈ tbg) (hr : q_cat st ≤ 8) (hp : pc + 3 = pc') (kk : q_V G M (d + 1) mc ms pc' lv (.int (if y < x then y else x) :: st) ws post) : q_V G M (d + 1) mc ms pc lv (.int y :: .int x :: st) ws post := by
  subst hp
  intro _ _ s _ _ _ _ _ R H _ cl0 sl0 d0 A _ X ls hl
  have hro := X.1.2.2.2.2.2.2.2.2.1
  have hz1 : 1 ≤ R.frames := by omega
  have hz2 : (st.map fun v => v.category).sum + 32 ≤ R.locals := by unfold q_cat at hr; omega
  have hz3 : cl0 ≤ R.cells := by have := X.2.2.1.1; omega
  have hz4 : sl0 ≤ R.slots := by have := X.2.2.1.2; omega
  exact va_mmin (s := s.setDrawn d0) X.1.1 X.1.2.1 (X.1.2.2.2.1.trans hl.1.symm) X.1.2.2.2.2.1 (X.ts _ hlk) (X.ts _ h1) (X.ts _ h2) (X.ts _ h3) hz1 (Nat.le_trans (Nat.add_le_add_left (by decide) _) hz2) hz3 hz4 hd (kk X ls hl)
theorem q_mmaxl {idx : Nat} {x y : Int64} (hd : decode M.2.2.1 pc = .ok (.invokestatic idx, 3)) (hlk : Cond.methodLink M.1 idx Lib.MathLoose.max_long.x ∈ tbg) (h1 : Cond.static Lib.MathLoose.max_long.x ∈ tbg) (h2 : Cond.initialized "java/lang/Math" ∈ tbg) (h3 : Cond.code Lib.MathLoose.max_long.x Lib.MathLoose.max_long.code 4 (some .long) ∈ tbg) (hr : q_cat st ≤ 8) (hp : pc + 3 = pc') (kk : q_V G M (d + 1) mc ms pc' lv (.long (if y < x then x else y) :: st) ws post) : q_V G M (d + 1) mc ms pc lv (.long y :: .long x :: st) ws post := by
  subst hp
  intro _ _ s _ _ _ _ _ R H _ cl0 sl0 d0 A _ X ls hl
  have hro := X.1.2.2.2.2.2.2.2.2.1
  have hz1 : 1 ≤ R.frames := by omega
  have hz2 : (st.map fun v => v.category).sum + 32 ≤ R.locals := by unfold q_cat at hr; omega
  have hz3 : cl0 ≤ R.cells := by have := X.2.2.1.1; omega
  have hz4 : sl0 ≤ R.slots := by have := X.2.2.1.2; omega
  exact va_mmax_long (s := s.setDrawn d0) X.1.1 X.1.2.1 (X.1.2.2.2.1.trans hl.1.symm) X.1.2.2.2.2.1 (X.ts _ hlk) (X.ts _ h1) (X.ts _ h2) (X.ts _ h3) hz1 (Nat.le_trans (Nat.add_le_add_left (by decide) _) hz2) hz3 hz4 hd (kk X ls hl)
theorem q_mminl {idx : Nat} {x y : Int64} (hd : decode M.2.2.1 pc = .ok (.invokestatic idx, 3)) (hlk : Cond.methodLink M.1 idx Lib.MathLoose.min_long.x ∈ tbg) (h1 : Cond.static Lib.MathLoose.min_long.x ∈ tbg) (h2 : Cond.initialized "java/lang/Math" ∈ tbg) (h3 : Cond.code Lib.MathLoose.min_long.x Lib.MathLoose.min_long.code 4 (some .long) ∈ tbg) (hr : q_cat st ≤ 8) (hp : pc + 3 = pc') (kk : q_V G M (d + 1) mc ms pc' lv (.long (if y < x then y else x) :: st) ws post) : q_V G M (d + 1) mc ms pc lv (.long y :: .long x :: st) ws post := by
  subst hp
  intro _ _ s _ _ _ _ _ R H _ cl0 sl0 d0 A _ X ls hl
  have hro := X.1.2.2.2.2.2.2.2.2.1
  have hz1 : 1 ≤ R.frames := by omega
  have hz2 : (st.map fun v => v.category).sum + 32 ≤ R.locals := by unfold q_cat at hr; omega
  have hz3 : cl0 ≤ R.cells := by have := X.2.2.1.1; omega
  have hz4 : sl0 ≤ R.slots := by have := X.2.2.1.2; omega
  exact va_mmin_long (s := s.setDrawn d0) X.1.1 X.1.2.1 (X.1.2.2.2.1.trans hl.1.symm) X.1.2.2.2.2.1 (X.ts _ hlk) (X.ts _ h1) (X.ts _ h2) (X.ts _ h3) hz1 (Nat.le_trans (Nat.add_le_add_left (by decide) _) hz2) hz3 hz4 hd (kk X ls hl)
theorem q_d2raw {idx : Nat} {x : UInt64} (hd : decode M.2.2.1 pc = .ok (.invokestatic idx, 3)) (hlk : Cond.methodLink M.1 idx ⟨"java/lang/Double", "doubleToRawLongBits", "(D)J"⟩ ∈ tbg) (h0 : Cond.native ⟨"java/lang/Double", "doubleToRawLongBits", "(D)J"⟩ ∈ tbg) (h1 : Cond.static ⟨"java/lang/Double", "doubleToRawLongBits", "(D)J"⟩ ∈ tbg) (h2 : Cond.initialized "java/lang/Double" ∈ tbg) (hr : q_cat st ≤ 8) (hp : pc + 3 = pc') (kk : q_V G M (d + 1) mc ms pc' lv (.long x.toInt64 :: st) ws post) : q_V G M (d + 1) mc ms pc lv (.double x :: st) ws post := by
  subst hp
  intro _ _ s _ _ _ _ _ R H _ cl0 sl0 d0 A _ X ls hl
  have hro := X.1.2.2.2.2.2.2.2.2.1
  have hz1 : 1 ≤ R.frames := by omega
  have hz2 : (st.map fun v => v.category).sum + 32 ≤ R.locals := by unfold q_cat at hr; omega
  have hz3 : cl0 ≤ R.cells := by have := X.2.2.1.1; omega
  have hz4 : sl0 ≤ R.slots := by have := X.2.2.1.2; omega
  exact vn_d2l (s := s.setDrawn d0) X.1.1 X.1.2.1 (X.1.2.2.2.1.trans hl.1.symm) X.1.2.2.2.2.1 (X.ts _ hlk) (X.ts _ h0) (X.ts _ h1) (X.ts _ h2) hz1 (Nat.le_trans (Nat.add_le_add_left (by decide) _) hz2) hd (kk X ls hl)
theorem q_l2double {idx : Nat} {x : Int64} (hd : decode M.2.2.1 pc = .ok (.invokestatic idx, 3)) (hlk : Cond.methodLink M.1 idx ⟨"java/lang/Double", "longBitsToDouble", "(J)D"⟩ ∈ tbg) (h0 : Cond.native ⟨"java/lang/Double", "longBitsToDouble", "(J)D"⟩ ∈ tbg) (h1 : Cond.static ⟨"java/lang/Double", "longBitsToDouble", "(J)D"⟩ ∈ tbg) (h2 : Cond.initialized "java/lang/Double" ∈ tbg) (hv : vn_snl2d x = false) (hr : q_cat st ≤ 8) (hp : pc + 3 = pc') (kk : q_V G M (d + 1) mc ms pc' lv (.double x.toUInt64 :: st) ws post) : q_V G M (d + 1) mc ms pc lv (.long x :: st) ws post := by
  subst hp
  intro _ _ s _ _ _ _ _ R H _ cl0 sl0 d0 A _ X ls hl
  have hro := X.1.2.2.2.2.2.2.2.2.1
  have hz1 : 1 ≤ R.frames := by omega
  have hz2 : (st.map fun v => v.category).sum + 32 ≤ R.locals := by unfold q_cat at hr; omega
  have hz3 : cl0 ≤ R.cells := by have := X.2.2.1.1; omega
  have hz4 : sl0 ≤ R.slots := by have := X.2.2.1.2; omega
  exact vn_l2d (s := s.setDrawn d0) X.1.1 X.1.2.1 (X.1.2.2.2.1.trans hl.1.symm) X.1.2.2.2.2.1 (X.ts _ hlk) (X.ts _ h0) (X.ts _ h1) (X.ts _ h2) hv hz1 (Nat.le_trans (Nat.add_le_add_left (by decide) _) hz2) hd (kk X ls hl)
theorem q_copyi {idx t k0 k1 a a0 n0 n1 : Nat} {c0 : ClassId} {f g : Nat → Int32} {sp dp n : Int32} (hd : decode M.2.2.1 pc = .ok (.invokestatic idx, 3)) (hlk : Cond.methodLink M.1 idx arraycopyName ∈ tbg) (h0 : Cond.native arraycopyName ∈ tbg) (h1 : Cond.static arraycopyName ∈ tbg) (h2 : Cond.initialized "java/lang/System" ∈ tbg) (hw0 : ws[k0]? = some (a0, .inl (c0, n0, .inl f))) (hw1 : ws[k1]? = some (a, .inl (c0, n1, .inl g))) (ht : G.2.2.1[t]? = some (c0, .int)) (g1 : ¬ sp < 0) (g2 : ¬ dp < 0) (g3 : ¬ n < 0) (g4 : sp.toNatClampNeg + n.toNatClampNeg ≤ n0) (g5 : dp.toNatClampNeg + n.toNatClampNeg ≤ n1) (hr : q_cat st ≤ 8) (hp : pc + 3 = pc') (kk : q_V G M (d + 1) mc ms pc' lv st (ws.set k1 (a, .inl (c0, n1, .inl (va_cpy f g sp.toNatClampNeg dp.toNatClampNeg n.toNatClampNeg)))) post) : q_V G M (d + 1) mc ms pc lv (.int n :: .int dp :: .ref a :: .int sp :: .ref a0 :: st) ws post := by
  subst hp
  intro _ _ s _ _ _ _ _ R H _ cl0 sl0 d0 A _ X ls hl
  have hro := X.1.2.2.2.2.2.2.2.2.1
  have hz1 : 1 ≤ R.frames := by omega
  have hz2 : (st.map fun v => v.category).sum + 32 ≤ R.locals := by unfold q_cat at hr; omega
  have hz3 : cl0 ≤ R.cells := by have := X.2.2.1.1; omega
  have hz4 : sl0 ≤ R.slots := by have := X.2.2.1.2; omega
  have hw9 : nativeFrameWords "java/lang/System" "arraycopy" 5 + 11 ≤ 32 := by decide +kernel
  exact va_copyi (s := s.setDrawn d0) (D := G.2.1) X.1.1 X.1.2.1 (X.1.2.2.2.1.trans hl.1.symm) X.1.2.2.2.2.1 (X.ts _ hlk) (X.ts _ h0) (X.ts _ h1) (X.ts _ h2) X.K X.2.2.2.1 X.2.2.2.2.1 X.2.2.2.2.2.1 k0 k1 t t hw0 hw1 ht ht rfl g1 g2 g3 g4 g5 (fun _ _ => rfl) hz1 (Nat.le_trans (Nat.add_le_add_left hw9 _) hz2) hd (fun H1 locs1 hP hD hS => kk (X.to hP hD hS) ls hl)
theorem q_copyl {idx t k0 k1 a a0 n0 n1 : Nat} {c0 : ClassId} {f g : Nat → Int64} {sp dp n : Int32} (hd : decode M.2.2.1 pc = .ok (.invokestatic idx, 3)) (hlk : Cond.methodLink M.1 idx arraycopyName ∈ tbg) (h0 : Cond.native arraycopyName ∈ tbg) (h1 : Cond.static arraycopyName ∈ tbg) (h2 : Cond.initialized "java/lang/System" ∈ tbg) (hw0 : ws[k0]? = some (a0, .inl (c0, n0, .inr (.inl f)))) (hw1 : ws[k1]? = some (a, .inl (c0, n1, .inr (.inl g)))) (ht : G.2.2.1[t]? = some (c0, .long)) (g1 : ¬ sp < 0) (g2 : ¬ dp < 0) (g3 : ¬ n < 0) (g4 : sp.toNatClampNeg + n.toNatClampNeg ≤ n0) (g5 : dp.toNatClampNeg + n.toNatClampNeg ≤ n1) (hr : q_cat st ≤ 8) (hp : pc + 3 = pc') (kk : q_V G M (d + 1) mc ms pc' lv st (ws.set k1 (a, .inl (c0, n1, .inr (.inl (va_cpy f g sp.toNatClampNeg dp.toNatClampNeg n.toNatClampNeg))))) post) : q_V G M (d + 1) mc ms pc lv (.int n :: .int dp :: .ref a :: .int sp :: .ref a0 :: st) ws post := by
  subst hp
  intro _ _ s _ _ _ _ _ R H _ cl0 sl0 d0 A _ X ls hl
  have hro := X.1.2.2.2.2.2.2.2.2.1
  have hz1 : 1 ≤ R.frames := by omega
  have hz2 : (st.map fun v => v.category).sum + 32 ≤ R.locals := by unfold q_cat at hr; omega
  have hz3 : cl0 ≤ R.cells := by have := X.2.2.1.1; omega
  have hz4 : sl0 ≤ R.slots := by have := X.2.2.1.2; omega
  have hw9 : nativeFrameWords "java/lang/System" "arraycopy" 5 + 11 ≤ 32 := by decide +kernel
  exact va_copyl (s := s.setDrawn d0) (D := G.2.1) X.1.1 X.1.2.1 (X.1.2.2.2.1.trans hl.1.symm) X.1.2.2.2.2.1 (X.ts _ hlk) (X.ts _ h0) (X.ts _ h1) (X.ts _ h2) X.K X.2.2.2.1 X.2.2.2.2.1 X.2.2.2.2.2.1 k0 k1 t t hw0 hw1 ht ht rfl g1 g2 g3 g4 g5 (fun _ _ => rfl) hz1 (Nat.le_trans (Nat.add_le_add_left hw9 _) hz2) hd (fun H1 locs1 hP hD hS => kk (X.to hP hD hS) ls hl)
end QROWS
