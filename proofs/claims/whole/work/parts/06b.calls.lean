/-! ===== rows of the logic: calls ===== -/
section QCALLS
variable {G : q_G} {M M' : q_M} {d mc1 ms1 mc2 ms2 pc pc' : Nat} {lv : List (Option Value)} {st : List Value} {ws : va_W} {post post1 : Option Value → va_W → Prop}
theorem q_after {p : Program} {e : Env} {s : State} {m : MethodId} {args aa : Array Value} {below : List Frame} {meth : Method} {c : Code} {R : Room} {H : Heap} {locs : List Loc} {cells slots : Nat} {d0 : Drawn} {A : Nat → Prop} {Q : State → Prop} {st0 : List Value}
    (X : q_S G M (d + 1) (mc1 + mc2) (ms1 + ms2) ws post p e s m args below meth c R H locs cells slots d0 A Q) {ls : Array Slot} (hl : q_has ls M.2.2.2.1 lv)
    (hr : va_RunD lw_cs p G.1 e R (s.setDrawn d0) m args below meth c H locs cells slots mc1 ms1 (F0 m pc ls st0) st (q_Qc G post1 (va_A ws H.size) aa) (va_A ws H.size))
    (kk : ∀ (r : Option Value) (ws' : va_W), post1 r ws' → q_V G M (d + 1) mc2 ms2 (pc + 3) lv (r.toList ++ st) ws' post) : W p G.1 e R (s.setDrawn d0) m args below meth c H locs cells slots Q (F0 m pc ls st0) := by
  intro T hT X2
  obtain ⟨v, st₀, t, T', L, d', hd', h0, X', hL, e1, e2, ⟨⟨r, ws', hv, hp, hP', hD'⟩, hz, hk⟩, step⟩ := hr T hT X2
  cases hv
  rw [h0] at hz hk
  have hS := X.2.2.2.2.2.1
  have hA0 := X.1.2.2.2.2.2.2.2.2.2.1
  have hA : ∀ q, va_A ws H.size q → A q := by
    intro q hq
    rcases hq with ⟨k, e9, hq⟩ | hq
    · exact X.2.2.2.2.1.2 k (q, e9) hq
    · exact hA0 q (Nat.le_trans hS.1 hq)
  have hS' : va_S A s.heap T'.heap (locs ++ L) := ⟨Nat.le_trans hS.1 (by rw [e1]; exact hz), fun q h1 h2 => by rw [e1, hk q (Nat.lt_of_lt_of_le h1 hS.1) (fun z => h2 (hA q z))]; exact hS.2.1 q h1 h2, fun q hq => by
    rcases List.mem_append.mp hq with h | h
    · exact hS.2.2 q h
    · exact hA _ (hL q h)⟩
  have hrm := X.2.2.1
  obtain ⟨t2, a1, b1⟩ := kk _ ws' hp (p := p) (e := e) (s := s) (m := m) (args := args) (below := below) (meth := meth) (c := c) (R := R) (H := T'.heap) (locs := locs ++ L) (cells := cells + mc1) (slots := slots + ms1) (d0 := d') (A := A) (Q := Q)
    ⟨X.1, X.2.1.trans hd', ⟨by omega, by omega⟩, by rw [e1]; exact hP', hD'.weaken (fun _ q _ h => hA q.1 h), hS', X.2.2.2.2.2.2⟩ ls hl T' rfl X'
  exact ⟨t2, step t2 a1, b1⟩
theorem q_pre {p : Program} {e : Env} {s : State} {m : MethodId} {args : Array Value} {below : List Frame} {meth : Method} {c : Code} {R : Room} {H : Heap} {locs : List Loc} {cells slots mc ms : Nat} {d0 : Drawn} {A : Nat → Prop} {Q : State → Prop}
    (X : q_S G M d mc ms ws post p e s m args below meth c R H locs cells slots d0 A Q) (av : List Value) : FrameBlind (q_Pc G av ws H.size) ∧ ∀ U : State, U.heap = H → (s.setDrawn d0).WarmedH U.vm → q_Pc G av ws H.size av.toArray U := by
  refine ⟨fun a U g mk q => ?_, fun U hU hW => ⟨rfl, by rw [hU], by rw [hU]; exact X.2.2.2.1, X.2.2.2.2.1.weaken (fun _ _ _ _ => trivial), ?_⟩⟩
  · obtain ⟨q0, q1, qP, qD, qE⟩ := q
    exact ⟨q0, q1, qP, qD, qE.calling⟩
  · have hA0 := X.1.2.2.2.2.2.2.2.2.2.1
    refine X.E.to X.2.2.2.2.2.1 hU hW ?_
    intro q hq
    rcases hq with ⟨k, e9, hq⟩ | hq
    · exact X.2.2.2.2.1.2 k (q, e9) hq
    · exact hA0 q (Nat.le_trans X.2.2.2.2.2.1.1 hq)
theorem q_callV {idx n k a ci : Nat} {fs : List Value} {T : u_T} {N : Nat} {As st0 : List Value} (hd : decode M.2.2.1 pc = .ok (.invokevirtual idx, 3)) (hM : q_I M' n) (hlk : Cond.methodLink M.1 idx M'.2.1 ∈ tbg) (hst : st0 = As.reverse ++ .ref a :: st) (hw : ws[k]? = some (a, .inr (ci, fs))) (hci : vwCl[ci]? = some (M'.1, T, N)) (hn : As.length = n) (hlen : (lg_sl (.ref a :: As)).length ≤ M'.2.2.2.1) (hr : q_cat st ≤ 8) (hp : pc + 3 = pc')
    (hV : q_V G M' d mc1 ms1 0 (q_args M'.2.2.2.1 (.ref a :: As)) [] ws post1) (kk : ∀ (r : Option Value) (ws' : va_W), post1 r ws' → q_V G M (d + 1) mc2 ms2 pc' lv (r.toList ++ st) ws' post) : q_V G M (d + 1) (mc1 + mc2) (ms1 + ms2) pc lv st0 ws post := by
  subst hp
  subst hst
  intro p e s m args below meth c R H locs cells slots d0 A Q X ls hl
  obtain ⟨h1, h2, h3, h4, ⟨h5, h6, h7, h8⟩, h9, h10⟩ := hM
  have hro := X.1.2.2.2.2.2.2.2.2.1
  have hrm := X.2.2.1
  have hpre := q_pre X (.ref a :: As)
  have hG : GoodIn tbg (wsV M.1 idx M'.1 M'.2.1 (q_cw M')) := by
    refine q_good fun w hw => ?_
    simp only [wsV, List.cons_append, List.nil_append, List.mem_cons] at hw
    rcases hw with rfl | rfl | rfl | rfl | rfl | hw
    · exact hlk
    · exact h2
    · exact h3
    · exact h4
    · exact h1
    · exact hw
  have hcw : CallW R (s.setDrawn d0) args M.1 M'.1 idx M'.2.1 M'.2.2.1 M'.2.2.2.1 M'.2.2.2.2 (q_cw M') (q_rm d mc1 ms1) mc1 ms1 n := cwV n X.ts hG rfl rfl rfl ⟨h5, h6, h7, h8⟩ ⟨by show d + 1 ≤ R.frames; omega, by show 8 + (M'.2.2.2.1 + 11) + 40 * d ≤ R.locals; omega⟩
  exact q_after X hl (va_runV_D (As := As) (rest := st) ⟨X.1.1, X.1.2.1, X.1.2.2.2.1, X.1.2.2.2.2.1, X.ts⟩ (q_met (sz := H.size) h9 h5 hlen hV) hcw ⟨hpre.1, va_recv X.K X.2.2.2.1 hci hw, hpre.2⟩ rfl hn hl.1 rfl (by show 2 * 0 + _ ≤ 8; unfold q_cat at hr; omega) hd ⟨by omega, by omega⟩) kk
theorem q_callS {idx n : Nat} {As st0 : List Value} (hd : decode M.2.2.1 pc = .ok (.invokestatic idx, 3)) (hM : q_St M' n) (hlk : Cond.methodLink M.1 idx M'.2.1 ∈ tbg) (hst : st0 = As.reverse ++ st) (hn : As.length = n) (hlen : (lg_sl As).length ≤ M'.2.2.2.1) (hr : q_cat st ≤ 8) (hp : pc + 3 = pc')
    (hV : q_V G M' d mc1 ms1 0 (q_args M'.2.2.2.1 As) [] ws post1) (kk : ∀ (r : Option Value) (ws' : va_W), post1 r ws' → q_V G M (d + 1) mc2 ms2 pc' lv (r.toList ++ st) ws' post) : q_V G M (d + 1) (mc1 + mc2) (ms1 + ms2) pc lv st0 ws post := by
  subst hp
  subst hst
  intro p e s m args below meth c R H locs cells slots d0 A Q X ls hl
  obtain ⟨h1, h2, h4, ⟨h5, h6, h7, h8⟩, h9, h10⟩ := hM
  have hro := X.1.2.2.2.2.2.2.2.2.1
  have hrm := X.2.2.1
  have hpre := q_pre X As
  have hG : GoodIn tbg (va_wsS M.1 idx M'.2.1 (q_cw M')) := by
    refine q_good fun w hw => ?_
    simp only [va_wsS, List.cons_append, List.nil_append, List.mem_cons] at hw
    rcases hw with rfl | rfl | rfl | rfl | hw
    · exact hlk
    · exact h2
    · exact h5 ▸ h4
    · exact h1
    · exact hw
  have hcw := va_cwS (R := R) (s := s.setDrawn d0) (args := args) (own := M.1) (index := idx) (y := M'.2.1) (bytes := M'.2.2.1) (maxL := M'.2.2.2.1) (ret := M'.2.2.2.2) (ws := q_cw M') (rm := q_rm d mc1 ms1) (mc := mc1) (ms := ms1) n X.ts hG rfl rfl rfl ⟨h6, h7, h8⟩ ⟨by show d + 1 ≤ R.frames; omega, by show 8 + (M'.2.2.2.1 + 11) + 40 * d ≤ R.locals; omega⟩
  exact q_after X hl (va_runS_D (As := As) (rest := st) ⟨X.1.1, X.1.2.1, X.1.2.2.2.1, X.1.2.2.2.2.1, X.ts⟩ (q_met (sz := H.size) h9 h5 hlen hV) hcw hpre rfl hn hl.1 rfl (by show 2 * 0 + _ ≤ 8; unfold q_cat at hr; omega) hd ⟨by omega, by omega⟩) kk
/-- a private static method of a nest mate -/
theorem q_callSN {idx n : Nat} {As st0 : List Value} {host : String} (hd : decode M.2.2.1 pc = .ok (.invokestatic idx, 3)) (hM : q_St M' n) (hlk : (M.1, idx, M'.2.1, host) ∈ q_nestM) (hst : st0 = As.reverse ++ st) (hn : As.length = n) (hlen : (lg_sl As).length ≤ M'.2.2.2.1) (hr : q_cat st ≤ 8) (hp : pc + 3 = pc')
    (hV : q_V G M' d mc1 ms1 0 (q_args M'.2.2.2.1 As) [] ws post1) (kk : ∀ (r : Option Value) (ws' : va_W), post1 r ws' → q_V G M (d + 1) mc2 ms2 pc' lv (r.toList ++ st) ws' post) : q_V G M (d + 1) (mc1 + mc2) (ms1 + ms2) pc lv st0 ws post := by
  subst hp
  subst hst
  intro p e s m args below meth c R H locs cells slots d0 A Q X ls hl
  obtain ⟨h1, h2, h4, ⟨h5, h6, h7, h8⟩, h9, h10⟩ := hM
  have hro := X.1.2.2.2.2.2.2.2.2.1
  have hrm := X.2.2.1
  have hpre := q_pre X As
  have hG : GoodIn tbg (q_cw M') := by
    refine q_good fun w hw => ?_
    rcases List.mem_cons.mp hw with rfl | hw
    · exact h1
    · exact hw
  have hcw := va_cnB (R := R) (s := s.setDrawn d0) (args := args) (own := M.1) (host := host) (index := idx) (y := M'.2.1) (bytes := M'.2.2.1) (maxL := M'.2.2.2.1) (ret := M'.2.2.2.2) (ws := q_cw M') (rm := q_rm d mc1 ms1) (mc := mc1) (ms := ms1) n X.ts hG rfl rfl rfl (va_Nw.same (u := s) rfl rfl (X.E.2.2.1 _ hlk)) (X.ts _ (h5 ▸ h4)) ⟨h6, h7, h8⟩ ⟨by show d + 1 ≤ R.frames; omega, by show 8 + (M'.2.2.2.1 + 11) + 40 * d ≤ R.locals; omega⟩
  exact q_after X hl (va_runSN_D (As := As) (rest := st) ⟨X.1.1, X.1.2.1, X.1.2.2.2.1, X.1.2.2.2.2.1, X.ts⟩ (q_met (sz := H.size) h9 h5 hlen hV) ⟨hcw, X.ts _ h2, trivial⟩ hpre rfl hn hl.1 rfl (by show 2 * 0 + _ ≤ 8; unfold q_cat at hr; omega) hd ⟨by omega, by omega⟩) kk
theorem q_callI {idx n a : Nat} {As st0 : List Value} (hd : decode M.2.2.1 pc = .ok (.invokespecial idx, 3)) (hM : q_In M' n) (hlk : Cond.methodLink M.1 idx M'.2.1 ∈ tbg) (hst : st0 = As.reverse ++ .ref a :: st) (hn : As.length = n) (hlen : (lg_sl (.ref a :: As)).length ≤ M'.2.2.2.1) (hr : q_cat st ≤ 8) (hp : pc + 3 = pc')
    (hV : q_V G M' d mc1 ms1 0 (q_args M'.2.2.2.1 (.ref a :: As)) [] ws post1) (kk : ∀ (r : Option Value) (ws' : va_W), post1 r ws' → q_V G M (d + 1) mc2 ms2 pc' lv (r.toList ++ st) ws' post) : q_V G M (d + 1) (mc1 + mc2) (ms1 + ms2) pc lv st0 ws post := by
  subst hp
  subst hst
  intro p e s m args below meth c R H locs cells slots d0 A Q X ls hl
  obtain ⟨own', y', code', nL', ret'⟩ := M'
  obtain ⟨h1, h2, h4, ⟨h5, h6, h7, h8⟩, h9, h10, h11, h12⟩ := hM
  dsimp only at h11 hV hlk hlen h1 h2 h4 h5 h6 h7 h8 h9 h10 h12
  subst h11
  have hro := X.1.2.2.2.2.2.2.2.2.1
  have hrm := X.2.2.1
  have hpre := q_pre X (.ref a :: As)
  have hG : GoodIn tbg (q_cw (own', y', code', nL', none)) := by
    refine q_good fun w hw => ?_
    rcases List.mem_cons.mp hw with rfl | hw
    · exact h1
    · exact hw
  have hcw := cwI (R := R) (s := s.setDrawn d0) (args := args) (own := M.1) (index := idx) (y := y') (bytes := code') (maxL := nL') (ws := q_cw (own', y', code', nL', none)) (rm := q_rm d mc1 ms1) (mc := mc1) (ms := ms1) n X.ts hG rfl rfl rfl (X.ts _ (h5 ▸ h4)) (X.ts _ hlk) (X.ts _ h2) h12 ⟨h6, h7, h8⟩ ⟨by show d + 1 ≤ R.frames; omega, by show 8 + (nL' + 11) + 40 * d ≤ R.locals; omega⟩
  exact q_after X hl (va_runI_D (As := As) (rest := st) ⟨X.1.1, X.1.2.1, X.1.2.2.2.1, X.1.2.2.2.2.1, X.ts⟩ (q_met (M := (own', y', code', nL', none)) (sz := H.size) h9 h5 hlen hV) hcw hpre rfl hn hl.1 rfl (by show 2 * 0 + _ ≤ 8; unfold q_cat at hr; omega) hd ⟨by omega, by omega⟩) kk
end QCALLS
