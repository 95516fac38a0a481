/-! ===== the reference: what is kept, noted, refused ===== -/
/-- everything moved w down, up to j -/
def Sh {α : Type} (w j : Nat) (f0 f : Nat → α) : Prop := ∀ x, f x = if x + w < j then f0 (x + w) else f0 x
theorem Sh.z {α : Type} {w : Nat} {f0 : Nat → α} : Sh w w f0 f0 := fun x => by rw [if_neg (by omega)]
theorem Sh.u {α : Type} {w j : Nat} {f0 f : Nat → α} (h : Sh w j f0 f) (hw : 0 < w) (hj : w ≤ j) : Sh w (j + 1) f0 (q_u f (j - w) (f j)) := fun x => by
  by_cases z : x = j - w
  · rw [z, q_u_s, if_pos (by omega), h j, if_neg (by omega), show j - w + w = j by omega]
  · rw [q_u_n _ _ z, h x]
    by_cases y : x + w < j
    · rw [if_pos y, if_pos (by omega)]
    · rw [if_neg y, if_neg (by omega)]
/-- n of them copied in at b -/
def Cp {α : Type} (n b : Nat) (f0 src f : Nat → α) : Prop := ∀ x, f x = if b ≤ x ∧ x < b + n then src (x - b) else f0 x
theorem Cp.z {α : Type} {b : Nat} {f0 src : Nat → α} : Cp 0 b f0 src f0 := fun x => by rw [if_neg (by omega)]
theorem Cp.u {α : Type} {n b : Nat} {f0 src f : Nat → α} (h : Cp n b f0 src f) : Cp (n + 1) b f0 src (q_u f (b + n) (src n)) := fun x => by
  by_cases z : x = b + n
  · rw [z, q_u_s, if_pos (by omega), show b + n - b = n by omega]
  · rw [q_u_n _ _ z, h x]
    by_cases y : b ≤ x ∧ x < b + n
    · rw [if_pos y, if_pos (by omega)]
    · rw [if_neg y, if_neg (by omega)]
theorem Cp.in {α : Type} {n b i : Nat} {f0 src f : Nat → α} (h : Cp n b f0 src f) (hi : i < n) : f (b + i) = src i := by rw [h, if_pos (by omega), show b + i - b = i by omega]
theorem Cp.lo {α : Type} {n b x : Nat} {f0 src f : Nat → α} (h : Cp n b f0 src f) (hi : x < b) : f x = f0 x := by rw [h, if_neg (by omega)]
set_option maxHeartbeats 4000000 in
set_option maxRecDepth 20000 in
theorem k_shA {Z : q_Z} {m : q_Mm} {d : Nat} {u : Option Value} {Q : _} (k : ∀ m1 x, Fr [233] m m1 → Sh 64 2560 (m.2.2.2.1 233) (m1.2.2.2.1 233) → q_V (q_g Z) mX11_keep d 0 0 40 [some (.ref (q_ad Z 215)), some (.int x)] [] (q_W Z (m1)) Q) : q_V (q_g Z) mX11_keep d 0 0 9 [some (.ref (q_ad Z 215)), u] [] (q_W Z (m)) Q := by
  refine q_bipush (pc' := 11) (v := nI 64) dX11_keep_9 rfl rfl ?_
  refine q_istore_n (pc' := 12) (lv' := [_, _]) dX11_keep_11 (by decide) rfl rfl ?_
  suffices hl : ∀ g j m1, j + g = 2560 → 64 ≤ j → Fr [233] m m1 → Sh 64 j (m.2.2.2.1 233) (m1.2.2.2.1 233) → q_V (q_g Z) mX11_keep d 0 0 12 [some (.ref (q_ad Z 215)), some (.int (nI j))] [] (q_W Z (m1)) Q from hl 2496 64 m (by decide) (by decide) Fr.rf Sh.z
  intro g
  induction g with
  | zero =>
    intro j m1 hj hw f1 s1
    obtain rfl : j = 2560 := by omega
    refine q_iload_n (pc' := 13) dX11_keep_12 rfl rfl ?_
    refine q_sipush (pc' := 16) (v := nI 2560) dX11_keep_13 rfl rfl ?_
    refine q_icmp_geN (tgt := 40) (pc' := 19) dX11_keep_16 (by decide) rfl (by omega) (fun c_16 => ?_) (fun c_16 => ?_)
    · exact k m1 _ f1 s1
    · omega
  | succ g ih =>
    intro j m1 hj hw f1 s1
    refine q_iload_n (pc' := 13) dX11_keep_12 rfl rfl ?_
    refine q_sipush (pc' := 16) (v := nI 2560) dX11_keep_13 rfl rfl ?_
    refine q_icmp_geN (tgt := 40) (pc' := 19) dX11_keep_16 (by decide) rfl (by omega) (fun c_16 => ?_) (fun c_16 => ?_)
    · omega
    refine q_aload_n (pc' := 20) dX11_keep_19 rfl rfl ?_
    refine h_getr (pc' := 23) dX11_keep_20 fX11_63 rfl rfl rfl ?_
    refine q_iload_n (pc' := 24) dX11_keep_23 rfl rfl ?_
    refine q_bipush (pc' := 26) (v := nI 64) dX11_keep_24 rfl rfl ?_
    refine q_isubN (pc' := 27) dX11_keep_26 (by omega) rfl ?_
    refine q_aload_n (pc' := 28) dX11_keep_27 rfl rfl ?_
    refine h_getr (pc' := 31) dX11_keep_28 fX11_63 rfl rfl rfl ?_
    refine q_iload_n (pc' := 32) dX11_keep_31 rfl rfl ?_
    refine h_lald (pc' := 33) dX11_keep_32 rfl (rfl) (by omega) (by decide) rfl ?_
    refine h_last (pc' := 34) dX11_keep_33 rfl (rfl) (by omega) (by decide) rfl ?_
    refine q_iincN (pc' := 37) (j := 1) (lv' := [_, _]) dX11_keep_34 rfl (by decide) rfl rfl ?_
    refine q_goto (pc' := 12) dX11_keep_37 (by decide) ?_
    exact ih (j + 1) _ (by omega) (by omega) (f1.L (by decide)) (s1.u (by decide) hw)
set_option maxHeartbeats 4000000 in
set_option maxRecDepth 20000 in
theorem k_shB {Z : q_Z} {m : q_Mm} {d : Nat} {u : Option Value} {Q : _} (k : ∀ m1 x, Fr [234] m m1 → Sh 5 200 (m.2.2.1 234) (m1.2.2.1 234) → q_V (q_g Z) mX11_keep d 0 0 69 [some (.ref (q_ad Z 215)), some (.int x)] [] (q_W Z (m1)) Q) : q_V (q_g Z) mX11_keep d 0 0 40 [some (.ref (q_ad Z 215)), u] [] (q_W Z (m)) Q := by
  refine q_iconst (pc' := 41) (v := nI 5) dX11_keep_40 rfl rfl ?_
  refine q_istore_n (pc' := 42) (lv' := [_, _]) dX11_keep_41 (by decide) rfl rfl ?_
  suffices hl : ∀ g j m1, j + g = 200 → 5 ≤ j → Fr [234] m m1 → Sh 5 j (m.2.2.1 234) (m1.2.2.1 234) → q_V (q_g Z) mX11_keep d 0 0 42 [some (.ref (q_ad Z 215)), some (.int (nI j))] [] (q_W Z (m1)) Q from hl 195 5 m (by decide) (by decide) Fr.rf Sh.z
  intro g
  induction g with
  | zero =>
    intro j m1 hj hw f1 s1
    obtain rfl : j = 200 := by omega
    refine q_iload_n (pc' := 43) dX11_keep_42 rfl rfl ?_
    refine q_sipush (pc' := 46) (v := nI 200) dX11_keep_43 rfl rfl ?_
    refine q_icmp_geN (tgt := 69) (pc' := 49) dX11_keep_46 (by decide) rfl (by omega) (fun c_46 => ?_) (fun c_46 => ?_)
    · exact k m1 _ f1 s1
    · omega
  | succ g ih =>
    intro j m1 hj hw f1 s1
    refine q_iload_n (pc' := 43) dX11_keep_42 rfl rfl ?_
    refine q_sipush (pc' := 46) (v := nI 200) dX11_keep_43 rfl rfl ?_
    refine q_icmp_geN (tgt := 69) (pc' := 49) dX11_keep_46 (by decide) rfl (by omega) (fun c_46 => ?_) (fun c_46 => ?_)
    · omega
    refine q_aload_n (pc' := 50) dX11_keep_49 rfl rfl ?_
    refine h_getr (pc' := 53) dX11_keep_50 fX11_66 rfl rfl rfl ?_
    refine q_iload_n (pc' := 54) dX11_keep_53 rfl rfl ?_
    refine q_iconst (pc' := 55) (v := nI 5) dX11_keep_54 rfl rfl ?_
    refine q_isubN (pc' := 56) dX11_keep_55 (by omega) rfl ?_
    refine q_aload_n (pc' := 57) dX11_keep_56 rfl rfl ?_
    refine h_getr (pc' := 60) dX11_keep_57 fX11_66 rfl rfl rfl ?_
    refine q_iload_n (pc' := 61) dX11_keep_60 rfl rfl ?_
    refine h_iald (pc' := 62) dX11_keep_61 rfl (rfl) (by omega) (by decide) rfl ?_
    refine h_iast (pc' := 63) dX11_keep_62 rfl (rfl) (by omega) (by decide) rfl ?_
    refine q_iincN (pc' := 66) (j := 1) (lv' := [_, _]) dX11_keep_63 rfl (by decide) rfl rfl ?_
    refine q_goto (pc' := 42) dX11_keep_66 (by decide) ?_
    exact ih (j + 1) _ (by omega) (by omega) (f1.A (by decide)) (s1.u (by decide) hw)
set_option maxHeartbeats 4000000 in
set_option maxRecDepth 20000 in
theorem k_shC {Z : q_Z} {m : q_Mm} {d : Nat} {u : Option Value} {Q : _} (k : ∀ m1 x, Fr [235] m m1 → Sh 180 7200 (m.2.2.1 235) (m1.2.2.1 235) → q_V (q_g Z) mX11_keep d 0 0 102 [some (.ref (q_ad Z 215)), some (.int x)] [] (q_W Z (m1)) Q) : q_V (q_g Z) mX11_keep d 0 0 69 [some (.ref (q_ad Z 215)), u] [] (q_W Z (m)) Q := by
  refine q_sipush (pc' := 72) (v := nI 180) dX11_keep_69 rfl rfl ?_
  refine q_istore_n (pc' := 73) (lv' := [_, _]) dX11_keep_72 (by decide) rfl rfl ?_
  suffices hl : ∀ g j m1, j + g = 7200 → 180 ≤ j → Fr [235] m m1 → Sh 180 j (m.2.2.1 235) (m1.2.2.1 235) → q_V (q_g Z) mX11_keep d 0 0 73 [some (.ref (q_ad Z 215)), some (.int (nI j))] [] (q_W Z (m1)) Q from hl 7020 180 m (by decide) (by decide) Fr.rf Sh.z
  intro g
  induction g with
  | zero =>
    intro j m1 hj hw f1 s1
    obtain rfl : j = 7200 := by omega
    refine q_iload_n (pc' := 74) dX11_keep_73 rfl rfl ?_
    refine q_sipush (pc' := 77) (v := nI 7200) dX11_keep_74 rfl rfl ?_
    refine q_icmp_geN (tgt := 102) (pc' := 80) dX11_keep_77 (by decide) rfl (by omega) (fun c_77 => ?_) (fun c_77 => ?_)
    · exact k m1 _ f1 s1
    · omega
  | succ g ih =>
    intro j m1 hj hw f1 s1
    refine q_iload_n (pc' := 74) dX11_keep_73 rfl rfl ?_
    refine q_sipush (pc' := 77) (v := nI 7200) dX11_keep_74 rfl rfl ?_
    refine q_icmp_geN (tgt := 102) (pc' := 80) dX11_keep_77 (by decide) rfl (by omega) (fun c_77 => ?_) (fun c_77 => ?_)
    · omega
    refine q_aload_n (pc' := 81) dX11_keep_80 rfl rfl ?_
    refine h_getr (pc' := 84) dX11_keep_81 fX11_69 rfl rfl rfl ?_
    refine q_iload_n (pc' := 85) dX11_keep_84 rfl rfl ?_
    refine q_sipush (pc' := 88) (v := nI 180) dX11_keep_85 rfl rfl ?_
    refine q_isubN (pc' := 89) dX11_keep_88 (by omega) rfl ?_
    refine q_aload_n (pc' := 90) dX11_keep_89 rfl rfl ?_
    refine h_getr (pc' := 93) dX11_keep_90 fX11_69 rfl rfl rfl ?_
    refine q_iload_n (pc' := 94) dX11_keep_93 rfl rfl ?_
    refine h_iald (pc' := 95) dX11_keep_94 rfl (rfl) (by omega) (by decide) rfl ?_
    refine h_iast (pc' := 96) dX11_keep_95 rfl (rfl) (by omega) (by decide) rfl ?_
    refine q_iincN (pc' := 99) (j := 1) (lv' := [_, _]) dX11_keep_96 rfl (by decide) rfl rfl ?_
    refine q_goto (pc' := 73) dX11_keep_99 (by decide) ?_
    exact ih (j + 1) _ (by omega) (by omega) (f1.A (by decide)) (s1.u (by decide) hw)
set_option maxHeartbeats 4000000 in
set_option maxRecDepth 20000 in
theorem k_shN {Z : q_Z} {m : q_Mm} {d : Nat} {u : Option Value} {x1 x2 : Int32} {Q : _} (k : ∀ m1 x, Fr [225] m m1 → Sh 3 180 (m.2.2.1 225) (m1.2.2.1 225) → q_V (q_g Z) mX11_note d 0 0 38 [some (.ref (q_ad Z 215)), some (.int x1), some (.int x2), some (.int x)] [] (q_W Z (m1)) Q) : q_V (q_g Z) mX11_note d 0 0 9 [some (.ref (q_ad Z 215)), some (.int x1), some (.int x2), u] [] (q_W Z (m)) Q := by
  refine q_iconst (pc' := 10) (v := nI 3) dX11_note_9 rfl rfl ?_
  refine q_istore_n (pc' := 11) (lv' := [_, _, _, _]) dX11_note_10 (by decide) rfl rfl ?_
  suffices hl : ∀ g j m1, j + g = 180 → 3 ≤ j → Fr [225] m m1 → Sh 3 j (m.2.2.1 225) (m1.2.2.1 225) → q_V (q_g Z) mX11_note d 0 0 11 [some (.ref (q_ad Z 215)), some (.int x1), some (.int x2), some (.int (nI j))] [] (q_W Z (m1)) Q from hl 177 3 m (by decide) (by decide) Fr.rf Sh.z
  intro g
  induction g with
  | zero =>
    intro j m1 hj hw f1 s1
    obtain rfl : j = 180 := by omega
    refine q_iload_n (pc' := 12) dX11_note_11 rfl rfl ?_
    refine q_sipush (pc' := 15) (v := nI 180) dX11_note_12 rfl rfl ?_
    refine q_icmp_geN (tgt := 38) (pc' := 18) dX11_note_15 (by decide) rfl (by omega) (fun c_15 => ?_) (fun c_15 => ?_)
    · exact k m1 _ f1 s1
    · omega
  | succ g ih =>
    intro j m1 hj hw f1 s1
    refine q_iload_n (pc' := 12) dX11_note_11 rfl rfl ?_
    refine q_sipush (pc' := 15) (v := nI 180) dX11_note_12 rfl rfl ?_
    refine q_icmp_geN (tgt := 38) (pc' := 18) dX11_note_15 (by decide) rfl (by omega) (fun c_15 => ?_) (fun c_15 => ?_)
    · omega
    refine q_aload_n (pc' := 19) dX11_note_18 rfl rfl ?_
    refine h_getr (pc' := 22) dX11_note_19 fX11_39 rfl rfl rfl ?_
    refine q_iload_n (pc' := 23) dX11_note_22 rfl rfl ?_
    refine q_iconst (pc' := 24) (v := nI 3) dX11_note_23 rfl rfl ?_
    refine q_isubN (pc' := 25) dX11_note_24 (by omega) rfl ?_
    refine q_aload_n (pc' := 26) dX11_note_25 rfl rfl ?_
    refine h_getr (pc' := 29) dX11_note_26 fX11_39 rfl rfl rfl ?_
    refine q_iload_n (pc' := 30) dX11_note_29 rfl rfl ?_
    refine h_iald (pc' := 31) dX11_note_30 rfl (rfl) (by omega) (by decide) rfl ?_
    refine h_iast (pc' := 32) dX11_note_31 rfl (rfl) (by omega) (by decide) rfl ?_
    refine q_iincN (pc' := 35) (j := 1) (lv' := [_, _, _, _]) dX11_note_32 rfl (by decide) rfl rfl ?_
    refine q_goto (pc' := 11) dX11_note_35 (by decide) ?_
    exact ih (j + 1) _ (by omega) (by omega) (f1.A (by decide)) (s1.u (by decide) hw)
set_option maxHeartbeats 4000000 in
set_option maxRecDepth 20000 in
theorem k_shD {Z : q_Z} {m : q_Mm} {d : Nat} {u : Option Value} {Q : _} (k : ∀ m1 x, Fr [236, 237] m m1 → Sh 1 40 (m.2.2.1 236) (m1.2.2.1 236) → Sh 1 40 (m.2.2.1 237) (m1.2.2.1 237) → q_V (q_g Z) mX11_keep d 0 0 144 [some (.ref (q_ad Z 215)), some (.int x)] [] (q_W Z (m1)) Q) : q_V (q_g Z) mX11_keep d 0 0 102 [some (.ref (q_ad Z 215)), u] [] (q_W Z (m)) Q := by
  refine q_iconst (pc' := 103) (v := nI 1) dX11_keep_102 rfl rfl ?_
  refine q_istore_n (pc' := 104) (lv' := [_, _]) dX11_keep_103 (by decide) rfl rfl ?_
  suffices hl : ∀ g j m1, j + g = 40 → 1 ≤ j → Fr [236, 237] m m1 → Sh 1 j (m.2.2.1 236) (m1.2.2.1 236) → Sh 1 j (m.2.2.1 237) (m1.2.2.1 237) → q_V (q_g Z) mX11_keep d 0 0 104 [some (.ref (q_ad Z 215)), some (.int (nI j))] [] (q_W Z (m1)) Q from hl 39 1 m (by decide) (by decide) Fr.rf Sh.z Sh.z
  intro g
  induction g with
  | zero =>
    intro j m1 hj hw f1 s1 s2
    obtain rfl : j = 40 := by omega
    refine q_iload_n (pc' := 105) dX11_keep_104 rfl rfl ?_
    refine q_bipush (pc' := 107) (v := nI 40) dX11_keep_105 rfl rfl ?_
    refine q_icmp_geN (tgt := 144) (pc' := 110) dX11_keep_107 (by decide) rfl (by omega) (fun c_107 => ?_) (fun c_107 => ?_)
    · exact k m1 _ f1 s1 s2
    · omega
  | succ g ih =>
    intro j m1 hj hw f1 s1 s2
    refine q_iload_n (pc' := 105) dX11_keep_104 rfl rfl ?_
    refine q_bipush (pc' := 107) (v := nI 40) dX11_keep_105 rfl rfl ?_
    refine q_icmp_geN (tgt := 144) (pc' := 110) dX11_keep_107 (by decide) rfl (by omega) (fun c_107 => ?_) (fun c_107 => ?_)
    · omega
    refine q_aload_n (pc' := 111) dX11_keep_110 rfl rfl ?_
    refine h_getr (pc' := 114) dX11_keep_111 fX11_72 rfl rfl rfl ?_
    refine q_iload_n (pc' := 115) dX11_keep_114 rfl rfl ?_
    refine q_iconst (pc' := 116) (v := nI 1) dX11_keep_115 rfl rfl ?_
    refine q_isubN (pc' := 117) dX11_keep_116 (by omega) rfl ?_
    refine q_aload_n (pc' := 118) dX11_keep_117 rfl rfl ?_
    refine h_getr (pc' := 121) dX11_keep_118 fX11_72 rfl rfl rfl ?_
    refine q_iload_n (pc' := 122) dX11_keep_121 rfl rfl ?_
    refine h_iald (pc' := 123) dX11_keep_122 rfl (rfl) (by omega) (by decide) rfl ?_
    refine h_iast (pc' := 124) dX11_keep_123 rfl (rfl) (by omega) (by decide) rfl ?_
    refine q_aload_n (pc' := 125) dX11_keep_124 rfl rfl ?_
    refine h_getr (pc' := 128) dX11_keep_125 fX11_75 rfl rfl rfl ?_
    refine q_iload_n (pc' := 129) dX11_keep_128 rfl rfl ?_
    refine q_iconst (pc' := 130) (v := nI 1) dX11_keep_129 rfl rfl ?_
    refine q_isubN (pc' := 131) dX11_keep_130 (by omega) rfl ?_
    refine q_aload_n (pc' := 132) dX11_keep_131 rfl rfl ?_
    refine h_getr (pc' := 135) dX11_keep_132 fX11_75 rfl rfl rfl ?_
    refine q_iload_n (pc' := 136) dX11_keep_135 rfl rfl ?_
    refine h_iald (pc' := 137) dX11_keep_136 rfl (rfl) (by omega) (by decide) rfl ?_
    refine h_iast (pc' := 138) dX11_keep_137 rfl (rfl) (by omega) (by decide) rfl ?_
    refine q_iincN (pc' := 141) (j := 1) (lv' := [_, _]) dX11_keep_138 rfl (by decide) rfl rfl ?_
    refine q_goto (pc' := 104) dX11_keep_141 (by decide) ?_
    exact ih (j + 1) _ (by omega) (by omega) ((f1.A (by decide)).A (by decide)) (s1.u (by decide) hw) (s2.u (by decide) hw)
set_option maxHeartbeats 4000000 in
set_option maxRecDepth 20000 in
theorem k_cpA {Z : q_Z} {m : q_Mm} {d a : Nat} {u : Option Value} {Q : _} (e : m.1 215 48 = nI a) (ha : a < 40) (k : ∀ m1 x, Fr [233] m m1 → Cp 64 (64 * a) (m.2.2.2.1 233) (m.2.2.2.1 223) (m1.2.2.2.1 233) → q_V (q_g Z) mX11_keep d 0 0 188 [some (.ref (q_ad Z 215)), some (.int x)] [] (q_W Z (m1)) Q) : q_V (q_g Z) mX11_keep d 0 0 154 [some (.ref (q_ad Z 215)), u] [] (q_W Z (m)) Q := by
  refine q_iconst (pc' := 155) (v := nI 0) dX11_keep_154 rfl rfl ?_
  refine q_istore_n (pc' := 156) (lv' := [_, _]) dX11_keep_155 (by decide) rfl rfl ?_
  suffices hl : ∀ g j m1, j + g = 64 → Fr [233] m m1 → Cp j (64 * a) (m.2.2.2.1 233) (m.2.2.2.1 223) (m1.2.2.2.1 233) → q_V (q_g Z) mX11_keep d 0 0 156 [some (.ref (q_ad Z 215)), some (.int (nI j))] [] (q_W Z (m1)) Q from hl 64 0 m (by decide) Fr.rf Cp.z
  intro g
  induction g with
  | zero =>
    intro j m1 hj f1 s1
    obtain rfl : j = 64 := by omega
    refine q_iload_n (pc' := 157) dX11_keep_156 rfl rfl ?_
    refine q_bipush (pc' := 159) (v := nI 64) dX11_keep_157 rfl rfl ?_
    refine q_icmp_geN (tgt := 188) (pc' := 162) dX11_keep_159 (by decide) rfl (by omega) (fun c_159 => ?_) (fun c_159 => ?_)
    · exact k m1 _ f1 s1
    · omega
  | succ g ih =>
    intro j m1 hj f1 s1
    have e1 : m1.1 215 48 = nI a := (congrFun (f1.i (by decide)) 48).trans e
    have e2 : m1.2.2.2.1 223 j = m.2.2.2.1 223 j := congrFun (f1.l (by decide)) j
    refine q_iload_n (pc' := 157) dX11_keep_156 rfl rfl ?_
    refine q_bipush (pc' := 159) (v := nI 64) dX11_keep_157 rfl rfl ?_
    refine q_icmp_geN (tgt := 188) (pc' := 162) dX11_keep_159 (by decide) rfl (by omega) (fun c_159 => ?_) (fun c_159 => ?_)
    · omega
    refine q_aload_n (pc' := 163) dX11_keep_162 rfl rfl ?_
    refine h_getr (pc' := 166) dX11_keep_163 fX11_63 rfl rfl rfl ?_
    refine q_bipush (pc' := 168) (v := nI 64) dX11_keep_166 rfl rfl ?_
    refine q_aload_n (pc' := 169) dX11_keep_168 rfl rfl ?_
    refine h_getiE (pc' := 172) dX11_keep_169 fX11_248 rfl rfl (e1) rfl ?_
    refine q_imulN (pc' := 173) dX11_keep_172 rfl ?_
    refine q_iload_n (pc' := 174) dX11_keep_173 rfl rfl ?_
    refine q_iaddN (pc' := 175) dX11_keep_174 rfl ?_
    refine q_aload_n (pc' := 176) dX11_keep_175 rfl rfl ?_
    refine h_getr (pc' := 179) dX11_keep_176 fX11_33 rfl rfl rfl ?_
    refine q_iload_n (pc' := 180) dX11_keep_179 rfl rfl ?_
    refine h_laldE (pc' := 181) dX11_keep_180 rfl (rfl) (by omega) (by decide) (e2) rfl ?_
    refine h_last (pc' := 182) dX11_keep_181 rfl (rfl) (by omega) (by decide) rfl ?_
    refine q_iincN (pc' := 185) (j := 1) (lv' := [_, _]) dX11_keep_182 rfl (by decide) rfl rfl ?_
    refine q_goto (pc' := 156) dX11_keep_185 (by decide) ?_
    exact ih (j + 1) _ (by omega) (f1.L (by decide)) s1.u
set_option maxHeartbeats 4000000 in
set_option maxRecDepth 20000 in
theorem k_cpB {Z : q_Z} {m : q_Mm} {d a : Nat} {u : Option Value} {Q : _} (e : m.1 215 48 = nI a) (ha : a < 40) (k : ∀ m1 x, Fr [234] m m1 → Cp 5 (5 * a) (m.2.2.1 234) (m.2.2.1 224) (m1.2.2.1 234) → q_V (q_g Z) mX11_keep d 0 0 220 [some (.ref (q_ad Z 215)), some (.int x)] [] (q_W Z (m1)) Q) : q_V (q_g Z) mX11_keep d 0 0 188 [some (.ref (q_ad Z 215)), u] [] (q_W Z (m)) Q := by
  refine q_iconst (pc' := 189) (v := nI 0) dX11_keep_188 rfl rfl ?_
  refine q_istore_n (pc' := 190) (lv' := [_, _]) dX11_keep_189 (by decide) rfl rfl ?_
  suffices hl : ∀ g j m1, j + g = 5 → Fr [234] m m1 → Cp j (5 * a) (m.2.2.1 234) (m.2.2.1 224) (m1.2.2.1 234) → q_V (q_g Z) mX11_keep d 0 0 190 [some (.ref (q_ad Z 215)), some (.int (nI j))] [] (q_W Z (m1)) Q from hl 5 0 m (by decide) Fr.rf Cp.z
  intro g
  induction g with
  | zero =>
    intro j m1 hj f1 s1
    obtain rfl : j = 5 := by omega
    refine q_iload_n (pc' := 191) dX11_keep_190 rfl rfl ?_
    refine q_iconst (pc' := 192) (v := nI 5) dX11_keep_191 rfl rfl ?_
    refine q_icmp_geN (tgt := 220) (pc' := 195) dX11_keep_192 (by decide) rfl (by omega) (fun c_192 => ?_) (fun c_192 => ?_)
    · exact k m1 _ f1 s1
    · omega
  | succ g ih =>
    intro j m1 hj f1 s1
    have e1 : m1.1 215 48 = nI a := (congrFun (f1.i (by decide)) 48).trans e
    have e2 : m1.2.2.1 224 j = m.2.2.1 224 j := congrFun (f1.a (by decide)) j
    refine q_iload_n (pc' := 191) dX11_keep_190 rfl rfl ?_
    refine q_iconst (pc' := 192) (v := nI 5) dX11_keep_191 rfl rfl ?_
    refine q_icmp_geN (tgt := 220) (pc' := 195) dX11_keep_192 (by decide) rfl (by omega) (fun c_192 => ?_) (fun c_192 => ?_)
    · omega
    refine q_aload_n (pc' := 196) dX11_keep_195 rfl rfl ?_
    refine h_getr (pc' := 199) dX11_keep_196 fX11_66 rfl rfl rfl ?_
    refine q_iconst (pc' := 200) (v := nI 5) dX11_keep_199 rfl rfl ?_
    refine q_aload_n (pc' := 201) dX11_keep_200 rfl rfl ?_
    refine h_getiE (pc' := 204) dX11_keep_201 fX11_248 rfl rfl (e1) rfl ?_
    refine q_imulN (pc' := 205) dX11_keep_204 rfl ?_
    refine q_iload_n (pc' := 206) dX11_keep_205 rfl rfl ?_
    refine q_iaddN (pc' := 207) dX11_keep_206 rfl ?_
    refine q_aload_n (pc' := 208) dX11_keep_207 rfl rfl ?_
    refine h_getr (pc' := 211) dX11_keep_208 fX11_36 rfl rfl rfl ?_
    refine q_iload_n (pc' := 212) dX11_keep_211 rfl rfl ?_
    refine h_ialdE (pc' := 213) dX11_keep_212 rfl (rfl) (by omega) (by decide) (e2) rfl ?_
    refine h_iast (pc' := 214) dX11_keep_213 rfl (rfl) (by omega) (by decide) rfl ?_
    refine q_iincN (pc' := 217) (j := 1) (lv' := [_, _]) dX11_keep_214 rfl (by decide) rfl rfl ?_
    refine q_goto (pc' := 190) dX11_keep_217 (by decide) ?_
    exact ih (j + 1) _ (by omega) (f1.A (by decide)) s1.u
set_option maxHeartbeats 4000000 in
set_option maxRecDepth 20000 in
theorem k_cpC {Z : q_Z} {m : q_Mm} {d a : Nat} {u : Option Value} {Q : _} (e : m.1 215 48 = nI a) (ha : a < 40) (k : ∀ m1 x, Fr [235] m m1 → Cp 180 (180 * a) (m.2.2.1 235) (m.2.2.1 225) (m1.2.2.1 235) → q_V (q_g Z) mX11_keep d 0 0 256 [some (.ref (q_ad Z 215)), some (.int x)] [] (q_W Z (m1)) Q) : q_V (q_g Z) mX11_keep d 0 0 220 [some (.ref (q_ad Z 215)), u] [] (q_W Z (m)) Q := by
  refine q_iconst (pc' := 221) (v := nI 0) dX11_keep_220 rfl rfl ?_
  refine q_istore_n (pc' := 222) (lv' := [_, _]) dX11_keep_221 (by decide) rfl rfl ?_
  suffices hl : ∀ g j m1, j + g = 180 → Fr [235] m m1 → Cp j (180 * a) (m.2.2.1 235) (m.2.2.1 225) (m1.2.2.1 235) → q_V (q_g Z) mX11_keep d 0 0 222 [some (.ref (q_ad Z 215)), some (.int (nI j))] [] (q_W Z (m1)) Q from hl 180 0 m (by decide) Fr.rf Cp.z
  intro g
  induction g with
  | zero =>
    intro j m1 hj f1 s1
    obtain rfl : j = 180 := by omega
    refine q_iload_n (pc' := 223) dX11_keep_222 rfl rfl ?_
    refine q_sipush (pc' := 226) (v := nI 180) dX11_keep_223 rfl rfl ?_
    refine q_icmp_geN (tgt := 256) (pc' := 229) dX11_keep_226 (by decide) rfl (by omega) (fun c_226 => ?_) (fun c_226 => ?_)
    · exact k m1 _ f1 s1
    · omega
  | succ g ih =>
    intro j m1 hj f1 s1
    have e1 : m1.1 215 48 = nI a := (congrFun (f1.i (by decide)) 48).trans e
    have e2 : m1.2.2.1 225 j = m.2.2.1 225 j := congrFun (f1.a (by decide)) j
    refine q_iload_n (pc' := 223) dX11_keep_222 rfl rfl ?_
    refine q_sipush (pc' := 226) (v := nI 180) dX11_keep_223 rfl rfl ?_
    refine q_icmp_geN (tgt := 256) (pc' := 229) dX11_keep_226 (by decide) rfl (by omega) (fun c_226 => ?_) (fun c_226 => ?_)
    · omega
    refine q_aload_n (pc' := 230) dX11_keep_229 rfl rfl ?_
    refine h_getr (pc' := 233) dX11_keep_230 fX11_69 rfl rfl rfl ?_
    refine q_sipush (pc' := 236) (v := nI 180) dX11_keep_233 rfl rfl ?_
    refine q_aload_n (pc' := 237) dX11_keep_236 rfl rfl ?_
    refine h_getiE (pc' := 240) dX11_keep_237 fX11_248 rfl rfl (e1) rfl ?_
    refine q_imulN (pc' := 241) dX11_keep_240 rfl ?_
    refine q_iload_n (pc' := 242) dX11_keep_241 rfl rfl ?_
    refine q_iaddN (pc' := 243) dX11_keep_242 rfl ?_
    refine q_aload_n (pc' := 244) dX11_keep_243 rfl rfl ?_
    refine h_getr (pc' := 247) dX11_keep_244 fX11_39 rfl rfl rfl ?_
    refine q_iload_n (pc' := 248) dX11_keep_247 rfl rfl ?_
    refine h_ialdE (pc' := 249) dX11_keep_248 rfl (rfl) (by omega) (by decide) (e2) rfl ?_
    refine h_iast (pc' := 250) dX11_keep_249 rfl (rfl) (by omega) (by decide) rfl ?_
    refine q_iincN (pc' := 253) (j := 1) (lv' := [_, _]) dX11_keep_250 rfl (by decide) rfl rfl ?_
    refine q_goto (pc' := 222) dX11_keep_253 (by decide) ?_
    exact ih (j + 1) _ (by omega) (f1.A (by decide)) s1.u
theorem MS.pt {m m2 : q_Mm} {s s2 : Nat} {c : q_Cs} (h : MS m s c) (a1 : ∀ i, i < 64 → m2.2.2.2.1 233 (64 * s2 + i) = m.2.2.2.1 233 (64 * s + i)) (a2 : ∀ i, i < 5 → m2.2.2.1 234 (5 * s2 + i) = m.2.2.1 234 (5 * s + i)) (a3 : ∀ i, i < 180 → m2.2.2.1 235 (180 * s2 + i) = m.2.2.1 235 (180 * s + i)) (a4 : m2.2.2.1 236 s2 = m.2.2.1 236 s) (a5 : m2.2.2.1 237 s2 = m.2.2.1 237 s) : MS m2 s2 c := by
  obtain ⟨h1, h2, h3, h4, h5, h6, h7, h8⟩ := h
  exact ⟨a4.trans h1, a5.trans h2, h3, h4, fun i hi => (a1 i (by omega)).trans (h5 i hi), fun i hi => (a2 i hi).trans (h6 i hi), fun i hi => (a3 i (by omega)).trans (h7 i hi), h8⟩
set_option maxHeartbeats 4000000 in
set_option maxRecDepth 20000 in
theorem k_keep {Z : q_Z} {m : q_Mm} {d : Nat} {t : Bool} {c : q_Cs} {us : List q_Cs} (ht : t = true) (hC : MC m t c) (hK : MKp m us) : q_V (q_g Z) mX11_keep (d) 0 0 0 [some (.ref (q_ad Z 215)), none] [] (q_W Z m) (q_P Z fun r m2 => r = none ∧ Fr [215, 233, 234, 235, 236, 237] m m2 ∧ Kp 215 [48] m m2 ∧ MKp m2 ((c :: us).take 40)) := by
  rw [show (c :: us).take 40 = c :: us.take 39 from rfl]
  have fin : ∀ (m0 : q_Mm) (u : Option Value), Fr [215, 233, 234, 235, 236, 237] m m0 → Kp 215 [48] m m0 → MKp m0 (us.take 39) → q_V (q_g Z) mX11_keep (d) 0 0 154 [some (.ref (q_ad Z 215)), u] [] (q_W Z (m0)) (q_P Z fun r m2 => r = none ∧ Fr [215, 233, 234, 235, 236, 237] m m2 ∧ Kp 215 [48] m m2 ∧ MKp m2 (c :: us.take 39)) := by
    intro m0 u f0 k0 K0
    have C0 : MC m0 t c := hC.fr f0 (k0 20 (by decide)) (k0 21 (by decide)) (by decide) (by decide) (by decide)
    obtain ⟨h1, h2, h3, h4, h5, h6, h7, h8⟩ := C0
    have h6 := h6 ht
    obtain ⟨b1, b2, b3⟩ := K0
    have hl : (us.take 39).length < 40 := by rw [List.length_take]; omega
    generalize us.take 39 = vs at b1 b2 b3 hl ⊢
    refine k_cpA b1 hl (fun m1 x1 f1 s1 => ?_)
    refine k_cpB ((congrFun (f1.i (by decide)) 48).trans b1) hl (fun m2 x2 f2 s2 => ?_)
    have f12 : Fr [233, 234] m0 m2 := (f1.mono (by decide)).trans (f2.mono (by decide))
    refine k_cpC ((congrFun (f12.i (by decide)) 48).trans b1) hl (fun m3 x3 f3 s3 => ?_)
    have f13 : Fr [233, 234, 235] m0 m3 := (f12.mono (by decide)).trans (f3.mono (by decide))
    have e48 : m3.1 215 48 = nI vs.length := (congrFun (f13.i (by decide)) 48).trans b1
    have e20 : m3.1 215 20 = nI c.1 := (congrFun (f13.i (by decide)) 20).trans h1
    have e21 : m3.1 215 21 = nI c.2.1 := (congrFun (f13.i (by decide)) 21).trans h2
    refine q_aload_n (pc' := 257) dX11_keep_256 rfl rfl ?_
    refine h_getr (pc' := 260) dX11_keep_257 fX11_72 rfl rfl rfl ?_
    refine q_aload_n (pc' := 261) dX11_keep_260 rfl rfl ?_
    refine h_getiE (pc' := 264) dX11_keep_261 fX11_248 rfl rfl (e48) rfl ?_
    refine q_aload_n (pc' := 265) dX11_keep_264 rfl rfl ?_
    refine h_getiE (pc' := 268) dX11_keep_265 fX11_242 rfl rfl (e20) rfl ?_
    refine h_iast (pc' := 269) dX11_keep_268 rfl (rfl) (by omega) (by decide) rfl ?_
    refine q_aload_n (pc' := 270) dX11_keep_269 rfl rfl ?_
    refine h_getr (pc' := 273) dX11_keep_270 fX11_75 rfl rfl rfl ?_
    refine q_aload_n (pc' := 274) dX11_keep_273 rfl rfl ?_
    refine h_getiE (pc' := 277) dX11_keep_274 fX11_248 rfl rfl (e48) rfl ?_
    refine q_aload_n (pc' := 278) dX11_keep_277 rfl rfl ?_
    refine h_getiE (pc' := 281) dX11_keep_278 fX11_245 rfl rfl (e21) rfl ?_
    refine h_iast (pc' := 282) dX11_keep_281 rfl (rfl) (by omega) (by decide) rfl ?_
    refine q_aload_n (pc' := 283) dX11_keep_282 rfl rfl ?_
    refine q_dup (pc' := 284) dX11_keep_283 rfl rfl ?_
    refine h_getiE (pc' := 287) dX11_keep_284 fX11_248 rfl rfl (e48) rfl ?_
    refine q_iconst (pc' := 288) (v := nI 1) dX11_keep_287 rfl rfl ?_
    refine q_iaddN (pc' := 289) dX11_keep_288 rfl ?_
    refine h_puti (pc' := 292) dX11_keep_289 fX11_248 rfl rfl rfl rfl rfl ?_
    generalize hm9 : sI (sA (sA m3 236 (q_u (m3.2.2.1 236) vs.length (nI c.1))) 237 (q_u ((sA m3 236 (q_u (m3.2.2.1 236) vs.length (nI c.1))).2.2.1 237) vs.length (nI c.2.1))) 215 48 (nI (vs.length + 1)) = m9
    have f9 : Fr [215, 236, 237] m3 m9 := hm9 ▸ ((Fr.rf.A (by decide)).A (by decide)).I (by decide)
    have k9 : Kp 215 [48] m3 m9 := hm9 ▸ kp_I Kp.rf (by decide)
    have fA : Fr [215, 233, 234, 235, 236, 237] m0 m9 := (f13.mono (by decide)).trans (f9.mono (by decide))
    have q6 : ∀ i, m9.2.2.1 236 i = q_u (m0.2.2.1 236) vs.length (nI c.1) i := fun i => by
      rw [← hm9]
      show q_u (m3.2.2.1 236) vs.length (nI c.1) i = _
      rw [f13.a (show 236 ∉ [233, 234, 235] by decide)]
    have q7 : ∀ i, m9.2.2.1 237 i = q_u (m0.2.2.1 237) vs.length (nI c.2.1) i := fun i => by
      rw [← hm9]
      show q_u (m3.2.2.1 237) vs.length (nI c.2.1) i = _
      rw [f13.a (show 237 ∉ [233, 234, 235] by decide)]
    have q3 : ∀ i, m9.2.2.2.1 233 i = m1.2.2.2.1 233 i := fun i => by rw [f9.l (by decide), f3.l (by decide), f2.l (by decide)]
    have q4 : ∀ i, m9.2.2.1 234 i = m2.2.2.1 234 i := fun i => by rw [f9.a (by decide), f3.a (by decide)]
    have q5 : ∀ i, m9.2.2.1 235 i = m3.2.2.1 235 i := fun i => by rw [f9.a (by decide)]
    have s2 : Cp 5 (5 * vs.length) (m0.2.2.1 234) (m0.2.2.1 224) (m2.2.2.1 234) := by rw [← f1.a (show 234 ∉ [233] by decide), ← f1.a (show 224 ∉ [233] by decide)]; exact s2
    have s3 : Cp 180 (180 * vs.length) (m0.2.2.1 235) (m0.2.2.1 225) (m3.2.2.1 235) := by rw [← f12.a (show 235 ∉ [233, 234] by decide), ← f12.a (show 225 ∉ [233, 234] by decide)]; exact s3
    have K9 : MKp m9 (c :: vs) := by
      refine ⟨by rw [← hm9]; rfl, by show vs.length + 1 ≤ 40; omega, fun i c1 hc => ?_⟩
      cases i with
      | zero =>
        cases hc
        show MS m9 (vs.length + 1 - 1 - 0) c
        rw [show vs.length + 1 - 1 - 0 = vs.length by omega]
        exact ⟨by rw [q6, q_u_s], by rw [q7, q_u_s], h3, h4, fun i hi => by rw [q3, s1.in (by omega)]; exact h5 i hi, fun i hi => by rw [q4, s2.in hi]; exact h6 i hi, fun i hi => by rw [q5, s3.in (by omega)]; exact h7 i hi, h8⟩
      | succ i =>
        have hc : vs[i]? = some c1 := hc
        have hi : i < vs.length := by
          rcases Nat.lt_or_ge i vs.length with q | q
          · exact q
          · rw [List.getElem?_eq_none q] at hc; cases hc
        show MS m9 (vs.length + 1 - 1 - (i + 1)) c1
        refine (b3 i c1 hc).pt (fun j hj => ?_) (fun j hj => ?_) (fun j hj => ?_) ?_ ?_
        · rw [q3, s1.lo (by omega), show vs.length + 1 - 1 - (i + 1) = vs.length - 1 - i by omega]
        · rw [q4, s2.lo (by omega), show vs.length + 1 - 1 - (i + 1) = vs.length - 1 - i by omega]
        · rw [q5, s3.lo (by omega), show vs.length + 1 - 1 - (i + 1) = vs.length - 1 - i by omega]
        · rw [q6, q_u_n _ _ (by omega), show vs.length + 1 - 1 - (i + 1) = vs.length - 1 - i by omega]
        · rw [q7, q_u_n _ _ (by omega), show vs.length + 1 - 1 - (i + 1) = vs.length - 1 - i by omega]
    refine q_vret dX11_keep_292 rfl ⟨_, rfl, rfl, f0.trans fA, k0.trans (((Kp.fr f13 (by decide)).trans k9)), K9⟩
  have b2 := hK.2.1
  refine q_aload_n (pc' := 1) dX11_keep_0 rfl rfl ?_
  refine h_getiE (pc' := 4) dX11_keep_1 fX11_248 rfl rfl (hK.1) rfl ?_
  refine q_bipush (pc' := 6) (v := nI 40) dX11_keep_4 rfl rfl ?_
  refine q_icmp_neN (tgt := 154) (pc' := 9) dX11_keep_6 (by decide) rfl (by omega) (fun c_6 => ?_) (fun c_6 => ?_)
  · refine fin m _ Fr.rf Kp.rf ?_
    rw [List.take_of_length_le (by omega)]
    exact hK
  have e : us.length = 40 := by omega
  have b3 := hK.2.2
  refine k_shA (fun m1 x1 f1 s1 => ?_)
  refine k_shB (fun m2 x2 f2 s2 => ?_)
  have f12 : Fr [233, 234] m m2 := (f1.mono (by decide)).trans (f2.mono (by decide))
  refine k_shC (fun m3 x3 f3 s3 => ?_)
  have f13 : Fr [233, 234, 235] m m3 := (f12.mono (by decide)).trans (f3.mono (by decide))
  refine k_shD (fun m4 x4 f4 s4 s5 => ?_)
  have f14 : Fr [233, 234, 235, 236, 237] m m4 := (f13.mono (by decide)).trans (f4.mono (by decide))
  have e48 : m4.1 215 48 = nI 40 := (congrFun (f14.i (by decide)) 48).trans (hK.1.trans (by rw [e]))
  refine q_aload_n (pc' := 145) dX11_keep_144 rfl rfl ?_
  refine q_dup (pc' := 146) dX11_keep_145 rfl rfl ?_
  refine h_getiE (pc' := 149) dX11_keep_146 fX11_248 rfl rfl (e48) rfl ?_
  refine q_iconst (pc' := 150) (v := nI 1) dX11_keep_149 rfl rfl ?_
  refine q_isubN (pc' := 151) dX11_keep_150 (by omega) rfl ?_
  refine h_puti (pc' := 154) dX11_keep_151 fX11_248 rfl rfl rfl rfl rfl ?_
  generalize hm9 : sI m4 215 48 (nI (40 - 1)) = m9
  have f9 : Fr [215] m4 m9 := hm9 ▸ Fr.rf.I (by decide)
  have k9 : Kp 215 [48] m4 m9 := hm9 ▸ kp_I Kp.rf (by decide)
  refine fin m9 _ ((f14.mono (by decide)).trans (f9.mono (by decide))) ((Kp.fr f14 (by decide)).trans k9) ?_
  have el : (us.take 39).length = 39 := by rw [List.length_take]; omega
  have s2 : Sh 5 200 (m.2.2.1 234) (m2.2.2.1 234) := by rw [← f1.a (show 234 ∉ [233] by decide)]; exact s2
  have s3 : Sh 180 7200 (m.2.2.1 235) (m3.2.2.1 235) := by rw [← f12.a (show 235 ∉ [233, 234] by decide)]; exact s3
  have s4 : Sh 1 40 (m.2.2.1 236) (m4.2.2.1 236) := by rw [← f13.a (show 236 ∉ [233, 234, 235] by decide)]; exact s4
  have s5 : Sh 1 40 (m.2.2.1 237) (m4.2.2.1 237) := by rw [← f13.a (show 237 ∉ [233, 234, 235] by decide)]; exact s5
  have q3 : ∀ i, m9.2.2.2.1 233 i = m1.2.2.2.1 233 i := fun i => by rw [f9.l (by decide), f4.l (by decide), f3.l (by decide), f2.l (by decide)]
  have q4 : ∀ i, m9.2.2.1 234 i = m2.2.2.1 234 i := fun i => by rw [f9.a (by decide), f4.a (by decide), f3.a (by decide)]
  have q5 : ∀ i, m9.2.2.1 235 i = m3.2.2.1 235 i := fun i => by rw [f9.a (by decide), f4.a (by decide)]
  have q6 : ∀ i, m9.2.2.1 236 i = m4.2.2.1 236 i := fun i => by rw [f9.a (by decide)]
  have q7 : ∀ i, m9.2.2.1 237 i = m4.2.2.1 237 i := fun i => by rw [f9.a (by decide)]
  refine ⟨by rw [← hm9, el]; rfl, by omega, fun i c1 hc => ?_⟩
  have hi : i < 39 := by
    rcases Nat.lt_or_ge i 39 with q | q
    · exact q
    · rw [List.getElem?_eq_none (by omega)] at hc; cases hc
  rw [List.getElem?_take_of_lt hi] at hc
  have hs := b3 i c1 hc
  rw [e] at hs
  rw [el]
  refine hs.pt (fun j hj => ?_) (fun j hj => ?_) (fun j hj => ?_) ?_ ?_
  · rw [q3, s1, if_pos (by omega), show 64 * (39 - 1 - i) + j + 64 = 64 * (40 - 1 - i) + j by omega]
  · rw [q4, s2, if_pos (by omega), show 5 * (39 - 1 - i) + j + 5 = 5 * (40 - 1 - i) + j by omega]
  · rw [q5, s3, if_pos (by omega), show 180 * (39 - 1 - i) + j + 180 = 180 * (40 - 1 - i) + j by omega]
  · rw [q6, s4, if_pos (by omega), show 39 - 1 - i + 1 = 40 - 1 - i by omega]
  · rw [q7, s5, if_pos (by omega), show 39 - 1 - i + 1 = 40 - 1 - i by omega]
set_option maxHeartbeats 4000000 in
set_option maxRecDepth 20000 in
theorem k_note {Z : q_Z} {m : q_Mm} {d : Nat} {t : Bool} {c : q_Cs} {a b : Int32} (hC : MC m t c) : q_V (q_g Z) mX11_note (d) 0 0 0 [some (.ref (q_ad Z 215)), some (.int a), some (.int b), none] [] (q_W Z m) (q_P Z fun r m2 => r = none ∧ Fr [215, 225] m m2 ∧ Kp 215 [21] m m2 ∧ MC m2 t (s_act c c.1 c.2.2.1 c.2.2.2.1 a b)) := by
  obtain ⟨h1, h2, h3, h4, h5, h6, h7, h8⟩ := hC
  have fin : ∀ (m0 : q_Mm) (u : Option Value), Fr [215, 225] m m0 → Kp 215 [21] m m0 → m0.1 215 21 = nI (s_nk c.2.1) → s_nk c.2.1 < 60 → (∀ i, i < 3 * s_nk c.2.1 → m0.2.2.1 225 i = if c.2.1 = 60 then c.2.2.2.2 (i + 3) else c.2.2.2.2 i) → q_V (q_g Z) mX11_note (d) 0 0 48 [some (.ref (q_ad Z 215)), some (.int a), some (.int b), u] [] (q_W Z (m0)) (q_P Z fun r m2 => r = none ∧ Fr [215, 225] m m2 ∧ Kp 215 [21] m m2 ∧ MC m2 t (s_act c c.1 c.2.2.1 c.2.2.2.1 a b)) := by
    intro m0 u f0 k0 e21 hk hg
    have e20 : m0.1 215 20 = nI c.1 := (k0 20 (by decide)).trans h1
    obtain ⟨n, hn⟩ : ∃ n, s_nk c.2.1 = n := ⟨_, rfl⟩
    rw [hn] at e21 hk hg
    refine q_aload_n (pc' := 49) dX11_note_48 rfl rfl ?_
    refine h_getr (pc' := 52) dX11_note_49 fX11_39 rfl rfl rfl ?_
    refine q_iconst (pc' := 53) (v := nI 3) dX11_note_52 rfl rfl ?_
    refine q_aload_n (pc' := 54) dX11_note_53 rfl rfl ?_
    refine h_getiE (pc' := 57) dX11_note_54 fX11_245 rfl rfl (e21) rfl ?_
    refine q_imulN (pc' := 58) dX11_note_57 rfl ?_
    refine q_iload_n (pc' := 59) dX11_note_58 rfl rfl ?_
    refine h_iast (pc' := 60) dX11_note_59 rfl (rfl) (by omega) (by decide) rfl ?_
    refine q_aload_n (pc' := 61) dX11_note_60 rfl rfl ?_
    refine h_getr (pc' := 64) dX11_note_61 fX11_39 rfl rfl rfl ?_
    refine q_iconst (pc' := 65) (v := nI 3) dX11_note_64 rfl rfl ?_
    refine q_aload_n (pc' := 66) dX11_note_65 rfl rfl ?_
    refine h_getiE (pc' := 69) dX11_note_66 fX11_245 rfl rfl (e21) rfl ?_
    refine q_imulN (pc' := 70) dX11_note_69 rfl ?_
    refine q_iconst (pc' := 71) (v := nI 1) dX11_note_70 rfl rfl ?_
    refine q_iaddN (pc' := 72) dX11_note_71 rfl ?_
    refine q_iload_n (pc' := 73) dX11_note_72 rfl rfl ?_
    refine h_iast (pc' := 74) dX11_note_73 rfl (rfl) (by omega) (by decide) rfl ?_
    refine q_aload_n (pc' := 75) dX11_note_74 rfl rfl ?_
    refine h_getr (pc' := 78) dX11_note_75 fX11_39 rfl rfl rfl ?_
    refine q_iconst (pc' := 79) (v := nI 3) dX11_note_78 rfl rfl ?_
    refine q_aload_n (pc' := 80) dX11_note_79 rfl rfl ?_
    refine h_getiE (pc' := 83) dX11_note_80 fX11_245 rfl rfl (e21) rfl ?_
    refine q_imulN (pc' := 84) dX11_note_83 rfl ?_
    refine q_iconst (pc' := 85) (v := nI 2) dX11_note_84 rfl rfl ?_
    refine q_iaddN (pc' := 86) dX11_note_85 rfl ?_
    refine q_aload_n (pc' := 87) dX11_note_86 rfl rfl ?_
    refine h_getiE (pc' := 90) dX11_note_87 fX11_242 rfl rfl (e20) rfl ?_
    refine h_iast (pc' := 91) dX11_note_90 rfl (rfl) (by omega) (by decide) rfl ?_
    refine q_aload_n (pc' := 92) dX11_note_91 rfl rfl ?_
    refine q_dup (pc' := 93) dX11_note_92 rfl rfl ?_
    refine h_getiE (pc' := 96) dX11_note_93 fX11_245 rfl rfl (e21) rfl ?_
    refine q_iconst (pc' := 97) (v := nI 1) dX11_note_96 rfl rfl ?_
    refine q_iaddN (pc' := 98) dX11_note_97 rfl ?_
    refine h_puti (pc' := 101) dX11_note_98 fX11_245 rfl rfl rfl rfl rfl ?_
    generalize hg3 : q_u (q_u (q_u (m0.2.2.1 225) (3 * n) a) (3 * n + 1) b) (3 * n + 2) (nI c.1) = g3
    generalize hm9 : sI (sA (sA (sA m0 225 (q_u (m0.2.2.1 225) (3 * n) a)) 225 (q_u ((sA m0 225 (q_u (m0.2.2.1 225) (3 * n) a)).2.2.1 225) (3 * n + 1) b)) 225 (q_u ((sA (sA m0 225 (q_u (m0.2.2.1 225) (3 * n) a)) 225 (q_u ((sA m0 225 (q_u (m0.2.2.1 225) (3 * n) a)).2.2.1 225) (3 * n + 1) b)).2.2.1 225) (3 * n + 2) (nI c.1))) 215 21 (nI (n + 1)) = m9
    have f9 : Fr [215, 225] m0 m9 := hm9 ▸ (((Fr.rf.A (by decide)).A (by decide)).A (by decide)).I (by decide)
    have k9 : Kp 215 [21] m0 m9 := hm9 ▸ kp_I Kp.rf (by decide)
    have e9 : m9.1 215 21 = nI (n + 1) := hm9 ▸ rfl
    have q9 : ∀ i, m9.2.2.1 225 i = q_u (q_u (q_u (m0.2.2.1 225) (3 * n) a) (3 * n + 1) b) (3 * n + 2) (nI c.1) i := fun i => by
      rw [← hm9]
      rfl
    have fA := f0.trans f9
    have kA := k0.trans k9
    have C9 : MC m9 t (s_act c c.1 c.2.2.1 c.2.2.2.1 a b) := by
      refine ⟨(kA 20 (by decide)).trans h1, by rw [e9, ← hn]; rfl, h3, by show s_nk c.2.1 + 1 ≤ 60; omega, fun i hi => (congrFun (fA.l (by decide)) i).trans (h5 i hi), fun z i hi => (congrFun (fA.a (by decide)) i).trans (h6 z i hi), fun i hi => ?_, h8⟩
      have hi : i < 3 * (s_nk c.2.1 + 1) := hi
      show _ = s_nt c.2.1 c.2.2.2.2 a b (nI c.1) i
      unfold s_nt
      rw [q9]
      rw [hn] at hi ⊢
      by_cases z2 : i = 3 * n + 2
      · rw [z2, q_u_s, if_neg (by omega), if_neg (by omega), if_pos rfl]
      rw [q_u_n _ _ z2]
      by_cases z1 : i = 3 * n + 1
      · rw [z1, q_u_s, if_neg (by omega), if_pos rfl]
      rw [q_u_n _ _ z1]
      by_cases z0 : i = 3 * n
      · rw [z0, q_u_s, if_pos rfl]
      rw [q_u_n _ _ z0, if_neg z0, if_neg z1, if_neg z2]
      exact hg i (by omega)
    refine q_vret dX11_note_101 rfl ⟨_, rfl, rfl, fA, kA, C9⟩
  refine q_aload_n (pc' := 1) dX11_note_0 rfl rfl ?_
  refine h_getiE (pc' := 4) dX11_note_1 fX11_245 rfl rfl (h2) rfl ?_
  refine q_bipush (pc' := 6) (v := nI 60) dX11_note_4 rfl rfl ?_
  refine q_icmp_neN (tgt := 48) (pc' := 9) dX11_note_6 (by decide) rfl (by omega) (fun c_6 => ?_) (fun c_6 => ?_)
  · have hk : s_nk c.2.1 = c.2.1 := if_neg c_6
    exact fin m _ Fr.rf Kp.rf (by rw [hk]; exact h2) (by omega) (fun i hi => by rw [if_neg c_6]; exact h7 i (by omega))
  have e : c.2.1 = 60 := by omega
  have hk : s_nk c.2.1 = 59 := if_pos e
  refine k_shN (fun m1 x1 f1 s1 => ?_)
  have e21 : m1.1 215 21 = nI 60 := (congrFun (f1.i (by decide)) 21).trans (h2.trans (by rw [e]))
  refine q_aload_n (pc' := 39) dX11_note_38 rfl rfl ?_
  refine q_dup (pc' := 40) dX11_note_39 rfl rfl ?_
  refine h_getiE (pc' := 43) dX11_note_40 fX11_245 rfl rfl (e21) rfl ?_
  refine q_iconst (pc' := 44) (v := nI 1) dX11_note_43 rfl rfl ?_
  refine q_isubN (pc' := 45) dX11_note_44 (by omega) rfl ?_
  refine h_puti (pc' := 48) dX11_note_45 fX11_245 rfl rfl rfl rfl rfl ?_
  refine fin _ _ ((f1.mono (by decide)).I (by decide)) (kp_I (Kp.fr f1 (by decide)) (by decide)) (by rw [hk]; rfl) (by omega) (fun i hi => ?_)
  show m1.2.2.1 225 i = _
  rw [hk] at hi
  rw [s1, if_pos (by omega), if_pos e]
  exact h7 _ (by omega)
set_option maxHeartbeats 4000000 in
set_option maxRecDepth 20000 in
theorem k_refuse {Z : q_Z} {m : q_Mm} {d : Nat} {w : Nat} (hw : w < 5) : q_V (q_g Z) mX11_isRefused (d+1) 0 0 0 [some (.ref (q_ad Z 215)), some (.int (nI w))] [] (q_W Z m) (q_P Z fun r m2 => r = some (.int (q_b true)) ∧ m2 = sA m 226 (q_u (m.2.2.1 226) w (m.2.2.1 226 w + nI 1))) := by
  refine q_iload_n (pc' := 1) dX11_isRefused_0 rfl rfl ?_
  refine q_iconst (pc' := 2) (v := (-1)) dX11_isRefused_1 rfl rfl ?_
  refine q_icmp_ne (tgt := 12) (pc' := 5) dX11_isRefused_2 (by decide) rfl (fun c_2 => ?_) (fun c_2 => ?_)
  rotate_left
  · exact absurd c_2 (z_m1n (by omega))
  refine q_aload_n (pc' := 13) dX11_isRefused_12 rfl rfl ?_
  refine h_getr (pc' := 16) dX11_isRefused_13 fX11_42 rfl rfl rfl ?_
  refine q_iload_n (pc' := 17) dX11_isRefused_16 rfl rfl ?_
  refine q_dup2_11 (pc' := 18) dX11_isRefused_17 rfl rfl rfl ?_
  refine h_iald (pc' := 19) dX11_isRefused_18 rfl (rfl) (by omega) (by decide) rfl ?_
  refine q_iconst (pc' := 20) (v := nI 1) dX11_isRefused_19 rfl rfl ?_
  refine q_iadd (pc' := 21) dX11_isRefused_20 rfl ?_
  refine h_iast (pc' := 22) dX11_isRefused_21 rfl (rfl) (by omega) (by decide) rfl ?_
  refine q_iload_n (pc' := 23) dX11_isRefused_22 rfl rfl ?_
  refine q_iconst (pc' := 24) (v := (-1)) dX11_isRefused_23 rfl rfl ?_
  refine q_icmp_eq (tgt := 31) (pc' := 27) dX11_isRefused_24 (by decide) rfl (fun c_24 => ?_) (fun c_24 => ?_)
  · exact absurd c_24 (z_m1n (by omega))
  refine q_iconst (pc' := 28) (v := nI 1) dX11_isRefused_27 rfl rfl ?_
  refine q_goto (pc' := 32) dX11_isRefused_28 (by decide) ?_
  refine q_iret dX11_isRefused_32 rfl (by first | exact q_nb0 | exact q_nb1 | exact q_nb _) ⟨_, rfl, rfl, rfl⟩
set_option maxHeartbeats 4000000 in
set_option maxRecDepth 20000 in
theorem k_keepR {Z : q_Z} {m : q_Mm} {d : Nat} {t : Bool} {c : q_Cs} {us : List q_Cs} (ht : t = true) (hC : MC m t c) (hK : MKp m us) : q_V (q_g Z) mX11_isRefused (d+1) 0 0 0 [some (.ref (q_ad Z 215)), some (.int (-1))] [] (q_W Z m) (q_P Z fun r m2 => r = some (.int (q_b false)) ∧ Fr [215, 233, 234, 235, 236, 237] m m2 ∧ Kp 215 [48] m m2 ∧ MKp m2 ((c :: us).take 40)) := by
  refine q_iload_n (pc' := 1) dX11_isRefused_0 rfl rfl ?_
  refine q_iconst (pc' := 2) (v := (-1)) dX11_isRefused_1 rfl rfl ?_
  refine q_icmp_ne (tgt := 12) (pc' := 5) dX11_isRefused_2 (by decide) rfl (fun c_2 => ?_) (fun c_2 => ?_)
  · exact absurd rfl c_2
  refine q_aload_n (pc' := 6) dX11_isRefused_5 rfl rfl ?_
  refine h_callV (pc' := 9) (M' := mX11_keep) (As := []) dX11_isRefused_6 iX11_keep lX11_430 rfl rfl rfl rfl (Nat.le_of_ble_eq_true rfl) (Nat.le_of_ble_eq_true rfl) rfl rfl (k_keep ht hC hK) (fun r m' hq => ?_)
  obtain ⟨rfl, f, k, K⟩ := hq
  refine q_goto (pc' := 22) dX11_isRefused_9 (by decide) ?_
  refine q_iload_n (pc' := 23) dX11_isRefused_22 rfl rfl ?_
  refine q_iconst (pc' := 24) (v := (-1)) dX11_isRefused_23 rfl rfl ?_
  refine q_icmp_eq (tgt := 31) (pc' := 27) dX11_isRefused_24 (by decide) rfl (fun c_24 => ?_) (fun c_24 => ?_)
  · refine q_iconst (pc' := 32) (v := nI 0) dX11_isRefused_31 rfl rfl ?_
    refine q_iret dX11_isRefused_32 rfl (by first | exact q_nb0 | exact q_nb1 | exact q_nb _) ⟨_, rfl, rfl, f, k, K⟩
  · exact absurd rfl c_24
