/-! ===== the reference's undo, image, back ===== -/
set_option maxHeartbeats 4000000 in
set_option maxRecDepth 20000 in
theorem k_unA {Z : q_Z} {m : q_Mm} {d a : Nat} {u : Option Value} {Q : _} (e : m.1 215 48 = nI a) (ha : a < 40) (k : ∀ m1 x, Fr [223] m m1 → (∀ i, i < 64 → m1.2.2.2.1 223 i = m.2.2.2.1 233 (64 * a + i)) → q_V (q_g Z) mX11_undo d 0 0 53 [some (.ref (q_ad Z 215)), some (.int x)] [] (q_W Z (m1)) Q) : q_V (q_g Z) mX11_undo d 0 0 19 [some (.ref (q_ad Z 215)), u] [] (q_W Z (m)) Q := by
  refine q_iconst (pc' := 20) (v := nI 0) dX11_undo_19 rfl rfl ?_
  refine q_istore_n (pc' := 21) (lv' := [_, _]) dX11_undo_20 (by decide) rfl rfl ?_
  suffices hl : ∀ g j m1, j + g = 64 → Fr [223] m m1 → (∀ i, i < j → m1.2.2.2.1 223 i = m.2.2.2.1 233 (64 * a + i)) → q_V (q_g Z) mX11_undo d 0 0 21 [some (.ref (q_ad Z 215)), some (.int (nI j))] [] (q_W Z (m1)) Q from hl 64 0 m (by decide) Fr.rf (fun i hi => absurd hi (by omega))
  intro g
  induction g with
  | zero =>
    intro j m1 hj f1 s1
    obtain rfl : j = 64 := by omega
    refine q_iload_n (pc' := 22) dX11_undo_21 rfl rfl ?_
    refine q_bipush (pc' := 24) (v := nI 64) dX11_undo_22 rfl rfl ?_
    refine q_icmp_geN (tgt := 53) (pc' := 27) dX11_undo_24 (by decide) rfl (by omega) (fun c_24 => ?_) (fun c_24 => ?_)
    · exact k m1 _ f1 s1
    · omega
  | succ g ih =>
    intro j m1 hj f1 s1
    have e1 : m1.1 215 48 = nI a := (congrFun (f1.i (by decide)) 48).trans e
    refine q_iload_n (pc' := 22) dX11_undo_21 rfl rfl ?_
    refine q_bipush (pc' := 24) (v := nI 64) dX11_undo_22 rfl rfl ?_
    refine q_icmp_geN (tgt := 53) (pc' := 27) dX11_undo_24 (by decide) rfl (by omega) (fun c_24 => ?_) (fun c_24 => ?_)
    · omega
    refine q_aload_n (pc' := 28) dX11_undo_27 rfl rfl ?_
    refine h_getr (pc' := 31) dX11_undo_28 fX11_33 rfl rfl rfl ?_
    refine q_iload_n (pc' := 32) dX11_undo_31 rfl rfl ?_
    refine q_aload_n (pc' := 33) dX11_undo_32 rfl rfl ?_
    refine h_getr (pc' := 36) dX11_undo_33 fX11_63 rfl rfl rfl ?_
    refine q_bipush (pc' := 38) (v := nI 64) dX11_undo_36 rfl rfl ?_
    refine q_aload_n (pc' := 39) dX11_undo_38 rfl rfl ?_
    refine h_getiE (pc' := 42) dX11_undo_39 fX11_248 rfl rfl (e1) rfl ?_
    refine q_imulN (pc' := 43) dX11_undo_42 rfl ?_
    refine q_iload_n (pc' := 44) dX11_undo_43 rfl rfl ?_
    refine q_iaddN (pc' := 45) dX11_undo_44 rfl ?_
    refine h_laldE (pc' := 46) dX11_undo_45 rfl (rfl) (by omega) (by decide) (congrFun (f1.l (by decide)) _) rfl ?_
    refine h_last (pc' := 47) dX11_undo_46 rfl (rfl) (by omega) (by decide) rfl ?_
    refine q_iincN (pc' := 50) (j := 1) (lv' := [_, _]) dX11_undo_47 rfl (by decide) rfl rfl ?_
    refine q_goto (pc' := 21) dX11_undo_50 (by decide) ?_
    refine ih (j + 1) _ (by omega) (f1.L (by decide)) (fun i hi => ?_)
    show q_u (m1.2.2.2.1 223) j (m.2.2.2.1 233 (64 * a + j)) i = _
    by_cases z : i = j
    · rw [z, q_u_s]
    · rw [q_u_n _ _ z]; exact s1 i (by omega)
set_option maxHeartbeats 4000000 in
set_option maxRecDepth 20000 in
theorem k_unB {Z : q_Z} {m : q_Mm} {d a : Nat} {u : Option Value} {Q : _} (e : m.1 215 48 = nI a) (ha : a < 40) (k : ∀ m1 x, Fr [224] m m1 → (∀ i, i < 5 → m1.2.2.1 224 i = m.2.2.1 234 (5 * a + i)) → q_V (q_g Z) mX11_undo d 0 0 85 [some (.ref (q_ad Z 215)), some (.int x)] [] (q_W Z (m1)) Q) : q_V (q_g Z) mX11_undo d 0 0 53 [some (.ref (q_ad Z 215)), u] [] (q_W Z (m)) Q := by
  refine q_iconst (pc' := 54) (v := nI 0) dX11_undo_53 rfl rfl ?_
  refine q_istore_n (pc' := 55) (lv' := [_, _]) dX11_undo_54 (by decide) rfl rfl ?_
  suffices hl : ∀ g j m1, j + g = 5 → Fr [224] m m1 → (∀ i, i < j → m1.2.2.1 224 i = m.2.2.1 234 (5 * a + i)) → q_V (q_g Z) mX11_undo d 0 0 55 [some (.ref (q_ad Z 215)), some (.int (nI j))] [] (q_W Z (m1)) Q from hl 5 0 m (by decide) Fr.rf (fun i hi => absurd hi (by omega))
  intro g
  induction g with
  | zero =>
    intro j m1 hj f1 s1
    obtain rfl : j = 5 := by omega
    refine q_iload_n (pc' := 56) dX11_undo_55 rfl rfl ?_
    refine q_iconst (pc' := 57) (v := nI 5) dX11_undo_56 rfl rfl ?_
    refine q_icmp_geN (tgt := 85) (pc' := 60) dX11_undo_57 (by decide) rfl (by omega) (fun c_57 => ?_) (fun c_57 => ?_)
    · exact k m1 _ f1 s1
    · omega
  | succ g ih =>
    intro j m1 hj f1 s1
    have e1 : m1.1 215 48 = nI a := (congrFun (f1.i (by decide)) 48).trans e
    refine q_iload_n (pc' := 56) dX11_undo_55 rfl rfl ?_
    refine q_iconst (pc' := 57) (v := nI 5) dX11_undo_56 rfl rfl ?_
    refine q_icmp_geN (tgt := 85) (pc' := 60) dX11_undo_57 (by decide) rfl (by omega) (fun c_57 => ?_) (fun c_57 => ?_)
    · omega
    refine q_aload_n (pc' := 61) dX11_undo_60 rfl rfl ?_
    refine h_getr (pc' := 64) dX11_undo_61 fX11_36 rfl rfl rfl ?_
    refine q_iload_n (pc' := 65) dX11_undo_64 rfl rfl ?_
    refine q_aload_n (pc' := 66) dX11_undo_65 rfl rfl ?_
    refine h_getr (pc' := 69) dX11_undo_66 fX11_66 rfl rfl rfl ?_
    refine q_iconst (pc' := 70) (v := nI 5) dX11_undo_69 rfl rfl ?_
    refine q_aload_n (pc' := 71) dX11_undo_70 rfl rfl ?_
    refine h_getiE (pc' := 74) dX11_undo_71 fX11_248 rfl rfl (e1) rfl ?_
    refine q_imulN (pc' := 75) dX11_undo_74 rfl ?_
    refine q_iload_n (pc' := 76) dX11_undo_75 rfl rfl ?_
    refine q_iaddN (pc' := 77) dX11_undo_76 rfl ?_
    refine h_ialdE (pc' := 78) dX11_undo_77 rfl (rfl) (by omega) (by decide) (congrFun (f1.a (by decide)) _) rfl ?_
    refine h_iast (pc' := 79) dX11_undo_78 rfl (rfl) (by omega) (by decide) rfl ?_
    refine q_iincN (pc' := 82) (j := 1) (lv' := [_, _]) dX11_undo_79 rfl (by decide) rfl rfl ?_
    refine q_goto (pc' := 55) dX11_undo_82 (by decide) ?_
    refine ih (j + 1) _ (by omega) (f1.A (by decide)) (fun i hi => ?_)
    show q_u (m1.2.2.1 224) j (m.2.2.1 234 (5 * a + j)) i = _
    by_cases z : i = j
    · rw [z, q_u_s]
    · rw [q_u_n _ _ z]; exact s1 i (by omega)
set_option maxHeartbeats 4000000 in
set_option maxRecDepth 20000 in
theorem k_unC {Z : q_Z} {m : q_Mm} {d a : Nat} {u : Option Value} {Q : _} (e : m.1 215 48 = nI a) (ha : a < 40) (k : ∀ m1 x, Fr [225] m m1 → (∀ i, i < 180 → m1.2.2.1 225 i = m.2.2.1 235 (180 * a + i)) → q_V (q_g Z) mX11_undo d 0 0 121 [some (.ref (q_ad Z 215)), some (.int x)] [] (q_W Z (m1)) Q) : q_V (q_g Z) mX11_undo d 0 0 85 [some (.ref (q_ad Z 215)), u] [] (q_W Z (m)) Q := by
  refine q_iconst (pc' := 86) (v := nI 0) dX11_undo_85 rfl rfl ?_
  refine q_istore_n (pc' := 87) (lv' := [_, _]) dX11_undo_86 (by decide) rfl rfl ?_
  suffices hl : ∀ g j m1, j + g = 180 → Fr [225] m m1 → (∀ i, i < j → m1.2.2.1 225 i = m.2.2.1 235 (180 * a + i)) → q_V (q_g Z) mX11_undo d 0 0 87 [some (.ref (q_ad Z 215)), some (.int (nI j))] [] (q_W Z (m1)) Q from hl 180 0 m (by decide) Fr.rf (fun i hi => absurd hi (by omega))
  intro g
  induction g with
  | zero =>
    intro j m1 hj f1 s1
    obtain rfl : j = 180 := by omega
    refine q_iload_n (pc' := 88) dX11_undo_87 rfl rfl ?_
    refine q_sipush (pc' := 91) (v := nI 180) dX11_undo_88 rfl rfl ?_
    refine q_icmp_geN (tgt := 121) (pc' := 94) dX11_undo_91 (by decide) rfl (by omega) (fun c_91 => ?_) (fun c_91 => ?_)
    · exact k m1 _ f1 s1
    · omega
  | succ g ih =>
    intro j m1 hj f1 s1
    have e1 : m1.1 215 48 = nI a := (congrFun (f1.i (by decide)) 48).trans e
    refine q_iload_n (pc' := 88) dX11_undo_87 rfl rfl ?_
    refine q_sipush (pc' := 91) (v := nI 180) dX11_undo_88 rfl rfl ?_
    refine q_icmp_geN (tgt := 121) (pc' := 94) dX11_undo_91 (by decide) rfl (by omega) (fun c_91 => ?_) (fun c_91 => ?_)
    · omega
    refine q_aload_n (pc' := 95) dX11_undo_94 rfl rfl ?_
    refine h_getr (pc' := 98) dX11_undo_95 fX11_39 rfl rfl rfl ?_
    refine q_iload_n (pc' := 99) dX11_undo_98 rfl rfl ?_
    refine q_aload_n (pc' := 100) dX11_undo_99 rfl rfl ?_
    refine h_getr (pc' := 103) dX11_undo_100 fX11_69 rfl rfl rfl ?_
    refine q_sipush (pc' := 106) (v := nI 180) dX11_undo_103 rfl rfl ?_
    refine q_aload_n (pc' := 107) dX11_undo_106 rfl rfl ?_
    refine h_getiE (pc' := 110) dX11_undo_107 fX11_248 rfl rfl (e1) rfl ?_
    refine q_imulN (pc' := 111) dX11_undo_110 rfl ?_
    refine q_iload_n (pc' := 112) dX11_undo_111 rfl rfl ?_
    refine q_iaddN (pc' := 113) dX11_undo_112 rfl ?_
    refine h_ialdE (pc' := 114) dX11_undo_113 rfl (rfl) (by omega) (by decide) (congrFun (f1.a (by decide)) _) rfl ?_
    refine h_iast (pc' := 115) dX11_undo_114 rfl (rfl) (by omega) (by decide) rfl ?_
    refine q_iincN (pc' := 118) (j := 1) (lv' := [_, _]) dX11_undo_115 rfl (by decide) rfl rfl ?_
    refine q_goto (pc' := 87) dX11_undo_118 (by decide) ?_
    refine ih (j + 1) _ (by omega) (f1.A (by decide)) (fun i hi => ?_)
    show q_u (m1.2.2.1 225) j (m.2.2.1 235 (180 * a + j)) i = _
    by_cases z : i = j
    · rw [z, q_u_s]
    · rw [q_u_n _ _ z]; exact s1 i (by omega)
set_option maxHeartbeats 4000000 in
set_option maxRecDepth 20000 in
theorem k_imA {Z : q_Z} {m : q_Mm} {d : Nat} {u : Option Value} {Q : _} (k : ∀ m1 x, Fr [239] m m1 → (∀ i, i < 64 → m1.2.2.2.1 239 i = m.2.2.2.1 223 i) → q_V (q_g Z) mX11_image d 0 0 35 [some (.ref (q_ad Z 215)), some (.int x)] [] (q_W Z (m1)) Q) : q_V (q_g Z) mX11_image d 0 0 9 [some (.ref (q_ad Z 215)), u] [] (q_W Z (m)) Q := by
  refine q_iconst (pc' := 10) (v := nI 0) dX11_image_9 rfl rfl ?_
  refine q_istore_n (pc' := 11) (lv' := [_, _]) dX11_image_10 (by decide) rfl rfl ?_
  suffices hl : ∀ g j m1, j + g = 64 → Fr [239] m m1 → (∀ i, i < j → m1.2.2.2.1 239 i = m.2.2.2.1 223 i) → q_V (q_g Z) mX11_image d 0 0 11 [some (.ref (q_ad Z 215)), some (.int (nI j))] [] (q_W Z (m1)) Q from hl 64 0 m (by decide) Fr.rf (fun i hi => absurd hi (by omega))
  intro g
  induction g with
  | zero =>
    intro j m1 hj f1 s1
    obtain rfl : j = 64 := by omega
    refine q_iload_n (pc' := 12) dX11_image_11 rfl rfl ?_
    refine q_bipush (pc' := 14) (v := nI 64) dX11_image_12 rfl rfl ?_
    refine q_icmp_geN (tgt := 35) (pc' := 17) dX11_image_14 (by decide) rfl (by omega) (fun c_14 => ?_) (fun c_14 => ?_)
    · exact k m1 _ f1 s1
    · omega
  | succ g ih =>
    intro j m1 hj f1 s1
    refine q_iload_n (pc' := 12) dX11_image_11 rfl rfl ?_
    refine q_bipush (pc' := 14) (v := nI 64) dX11_image_12 rfl rfl ?_
    refine q_icmp_geN (tgt := 35) (pc' := 17) dX11_image_14 (by decide) rfl (by omega) (fun c_14 => ?_) (fun c_14 => ?_)
    · omega
    refine q_aload_n (pc' := 18) dX11_image_17 rfl rfl ?_
    refine h_getr (pc' := 21) dX11_image_18 fX11_81 rfl rfl rfl ?_
    refine q_iload_n (pc' := 22) dX11_image_21 rfl rfl ?_
    refine q_aload_n (pc' := 23) dX11_image_22 rfl rfl ?_
    refine h_getr (pc' := 26) dX11_image_23 fX11_33 rfl rfl rfl ?_
    refine q_iload_n (pc' := 27) dX11_image_26 rfl rfl ?_
    refine h_laldE (pc' := 28) dX11_image_27 rfl (rfl) (by omega) (by decide) (congrFun (f1.l (by decide)) _) rfl ?_
    refine h_last (pc' := 29) dX11_image_28 rfl (rfl) (by omega) (by decide) rfl ?_
    refine q_iincN (pc' := 32) (j := 1) (lv' := [_, _]) dX11_image_29 rfl (by decide) rfl rfl ?_
    refine q_goto (pc' := 11) dX11_image_32 (by decide) ?_
    refine ih (j + 1) _ (by omega) (f1.L (by decide)) (fun i hi => ?_)
    show q_u (m1.2.2.2.1 239) j (m.2.2.2.1 223 j) i = _
    by_cases z : i = j
    · rw [z, q_u_s]
    · rw [q_u_n _ _ z]; exact s1 i (by omega)
set_option maxHeartbeats 4000000 in
set_option maxRecDepth 20000 in
theorem k_imB {Z : q_Z} {m : q_Mm} {d : Nat} {u : Option Value} {Q : _} (k : ∀ m1 x, Fr [240] m m1 → (∀ i, i < 5 → m1.2.2.1 240 i = m.2.2.1 224 i) → q_V (q_g Z) mX11_image d 0 0 60 [some (.ref (q_ad Z 215)), some (.int x)] [] (q_W Z (m1)) Q) : q_V (q_g Z) mX11_image d 0 0 35 [some (.ref (q_ad Z 215)), u] [] (q_W Z (m)) Q := by
  refine q_iconst (pc' := 36) (v := nI 0) dX11_image_35 rfl rfl ?_
  refine q_istore_n (pc' := 37) (lv' := [_, _]) dX11_image_36 (by decide) rfl rfl ?_
  suffices hl : ∀ g j m1, j + g = 5 → Fr [240] m m1 → (∀ i, i < j → m1.2.2.1 240 i = m.2.2.1 224 i) → q_V (q_g Z) mX11_image d 0 0 37 [some (.ref (q_ad Z 215)), some (.int (nI j))] [] (q_W Z (m1)) Q from hl 5 0 m (by decide) Fr.rf (fun i hi => absurd hi (by omega))
  intro g
  induction g with
  | zero =>
    intro j m1 hj f1 s1
    obtain rfl : j = 5 := by omega
    refine q_iload_n (pc' := 38) dX11_image_37 rfl rfl ?_
    refine q_iconst (pc' := 39) (v := nI 5) dX11_image_38 rfl rfl ?_
    refine q_icmp_geN (tgt := 60) (pc' := 42) dX11_image_39 (by decide) rfl (by omega) (fun c_39 => ?_) (fun c_39 => ?_)
    · exact k m1 _ f1 s1
    · omega
  | succ g ih =>
    intro j m1 hj f1 s1
    refine q_iload_n (pc' := 38) dX11_image_37 rfl rfl ?_
    refine q_iconst (pc' := 39) (v := nI 5) dX11_image_38 rfl rfl ?_
    refine q_icmp_geN (tgt := 60) (pc' := 42) dX11_image_39 (by decide) rfl (by omega) (fun c_39 => ?_) (fun c_39 => ?_)
    · omega
    refine q_aload_n (pc' := 43) dX11_image_42 rfl rfl ?_
    refine h_getr (pc' := 46) dX11_image_43 fX11_84 rfl rfl rfl ?_
    refine q_iload_n (pc' := 47) dX11_image_46 rfl rfl ?_
    refine q_aload_n (pc' := 48) dX11_image_47 rfl rfl ?_
    refine h_getr (pc' := 51) dX11_image_48 fX11_36 rfl rfl rfl ?_
    refine q_iload_n (pc' := 52) dX11_image_51 rfl rfl ?_
    refine h_ialdE (pc' := 53) dX11_image_52 rfl (rfl) (by omega) (by decide) (congrFun (f1.a (by decide)) _) rfl ?_
    refine h_iast (pc' := 54) dX11_image_53 rfl (rfl) (by omega) (by decide) rfl ?_
    refine q_iincN (pc' := 57) (j := 1) (lv' := [_, _]) dX11_image_54 rfl (by decide) rfl rfl ?_
    refine q_goto (pc' := 37) dX11_image_57 (by decide) ?_
    refine ih (j + 1) _ (by omega) (f1.A (by decide)) (fun i hi => ?_)
    show q_u (m1.2.2.1 240) j (m.2.2.1 224 j) i = _
    by_cases z : i = j
    · rw [z, q_u_s]
    · rw [q_u_n _ _ z]; exact s1 i (by omega)
set_option maxHeartbeats 4000000 in
set_option maxRecDepth 20000 in
theorem k_imC {Z : q_Z} {m : q_Mm} {d : Nat} {u : Option Value} {Q : _} (k : ∀ m1 x, Fr [241] m m1 → (∀ i, i < 180 → m1.2.2.1 241 i = m.2.2.1 225 i) → q_V (q_g Z) mX11_image d 0 0 87 [some (.ref (q_ad Z 215)), some (.int x)] [] (q_W Z (m1)) Q) : q_V (q_g Z) mX11_image d 0 0 60 [some (.ref (q_ad Z 215)), u] [] (q_W Z (m)) Q := by
  refine q_iconst (pc' := 61) (v := nI 0) dX11_image_60 rfl rfl ?_
  refine q_istore_n (pc' := 62) (lv' := [_, _]) dX11_image_61 (by decide) rfl rfl ?_
  suffices hl : ∀ g j m1, j + g = 180 → Fr [241] m m1 → (∀ i, i < j → m1.2.2.1 241 i = m.2.2.1 225 i) → q_V (q_g Z) mX11_image d 0 0 62 [some (.ref (q_ad Z 215)), some (.int (nI j))] [] (q_W Z (m1)) Q from hl 180 0 m (by decide) Fr.rf (fun i hi => absurd hi (by omega))
  intro g
  induction g with
  | zero =>
    intro j m1 hj f1 s1
    obtain rfl : j = 180 := by omega
    refine q_iload_n (pc' := 63) dX11_image_62 rfl rfl ?_
    refine q_sipush (pc' := 66) (v := nI 180) dX11_image_63 rfl rfl ?_
    refine q_icmp_geN (tgt := 87) (pc' := 69) dX11_image_66 (by decide) rfl (by omega) (fun c_66 => ?_) (fun c_66 => ?_)
    · exact k m1 _ f1 s1
    · omega
  | succ g ih =>
    intro j m1 hj f1 s1
    refine q_iload_n (pc' := 63) dX11_image_62 rfl rfl ?_
    refine q_sipush (pc' := 66) (v := nI 180) dX11_image_63 rfl rfl ?_
    refine q_icmp_geN (tgt := 87) (pc' := 69) dX11_image_66 (by decide) rfl (by omega) (fun c_66 => ?_) (fun c_66 => ?_)
    · omega
    refine q_aload_n (pc' := 70) dX11_image_69 rfl rfl ?_
    refine h_getr (pc' := 73) dX11_image_70 fX11_87 rfl rfl rfl ?_
    refine q_iload_n (pc' := 74) dX11_image_73 rfl rfl ?_
    refine q_aload_n (pc' := 75) dX11_image_74 rfl rfl ?_
    refine h_getr (pc' := 78) dX11_image_75 fX11_39 rfl rfl rfl ?_
    refine q_iload_n (pc' := 79) dX11_image_78 rfl rfl ?_
    refine h_ialdE (pc' := 80) dX11_image_79 rfl (rfl) (by omega) (by decide) (congrFun (f1.a (by decide)) _) rfl ?_
    refine h_iast (pc' := 81) dX11_image_80 rfl (rfl) (by omega) (by decide) rfl ?_
    refine q_iincN (pc' := 84) (j := 1) (lv' := [_, _]) dX11_image_81 rfl (by decide) rfl rfl ?_
    refine q_goto (pc' := 62) dX11_image_84 (by decide) ?_
    refine ih (j + 1) _ (by omega) (f1.A (by decide)) (fun i hi => ?_)
    show q_u (m1.2.2.1 241) j (m.2.2.1 225 j) i = _
    by_cases z : i = j
    · rw [z, q_u_s]
    · rw [q_u_n _ _ z]; exact s1 i (by omega)
set_option maxHeartbeats 4000000 in
set_option maxRecDepth 20000 in
theorem k_baA {Z : q_Z} {m : q_Mm} {d : Nat} {u : Option Value} {Q : _} (k : ∀ m1 x, Fr [223] m m1 → (∀ i, i < 64 → m1.2.2.2.1 223 i = m.2.2.2.1 239 i) → q_V (q_g Z) mX11_back d 0 0 35 [some (.ref (q_ad Z 215)), some (.int x)] [] (q_W Z (m1)) Q) : q_V (q_g Z) mX11_back d 0 0 9 [some (.ref (q_ad Z 215)), u] [] (q_W Z (m)) Q := by
  refine q_iconst (pc' := 10) (v := nI 0) dX11_back_9 rfl rfl ?_
  refine q_istore_n (pc' := 11) (lv' := [_, _]) dX11_back_10 (by decide) rfl rfl ?_
  suffices hl : ∀ g j m1, j + g = 64 → Fr [223] m m1 → (∀ i, i < j → m1.2.2.2.1 223 i = m.2.2.2.1 239 i) → q_V (q_g Z) mX11_back d 0 0 11 [some (.ref (q_ad Z 215)), some (.int (nI j))] [] (q_W Z (m1)) Q from hl 64 0 m (by decide) Fr.rf (fun i hi => absurd hi (by omega))
  intro g
  induction g with
  | zero =>
    intro j m1 hj f1 s1
    obtain rfl : j = 64 := by omega
    refine q_iload_n (pc' := 12) dX11_back_11 rfl rfl ?_
    refine q_bipush (pc' := 14) (v := nI 64) dX11_back_12 rfl rfl ?_
    refine q_icmp_geN (tgt := 35) (pc' := 17) dX11_back_14 (by decide) rfl (by omega) (fun c_14 => ?_) (fun c_14 => ?_)
    · exact k m1 _ f1 s1
    · omega
  | succ g ih =>
    intro j m1 hj f1 s1
    refine q_iload_n (pc' := 12) dX11_back_11 rfl rfl ?_
    refine q_bipush (pc' := 14) (v := nI 64) dX11_back_12 rfl rfl ?_
    refine q_icmp_geN (tgt := 35) (pc' := 17) dX11_back_14 (by decide) rfl (by omega) (fun c_14 => ?_) (fun c_14 => ?_)
    · omega
    refine q_aload_n (pc' := 18) dX11_back_17 rfl rfl ?_
    refine h_getr (pc' := 21) dX11_back_18 fX11_33 rfl rfl rfl ?_
    refine q_iload_n (pc' := 22) dX11_back_21 rfl rfl ?_
    refine q_aload_n (pc' := 23) dX11_back_22 rfl rfl ?_
    refine h_getr (pc' := 26) dX11_back_23 fX11_81 rfl rfl rfl ?_
    refine q_iload_n (pc' := 27) dX11_back_26 rfl rfl ?_
    refine h_laldE (pc' := 28) dX11_back_27 rfl (rfl) (by omega) (by decide) (congrFun (f1.l (by decide)) _) rfl ?_
    refine h_last (pc' := 29) dX11_back_28 rfl (rfl) (by omega) (by decide) rfl ?_
    refine q_iincN (pc' := 32) (j := 1) (lv' := [_, _]) dX11_back_29 rfl (by decide) rfl rfl ?_
    refine q_goto (pc' := 11) dX11_back_32 (by decide) ?_
    refine ih (j + 1) _ (by omega) (f1.L (by decide)) (fun i hi => ?_)
    show q_u (m1.2.2.2.1 223) j (m.2.2.2.1 239 j) i = _
    by_cases z : i = j
    · rw [z, q_u_s]
    · rw [q_u_n _ _ z]; exact s1 i (by omega)
set_option maxHeartbeats 4000000 in
set_option maxRecDepth 20000 in
theorem k_baB {Z : q_Z} {m : q_Mm} {d : Nat} {u : Option Value} {Q : _} (k : ∀ m1 x, Fr [224] m m1 → (∀ i, i < 5 → m1.2.2.1 224 i = m.2.2.1 240 i) → q_V (q_g Z) mX11_back d 0 0 60 [some (.ref (q_ad Z 215)), some (.int x)] [] (q_W Z (m1)) Q) : q_V (q_g Z) mX11_back d 0 0 35 [some (.ref (q_ad Z 215)), u] [] (q_W Z (m)) Q := by
  refine q_iconst (pc' := 36) (v := nI 0) dX11_back_35 rfl rfl ?_
  refine q_istore_n (pc' := 37) (lv' := [_, _]) dX11_back_36 (by decide) rfl rfl ?_
  suffices hl : ∀ g j m1, j + g = 5 → Fr [224] m m1 → (∀ i, i < j → m1.2.2.1 224 i = m.2.2.1 240 i) → q_V (q_g Z) mX11_back d 0 0 37 [some (.ref (q_ad Z 215)), some (.int (nI j))] [] (q_W Z (m1)) Q from hl 5 0 m (by decide) Fr.rf (fun i hi => absurd hi (by omega))
  intro g
  induction g with
  | zero =>
    intro j m1 hj f1 s1
    obtain rfl : j = 5 := by omega
    refine q_iload_n (pc' := 38) dX11_back_37 rfl rfl ?_
    refine q_iconst (pc' := 39) (v := nI 5) dX11_back_38 rfl rfl ?_
    refine q_icmp_geN (tgt := 60) (pc' := 42) dX11_back_39 (by decide) rfl (by omega) (fun c_39 => ?_) (fun c_39 => ?_)
    · exact k m1 _ f1 s1
    · omega
  | succ g ih =>
    intro j m1 hj f1 s1
    refine q_iload_n (pc' := 38) dX11_back_37 rfl rfl ?_
    refine q_iconst (pc' := 39) (v := nI 5) dX11_back_38 rfl rfl ?_
    refine q_icmp_geN (tgt := 60) (pc' := 42) dX11_back_39 (by decide) rfl (by omega) (fun c_39 => ?_) (fun c_39 => ?_)
    · omega
    refine q_aload_n (pc' := 43) dX11_back_42 rfl rfl ?_
    refine h_getr (pc' := 46) dX11_back_43 fX11_36 rfl rfl rfl ?_
    refine q_iload_n (pc' := 47) dX11_back_46 rfl rfl ?_
    refine q_aload_n (pc' := 48) dX11_back_47 rfl rfl ?_
    refine h_getr (pc' := 51) dX11_back_48 fX11_84 rfl rfl rfl ?_
    refine q_iload_n (pc' := 52) dX11_back_51 rfl rfl ?_
    refine h_ialdE (pc' := 53) dX11_back_52 rfl (rfl) (by omega) (by decide) (congrFun (f1.a (by decide)) _) rfl ?_
    refine h_iast (pc' := 54) dX11_back_53 rfl (rfl) (by omega) (by decide) rfl ?_
    refine q_iincN (pc' := 57) (j := 1) (lv' := [_, _]) dX11_back_54 rfl (by decide) rfl rfl ?_
    refine q_goto (pc' := 37) dX11_back_57 (by decide) ?_
    refine ih (j + 1) _ (by omega) (f1.A (by decide)) (fun i hi => ?_)
    show q_u (m1.2.2.1 224) j (m.2.2.1 240 j) i = _
    by_cases z : i = j
    · rw [z, q_u_s]
    · rw [q_u_n _ _ z]; exact s1 i (by omega)
set_option maxHeartbeats 4000000 in
set_option maxRecDepth 20000 in
theorem k_baC {Z : q_Z} {m : q_Mm} {d : Nat} {u : Option Value} {Q : _} (k : ∀ m1 x, Fr [225] m m1 → (∀ i, i < 180 → m1.2.2.1 225 i = m.2.2.1 241 i) → q_V (q_g Z) mX11_back d 0 0 87 [some (.ref (q_ad Z 215)), some (.int x)] [] (q_W Z (m1)) Q) : q_V (q_g Z) mX11_back d 0 0 60 [some (.ref (q_ad Z 215)), u] [] (q_W Z (m)) Q := by
  refine q_iconst (pc' := 61) (v := nI 0) dX11_back_60 rfl rfl ?_
  refine q_istore_n (pc' := 62) (lv' := [_, _]) dX11_back_61 (by decide) rfl rfl ?_
  suffices hl : ∀ g j m1, j + g = 180 → Fr [225] m m1 → (∀ i, i < j → m1.2.2.1 225 i = m.2.2.1 241 i) → q_V (q_g Z) mX11_back d 0 0 62 [some (.ref (q_ad Z 215)), some (.int (nI j))] [] (q_W Z (m1)) Q from hl 180 0 m (by decide) Fr.rf (fun i hi => absurd hi (by omega))
  intro g
  induction g with
  | zero =>
    intro j m1 hj f1 s1
    obtain rfl : j = 180 := by omega
    refine q_iload_n (pc' := 63) dX11_back_62 rfl rfl ?_
    refine q_sipush (pc' := 66) (v := nI 180) dX11_back_63 rfl rfl ?_
    refine q_icmp_geN (tgt := 87) (pc' := 69) dX11_back_66 (by decide) rfl (by omega) (fun c_66 => ?_) (fun c_66 => ?_)
    · exact k m1 _ f1 s1
    · omega
  | succ g ih =>
    intro j m1 hj f1 s1
    refine q_iload_n (pc' := 63) dX11_back_62 rfl rfl ?_
    refine q_sipush (pc' := 66) (v := nI 180) dX11_back_63 rfl rfl ?_
    refine q_icmp_geN (tgt := 87) (pc' := 69) dX11_back_66 (by decide) rfl (by omega) (fun c_66 => ?_) (fun c_66 => ?_)
    · omega
    refine q_aload_n (pc' := 70) dX11_back_69 rfl rfl ?_
    refine h_getr (pc' := 73) dX11_back_70 fX11_39 rfl rfl rfl ?_
    refine q_iload_n (pc' := 74) dX11_back_73 rfl rfl ?_
    refine q_aload_n (pc' := 75) dX11_back_74 rfl rfl ?_
    refine h_getr (pc' := 78) dX11_back_75 fX11_87 rfl rfl rfl ?_
    refine q_iload_n (pc' := 79) dX11_back_78 rfl rfl ?_
    refine h_ialdE (pc' := 80) dX11_back_79 rfl (rfl) (by omega) (by decide) (congrFun (f1.a (by decide)) _) rfl ?_
    refine h_iast (pc' := 81) dX11_back_80 rfl (rfl) (by omega) (by decide) rfl ?_
    refine q_iincN (pc' := 84) (j := 1) (lv' := [_, _]) dX11_back_81 rfl (by decide) rfl rfl ?_
    refine q_goto (pc' := 62) dX11_back_84 (by decide) ?_
    refine ih (j + 1) _ (by omega) (f1.A (by decide)) (fun i hi => ?_)
    show q_u (m1.2.2.1 225) j (m.2.2.1 241 j) i = _
    by_cases z : i = j
    · rw [z, q_u_s]
    · rw [q_u_n _ _ z]; exact s1 i (by omega)
/-- what UNDO of the reference answers and leaves -/
def MU (m2 m : q_Mm) (r : Option Value) (t im : Bool) (B L : List Nat) (c ck : q_Cs) (us : List q_Cs) (rf : Nat → Int32) : Prop := Dn m m2 ∧ match us with
  | [] => r = some (.int (-1)) ∧ MI m2 t im B L c ck us rf
  | c0 :: us0 => r = some (.int (nI us0.length)) ∧ MI m2 t im B L c0 ck us0 rf
set_option maxHeartbeats 4000000 in
set_option maxRecDepth 20000 in
theorem k_undo {Z : q_Z} {m : q_Mm} {d : Nat} {t im : Bool} {B L : List Nat} {c ck : q_Cs} {us : List q_Cs} {rf : Nat → Int32} (h : MI m t im B L c ck us rf) : q_V (q_g Z) mX11_undo (d) 0 0 0 [some (.ref (q_ad Z 215)), none] [] (q_W Z m) (q_P Z fun r m2 => MU m2 m r t im B L c ck us rf) := by
  have hK := h.mk
  have hK2 := hK.2.1
  refine q_aload_n (pc' := 1) dX11_undo_0 rfl rfl ?_
  refine h_getiE (pc' := 4) dX11_undo_1 fX11_248 rfl rfl (hK.1) rfl ?_
  refine q_if_neN (tgt := 9) (pc' := 7) dX11_undo_4 (by decide) rfl (by omega) (fun c_4 => ?_) (fun c_4 => ?_)
  · cases us with
    | nil => exact absurd c_4 (by simp)
    | cons c0 us0 =>
      have hle : us0.length + 1 ≤ 40 := hK.2.1
      have hK1 : m.1 215 48 = nI (us0.length + 1) := hK.1
      have hS : MS m us0.length c0 := by
        have := hK.2.2 0 c0 rfl
        rw [show (c0 :: us0).length - 1 - 0 = us0.length from rfl] at this
        exact this
      have hK3 : ∀ i c1, us0[i]? = some c1 → MS m (us0.length - 1 - i) c1 := fun i c1 hc => by
        have := hK.2.2 (i + 1) c1 hc
        rw [show (c0 :: us0).length - 1 - (i + 1) = us0.length - 1 - i by show us0.length + 1 - 1 - (i + 1) = _; omega] at this
        exact this
      obtain ⟨h1, h2, h3, h4, h5, h6, h7, h8, h9⟩ := h
      refine q_aload_n (pc' := 10) dX11_undo_9 rfl rfl ?_
      refine q_dup (pc' := 11) dX11_undo_10 rfl rfl ?_
      refine h_getiE (pc' := 14) dX11_undo_11 fX11_248 rfl rfl (hK1) rfl ?_
      refine q_iconst (pc' := 15) (v := nI 1) dX11_undo_14 rfl rfl ?_
      refine q_isubN (pc' := 16) dX11_undo_15 (by omega) rfl ?_
      refine h_puti (pc' := 19) dX11_undo_16 fX11_248 rfl rfl rfl rfl rfl ?_
      generalize hm0 : sI m 215 48 (nI (us0.length + 1 - 1)) = m0
      have f0 : Fr [215] m m0 := hm0 ▸ Fr.rf.I (by decide)
      have k0 : Kp 215 [48] m m0 := hm0 ▸ kp_I Kp.rf (by decide)
      have e0 : m0.1 215 48 = nI us0.length := hm0 ▸ rfl
      refine k_unA e0 (by omega) (fun m1 x1 f1 s1 => ?_)
      refine k_unB ((congrFun (f1.i (by decide)) 48).trans e0) (by omega) (fun m2 x2 f2 s2 => ?_)
      have f12 : Fr [223, 224] m0 m2 := (f1.mono (by decide)).trans (f2.mono (by decide))
      refine k_unC ((congrFun (f12.i (by decide)) 48).trans e0) (by omega) (fun m3 x3 f3 s3 => ?_)
      have f13 : Fr [223, 224, 225] m0 m3 := (f12.mono (by decide)).trans (f3.mono (by decide))
      have f03 : Fr [215, 223, 224, 225] m m3 := (f0.mono (by decide)).trans (f13.mono (by decide))
      have e3 : m3.1 215 48 = nI us0.length := (congrFun (f13.i (by decide)) 48).trans e0
      have n1 : m3.2.2.1 236 us0.length = nI c0.1 := (congrFun (f03.a (by decide)) _).trans hS.1
      have n2 : m3.2.2.1 237 us0.length = nI c0.2.1 := (congrFun (f03.a (by decide)) _).trans hS.2.1
      refine q_aload_n (pc' := 122) dX11_undo_121 rfl rfl ?_
      refine q_aload_n (pc' := 123) dX11_undo_122 rfl rfl ?_
      refine h_getr (pc' := 126) dX11_undo_123 fX11_72 rfl rfl rfl ?_
      refine q_aload_n (pc' := 127) dX11_undo_126 rfl rfl ?_
      refine h_getiE (pc' := 130) dX11_undo_127 fX11_248 rfl rfl (e3) rfl ?_
      refine h_ialdE (pc' := 131) dX11_undo_130 rfl (rfl) (by omega) (by decide) (n1) rfl ?_
      refine h_puti (pc' := 134) dX11_undo_131 fX11_242 rfl rfl rfl rfl rfl ?_
      refine q_aload_n (pc' := 135) dX11_undo_134 rfl rfl ?_
      refine q_aload_n (pc' := 136) dX11_undo_135 rfl rfl ?_
      refine h_getr (pc' := 139) dX11_undo_136 fX11_75 rfl rfl rfl ?_
      refine q_aload_n (pc' := 140) dX11_undo_139 rfl rfl ?_
      refine h_getiE (pc' := 143) dX11_undo_140 fX11_248 rfl rfl (e3) rfl ?_
      refine h_ialdE (pc' := 144) dX11_undo_143 rfl (rfl) (by omega) (by decide) (n2) rfl ?_
      refine h_puti (pc' := 147) dX11_undo_144 fX11_245 rfl rfl rfl rfl rfl ?_
      generalize hm9 : sI (sI m3 215 20 (nI c0.1)) 215 21 (nI c0.2.1) = m9
      have f9 : Fr [215] m3 m9 := hm9 ▸ (Fr.rf.I (by decide)).I (by decide)
      have k9 : Kp 215 [20, 21] m3 m9 := hm9 ▸ kp_I (kp_I Kp.rf (by decide)) (by decide)
      have f : Fr [215, 223, 224, 225] m m9 := f03.trans (f9.mono (by decide))
      have k : Kp 215 [20, 21, 48] m m9 := ((k0.mono (by decide)).trans (Kp.fr f13 (by decide))).trans (k9.mono (by decide))
      have e9 : m9.1 215 48 = nI us0.length := (k9 48 (by decide)).trans e3
      have q1 : ∀ i, m9.2.2.2.1 223 i = m1.2.2.2.1 223 i := fun i => by rw [f9.l (by decide), f3.l (by decide), f2.l (by decide)]
      have q2 : ∀ i, m9.2.2.1 224 i = m2.2.2.1 224 i := fun i => by rw [f9.a (by decide), f3.a (by decide)]
      have q3 : ∀ i, m9.2.2.1 225 i = m3.2.2.1 225 i := fun i => by rw [f9.a (by decide)]
      have s1 : ∀ i, i < 64 → m1.2.2.2.1 223 i = m.2.2.2.1 233 (64 * us0.length + i) := fun i hi => (s1 i hi).trans (congrFun (f0.l (by decide)) _)
      have s2 : ∀ i, i < 5 → m2.2.2.1 224 i = m.2.2.1 234 (5 * us0.length + i) := fun i hi => ((s2 i hi).trans (congrFun (f1.a (by decide)) _)).trans (congrFun (f0.a (by decide)) _)
      have s3 : ∀ i, i < 180 → m3.2.2.1 225 i = m.2.2.1 235 (180 * us0.length + i) := fun i hi => ((s3 i hi).trans (congrFun (f12.a (by decide)) _)).trans (congrFun (f0.a (by decide)) _)
      obtain ⟨g1, g2, g3, g4, g5, g6, g7, g8⟩ := hS
      have C9 : MC m9 t c0 := ⟨by rw [← hm9]; rfl, by rw [← hm9]; rfl, g3, g4, fun i hi => by rw [q1, s1 i (by omega)]; exact g5 i hi, fun z i hi => by rw [q2, s2 i hi]; exact g6 i hi, fun i hi => by rw [q3, s3 i (by omega)]; exact g7 i hi, g8⟩
      have K9 : MKp m9 us0 := ⟨e9, by omega, fun i c1 hc => (hK3 i c1 hc).fr f (by decide) (by decide) (by decide) (by decide) (by decide)⟩
      refine q_aload_n (pc' := 148) dX11_undo_147 rfl rfl ?_
      refine h_getiE (pc' := 151) dX11_undo_148 fX11_248 rfl rfl (e9) rfl ?_
      refine q_iret dX11_undo_151 rfl rfl ⟨_, rfl, f.dnn (by decide), rfl, h1.fr f (by decide) (by decide), h2.fr f (k _ (by decide)) (by decide), (k _ (by decide)).trans h3, (k _ (by decide)).trans h4, h5.fr f (k _ (by decide)) (by decide), C9, fun z => (h7 z).fr f (k _ (by decide)) (k _ (by decide)) (by decide) (by decide) (by decide), K9, fun i hi => (congrFun (f.a (by decide)) i).trans (h9 i hi)⟩
  · cases us with
    | nil =>
      refine q_iconst (pc' := 8) (v := (-1)) dX11_undo_7 rfl rfl ?_
      refine q_iret dX11_undo_8 rfl rfl ⟨_, rfl, ?_⟩
      exact ⟨Dn.rf, rfl, h⟩
    | cons c0 us0 => exact absurd c_4 (by simp)
set_option maxHeartbeats 4000000 in
set_option maxRecDepth 20000 in
theorem k_image {Z : q_Z} {m : q_Mm} {d : Nat} {t im : Bool} {B L : List Nat} {c ck : q_Cs} {us : List q_Cs} {rf : Nat → Int32} (h : MI m t im B L c ck us rf) : q_V (q_g Z) mX11_image (d) 0 0 0 [some (.ref (q_ad Z 215)), none] [] (q_W Z m) (q_P Z fun r m2 => r = some (.int (s_img t c)) ∧ MI m2 t (if t = true then true else im) B L c (if t = true then c else ck) us rf ∧ Dn m m2) := by
  unfold s_img
  refine q_aload_n (pc' := 1) dX11_image_0 rfl rfl ?_
  refine h_getiE (pc' := 4) dX11_image_1 fX11_238 rfl rfl (h.2.2.1) rfl ?_
  refine q_if_neB (tgt := 9) (pc' := 7) dX11_image_4 (by decide) rfl (fun c_4 => ?_) (fun c_4 => ?_)
  rotate_left
  · rw [if_neg (by rw [c_4]; decide), if_neg (by rw [c_4]; decide), if_neg (by rw [c_4]; decide)]
    refine q_iconst (pc' := 8) (v := (-1)) dX11_image_7 rfl rfl ?_
    refine q_iret dX11_image_8 rfl rfl ⟨_, rfl, rfl, h, Dn.rf⟩
  rw [if_pos c_4, if_pos c_4, if_pos c_4]
  obtain ⟨h1, h2, h3, h4, h5, h6, h7, h8, h9⟩ := h
  refine k_imA (fun m1 x1 f1 s1 => ?_)
  refine k_imB (fun m2 x2 f2 s2 => ?_)
  have f12 : Fr [239, 240] m m2 := (f1.mono (by decide)).trans (f2.mono (by decide))
  refine k_imC (fun m3 x3 f3 s3 => ?_)
  have f13 : Fr [239, 240, 241] m m3 := (f12.mono (by decide)).trans (f3.mono (by decide))
  have k13 := congrFun (f13.i (p := 215) (by decide))
  have C3 : MC m3 t c := h6.fr f13 (k13 20) (k13 21) (by decide) (by decide) (by decide)
  obtain ⟨g1, g2, g3, g4, g5, g6, g7, g8⟩ := C3
  have g6 := g6 c_4
  refine q_aload_n (pc' := 88) dX11_image_87 rfl rfl ?_
  refine q_aload_n (pc' := 89) dX11_image_88 rfl rfl ?_
  refine h_getiE (pc' := 92) dX11_image_89 fX11_242 rfl rfl (g1) rfl ?_
  refine h_puti (pc' := 95) dX11_image_92 fX11_479 rfl rfl rfl rfl rfl ?_
  refine q_aload_n (pc' := 96) dX11_image_95 rfl rfl ?_
  refine q_aload_n (pc' := 97) dX11_image_96 rfl rfl ?_
  refine h_getiE (pc' := 100) dX11_image_97 fX11_245 rfl rfl (g2) rfl ?_
  refine h_puti (pc' := 103) dX11_image_100 fX11_482 rfl rfl rfl rfl rfl ?_
  refine q_aload_n (pc' := 104) dX11_image_103 rfl rfl ?_
  refine q_iconst (pc' := 105) (v := nI 1) dX11_image_104 rfl rfl ?_
  refine h_puti (pc' := 108) dX11_image_105 fX11_254 rfl rfl (rfl) rfl rfl ?_
  generalize hm9 : sI (sI (sI m3 215 53 (nI c.1)) 215 54 (nI c.2.1)) 215 55 (nI 1) = m9
  have f9 : Fr [215] m3 m9 := hm9 ▸ ((Fr.rf.I (by decide)).I (by decide)).I (by decide)
  have k9 : Kp 215 [53, 54, 55] m3 m9 := hm9 ▸ kp_I (kp_I (kp_I Kp.rf (by decide)) (by decide)) (by decide)
  have f : Fr [215, 239, 240, 241] m m9 := (f13.mono (by decide)).trans (f9.mono (by decide))
  have k : Kp 215 [53, 54, 55] m m9 := (Kp.fr f13 (by decide)).trans k9
  have C9 : MC m9 t c := h6.fr f (k _ (by decide)) (k _ (by decide)) (by decide) (by decide) (by decide)
  have I9 : MIm m9 c := by
    refine ⟨by rw [← hm9]; rfl, by rw [← hm9]; rfl, g3, g4, fun i hi => ?_, fun i hi => ?_, fun i hi => ?_, g8⟩
    · rw [f9.l (by decide), f3.l (by decide), f2.l (by decide), s1 i (by omega), ← f13.l (show 223 ∉ [239, 240, 241] by decide)]; exact g5 i hi
    · rw [f9.a (by decide), f3.a (by decide), s2 i hi, f1.a (by decide), ← f13.a (show 224 ∉ [239, 240, 241] by decide)]; exact g6 i hi
    · rw [f9.a (by decide), s3 i (by omega), f12.a (by decide), ← f13.a (show 225 ∉ [239, 240, 241] by decide)]; exact g7 i hi
  refine q_aload_n (pc' := 109) dX11_image_108 rfl rfl ?_
  refine h_getiE (pc' := 112) dX11_image_109 fX11_242 rfl rfl (C9.1) rfl ?_
  refine q_iret dX11_image_112 rfl rfl ⟨_, rfl, rfl, ⟨h1.fr f (by decide) (by decide), h2.fr f (k _ (by decide)) (by decide), (k _ (by decide)).trans h3, by rw [← hm9]; rfl, h5.fr f (k _ (by decide)) (by decide), C9, fun _ => I9, h8.fr f (k _ (by decide)) (by decide) (by decide) (by decide) (by decide) (by decide), fun i hi => (congrFun (f.a (by decide)) i).trans (h9 i hi)⟩, f.dnn (by decide)⟩
set_option maxHeartbeats 4000000 in
set_option maxRecDepth 20000 in
theorem k_back {Z : q_Z} {m : q_Mm} {d : Nat} {t im : Bool} {B L : List Nat} {c ck : q_Cs} {us : List q_Cs} {rf : Nat → Int32} (h : MI m t im B L c ck us rf) : q_V (q_g Z) mX11_back (d) 0 0 0 [some (.ref (q_ad Z 215)), none] [] (q_W Z m) (q_P Z fun r m2 => r = some (.int (s_img im ck)) ∧ MI m2 t im B L (if im = true then ck else c) ck (if im = true then [] else us) rf ∧ Dn m m2) := by
  unfold s_img
  refine q_aload_n (pc' := 1) dX11_back_0 rfl rfl ?_
  refine h_getiE (pc' := 4) dX11_back_1 fX11_254 rfl rfl (h.2.2.2.1) rfl ?_
  refine q_if_neB (tgt := 9) (pc' := 7) dX11_back_4 (by decide) rfl (fun c_4 => ?_) (fun c_4 => ?_)
  rotate_left
  · rw [if_neg (by rw [c_4]; decide), if_neg (by rw [c_4]; decide), if_neg (by rw [c_4]; decide)]
    refine q_iconst (pc' := 8) (v := (-1)) dX11_back_7 rfl rfl ?_
    refine q_iret dX11_back_8 rfl rfl ⟨_, rfl, rfl, h, Dn.rf⟩
  rw [if_pos c_4, if_pos c_4, if_pos c_4]
  obtain ⟨h1, h2, h3, h4, h5, h6, h7, h8, h9⟩ := h
  obtain ⟨g1, g2, g3, g4, g5, g6, g7, g8⟩ := h7 c_4
  refine k_baA (fun m1 x1 f1 s1 => ?_)
  refine k_baB (fun m2 x2 f2 s2 => ?_)
  have f12 : Fr [223, 224] m m2 := (f1.mono (by decide)).trans (f2.mono (by decide))
  refine k_baC (fun m3 x3 f3 s3 => ?_)
  have f13 : Fr [223, 224, 225] m m3 := (f12.mono (by decide)).trans (f3.mono (by decide))
  have k13 := congrFun (f13.i (p := 215) (by decide))
  have e53 : m3.1 215 53 = nI ck.1 := (k13 53).trans g1
  have e54 : m3.1 215 54 = nI ck.2.1 := (k13 54).trans g2
  refine q_aload_n (pc' := 88) dX11_back_87 rfl rfl ?_
  refine q_aload_n (pc' := 89) dX11_back_88 rfl rfl ?_
  refine h_getiE (pc' := 92) dX11_back_89 fX11_479 rfl rfl (e53) rfl ?_
  refine h_puti (pc' := 95) dX11_back_92 fX11_242 rfl rfl rfl rfl rfl ?_
  have e54 : (sI m3 215 20 (nI ck.1)).1 215 54 = nI ck.2.1 := e54
  refine q_aload_n (pc' := 96) dX11_back_95 rfl rfl ?_
  refine q_aload_n (pc' := 97) dX11_back_96 rfl rfl ?_
  refine h_getiE (pc' := 100) dX11_back_97 fX11_482 rfl rfl (e54) rfl ?_
  refine h_puti (pc' := 103) dX11_back_100 fX11_245 rfl rfl rfl rfl rfl ?_
  refine q_aload_n (pc' := 104) dX11_back_103 rfl rfl ?_
  refine q_iconst (pc' := 105) (v := nI 0) dX11_back_104 rfl rfl ?_
  refine h_puti (pc' := 108) dX11_back_105 fX11_248 rfl rfl rfl rfl rfl ?_
  generalize hm9 : sI (sI (sI m3 215 20 (nI ck.1)) 215 21 (nI ck.2.1)) 215 48 (nI 0) = m9
  have f9 : Fr [215] m3 m9 := hm9 ▸ ((Fr.rf.I (by decide)).I (by decide)).I (by decide)
  have k9 : Kp 215 [20, 21, 48] m3 m9 := hm9 ▸ kp_I (kp_I (kp_I Kp.rf (by decide)) (by decide)) (by decide)
  have f : Fr [215, 223, 224, 225] m m9 := (f13.mono (by decide)).trans (f9.mono (by decide))
  have k : Kp 215 [20, 21, 48] m m9 := (Kp.fr f13 (by decide)).trans k9
  have C9 : MC m9 t ck := by
    refine ⟨by rw [← hm9]; rfl, by rw [← hm9]; rfl, g3, g4, fun i hi => ?_, fun _ i hi => ?_, fun i hi => ?_, g8⟩
    · rw [f9.l (by decide), f3.l (by decide), f2.l (by decide), s1 i (by omega)]; exact g5 i hi
    · rw [f9.a (by decide), f3.a (by decide), s2 i hi, f1.a (by decide)]; exact g6 i hi
    · rw [f9.a (by decide), s3 i (by omega), f12.a (by decide)]; exact g7 i hi
  refine q_aload_n (pc' := 109) dX11_back_108 rfl rfl ?_
  refine h_getiE (pc' := 112) dX11_back_109 fX11_242 rfl rfl (C9.1) rfl ?_
  refine q_iret dX11_back_112 rfl rfl ⟨_, rfl, rfl, ⟨h1.fr f (by decide) (by decide), h2.fr f (k _ (by decide)) (by decide), (k _ (by decide)).trans h3, (k _ (by decide)).trans h4, h5.fr f (k _ (by decide)) (by decide), C9, fun z => (h7 z).fr f (k _ (by decide)) (k _ (by decide)) (by decide) (by decide) (by decide), ⟨by rw [← hm9]; rfl, by decide, fun i c hc => by simp at hc⟩, fun i hi => (congrFun (f.a (by decide)) i).trans (h9 i hi)⟩, f.dnn (by decide)⟩
