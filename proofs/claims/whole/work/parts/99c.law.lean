/-! ===== the law, call by call ===== -/
set_option maxHeartbeats 4000000 in
set_option maxRecDepth 20000 in
theorem law_drop {Z : q_Z} {nm : String} {mc ms i : Nat} {m : q_Mm} {w5 w6 w7 : Option Value} {post : Option Value → va_W → Prop} (hi : i + 6 ≤ Z.2.2.2.2.2.1) (hL : Z.2.2.2.2.2.1 ≤ 3072) (hR : q_R m) (kk : ∀ m2, q_R m2 → q_V (q_g Z) (mL nm) 12 mc ms 1384 [some (.ref (Z.2.2.2.2.1 4)), some (.ref (q_ad Z 0)), some (.ref (q_ad Z 215)), some (.ref (q_ad Z 242)), some (.int (nI i)), w5, w6, w7] [] (q_W Z m2) post) : q_V (q_g Z) (mL nm) 12 mc ms 932 [some (.ref (Z.2.2.2.2.1 4)), some (.ref (q_ad Z 0)), some (.ref (q_ad Z 215)), some (.ref (q_ad Z 242)), some (.int (nI i)), w5, w6, w7] [] (q_W Z m) post := by
  obtain ⟨t, im, B, L, c, ck, us, rf, hC, hM⟩ := hR
  refine q_aload_n (pc' := 933) dL_law_932 rfl rfl ?_
  refine l_callV (pc' := 936) (M' := mX10_drop) (As := []) dL_law_933 iX10_drop lL_112 rfl rfl rfl rfl (Nat.le_of_ble_eq_true rfl) (Nat.le_of_ble_eq_true rfl) rfl rfl (c_drop hC) (fun r m' hq => ?_)
  obtain ⟨rfl, hC1, u1⟩ := hq.u
  obtain ⟨m1, hm1⟩ : ∃ z, z = m' := ⟨_, rfl⟩
  subst hm1
  have hM1 := hM.up u1
  refine q_aload_n (pc' := 937) dL_law_936 rfl rfl ?_
  refine l_callV (pc' := 940) (M' := mX11_drop) (As := []) dL_law_937 iX11_drop lL_115 rfl rfl rfl rfl (Nat.le_of_ble_eq_true rfl) (Nat.le_of_ble_eq_true rfl) rfl rfl (k_drop hM1) (fun r m' hq => ?_)
  obtain ⟨rfl, hM2, d2⟩ := hq.u
  refine q_icmp_eq (tgt := 1384) (pc' := 943) dL_law_940 (by decide) rfl (fun _ => ?_) (fun z => absurd rfl z)
  exact kk _ (q_R.of hC1 hM2 d2)
set_option maxHeartbeats 4000000 in
set_option maxRecDepth 20000 in
theorem law_swap {Z : q_Z} {nm : String} {mc ms i : Nat} {m : q_Mm} {w5 w6 w7 : Option Value} {post : Option Value → va_W → Prop} (hi : i + 6 ≤ Z.2.2.2.2.2.1) (hL : Z.2.2.2.2.2.1 ≤ 3072) (hR : q_R m) (kk : ∀ m2, q_R m2 → q_V (q_g Z) (mL nm) 12 mc ms 1384 [some (.ref (Z.2.2.2.2.1 4)), some (.ref (q_ad Z 0)), some (.ref (q_ad Z 215)), some (.ref (q_ad Z 242)), some (.int (nI i)), w5, w6, w7] [] (q_W Z m2) post) : q_V (q_g Z) (mL nm) 12 mc ms 945 [some (.ref (Z.2.2.2.2.1 4)), some (.ref (q_ad Z 0)), some (.ref (q_ad Z 215)), some (.ref (q_ad Z 242)), some (.int (nI i)), w5, w6, w7] [] (q_W Z m) post := by
  obtain ⟨t, im, B, L, c, ck, us, rf, hC, hM⟩ := hR
  refine q_aload_n (pc' := 946) dL_law_945 rfl rfl ?_
  refine q_aload_n (pc' := 947) dL_law_946 rfl rfl ?_
  refine q_iload (pc' := 949) dL_law_947 rfl rfl ?_
  refine q_iconst (pc' := 950) (v := nI 1) dL_law_949 rfl rfl ?_
  refine q_iaddN (pc' := 951) dL_law_950 rfl ?_
  refine l_ld (pc' := 952) dL_law_951 rfl (by omega) hL rfl ?_
  refine q_aload_n (pc' := 953) dL_law_952 rfl rfl ?_
  refine q_iload (pc' := 955) dL_law_953 rfl rfl ?_
  refine q_iconst (pc' := 956) (v := nI 2) dL_law_955 rfl rfl ?_
  refine q_iaddN (pc' := 957) dL_law_956 rfl ?_
  refine l_ld (pc' := 958) dL_law_957 rfl (by omega) hL rfl ?_
  refine l_callV (pc' := 961) (M' := mX10_swap) (As := [_, _]) dL_law_958 iX10_swap lL_116 rfl rfl rfl rfl (Nat.le_of_ble_eq_true rfl) (Nat.le_of_ble_eq_true rfl) rfl rfl (c_swap hC) (fun r m' hq => ?_)
  obtain ⟨rfl, hC1, u1⟩ := hq.u
  obtain ⟨m1, hm1⟩ : ∃ z, z = m' := ⟨_, rfl⟩
  subst hm1
  have hM1 := hM.up u1
  refine q_aload_n (pc' := 962) dL_law_961 rfl rfl ?_
  refine q_aload_n (pc' := 963) dL_law_962 rfl rfl ?_
  refine q_iload (pc' := 965) dL_law_963 rfl rfl ?_
  refine q_iconst (pc' := 966) (v := nI 1) dL_law_965 rfl rfl ?_
  refine q_iaddN (pc' := 967) dL_law_966 rfl ?_
  refine l_ld (pc' := 968) dL_law_967 rfl (by omega) hL rfl ?_
  refine q_aload_n (pc' := 969) dL_law_968 rfl rfl ?_
  refine q_iload (pc' := 971) dL_law_969 rfl rfl ?_
  refine q_iconst (pc' := 972) (v := nI 2) dL_law_971 rfl rfl ?_
  refine q_iaddN (pc' := 973) dL_law_972 rfl ?_
  refine l_ld (pc' := 974) dL_law_973 rfl (by omega) hL rfl ?_
  refine l_callV (pc' := 977) (M' := mX11_swap) (As := [_, _]) dL_law_974 iX11_swap lL_119 rfl rfl rfl rfl (Nat.le_of_ble_eq_true rfl) (Nat.le_of_ble_eq_true rfl) rfl rfl (k_swap hM1) (fun r m' hq => ?_)
  obtain ⟨rfl, hM2, d2⟩ := hq.u
  refine q_icmp_eq (tgt := 1384) (pc' := 980) dL_law_977 (by decide) rfl (fun _ => ?_) (fun z => absurd rfl z)
  exact kk _ (q_R.of hC1 hM2 d2)
set_option maxHeartbeats 4000000 in
set_option maxRecDepth 20000 in
theorem law_set {Z : q_Z} {nm : String} {mc ms i : Nat} {m : q_Mm} {w5 w6 w7 : Option Value} {post : Option Value → va_W → Prop} (hi : i + 6 ≤ Z.2.2.2.2.2.1) (hL : Z.2.2.2.2.2.1 ≤ 3072) (hR : q_R m) (kk : ∀ m2, q_R m2 → q_V (q_g Z) (mL nm) 12 mc ms 1384 [some (.ref (Z.2.2.2.2.1 4)), some (.ref (q_ad Z 0)), some (.ref (q_ad Z 215)), some (.ref (q_ad Z 242)), some (.int (nI i)), w5, w6, w7] [] (q_W Z m2) post) : q_V (q_g Z) (mL nm) 12 mc ms 982 [some (.ref (Z.2.2.2.2.1 4)), some (.ref (q_ad Z 0)), some (.ref (q_ad Z 215)), some (.ref (q_ad Z 242)), some (.int (nI i)), w5, w6, w7] [] (q_W Z m) post := by
  obtain ⟨t, im, B, L, c, ck, us, rf, hC, hM⟩ := hR
  refine q_aload_n (pc' := 983) dL_law_982 rfl rfl ?_
  refine q_aload_n (pc' := 984) dL_law_983 rfl rfl ?_
  refine q_iload (pc' := 986) dL_law_984 rfl rfl ?_
  refine q_iconst (pc' := 987) (v := nI 1) dL_law_986 rfl rfl ?_
  refine q_iaddN (pc' := 988) dL_law_987 rfl ?_
  refine l_ld (pc' := 989) dL_law_988 rfl (by omega) hL rfl ?_
  refine q_aload_n (pc' := 990) dL_law_989 rfl rfl ?_
  refine q_iload (pc' := 992) dL_law_990 rfl rfl ?_
  refine q_iconst (pc' := 993) (v := nI 2) dL_law_992 rfl rfl ?_
  refine q_iaddN (pc' := 994) dL_law_993 rfl ?_
  refine l_ld (pc' := 995) dL_law_994 rfl (by omega) hL rfl ?_
  refine l_callV (pc' := 998) (M' := mX10_set) (As := [_, _]) dL_law_995 iX10_set lL_120 rfl rfl rfl rfl (Nat.le_of_ble_eq_true rfl) (Nat.le_of_ble_eq_true rfl) rfl rfl (c_set hC) (fun r m' hq => ?_)
  obtain ⟨rfl, hC1, u1⟩ := hq.u
  obtain ⟨m1, hm1⟩ : ∃ z, z = m' := ⟨_, rfl⟩
  subst hm1
  have hM1 := hM.up u1
  refine q_aload_n (pc' := 999) dL_law_998 rfl rfl ?_
  refine q_aload_n (pc' := 1000) dL_law_999 rfl rfl ?_
  refine q_iload (pc' := 1002) dL_law_1000 rfl rfl ?_
  refine q_iconst (pc' := 1003) (v := nI 1) dL_law_1002 rfl rfl ?_
  refine q_iaddN (pc' := 1004) dL_law_1003 rfl ?_
  refine l_ld (pc' := 1005) dL_law_1004 rfl (by omega) hL rfl ?_
  refine q_aload_n (pc' := 1006) dL_law_1005 rfl rfl ?_
  refine q_iload (pc' := 1008) dL_law_1006 rfl rfl ?_
  refine q_iconst (pc' := 1009) (v := nI 2) dL_law_1008 rfl rfl ?_
  refine q_iaddN (pc' := 1010) dL_law_1009 rfl ?_
  refine l_ld (pc' := 1011) dL_law_1010 rfl (by omega) hL rfl ?_
  refine l_callV (pc' := 1014) (M' := mX11_set) (As := [_, _]) dL_law_1011 iX11_set lL_123 rfl rfl rfl rfl (Nat.le_of_ble_eq_true rfl) (Nat.le_of_ble_eq_true rfl) rfl rfl (k_set hM1) (fun r m' hq => ?_)
  obtain ⟨rfl, hM2, d2⟩ := hq.u
  refine q_icmp_eq (tgt := 1384) (pc' := 1017) dL_law_1014 (by decide) rfl (fun _ => ?_) (fun z => absurd rfl z)
  exact kk _ (q_R.of hC1 hM2 d2)
set_option maxHeartbeats 4000000 in
set_option maxRecDepth 20000 in
theorem law_take {Z : q_Z} {nm : String} {mc ms i : Nat} {m : q_Mm} {w5 w6 w7 : Option Value} {post : Option Value → va_W → Prop} (hi : i + 6 ≤ Z.2.2.2.2.2.1) (hL : Z.2.2.2.2.2.1 ≤ 3072) (hR : q_R m) (kk : ∀ m2, q_R m2 → q_V (q_g Z) (mL nm) 12 mc ms 1384 [some (.ref (Z.2.2.2.2.1 4)), some (.ref (q_ad Z 0)), some (.ref (q_ad Z 215)), some (.ref (q_ad Z 242)), some (.int (nI i)), w5, w6, w7] [] (q_W Z m2) post) : q_V (q_g Z) (mL nm) 12 mc ms 1019 [some (.ref (Z.2.2.2.2.1 4)), some (.ref (q_ad Z 0)), some (.ref (q_ad Z 215)), some (.ref (q_ad Z 242)), some (.int (nI i)), w5, w6, w7] [] (q_W Z m) post := by
  obtain ⟨t, im, B, L, c, ck, us, rf, hC, hM⟩ := hR
  refine q_aload_n (pc' := 1020) dL_law_1019 rfl rfl ?_
  refine l_callV (pc' := 1023) (M' := mX10_take) (As := []) dL_law_1020 iX10_take lL_124 rfl rfl rfl rfl (Nat.le_of_ble_eq_true rfl) (Nat.le_of_ble_eq_true rfl) rfl rfl (c_take hC) (fun r m' hq => ?_)
  obtain ⟨rfl, hC1, u1⟩ := hq.u
  obtain ⟨m1, hm1⟩ : ∃ z, z = m' := ⟨_, rfl⟩
  subst hm1
  have hM1 := hM.up u1
  refine q_aload_n (pc' := 1024) dL_law_1023 rfl rfl ?_
  refine l_callV (pc' := 1027) (M' := mX11_take) (As := []) dL_law_1024 iX11_take lL_127 rfl rfl rfl rfl (Nat.le_of_ble_eq_true rfl) (Nat.le_of_ble_eq_true rfl) rfl rfl (k_take hM1) (fun r m' hq => ?_)
  obtain ⟨rfl, hM2, d2⟩ := hq.u
  refine q_icmp_eq (tgt := 1384) (pc' := 1030) dL_law_1027 (by decide) rfl (fun _ => ?_) (fun z => absurd rfl z)
  exact kk _ (q_R.of hC1 hM2 d2)
set_option maxHeartbeats 4000000 in
set_option maxRecDepth 20000 in
theorem law_status {Z : q_Z} {nm : String} {mc ms i : Nat} {m : q_Mm} {w5 w6 w7 : Option Value} {post : Option Value → va_W → Prop} (hi : i + 6 ≤ Z.2.2.2.2.2.1) (hL : Z.2.2.2.2.2.1 ≤ 3072) (hR : q_R m) (kk : ∀ m2, q_R m2 → q_V (q_g Z) (mL nm) 12 mc ms 1384 [some (.ref (Z.2.2.2.2.1 4)), some (.ref (q_ad Z 0)), some (.ref (q_ad Z 215)), some (.ref (q_ad Z 242)), some (.int (nI i)), w5, w6, w7] [] (q_W Z m2) post) : q_V (q_g Z) (mL nm) 12 mc ms 1032 [some (.ref (Z.2.2.2.2.1 4)), some (.ref (q_ad Z 0)), some (.ref (q_ad Z 215)), some (.ref (q_ad Z 242)), some (.int (nI i)), w5, w6, w7] [] (q_W Z m) post := by
  obtain ⟨t, im, B, L, c, ck, us, rf, hC, hM⟩ := hR
  refine q_aload_n (pc' := 1033) dL_law_1032 rfl rfl ?_
  refine q_aload_n (pc' := 1034) dL_law_1033 rfl rfl ?_
  refine q_iload (pc' := 1036) dL_law_1034 rfl rfl ?_
  refine q_iconst (pc' := 1037) (v := nI 1) dL_law_1036 rfl rfl ?_
  refine q_iaddN (pc' := 1038) dL_law_1037 rfl ?_
  refine l_ld (pc' := 1039) dL_law_1038 rfl (by omega) hL rfl ?_
  refine l_callV (pc' := 1042) (M' := mX10_status) (As := [_]) dL_law_1039 iX10_status lL_128 rfl rfl rfl rfl (Nat.le_of_ble_eq_true rfl) (Nat.le_of_ble_eq_true rfl) rfl rfl (c_status) (fun r m' hq => ?_)
  obtain ⟨rfl, hmm⟩ := hq
  subst m'
  have hC1 := hC
  have u1 : Up m m := Up.rf
  rw [status_is hC]
  obtain ⟨m1, hm1⟩ : ∃ z, z = m := ⟨_, rfl⟩
  subst hm1
  have hM1 := hM.up u1
  refine q_aload_n (pc' := 1043) dL_law_1042 rfl rfl ?_
  refine q_aload_n (pc' := 1044) dL_law_1043 rfl rfl ?_
  refine q_iload (pc' := 1046) dL_law_1044 rfl rfl ?_
  refine q_iconst (pc' := 1047) (v := nI 1) dL_law_1046 rfl rfl ?_
  refine q_iaddN (pc' := 1048) dL_law_1047 rfl ?_
  refine l_ld (pc' := 1049) dL_law_1048 rfl (by omega) hL rfl ?_
  refine l_callV (pc' := 1052) (M' := mX11_status) (As := [_]) dL_law_1049 iX11_status lL_131 rfl rfl rfl rfl (Nat.le_of_ble_eq_true rfl) (Nat.le_of_ble_eq_true rfl) rfl rfl (k_status hM1) (fun r m' hq => ?_)
  obtain ⟨rfl, hmm⟩ := hq
  subst m'
  have hM2 := hM1
  have d2 : Dn m1 m1 := Dn.rf
  refine q_icmp_eq (tgt := 1384) (pc' := 1055) dL_law_1052 (by decide) rfl (fun _ => ?_) (fun z => absurd rfl z)
  exact kk _ (q_R.of hC1 hM2 d2)
set_option maxHeartbeats 4000000 in
set_option maxRecDepth 20000 in
theorem law_undo {Z : q_Z} {nm : String} {mc ms i : Nat} {m : q_Mm} {w5 w6 w7 : Option Value} {post : Option Value → va_W → Prop} (hi : i + 6 ≤ Z.2.2.2.2.2.1) (hL : Z.2.2.2.2.2.1 ≤ 3072) (hR : q_R m) (kk : ∀ m2, q_R m2 → q_V (q_g Z) (mL nm) 12 mc ms 1384 [some (.ref (Z.2.2.2.2.1 4)), some (.ref (q_ad Z 0)), some (.ref (q_ad Z 215)), some (.ref (q_ad Z 242)), some (.int (nI i)), w5, w6, w7] [] (q_W Z m2) post) : q_V (q_g Z) (mL nm) 12 mc ms 1057 [some (.ref (Z.2.2.2.2.1 4)), some (.ref (q_ad Z 0)), some (.ref (q_ad Z 215)), some (.ref (q_ad Z 242)), some (.int (nI i)), w5, w6, w7] [] (q_W Z m) post := by
  obtain ⟨t, im, B, L, c, ck, us, rf, hC, hM⟩ := hR
  refine q_aload_n (pc' := 1058) dL_law_1057 rfl rfl ?_
  refine l_callV (pc' := 1061) (M' := mX10_undo) (As := []) dL_law_1058 iX10_undo lL_132 rfl rfl rfl rfl (Nat.le_of_ble_eq_true rfl) (Nat.le_of_ble_eq_true rfl) rfl rfl (c_undo hC) (fun r m' hq => ?_)
  obtain ⟨rfl, hC1, u1⟩ := hq.u
  obtain ⟨m1, hm1⟩ : ∃ z, z = m' := ⟨_, rfl⟩
  subst hm1
  have hM1 := hM.up u1
  refine q_aload_n (pc' := 1062) dL_law_1061 rfl rfl ?_
  refine l_callV (pc' := 1065) (M' := mX11_undo) (As := []) dL_law_1062 iX11_undo lL_135 rfl rfl rfl rfl (Nat.le_of_ble_eq_true rfl) (Nat.le_of_ble_eq_true rfl) rfl rfl (k_undo hM1) (fun r m' hq => ?_)
  obtain ⟨rfl, hM2, d2⟩ := hq.u
  refine q_icmp_eq (tgt := 1384) (pc' := 1068) dL_law_1065 (by decide) rfl (fun _ => ?_) (fun z => absurd rfl z)
  exact kk _ (q_R.of hC1 hM2 d2)
set_option maxHeartbeats 4000000 in
set_option maxRecDepth 20000 in
theorem law_log {Z : q_Z} {nm : String} {mc ms i : Nat} {m : q_Mm} {w5 w6 w7 : Option Value} {post : Option Value → va_W → Prop} (hi : i + 6 ≤ Z.2.2.2.2.2.1) (hL : Z.2.2.2.2.2.1 ≤ 3072) (hR : q_R m) (kk : ∀ m2, q_R m2 → q_V (q_g Z) (mL nm) 12 mc ms 1384 [some (.ref (Z.2.2.2.2.1 4)), some (.ref (q_ad Z 0)), some (.ref (q_ad Z 215)), some (.ref (q_ad Z 242)), some (.int (nI i)), w5, w6, w7] [] (q_W Z m2) post) : q_V (q_g Z) (mL nm) 12 mc ms 1070 [some (.ref (Z.2.2.2.2.1 4)), some (.ref (q_ad Z 0)), some (.ref (q_ad Z 215)), some (.ref (q_ad Z 242)), some (.int (nI i)), w5, w6, w7] [] (q_W Z m) post := by
  obtain ⟨t, im, B, L, c, ck, us, rf, hC, hM⟩ := hR
  refine q_aload_n (pc' := 1071) dL_law_1070 rfl rfl ?_
  refine q_aload_n (pc' := 1072) dL_law_1071 rfl rfl ?_
  refine q_iload (pc' := 1074) dL_law_1072 rfl rfl ?_
  refine q_iconst (pc' := 1075) (v := nI 1) dL_law_1074 rfl rfl ?_
  refine q_iaddN (pc' := 1076) dL_law_1075 rfl ?_
  refine l_ld (pc' := 1077) dL_law_1076 rfl (by omega) hL rfl ?_
  refine q_aload_n (pc' := 1078) dL_law_1077 rfl rfl ?_
  refine q_iload (pc' := 1080) dL_law_1078 rfl rfl ?_
  refine q_iconst (pc' := 1081) (v := nI 2) dL_law_1080 rfl rfl ?_
  refine q_iaddN (pc' := 1082) dL_law_1081 rfl ?_
  refine l_ld (pc' := 1083) dL_law_1082 rfl (by omega) hL rfl ?_
  refine l_callV (pc' := 1086) (M' := mX10_log) (As := [_, _]) dL_law_1083 iX10_log lL_136 rfl rfl rfl rfl (Nat.le_of_ble_eq_true rfl) (Nat.le_of_ble_eq_true rfl) rfl rfl (c_log hC.c) (fun r m' hq => ?_)
  obtain ⟨rfl, hmm⟩ := hq
  subst m'
  have hC1 := hC
  have u1 : Up m m := Up.rf
  obtain ⟨m1, hm1⟩ : ∃ z, z = m := ⟨_, rfl⟩
  subst hm1
  have hM1 := hM.up u1
  refine q_aload_n (pc' := 1087) dL_law_1086 rfl rfl ?_
  refine q_aload_n (pc' := 1088) dL_law_1087 rfl rfl ?_
  refine q_iload (pc' := 1090) dL_law_1088 rfl rfl ?_
  refine q_iconst (pc' := 1091) (v := nI 1) dL_law_1090 rfl rfl ?_
  refine q_iaddN (pc' := 1092) dL_law_1091 rfl ?_
  refine l_ld (pc' := 1093) dL_law_1092 rfl (by omega) hL rfl ?_
  refine q_aload_n (pc' := 1094) dL_law_1093 rfl rfl ?_
  refine q_iload (pc' := 1096) dL_law_1094 rfl rfl ?_
  refine q_iconst (pc' := 1097) (v := nI 2) dL_law_1096 rfl rfl ?_
  refine q_iaddN (pc' := 1098) dL_law_1097 rfl ?_
  refine l_ld (pc' := 1099) dL_law_1098 rfl (by omega) hL rfl ?_
  refine l_callV (pc' := 1102) (M' := mX11_log) (As := [_, _]) dL_law_1099 iX11_log lL_139 rfl rfl rfl rfl (Nat.le_of_ble_eq_true rfl) (Nat.le_of_ble_eq_true rfl) rfl rfl (k_log hM1) (fun r m' hq => ?_)
  obtain ⟨rfl, hmm⟩ := hq
  subst m'
  have hM2 := hM1
  have d2 : Dn m1 m1 := Dn.rf
  refine q_icmp_eq (tgt := 1384) (pc' := 1105) dL_law_1102 (by decide) rfl (fun _ => ?_) (fun z => absurd rfl z)
  exact kk _ (q_R.of hC1 hM2 d2)
set_option maxHeartbeats 4000000 in
set_option maxRecDepth 20000 in
theorem law_common {Z : q_Z} {nm : String} {mc ms i : Nat} {m : q_Mm} {w5 w6 w7 : Option Value} {post : Option Value → va_W → Prop} (hi : i + 6 ≤ Z.2.2.2.2.2.1) (hL : Z.2.2.2.2.2.1 ≤ 3072) (hR : q_R m) (kk : ∀ m2, q_R m2 → q_V (q_g Z) (mL nm) 12 mc ms 1384 [some (.ref (Z.2.2.2.2.1 4)), some (.ref (q_ad Z 0)), some (.ref (q_ad Z 215)), some (.ref (q_ad Z 242)), some (.int (nI i)), w5, w6, w7] [] (q_W Z m2) post) : q_V (q_g Z) (mL nm) 12 mc ms 1107 [some (.ref (Z.2.2.2.2.1 4)), some (.ref (q_ad Z 0)), some (.ref (q_ad Z 215)), some (.ref (q_ad Z 242)), some (.int (nI i)), w5, w6, w7] [] (q_W Z m) post := by
  obtain ⟨t, im, B, L, c, ck, us, rf, hC, hM⟩ := hR
  refine q_aload_n (pc' := 1108) dL_law_1107 rfl rfl ?_
  refine q_aload_n (pc' := 1109) dL_law_1108 rfl rfl ?_
  refine q_iload (pc' := 1111) dL_law_1109 rfl rfl ?_
  refine q_iconst (pc' := 1112) (v := nI 1) dL_law_1111 rfl rfl ?_
  refine q_iaddN (pc' := 1113) dL_law_1112 rfl ?_
  refine l_ld (pc' := 1114) dL_law_1113 rfl (by omega) hL rfl ?_
  refine l_callV (pc' := 1117) (M' := mX10_common) (As := [_]) dL_law_1114 iX10_common lL_140 rfl rfl rfl rfl (Nat.le_of_ble_eq_true rfl) (Nat.le_of_ble_eq_true rfl) rfl rfl (c_common hC.c hC.1.1) (fun r m' hq => ?_)
  obtain ⟨rfl, hmm⟩ := hq
  subst m'
  have hC1 := hC
  have u1 : Up m m := Up.rf
  obtain ⟨m1, hm1⟩ : ∃ z, z = m := ⟨_, rfl⟩
  subst hm1
  have hM1 := hM.up u1
  refine q_aload_n (pc' := 1118) dL_law_1117 rfl rfl ?_
  refine q_aload_n (pc' := 1119) dL_law_1118 rfl rfl ?_
  refine q_iload (pc' := 1121) dL_law_1119 rfl rfl ?_
  refine q_iconst (pc' := 1122) (v := nI 1) dL_law_1121 rfl rfl ?_
  refine q_iaddN (pc' := 1123) dL_law_1122 rfl ?_
  refine l_ld (pc' := 1124) dL_law_1123 rfl (by omega) hL rfl ?_
  refine l_callV (pc' := 1127) (M' := mX11_common) (As := [_]) dL_law_1124 iX11_common lL_143 rfl rfl rfl rfl (Nat.le_of_ble_eq_true rfl) (Nat.le_of_ble_eq_true rfl) rfl rfl (k_common (fun z => hM1.mc.v z) hM1.mc.1 hM1.mc.2.2.1 hM1.2.2.1) (fun r m' hq => ?_)
  obtain ⟨rfl, hmm⟩ := hq
  subst m'
  have hM2 := hM1
  have d2 : Dn m1 m1 := Dn.rf
  refine q_lcmp (pc' := 1128) dL_law_1127 rfl ?_
  refine q_if_eq (tgt := 1384) (pc' := 1131) dL_law_1128 (by decide) rfl (fun _ => ?_) (fun z => absurd (lcmp_self _) z)
  exact kk _ (q_R.of hC1 hM2 d2)
