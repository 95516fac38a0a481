/-! ===== the law, call by call ===== -/
set_option maxHeartbeats 4000000 in
set_option maxRecDepth 20000 in
theorem law_sum {Z : q_Z} {nm : String} {mc ms i : Nat} {m : q_Mm} {w5 w6 w7 : Option Value} {post : Option Value → va_W → Prop} (hi : i + 6 ≤ Z.2.2.2.2.2.1) (hL : Z.2.2.2.2.2.1 ≤ 3072) (hR : q_R m) (kk : ∀ m2, q_R m2 → q_V (q_g Z) (mL nm) 12 mc ms 1384 [some (.ref (Z.2.2.2.2.1 4)), some (.ref (q_ad Z 0)), some (.ref (q_ad Z 215)), some (.ref (q_ad Z 242)), some (.int (nI i)), w5, w6, w7] [] (q_W Z m2) post) : q_V (q_g Z) (mL nm) 12 mc ms 1133 [some (.ref (Z.2.2.2.2.1 4)), some (.ref (q_ad Z 0)), some (.ref (q_ad Z 215)), some (.ref (q_ad Z 242)), some (.int (nI i)), w5, w6, w7] [] (q_W Z m) post := by
  obtain ⟨t, im, B, L, c, ck, us, rf, hC, hM⟩ := hR
  obtain ⟨st, hc⟩ := hC.2
  refine q_aload_n (pc' := 1134) dL_law_1133 rfl rfl ?_
  refine q_aload_n (pc' := 1135) dL_law_1134 rfl rfl ?_
  refine q_iload (pc' := 1137) dL_law_1135 rfl rfl ?_
  refine q_iconst (pc' := 1138) (v := nI 1) dL_law_1137 rfl rfl ?_
  refine q_iaddN (pc' := 1139) dL_law_1138 rfl ?_
  refine l_ld (pc' := 1140) dL_law_1139 rfl (by omega) hL rfl ?_
  refine l_callV (pc' := 1143) (M' := mX10_sum) (As := [_]) dL_law_1140 iX10_sum lL_144 rfl rfl rfl rfl (Nat.le_of_ble_eq_true rfl) (Nat.le_of_ble_eq_true rfl) rfl rfl (c_sum hc hC.1.1) (fun r m' hq => ?_)
  obtain ⟨rfl, hs, f1⟩ := hq
  obtain ⟨hC1, u1⟩ := hC.q ⟨_, hs⟩ f1 (Kp.fr f1 (by decide)) (by decide)
  obtain ⟨m1, hm1⟩ : ∃ z, z = m' := ⟨_, rfl⟩
  subst hm1
  have hM1 := hM.up u1
  refine q_aload_n (pc' := 1144) dL_law_1143 rfl rfl ?_
  refine q_aload_n (pc' := 1145) dL_law_1144 rfl rfl ?_
  refine q_iload (pc' := 1147) dL_law_1145 rfl rfl ?_
  refine q_iconst (pc' := 1148) (v := nI 1) dL_law_1147 rfl rfl ?_
  refine q_iaddN (pc' := 1149) dL_law_1148 rfl ?_
  refine l_ld (pc' := 1150) dL_law_1149 rfl (by omega) hL rfl ?_
  refine l_callV (pc' := 1153) (M' := mX11_sum) (As := [_]) dL_law_1150 iX11_sum lL_147 rfl rfl rfl rfl (Nat.le_of_ble_eq_true rfl) (Nat.le_of_ble_eq_true rfl) rfl rfl (k_sum (fun z => hM1.mc.v z) hM1.2.2.1) (fun r m' hq => ?_)
  obtain ⟨rfl, f2⟩ := hq
  obtain ⟨hM2, d2⟩ := hM1.s f2 (Kp.fr (J := []) f2 (by decide)) (by decide) (by simp)
  refine q_lcmp (pc' := 1154) dL_law_1153 rfl ?_
  refine q_if_eq (tgt := 1384) (pc' := 1157) dL_law_1154 (by decide) rfl (fun _ => ?_) (fun z => absurd (lcmp_self _) z)
  exact kk _ (q_R.of hC1 hM2 d2)
set_option maxHeartbeats 4000000 in
set_option maxRecDepth 20000 in
theorem law_saved {Z : q_Z} {nm : String} {mc ms i : Nat} {m : q_Mm} {w5 w6 w7 : Option Value} {post : Option Value → va_W → Prop} (hi : i + 6 ≤ Z.2.2.2.2.2.1) (hL : Z.2.2.2.2.2.1 ≤ 3072) (hR : q_R m) (kk : ∀ m2, q_R m2 → q_V (q_g Z) (mL nm) 12 mc ms 1384 [some (.ref (Z.2.2.2.2.1 4)), some (.ref (q_ad Z 0)), some (.ref (q_ad Z 215)), some (.ref (q_ad Z 242)), some (.int (nI i)), w5, w6, w7] [] (q_W Z m2) post) : q_V (q_g Z) (mL nm) 12 mc ms 1159 [some (.ref (Z.2.2.2.2.1 4)), some (.ref (q_ad Z 0)), some (.ref (q_ad Z 215)), some (.ref (q_ad Z 242)), some (.int (nI i)), w5, w6, w7] [] (q_W Z m) post := by
  obtain ⟨t, im, B, L, c, ck, us, rf, hC, hM⟩ := hR
  obtain ⟨st, hc⟩ := hC.2
  refine q_aload_n (pc' := 1160) dL_law_1159 rfl rfl ?_
  refine q_aload_n (pc' := 1161) dL_law_1160 rfl rfl ?_
  refine q_iload (pc' := 1163) dL_law_1161 rfl rfl ?_
  refine q_iconst (pc' := 1164) (v := nI 1) dL_law_1163 rfl rfl ?_
  refine q_iaddN (pc' := 1165) dL_law_1164 rfl ?_
  refine l_ld (pc' := 1166) dL_law_1165 rfl (by omega) hL rfl ?_
  refine q_aload_n (pc' := 1167) dL_law_1166 rfl rfl ?_
  refine q_iload (pc' := 1169) dL_law_1167 rfl rfl ?_
  refine q_iconst (pc' := 1170) (v := nI 2) dL_law_1169 rfl rfl ?_
  refine q_iaddN (pc' := 1171) dL_law_1170 rfl ?_
  refine l_ld (pc' := 1172) dL_law_1171 rfl (by omega) hL rfl ?_
  refine l_callV (pc' := 1175) (M' := mX10_saved) (As := [_, _]) dL_law_1172 iX10_saved lL_148 rfl rfl rfl rfl (Nat.le_of_ble_eq_true rfl) (Nat.le_of_ble_eq_true rfl) rfl rfl (c_saved hc hC.1.1) (fun r m' hq => ?_)
  obtain ⟨rfl, hs, f1, k1⟩ := hq
  obtain ⟨hC1, u1⟩ := hC.q hs f1 k1 (by decide)
  obtain ⟨m1, hm1⟩ : ∃ z, z = m' := ⟨_, rfl⟩
  subst hm1
  have hM1 := hM.up u1
  refine q_aload_n (pc' := 1176) dL_law_1175 rfl rfl ?_
  refine q_aload_n (pc' := 1177) dL_law_1176 rfl rfl ?_
  refine q_iload (pc' := 1179) dL_law_1177 rfl rfl ?_
  refine q_iconst (pc' := 1180) (v := nI 1) dL_law_1179 rfl rfl ?_
  refine q_iaddN (pc' := 1181) dL_law_1180 rfl ?_
  refine l_ld (pc' := 1182) dL_law_1181 rfl (by omega) hL rfl ?_
  refine q_aload_n (pc' := 1183) dL_law_1182 rfl rfl ?_
  refine q_iload (pc' := 1185) dL_law_1183 rfl rfl ?_
  refine q_iconst (pc' := 1186) (v := nI 2) dL_law_1185 rfl rfl ?_
  refine q_iaddN (pc' := 1187) dL_law_1186 rfl ?_
  refine l_ld (pc' := 1188) dL_law_1187 rfl (by omega) hL rfl ?_
  refine l_callV (pc' := 1191) (M' := mX11_saved) (As := [_, _]) dL_law_1188 iX11_saved lL_151 rfl rfl rfl rfl (Nat.le_of_ble_eq_true rfl) (Nat.le_of_ble_eq_true rfl) rfl rfl (k_saved hM1.qq) (fun r m' hq => ?_)
  obtain ⟨rfl, f2, k2, v2, w2⟩ := hq
  obtain ⟨hM2, d2⟩ := hM1.s2 f2 k2 v2 w2
  refine q_icmp_eq (tgt := 1384) (pc' := 1194) dL_law_1191 (by decide) rfl (fun _ => ?_) (fun z => absurd rfl z)
  exact kk _ (q_R.of hC1 hM2 d2)
set_option maxHeartbeats 4000000 in
set_option maxRecDepth 20000 in
theorem law_less {Z : q_Z} {nm : String} {mc ms i : Nat} {m : q_Mm} {w5 w6 w7 : Option Value} {post : Option Value → va_W → Prop} (hi : i + 6 ≤ Z.2.2.2.2.2.1) (hL : Z.2.2.2.2.2.1 ≤ 3072) (hR : q_R m) (kk : ∀ m2, q_R m2 → q_V (q_g Z) (mL nm) 12 mc ms 1384 [some (.ref (Z.2.2.2.2.1 4)), some (.ref (q_ad Z 0)), some (.ref (q_ad Z 215)), some (.ref (q_ad Z 242)), some (.int (nI i)), w5, w6, w7] [] (q_W Z m2) post) : q_V (q_g Z) (mL nm) 12 mc ms 1196 [some (.ref (Z.2.2.2.2.1 4)), some (.ref (q_ad Z 0)), some (.ref (q_ad Z 215)), some (.ref (q_ad Z 242)), some (.int (nI i)), w5, w6, w7] [] (q_W Z m) post := by
  obtain ⟨t, im, B, L, c, ck, us, rf, hC, hM⟩ := hR
  obtain ⟨st, hc⟩ := hC.2
  refine q_aload_n (pc' := 1197) dL_law_1196 rfl rfl ?_
  refine q_aload_n (pc' := 1198) dL_law_1197 rfl rfl ?_
  refine q_iload (pc' := 1200) dL_law_1198 rfl rfl ?_
  refine q_iconst (pc' := 1201) (v := nI 1) dL_law_1200 rfl rfl ?_
  refine q_iaddN (pc' := 1202) dL_law_1201 rfl ?_
  refine l_ld (pc' := 1203) dL_law_1202 rfl (by omega) hL rfl ?_
  refine l_callV (pc' := 1206) (M' := mX10_less) (As := [_]) dL_law_1203 iX10_less lL_152 rfl rfl rfl rfl (Nat.le_of_ble_eq_true rfl) (Nat.le_of_ble_eq_true rfl) rfl rfl (c_less hc hC.1.1) (fun r m' hq => ?_)
  obtain ⟨rfl, hs, f1, k1⟩ := hq
  obtain ⟨hC1, u1⟩ := hC.q hs f1 k1 (by decide)
  obtain ⟨m1, hm1⟩ : ∃ z, z = m' := ⟨_, rfl⟩
  subst hm1
  have hM1 := hM.up u1
  refine q_aload_n (pc' := 1207) dL_law_1206 rfl rfl ?_
  refine q_aload_n (pc' := 1208) dL_law_1207 rfl rfl ?_
  refine q_iload (pc' := 1210) dL_law_1208 rfl rfl ?_
  refine q_iconst (pc' := 1211) (v := nI 1) dL_law_1210 rfl rfl ?_
  refine q_iaddN (pc' := 1212) dL_law_1211 rfl ?_
  refine l_ld (pc' := 1213) dL_law_1212 rfl (by omega) hL rfl ?_
  refine l_callV (pc' := 1216) (M' := mX11_less) (As := [_]) dL_law_1213 iX11_less lL_155 rfl rfl rfl rfl (Nat.le_of_ble_eq_true rfl) (Nat.le_of_ble_eq_true rfl) rfl rfl (k_less hM1.qq) (fun r m' hq => ?_)
  obtain ⟨rfl, f2, k2, v2, w2⟩ := hq
  obtain ⟨hM2, d2⟩ := hM1.s2 f2 k2 v2 w2
  refine q_icmp_eq (tgt := 1384) (pc' := 1219) dL_law_1216 (by decide) rfl (fun _ => ?_) (fun z => absurd rfl z)
  exact kk _ (q_R.of hC1 hM2 d2)
set_option maxHeartbeats 4000000 in
set_option maxRecDepth 20000 in
theorem law_best {Z : q_Z} {nm : String} {mc ms i : Nat} {m : q_Mm} {w5 w6 w7 : Option Value} {post : Option Value → va_W → Prop} (hi : i + 6 ≤ Z.2.2.2.2.2.1) (hL : Z.2.2.2.2.2.1 ≤ 3072) (hR : q_R m) (kk : ∀ m2, q_R m2 → q_V (q_g Z) (mL nm) 12 mc ms 1384 [some (.ref (Z.2.2.2.2.1 4)), some (.ref (q_ad Z 0)), some (.ref (q_ad Z 215)), some (.ref (q_ad Z 242)), some (.int (nI i)), w5, w6, w7] [] (q_W Z m2) post) : q_V (q_g Z) (mL nm) 12 mc ms 1221 [some (.ref (Z.2.2.2.2.1 4)), some (.ref (q_ad Z 0)), some (.ref (q_ad Z 215)), some (.ref (q_ad Z 242)), some (.int (nI i)), w5, w6, w7] [] (q_W Z m) post := by
  obtain ⟨t, im, B, L, c, ck, us, rf, hC, hM⟩ := hR
  obtain ⟨st, hc⟩ := hC.2
  refine q_aload_n (pc' := 1222) dL_law_1221 rfl rfl ?_
  refine q_aload_n (pc' := 1223) dL_law_1222 rfl rfl ?_
  refine q_iload (pc' := 1225) dL_law_1223 rfl rfl ?_
  refine q_iconst (pc' := 1226) (v := nI 1) dL_law_1225 rfl rfl ?_
  refine q_iaddN (pc' := 1227) dL_law_1226 rfl ?_
  refine l_ld (pc' := 1228) dL_law_1227 rfl (by omega) hL rfl ?_
  refine l_callV (pc' := 1231) (M' := mX10_best) (As := [_]) dL_law_1228 iX10_best lL_156 rfl rfl rfl rfl (Nat.le_of_ble_eq_true rfl) (Nat.le_of_ble_eq_true rfl) rfl rfl (c_best hc hC.1.1) (fun r m' hq => ?_)
  obtain ⟨rfl, hs, f1, k1⟩ := hq
  obtain ⟨hC1, u1⟩ := hC.q hs f1 k1 (by decide)
  obtain ⟨m1, hm1⟩ : ∃ z, z = m' := ⟨_, rfl⟩
  subst hm1
  have hM1 := hM.up u1
  refine q_aload_n (pc' := 1232) dL_law_1231 rfl rfl ?_
  refine q_aload_n (pc' := 1233) dL_law_1232 rfl rfl ?_
  refine q_iload (pc' := 1235) dL_law_1233 rfl rfl ?_
  refine q_iconst (pc' := 1236) (v := nI 1) dL_law_1235 rfl rfl ?_
  refine q_iaddN (pc' := 1237) dL_law_1236 rfl ?_
  refine l_ld (pc' := 1238) dL_law_1237 rfl (by omega) hL rfl ?_
  refine l_callV (pc' := 1241) (M' := mX11_best) (As := [_]) dL_law_1238 iX11_best lL_159 rfl rfl rfl rfl (Nat.le_of_ble_eq_true rfl) (Nat.le_of_ble_eq_true rfl) rfl rfl (k_best hM1.qq) (fun r m' hq => ?_)
  obtain ⟨rfl, f2, k2, v2, w2⟩ := hq
  obtain ⟨hM2, d2⟩ := hM1.s2 f2 k2 v2 w2
  refine q_icmp_eq (tgt := 1384) (pc' := 1244) dL_law_1241 (by decide) rfl (fun _ => ?_) (fun z => absurd rfl z)
  exact kk _ (q_R.of hC1 hM2 d2)
set_option maxHeartbeats 4000000 in
set_option maxRecDepth 20000 in
theorem law_alone {Z : q_Z} {nm : String} {mc ms i : Nat} {m : q_Mm} {w5 w6 w7 : Option Value} {post : Option Value → va_W → Prop} (hi : i + 6 ≤ Z.2.2.2.2.2.1) (hL : Z.2.2.2.2.2.1 ≤ 3072) (hR : q_R m) (kk : ∀ m2, q_R m2 → q_V (q_g Z) (mL nm) 12 mc ms 1384 [some (.ref (Z.2.2.2.2.1 4)), some (.ref (q_ad Z 0)), some (.ref (q_ad Z 215)), some (.ref (q_ad Z 242)), some (.int (nI i)), w5, w6, w7] [] (q_W Z m2) post) : q_V (q_g Z) (mL nm) 12 mc ms 1246 [some (.ref (Z.2.2.2.2.1 4)), some (.ref (q_ad Z 0)), some (.ref (q_ad Z 215)), some (.ref (q_ad Z 242)), some (.int (nI i)), w5, w6, w7] [] (q_W Z m) post := by
  obtain ⟨t, im, B, L, c, ck, us, rf, hC, hM⟩ := hR
  obtain ⟨st, hc⟩ := hC.2
  refine q_aload_n (pc' := 1247) dL_law_1246 rfl rfl ?_
  refine q_aload_n (pc' := 1248) dL_law_1247 rfl rfl ?_
  refine q_iload (pc' := 1250) dL_law_1248 rfl rfl ?_
  refine q_iconst (pc' := 1251) (v := nI 1) dL_law_1250 rfl rfl ?_
  refine q_iaddN (pc' := 1252) dL_law_1251 rfl ?_
  refine l_ld (pc' := 1253) dL_law_1252 rfl (by omega) hL rfl ?_
  refine l_callV (pc' := 1256) (M' := mX10_alone) (As := [_]) dL_law_1253 iX10_alone lL_160 rfl rfl rfl rfl (Nat.le_of_ble_eq_true rfl) (Nat.le_of_ble_eq_true rfl) rfl rfl (c_alone hc hC.1.1) (fun r m' hq => ?_)
  obtain ⟨rfl, hs, f1, k1⟩ := hq
  obtain ⟨hC1, u1⟩ := hC.q hs f1 k1 (by decide)
  obtain ⟨m1, hm1⟩ : ∃ z, z = m' := ⟨_, rfl⟩
  subst hm1
  have hM1 := hM.up u1
  refine q_aload_n (pc' := 1257) dL_law_1256 rfl rfl ?_
  refine q_aload_n (pc' := 1258) dL_law_1257 rfl rfl ?_
  refine q_iload (pc' := 1260) dL_law_1258 rfl rfl ?_
  refine q_iconst (pc' := 1261) (v := nI 1) dL_law_1260 rfl rfl ?_
  refine q_iaddN (pc' := 1262) dL_law_1261 rfl ?_
  refine l_ld (pc' := 1263) dL_law_1262 rfl (by omega) hL rfl ?_
  refine l_callV (pc' := 1266) (M' := mX11_alone) (As := [_]) dL_law_1263 iX11_alone lL_163 rfl rfl rfl rfl (Nat.le_of_ble_eq_true rfl) (Nat.le_of_ble_eq_true rfl) rfl rfl (k_alone hM1.qq) (fun r m' hq => ?_)
  obtain ⟨rfl, f2, k2⟩ := hq
  obtain ⟨hM2, d2⟩ := hM1.s f2 k2 (by decide) (by decide)
  refine q_icmp_eq (tgt := 1384) (pc' := 1269) dL_law_1266 (by decide) rfl (fun _ => ?_) (fun z => absurd rfl z)
  exact kk _ (q_R.of hC1 hM2 d2)
set_option maxHeartbeats 4000000 in
set_option maxRecDepth 20000 in
theorem law_near {Z : q_Z} {nm : String} {mc ms i : Nat} {m : q_Mm} {w5 w6 w7 : Option Value} {post : Option Value → va_W → Prop} (hi : i + 6 ≤ Z.2.2.2.2.2.1) (hL : Z.2.2.2.2.2.1 ≤ 3072) (hR : q_R m) (kk : ∀ m2, q_R m2 → q_V (q_g Z) (mL nm) 12 mc ms 1384 [some (.ref (Z.2.2.2.2.1 4)), some (.ref (q_ad Z 0)), some (.ref (q_ad Z 215)), some (.ref (q_ad Z 242)), some (.int (nI i)), w5, w6, w7] [] (q_W Z m2) post) : q_V (q_g Z) (mL nm) 12 mc ms 1271 [some (.ref (Z.2.2.2.2.1 4)), some (.ref (q_ad Z 0)), some (.ref (q_ad Z 215)), some (.ref (q_ad Z 242)), some (.int (nI i)), w5, w6, w7] [] (q_W Z m) post := by
  obtain ⟨t, im, B, L, c, ck, us, rf, hC, hM⟩ := hR
  refine q_aload_n (pc' := 1272) dL_law_1271 rfl rfl ?_
  refine q_aload_n (pc' := 1273) dL_law_1272 rfl rfl ?_
  refine q_iload (pc' := 1275) dL_law_1273 rfl rfl ?_
  refine q_iconst (pc' := 1276) (v := nI 1) dL_law_1275 rfl rfl ?_
  refine q_iaddN (pc' := 1277) dL_law_1276 rfl ?_
  refine l_ld (pc' := 1278) dL_law_1277 rfl (by omega) hL rfl ?_
  refine q_aload_n (pc' := 1279) dL_law_1278 rfl rfl ?_
  refine q_iload (pc' := 1281) dL_law_1279 rfl rfl ?_
  refine q_iconst (pc' := 1282) (v := nI 2) dL_law_1281 rfl rfl ?_
  refine q_iaddN (pc' := 1283) dL_law_1282 rfl ?_
  refine l_ld (pc' := 1284) dL_law_1283 rfl (by omega) hL rfl ?_
  refine l_callV (pc' := 1287) (M' := mX10_near) (As := [_, _]) dL_law_1284 iX10_near lL_164 rfl rfl rfl rfl (Nat.le_of_ble_eq_true rfl) (Nat.le_of_ble_eq_true rfl) rfl rfl (c_near hC.c hC.1.1) (fun r m' hq => ?_)
  obtain ⟨rfl, hmm⟩ := hq
  subst m'
  have hC1 := hC
  have u1 : Up m m := Up.rf
  obtain ⟨m1, hm1⟩ : ∃ z, z = m := ⟨_, rfl⟩
  subst hm1
  have hM1 := hM.up u1
  refine q_aload_n (pc' := 1288) dL_law_1287 rfl rfl ?_
  refine q_aload_n (pc' := 1289) dL_law_1288 rfl rfl ?_
  refine q_iload (pc' := 1291) dL_law_1289 rfl rfl ?_
  refine q_iconst (pc' := 1292) (v := nI 1) dL_law_1291 rfl rfl ?_
  refine q_iaddN (pc' := 1293) dL_law_1292 rfl ?_
  refine l_ld (pc' := 1294) dL_law_1293 rfl (by omega) hL rfl ?_
  refine q_aload_n (pc' := 1295) dL_law_1294 rfl rfl ?_
  refine q_iload (pc' := 1297) dL_law_1295 rfl rfl ?_
  refine q_iconst (pc' := 1298) (v := nI 2) dL_law_1297 rfl rfl ?_
  refine q_iaddN (pc' := 1299) dL_law_1298 rfl ?_
  refine l_ld (pc' := 1300) dL_law_1299 rfl (by omega) hL rfl ?_
  refine l_callV (pc' := 1303) (M' := mX11_near) (As := [_, _]) dL_law_1300 iX11_near lL_167 rfl rfl rfl rfl (Nat.le_of_ble_eq_true rfl) (Nat.le_of_ble_eq_true rfl) rfl rfl (k_near (fun z => hM1.mc.v z) hM1.2.2.1 hM1.mc.1 hM1.mc.2.2.1) (fun r m' hq => ?_)
  obtain ⟨rfl, hmm⟩ := hq
  subst m'
  have hM2 := hM1
  have d2 : Dn m1 m1 := Dn.rf
  refine q_icmp_eq (tgt := 1384) (pc' := 1306) dL_law_1303 (by decide) rfl (fun _ => ?_) (fun z => absurd rfl z)
  exact kk _ (q_R.of hC1 hM2 d2)
set_option maxHeartbeats 4000000 in
set_option maxRecDepth 20000 in
theorem law_most {Z : q_Z} {nm : String} {mc ms i : Nat} {m : q_Mm} {w5 w6 w7 : Option Value} {post : Option Value → va_W → Prop} (hi : i + 6 ≤ Z.2.2.2.2.2.1) (hL : Z.2.2.2.2.2.1 ≤ 3072) (hR : q_R m) (kk : ∀ m2, q_R m2 → q_V (q_g Z) (mL nm) 12 mc ms 1384 [some (.ref (Z.2.2.2.2.1 4)), some (.ref (q_ad Z 0)), some (.ref (q_ad Z 215)), some (.ref (q_ad Z 242)), some (.int (nI i)), w5, w6, w7] [] (q_W Z m2) post) : q_V (q_g Z) (mL nm) 12 mc ms 1308 [some (.ref (Z.2.2.2.2.1 4)), some (.ref (q_ad Z 0)), some (.ref (q_ad Z 215)), some (.ref (q_ad Z 242)), some (.int (nI i)), w5, w6, w7] [] (q_W Z m) post := by
  obtain ⟨t, im, B, L, c, ck, us, rf, hC, hM⟩ := hR
  obtain ⟨st, hc⟩ := hC.2
  refine q_aload_n (pc' := 1309) dL_law_1308 rfl rfl ?_
  refine q_aload_n (pc' := 1310) dL_law_1309 rfl rfl ?_
  refine q_iload (pc' := 1312) dL_law_1310 rfl rfl ?_
  refine q_iconst (pc' := 1313) (v := nI 1) dL_law_1312 rfl rfl ?_
  refine q_iaddN (pc' := 1314) dL_law_1313 rfl ?_
  refine l_ld (pc' := 1315) dL_law_1314 rfl (by omega) hL rfl ?_
  refine l_callV (pc' := 1318) (M' := mX10_most) (As := [_]) dL_law_1315 iX10_most lL_168 rfl rfl rfl rfl (Nat.le_of_ble_eq_true rfl) (Nat.le_of_ble_eq_true rfl) rfl rfl (c_most hc hC.1.1) (fun r m' hq => ?_)
  obtain ⟨rfl, hs, f1, k1⟩ := hq
  obtain ⟨hC1, u1⟩ := hC.q hs f1 k1 (by decide)
  obtain ⟨m1, hm1⟩ : ∃ z, z = m' := ⟨_, rfl⟩
  subst hm1
  have hM1 := hM.up u1
  refine q_aload_n (pc' := 1319) dL_law_1318 rfl rfl ?_
  refine q_aload_n (pc' := 1320) dL_law_1319 rfl rfl ?_
  refine q_iload (pc' := 1322) dL_law_1320 rfl rfl ?_
  refine q_iconst (pc' := 1323) (v := nI 1) dL_law_1322 rfl rfl ?_
  refine q_iaddN (pc' := 1324) dL_law_1323 rfl ?_
  refine l_ld (pc' := 1325) dL_law_1324 rfl (by omega) hL rfl ?_
  refine l_callV (pc' := 1328) (M' := mX11_most) (As := [_]) dL_law_1325 iX11_most lL_171 rfl rfl rfl rfl (Nat.le_of_ble_eq_true rfl) (Nat.le_of_ble_eq_true rfl) rfl rfl (k_most hM1.qq) (fun r m' hq => ?_)
  obtain ⟨rfl, f2, k2⟩ := hq
  obtain ⟨hM2, d2⟩ := hM1.s f2 k2 (by decide) (by decide)
  refine q_icmp_eq (tgt := 1384) (pc' := 1331) dL_law_1328 (by decide) rfl (fun _ => ?_) (fun z => absurd rfl z)
  exact kk _ (q_R.of hC1 hM2 d2)
set_option maxHeartbeats 4000000 in
set_option maxRecDepth 20000 in
theorem law_image {Z : q_Z} {nm : String} {mc ms i : Nat} {m : q_Mm} {w5 w6 w7 : Option Value} {post : Option Value → va_W → Prop} (hi : i + 6 ≤ Z.2.2.2.2.2.1) (hL : Z.2.2.2.2.2.1 ≤ 3072) (hR : q_R m) (kk : ∀ m2, q_R m2 → q_V (q_g Z) (mL nm) 12 mc ms 1384 [some (.ref (Z.2.2.2.2.1 4)), some (.ref (q_ad Z 0)), some (.ref (q_ad Z 215)), some (.ref (q_ad Z 242)), some (.int (nI i)), w5, w6, w7] [] (q_W Z m2) post) : q_V (q_g Z) (mL nm) 12 mc ms 1333 [some (.ref (Z.2.2.2.2.1 4)), some (.ref (q_ad Z 0)), some (.ref (q_ad Z 215)), some (.ref (q_ad Z 242)), some (.int (nI i)), w5, w6, w7] [] (q_W Z m) post := by
  obtain ⟨t, im, B, L, c, ck, us, rf, hC, hM⟩ := hR
  refine q_aload_n (pc' := 1334) dL_law_1333 rfl rfl ?_
  refine l_callV (pc' := 1337) (M' := mX10_image) (As := []) dL_law_1334 iX10_image lL_172 rfl rfl rfl rfl (Nat.le_of_ble_eq_true rfl) (Nat.le_of_ble_eq_true rfl) rfl rfl (c_image hC) (fun r m' hq => ?_)
  obtain ⟨rfl, hC1, u1⟩ := hq
  obtain ⟨m1, hm1⟩ : ∃ z, z = m' := ⟨_, rfl⟩
  subst hm1
  have hM1 := hM.up u1
  refine q_aload_n (pc' := 1338) dL_law_1337 rfl rfl ?_
  refine l_callV (pc' := 1341) (M' := mX11_image) (As := []) dL_law_1338 iX11_image lL_175 rfl rfl rfl rfl (Nat.le_of_ble_eq_true rfl) (Nat.le_of_ble_eq_true rfl) rfl rfl (k_image hM1) (fun r m' hq => ?_)
  obtain ⟨rfl, hM2, d2⟩ := hq
  refine q_icmp_eq (tgt := 1384) (pc' := 1344) dL_law_1341 (by decide) rfl (fun _ => ?_) (fun z => absurd rfl z)
  exact kk _ (q_R.of hC1 hM2 d2)
set_option maxHeartbeats 4000000 in
set_option maxRecDepth 20000 in
theorem law_back {Z : q_Z} {nm : String} {mc ms i : Nat} {m : q_Mm} {w5 w6 w7 : Option Value} {post : Option Value → va_W → Prop} (hi : i + 6 ≤ Z.2.2.2.2.2.1) (hL : Z.2.2.2.2.2.1 ≤ 3072) (hR : q_R m) (kk : ∀ m2, q_R m2 → q_V (q_g Z) (mL nm) 12 mc ms 1384 [some (.ref (Z.2.2.2.2.1 4)), some (.ref (q_ad Z 0)), some (.ref (q_ad Z 215)), some (.ref (q_ad Z 242)), some (.int (nI i)), w5, w6, w7] [] (q_W Z m2) post) : q_V (q_g Z) (mL nm) 12 mc ms 1346 [some (.ref (Z.2.2.2.2.1 4)), some (.ref (q_ad Z 0)), some (.ref (q_ad Z 215)), some (.ref (q_ad Z 242)), some (.int (nI i)), w5, w6, w7] [] (q_W Z m) post := by
  obtain ⟨t, im, B, L, c, ck, us, rf, hC, hM⟩ := hR
  refine q_aload_n (pc' := 1347) dL_law_1346 rfl rfl ?_
  refine l_callV (pc' := 1350) (M' := mX10_back) (As := []) dL_law_1347 iX10_back lL_176 rfl rfl rfl rfl (Nat.le_of_ble_eq_true rfl) (Nat.le_of_ble_eq_true rfl) rfl rfl (c_back hC) (fun r m' hq => ?_)
  obtain ⟨rfl, hC1, u1⟩ := hq
  obtain ⟨m1, hm1⟩ : ∃ z, z = m' := ⟨_, rfl⟩
  subst hm1
  have hM1 := hM.up u1
  refine q_aload_n (pc' := 1351) dL_law_1350 rfl rfl ?_
  refine l_callV (pc' := 1354) (M' := mX11_back) (As := []) dL_law_1351 iX11_back lL_179 rfl rfl rfl rfl (Nat.le_of_ble_eq_true rfl) (Nat.le_of_ble_eq_true rfl) rfl rfl (k_back hM1) (fun r m' hq => ?_)
  obtain ⟨rfl, hM2, d2⟩ := hq
  refine q_icmp_eq (tgt := 1384) (pc' := 1357) dL_law_1354 (by decide) rfl (fun _ => ?_) (fun z => absurd rfl z)
  exact kk _ (q_R.of hC1 hM2 d2)
set_option maxHeartbeats 4000000 in
set_option maxRecDepth 20000 in
theorem law_count {Z : q_Z} {nm : String} {mc ms i : Nat} {m : q_Mm} {w5 w6 w7 : Option Value} {post : Option Value → va_W → Prop} (hi : i + 6 ≤ Z.2.2.2.2.2.1) (hL : Z.2.2.2.2.2.1 ≤ 3072) (hR : q_R m) (kk : ∀ m2, q_R m2 → q_V (q_g Z) (mL nm) 12 mc ms 1384 [some (.ref (Z.2.2.2.2.1 4)), some (.ref (q_ad Z 0)), some (.ref (q_ad Z 215)), some (.ref (q_ad Z 242)), some (.int (nI i)), w5, w6, w7] [] (q_W Z m2) post) : q_V (q_g Z) (mL nm) 12 mc ms 1359 [some (.ref (Z.2.2.2.2.1 4)), some (.ref (q_ad Z 0)), some (.ref (q_ad Z 215)), some (.ref (q_ad Z 242)), some (.int (nI i)), w5, w6, w7] [] (q_W Z m) post := by
  obtain ⟨t, im, B, L, c, ck, us, rf, hC, hM⟩ := hR
  refine q_aload_n (pc' := 1360) dL_law_1359 rfl rfl ?_
  refine q_aload_n (pc' := 1361) dL_law_1360 rfl rfl ?_
  refine q_iload (pc' := 1363) dL_law_1361 rfl rfl ?_
  refine q_iconst (pc' := 1364) (v := nI 1) dL_law_1363 rfl rfl ?_
  refine q_iaddN (pc' := 1365) dL_law_1364 rfl ?_
  refine l_ld (pc' := 1366) dL_law_1365 rfl (by omega) hL rfl ?_
  refine l_callV (pc' := 1369) (M' := mX10_count) (As := [_]) dL_law_1366 iX10_count lL_180 rfl rfl rfl rfl (Nat.le_of_ble_eq_true rfl) (Nat.le_of_ble_eq_true rfl) rfl rfl (c_count hC) (fun r m' hq => ?_)
  obtain ⟨rfl, hmm⟩ := hq
  subst m'
  have hC1 := hC
  have u1 : Up m m := Up.rf
  obtain ⟨m1, hm1⟩ : ∃ z, z = m := ⟨_, rfl⟩
  subst hm1
  have hM1 := hM.up u1
  refine q_aload_n (pc' := 1370) dL_law_1369 rfl rfl ?_
  refine q_aload_n (pc' := 1371) dL_law_1370 rfl rfl ?_
  refine q_iload (pc' := 1373) dL_law_1371 rfl rfl ?_
  refine q_iconst (pc' := 1374) (v := nI 1) dL_law_1373 rfl rfl ?_
  refine q_iaddN (pc' := 1375) dL_law_1374 rfl ?_
  refine l_ld (pc' := 1376) dL_law_1375 rfl (by omega) hL rfl ?_
  refine l_callV (pc' := 1379) (M' := mX11_count) (As := [_]) dL_law_1376 iX11_count lL_183 rfl rfl rfl rfl (Nat.le_of_ble_eq_true rfl) (Nat.le_of_ble_eq_true rfl) rfl rfl (k_count hM1) (fun r m' hq => ?_)
  obtain ⟨rfl, hmm⟩ := hq
  subst m'
  have hM2 := hM1
  have d2 : Dn m1 m1 := Dn.rf
  refine q_icmp_eq (tgt := 1384) (pc' := 1382) dL_law_1379 (by decide) rfl (fun _ => ?_) (fun z => absurd rfl z)
  exact kk _ (q_R.of hC1 hM2 d2)
