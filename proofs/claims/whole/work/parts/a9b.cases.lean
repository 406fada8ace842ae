/-! the law's cases, 2 -/
set_option maxRecDepth 100000 in
set_option maxHeartbeats 4000000 in
theorem cs_13 {G : zG} {X : zX} {L : Nat} {xs : Nat → Int32} {a b i : Nat} {S : zS} {J : Int64} {E : UInt64} (W : zLw G X L xs) (H : zInv S S) (hi : i + 3 ≤ L) (hL : L ≤ 1536) (ha : a + 25 ≤ 603072) (hb : b + 850 ≤ 7211114) (K : zGo G X a b i) : SN G X a b 1063 [some (.ref 400), some (.ref 0), some (.ref 12), some (.ref 23), some (.ref 24), some (zi i), none, none, none] [] S J E := by
  obtain ⟨C, Z, NC, hl, hG⟩ := W
  obtain ⟨x, hx, ex⟩ := zInt (xs (i + 1))
  obtain ⟨k, w, d1, d2, mc, ms, S1, S2, J1, ⟨h1, h2, h3, h4⟩, c1, c2, hk, hk5, hJ, H2⟩ := op_neighbourCount hl (G := G) (J := J) (E := E) H hx
  refine sw_aload_1 C dL_law_1063 ?_
  refine sw_aload_0 C dL_law_1064 ?_
  refine sw_iload_5 C dL_law_1065 ?_
  refine sn_iconst C 1 (by decide) dL_law_1067 ?_
  refine sn_iadd C dL_law_1068 ?_
  refine sw_sld C Z (by omega) hL ex dL_law_1069 ?_
  refine sw_aload_3 C dL_law_1070 ?_
  refine sw_callW (as := [.ref 0, zi x, .ref 23]) (st := []) (n := 3) C (fun s e => e ▸ NC) wL_neighbourCount rfl iL_law ⟨by decide, by decide⟩ (by decide) (by decide) sL_neighbourCount kL_205 dL_law_1071 rfl (Nat.le_of_ble_eq_true rfl) c1 (by omega) (by omega) (by omega) ?_
  refine sw_istore_6 C rfl dL_law_1074 ?_
  refine sw_aload_2 C dL_law_1076 ?_
  refine sw_aload_0 C dL_law_1077 ?_
  refine sw_iload_5 C dL_law_1078 ?_
  refine sn_iconst C 1 (by decide) dL_law_1080 ?_
  refine sn_iadd C dL_law_1081 ?_
  refine sw_sld C Z (by omega) hL ex dL_law_1082 ?_
  refine sn_cV1r C vX6_neighbourCount lL_207 rfl (by decide) rfl rfl dL_law_1083 (Nat.le_of_ble_eq_true rfl) c2 (by omega) (by omega) (by omega) ?_
  refine sw_istore_7 C rfl dL_law_1086 ?_
  refine sw_aload_2 C dL_law_1088 ?_
  refine sn_cV0r C vX6_thrown lL_164 rfl (by decide) rfl rfl dL_law_1089 (Nat.le_of_ble_eq_true rfl) (c_X6_thrown hl) (by omega) (by omega) (by omega) ?_
  refine sw_iload_6 C dL_law_1092 ?_
  refine sn_icmp_eq C 1099 (by omega) (by omega) dL_law_1094 (by decide) (fun c => ?_) (fun c => absurd hk c)
  refine sw_iload_6 C dL_law_1099 ?_
  refine sn_if_ne C 1116 (by omega) dL_law_1101 (by decide) (fun c1 => ?_) (fun c0 => ?_)
  · refine sw_goto C 2938 dL_law_1116 (by decide) ?_
    exact sw_fg (K _ _ _ _ _ (by omega) (by omega) H2)
  · have eJ := hJ c0
    refine sw_aload_3 C dL_law_1104 ?_
    refine sn_iconst C 0 (by decide) dL_law_1105 ?_
    refine sw_lald C dL_law_1106 ?_
    refine sw_iload_7 C dL_law_1107 ?_
    refine sw_i2l C dL_law_1109 ?_
    refine sw_lcmp C dL_law_1110 ?_
    refine sw_if_eq C 1116 dL_law_1111 (by decide) (fun _ => ?_) (fun c => absurd (by rw [eJ]; exact zCmp_self) c)
    refine sw_goto C 2938 dL_law_1116 (by decide) ?_
    exact sw_fg (K _ _ _ _ _ (by omega) (by omega) H2)
set_option maxRecDepth 100000 in
set_option maxHeartbeats 4000000 in
theorem cs_14 {G : zG} {X : zX} {L : Nat} {xs : Nat → Int32} {a b i : Nat} {S : zS} {J : Int64} {E : UInt64} (W : zLw G X L xs) (H : zInv S S) (hi : i + 3 ≤ L) (hL : L ≤ 1536) (ha : a + 25 ≤ 603072) (hb : b + 850 ≤ 7211114) (K : zGo G X a b i) : SN G X a b 1119 [some (.ref 400), some (.ref 0), some (.ref 12), some (.ref 23), some (.ref 24), some (zi i), none, none, none] [] S J E := by
  obtain ⟨C, Z, NC, hl, hG⟩ := W
  obtain ⟨v, w, d1, d2, S1, S2, ⟨h1, h2⟩, c1, c2, hv, H2⟩ := op_linkCount hl (G := G) (J := J) (E := E) H
  refine sw_aload_1 C dL_law_1119 ?_
  refine sn_cV0r C vX5_linkCount lL_208 rfl (by decide) rfl rfl dL_law_1120 (Nat.le_of_ble_eq_true rfl) c1 (by omega) (by omega) (by omega) ?_
  refine sw_aload_2 C dL_law_1123 ?_
  refine sn_cV0r C vX6_linkCount lL_211 rfl (by decide) rfl rfl dL_law_1124 (Nat.le_of_ble_eq_true rfl) c2 (by omega) (by omega) (by omega) ?_
  exact sw_icmp_eq C 2938 dL_law_1127 (by decide) (fun c => K _ _ _ _ _ (by omega) (by omega) H2) (fun c => absurd hv c)
set_option maxRecDepth 100000 in
set_option maxHeartbeats 4000000 in
theorem cs_15 {G : zG} {X : zX} {L : Nat} {xs : Nat → Int32} {a b i : Nat} {S : zS} {J : Int64} {E : UInt64} (W : zLw G X L xs) (H : zInv S S) (hi : i + 3 ≤ L) (hL : L ≤ 1536) (ha : a + 25 ≤ 603072) (hb : b + 850 ≤ 7211114) (K : zGo G X a b i) : SN G X a b 1132 [some (.ref 400), some (.ref 0), some (.ref 12), some (.ref 23), some (.ref 24), some (zi i), none, none, none] [] S J E := by
  obtain ⟨C, Z, NC, hl, hG⟩ := W
  obtain ⟨x, hx, ex⟩ := zInt (xs (i + 1))
  obtain ⟨k, w, d1, d2, mc, ms, S1, S2, J1, ⟨h1, h2, h3, h4⟩, c1, c2, hk, hk5, hJ, H2⟩ := op_hiveSize hl (G := G) (J := J) (E := E) H hx
  refine sw_aload_1 C dL_law_1132 ?_
  refine sw_aload_0 C dL_law_1133 ?_
  refine sw_iload_5 C dL_law_1134 ?_
  refine sn_iconst C 1 (by decide) dL_law_1136 ?_
  refine sn_iadd C dL_law_1137 ?_
  refine sw_sld C Z (by omega) hL ex dL_law_1138 ?_
  refine sw_aload_3 C dL_law_1139 ?_
  refine sw_callW (as := [.ref 0, zi x, .ref 23]) (st := []) (n := 3) C (fun s e => e ▸ NC) wL_hiveSize rfl iL_law ⟨by decide, by decide⟩ (by decide) (by decide) sL_hiveSize kL_212 dL_law_1140 rfl (Nat.le_of_ble_eq_true rfl) c1 (by omega) (by omega) (by omega) ?_
  refine sw_istore_6 C rfl dL_law_1143 ?_
  refine sw_aload_2 C dL_law_1145 ?_
  refine sw_aload_0 C dL_law_1146 ?_
  refine sw_iload_5 C dL_law_1147 ?_
  refine sn_iconst C 1 (by decide) dL_law_1149 ?_
  refine sn_iadd C dL_law_1150 ?_
  refine sw_sld C Z (by omega) hL ex dL_law_1151 ?_
  refine sn_cV1r C vX6_hiveSize lL_214 rfl (by decide) rfl rfl dL_law_1152 (Nat.le_of_ble_eq_true rfl) c2 (by omega) (by omega) (by omega) ?_
  refine sw_istore_7 C rfl dL_law_1155 ?_
  refine sw_aload_2 C dL_law_1157 ?_
  refine sn_cV0r C vX6_thrown lL_164 rfl (by decide) rfl rfl dL_law_1158 (Nat.le_of_ble_eq_true rfl) (c_X6_thrown hl) (by omega) (by omega) (by omega) ?_
  refine sw_iload_6 C dL_law_1161 ?_
  refine sn_icmp_eq C 1168 (by omega) (by omega) dL_law_1163 (by decide) (fun c => ?_) (fun c => absurd hk c)
  refine sw_iload_6 C dL_law_1168 ?_
  refine sn_if_ne C 1185 (by omega) dL_law_1170 (by decide) (fun c1 => ?_) (fun c0 => ?_)
  · refine sw_goto C 2938 dL_law_1185 (by decide) ?_
    exact sw_fg (K _ _ _ _ _ (by omega) (by omega) H2)
  · have eJ := hJ c0
    refine sw_aload_3 C dL_law_1173 ?_
    refine sn_iconst C 0 (by decide) dL_law_1174 ?_
    refine sw_lald C dL_law_1175 ?_
    refine sw_iload_7 C dL_law_1176 ?_
    refine sw_i2l C dL_law_1178 ?_
    refine sw_lcmp C dL_law_1179 ?_
    refine sw_if_eq C 1185 dL_law_1180 (by decide) (fun _ => ?_) (fun c => absurd (by rw [eJ]; exact zCmp_self) c)
    refine sw_goto C 2938 dL_law_1185 (by decide) ?_
    exact sw_fg (K _ _ _ _ _ (by omega) (by omega) H2)
set_option maxRecDepth 100000 in
set_option maxHeartbeats 4000000 in
theorem cs_16 {G : zG} {X : zX} {L : Nat} {xs : Nat → Int32} {a b i : Nat} {S : zS} {J : Int64} {E : UInt64} (W : zLw G X L xs) (H : zInv S S) (hi : i + 3 ≤ L) (hL : L ≤ 1536) (ha : a + 25 ≤ 603072) (hb : b + 850 ≤ 7211114) (K : zGo G X a b i) : SN G X a b 1188 [some (.ref 400), some (.ref 0), some (.ref 12), some (.ref 23), some (.ref 24), some (zi i), none, none, none] [] S J E := by
  obtain ⟨C, Z, NC, hl, hG⟩ := W
  obtain ⟨v, w, d1, d2, S1, S2, ⟨h1, h2⟩, c1, c2, hv, H2⟩ := op_componentCount hl (G := G) (J := J) (E := E) H
  refine sw_aload_1 C dL_law_1188 ?_
  refine sn_cV0r C vX5_componentCount lL_215 rfl (by decide) rfl rfl dL_law_1189 (Nat.le_of_ble_eq_true rfl) c1 (by omega) (by omega) (by omega) ?_
  refine sw_aload_2 C dL_law_1192 ?_
  refine sn_cV0r C vX6_componentCount lL_218 rfl (by decide) rfl rfl dL_law_1193 (Nat.le_of_ble_eq_true rfl) c2 (by omega) (by omega) (by omega) ?_
  exact sw_icmp_eq C 2938 dL_law_1196 (by decide) (fun c => K _ _ _ _ _ (by omega) (by omega) H2) (fun c => absurd hv c)
set_option maxRecDepth 100000 in
set_option maxHeartbeats 4000000 in
theorem cs_17 {G : zG} {X : zX} {L : Nat} {xs : Nat → Int32} {a b i : Nat} {S : zS} {J : Int64} {E : UInt64} (W : zLw G X L xs) (H : zInv S S) (hi : i + 3 ≤ L) (hL : L ≤ 1536) (ha : a + 25 ≤ 603072) (hb : b + 850 ≤ 7211114) (K : zGo G X a b i) : SN G X a b 1201 [some (.ref 400), some (.ref 0), some (.ref 12), some (.ref 23), some (.ref 24), some (zi i), none, none, none] [] S J E := by
  obtain ⟨C, Z, NC, hl, hG⟩ := W
  obtain ⟨v, w, d1, d2, S1, S2, ⟨h1, h2⟩, c1, c2, hv, H2⟩ := op_componentCountByUnion hl (G := G) (J := J) (E := E) H
  refine sw_aload_1 C dL_law_1201 ?_
  refine sn_cV0r C vX5_componentCountByUnion lL_219 rfl (by decide) rfl rfl dL_law_1202 (Nat.le_of_ble_eq_true rfl) c1 (by omega) (by omega) (by omega) ?_
  refine sw_aload_2 C dL_law_1205 ?_
  refine sn_cV0r C vX6_componentCountByUnion lL_222 rfl (by decide) rfl rfl dL_law_1206 (Nat.le_of_ble_eq_true rfl) c2 (by omega) (by omega) (by omega) ?_
  exact sw_icmp_eq C 2938 dL_law_1209 (by decide) (fun c => K _ _ _ _ _ (by omega) (by omega) H2) (fun c => absurd hv c)
set_option maxRecDepth 100000 in
set_option maxHeartbeats 4000000 in
theorem cs_18 {G : zG} {X : zX} {L : Nat} {xs : Nat → Int32} {a b i : Nat} {S : zS} {J : Int64} {E : UInt64} (W : zLw G X L xs) (H : zInv S S) (hi : i + 3 ≤ L) (hL : L ≤ 1536) (ha : a + 25 ≤ 603072) (hb : b + 850 ≤ 7211114) (K : zGo G X a b i) : SN G X a b 1214 [some (.ref 400), some (.ref 0), some (.ref 12), some (.ref 23), some (.ref 24), some (zi i), none, none, none] [] S J E := by
  obtain ⟨C, Z, NC, hl, hG⟩ := W
  obtain ⟨v, w, d1, d2, S1, S2, ⟨h1, h2⟩, c1, c2, hv, H2⟩ := op_rumourCount hl (G := G) (J := J) (E := E) H
  refine sw_aload_1 C dL_law_1214 ?_
  refine sn_cV0r C vX5_rumourCount lL_223 rfl (by decide) rfl rfl dL_law_1215 (Nat.le_of_ble_eq_true rfl) c1 (by omega) (by omega) (by omega) ?_
  refine sw_aload_2 C dL_law_1218 ?_
  refine sn_cV0r C vX6_rumourCount lL_226 rfl (by decide) rfl rfl dL_law_1219 (Nat.le_of_ble_eq_true rfl) c2 (by omega) (by omega) (by omega) ?_
  exact sw_icmp_eq C 2938 dL_law_1222 (by decide) (fun c => K _ _ _ _ _ (by omega) (by omega) H2) (fun c => absurd hv c)
set_option maxRecDepth 100000 in
set_option maxHeartbeats 4000000 in
theorem cs_19 {G : zG} {X : zX} {L : Nat} {xs : Nat → Int32} {a b i : Nat} {S : zS} {J : Int64} {E : UInt64} (W : zLw G X L xs) (H : zInv S S) (hi : i + 3 ≤ L) (hL : L ≤ 1536) (ha : a + 25 ≤ 603072) (hb : b + 850 ≤ 7211114) (K : zGo G X a b i) : SN G X a b 1227 [some (.ref 400), some (.ref 0), some (.ref 12), some (.ref 23), some (.ref 24), some (zi i), none, none, none] [] S J E := by
  obtain ⟨C, Z, NC, hl, hG⟩ := W
  obtain ⟨x, hx, ex⟩ := zInt (xs (i + 1))
  obtain ⟨k, w, d1, d2, mc, ms, S1, S2, J1, ⟨h1, h2, h3, h4⟩, c1, c2, hk, hk5, hJ, H2⟩ := op_strength hl (G := G) (J := J) (E := E) H hx
  refine sw_aload_1 C dL_law_1227 ?_
  refine sw_aload_0 C dL_law_1228 ?_
  refine sw_iload_5 C dL_law_1229 ?_
  refine sn_iconst C 1 (by decide) dL_law_1231 ?_
  refine sn_iadd C dL_law_1232 ?_
  refine sw_sld C Z (by omega) hL ex dL_law_1233 ?_
  refine sw_aload_3 C dL_law_1234 ?_
  refine sw_callW (as := [.ref 0, zi x, .ref 23]) (st := []) (n := 3) C (fun s e => e ▸ NC) wL_strength rfl iL_law ⟨by decide, by decide⟩ (by decide) (by decide) sL_strength kL_227 dL_law_1235 rfl (Nat.le_of_ble_eq_true rfl) c1 (by omega) (by omega) (by omega) ?_
  refine sw_istore_6 C rfl dL_law_1238 ?_
  refine sw_aload_2 C dL_law_1240 ?_
  refine sw_aload_0 C dL_law_1241 ?_
  refine sw_iload_5 C dL_law_1242 ?_
  refine sn_iconst C 1 (by decide) dL_law_1244 ?_
  refine sn_iadd C dL_law_1245 ?_
  refine sw_sld C Z (by omega) hL ex dL_law_1246 ?_
  refine sn_cV1r C vX6_strength lL_229 rfl (by decide) rfl rfl dL_law_1247 (Nat.le_of_ble_eq_true rfl) c2 (by omega) (by omega) (by omega) ?_
  refine sw_istore_7 C rfl dL_law_1250 ?_
  refine sw_aload_2 C dL_law_1252 ?_
  refine sn_cV0r C vX6_thrown lL_164 rfl (by decide) rfl rfl dL_law_1253 (Nat.le_of_ble_eq_true rfl) (c_X6_thrown hl) (by omega) (by omega) (by omega) ?_
  refine sw_iload_6 C dL_law_1256 ?_
  refine sn_icmp_eq C 1263 (by omega) (by omega) dL_law_1258 (by decide) (fun c => ?_) (fun c => absurd hk c)
  refine sw_iload_6 C dL_law_1263 ?_
  refine sn_if_ne C 1280 (by omega) dL_law_1265 (by decide) (fun c1 => ?_) (fun c0 => ?_)
  · refine sw_goto C 2938 dL_law_1280 (by decide) ?_
    exact sw_fg (K _ _ _ _ _ (by omega) (by omega) H2)
  · have eJ := hJ c0
    refine sw_aload_3 C dL_law_1268 ?_
    refine sn_iconst C 0 (by decide) dL_law_1269 ?_
    refine sw_lald C dL_law_1270 ?_
    refine sw_iload_7 C dL_law_1271 ?_
    refine sw_i2l C dL_law_1273 ?_
    refine sw_lcmp C dL_law_1274 ?_
    refine sw_if_eq C 1280 dL_law_1275 (by decide) (fun _ => ?_) (fun c => absurd (by rw [eJ]; exact zCmp_self) c)
    refine sw_goto C 2938 dL_law_1280 (by decide) ?_
    exact sw_fg (K _ _ _ _ _ (by omega) (by omega) H2)
set_option maxRecDepth 100000 in
set_option maxHeartbeats 4000000 in
theorem cs_20 {G : zG} {X : zX} {L : Nat} {xs : Nat → Int32} {a b i : Nat} {S : zS} {J : Int64} {E : UInt64} (W : zLw G X L xs) (H : zInv S S) (hi : i + 3 ≤ L) (hL : L ≤ 1536) (ha : a + 25 ≤ 603072) (hb : b + 850 ≤ 7211114) (K : zGo G X a b i) : SN G X a b 1283 [some (.ref 400), some (.ref 0), some (.ref 12), some (.ref 23), some (.ref 24), some (zi i), none, none, none] [] S J E := by
  obtain ⟨C, Z, NC, hl, hG⟩ := W
  obtain ⟨x, hx, ex⟩ := zInt (xs (i + 1))
  obtain ⟨k, d1, d2, mc, ms, w, S1, S2, J1, ⟨h1, h2, h3, h4⟩, c1, c2, hk, hk5, hJ, H2⟩ := op_isAlive hl (G := G) (J := J) (E := E) H hx
  refine sw_aload_1 C dL_law_1283 ?_
  refine sw_aload_0 C dL_law_1284 ?_
  refine sw_iload_5 C dL_law_1285 ?_
  refine sn_iconst C 1 (by decide) dL_law_1287 ?_
  refine sn_iadd C dL_law_1288 ?_
  refine sw_sld C Z (by omega) hL ex dL_law_1289 ?_
  refine sw_aload_3 C dL_law_1290 ?_
  refine sw_callW (as := [.ref 0, zi x, .ref 23]) (st := []) (n := 3) C (fun s e => e ▸ NC) wL_isAlive rfl iL_law ⟨by decide, by decide⟩ (by decide) (by decide) sL_isAlive kL_230 dL_law_1291 rfl (Nat.le_of_ble_eq_true rfl) c1 (by omega) (by omega) (by omega) ?_
  refine sw_istore_6 C rfl dL_law_1294 ?_
  refine sw_aload_2 C dL_law_1296 ?_
  refine sw_aload_0 C dL_law_1297 ?_
  refine sw_iload_5 C dL_law_1298 ?_
  refine sn_iconst C 1 (by decide) dL_law_1300 ?_
  refine sn_iadd C dL_law_1301 ?_
  refine sw_sld C Z (by omega) hL ex dL_law_1302 ?_
  refine sn_cV1r C vX6_isAlive lL_232 rfl (by decide) rfl rfl dL_law_1303 (Nat.le_of_ble_eq_true rfl) c2 (by omega) (by omega) (by omega) ?_
  refine sw_istore_7 C rfl dL_law_1306 ?_
  refine sw_aload_2 C dL_law_1308 ?_
  refine sn_cV0r C vX6_thrown lL_164 rfl (by decide) rfl rfl dL_law_1309 (Nat.le_of_ble_eq_true rfl) (c_X6_thrown hl) (by omega) (by omega) (by omega) ?_
  refine sw_iload_6 C dL_law_1312 ?_
  refine sn_icmp_eq C 1319 (by omega) (by omega) dL_law_1314 (by decide) (fun c => ?_) (fun c => absurd hk c)
  refine sw_iload_6 C dL_law_1319 ?_
  refine sn_if_ne C 1343 (by omega) dL_law_1321 (by decide) (fun c1 => ?_) (fun c0 => ?_)
  · refine sw_goto C 2938 dL_law_1343 (by decide) ?_
    exact sw_fg (K _ _ _ _ _ (by omega) (by omega) H2)
  · have eJ := hJ c0
    refine sw_aload_3 C dL_law_1324 ?_
    refine sn_iconst C 0 (by decide) dL_law_1325 ?_
    refine sw_lald C dL_law_1326 ?_
    refine sw_iload_7 C dL_law_1327 ?_
    refine sn_if_eqB C 1336 dL_law_1329 (by decide) (fun cw => ?_) (fun cw => ?_)
    · refine sw_lconst C (v := 0) (by decide) dL_law_1336 ?_
      refine sw_lcmp C dL_law_1337 ?_
      refine sw_if_eq C 1343 dL_law_1338 (by decide) (fun _ => ?_) (fun c => absurd (by rw [eJ, cw]; exact zCmp_self) c)
      refine sw_goto C 2938 dL_law_1343 (by decide) ?_
      exact sw_fg (K _ _ _ _ _ (by omega) (by omega) H2)
    · refine sw_lconst C (v := 1) (by decide) dL_law_1332 ?_
      refine sw_goto C 1337 dL_law_1333 (by decide) ?_
      refine sw_lcmp C dL_law_1337 ?_
      refine sw_if_eq C 1343 dL_law_1338 (by decide) (fun _ => ?_) (fun c => absurd (by rw [eJ, cw]; exact zCmp_self) c)
      refine sw_goto C 2938 dL_law_1343 (by decide) ?_
      exact sw_fg (K _ _ _ _ _ (by omega) (by omega) H2)
set_option maxRecDepth 100000 in
set_option maxHeartbeats 4000000 in
theorem cs_21 {G : zG} {X : zX} {L : Nat} {xs : Nat → Int32} {a b i : Nat} {S : zS} {J : Int64} {E : UInt64} (W : zLw G X L xs) (H : zInv S S) (hi : i + 3 ≤ L) (hL : L ≤ 1536) (ha : a + 25 ≤ 603072) (hb : b + 850 ≤ 7211114) (K : zGo G X a b i) : SN G X a b 1346 [some (.ref 400), some (.ref 0), some (.ref 12), some (.ref 23), some (.ref 24), some (zi i), none, none, none] [] S J E := by
  obtain ⟨C, Z, NC, hl, hG⟩ := W
  obtain ⟨x, hx, ex⟩ := zInt (xs (i + 1))
  obtain ⟨k, w, d1, d2, mc, ms, S1, S2, J1, ⟨h1, h2, h3, h4⟩, c1, c2, hk, hk5, hJ, H2⟩ := op_starter hl (G := G) (J := J) (E := E) H hx
  refine sw_aload_1 C dL_law_1346 ?_
  refine sw_aload_0 C dL_law_1347 ?_
  refine sw_iload_5 C dL_law_1348 ?_
  refine sn_iconst C 1 (by decide) dL_law_1350 ?_
  refine sn_iadd C dL_law_1351 ?_
  refine sw_sld C Z (by omega) hL ex dL_law_1352 ?_
  refine sw_aload_3 C dL_law_1353 ?_
  refine sw_callW (as := [.ref 0, zi x, .ref 23]) (st := []) (n := 3) C (fun s e => e ▸ NC) wL_starter rfl iL_law ⟨by decide, by decide⟩ (by decide) (by decide) sL_starter kL_233 dL_law_1354 rfl (Nat.le_of_ble_eq_true rfl) c1 (by omega) (by omega) (by omega) ?_
  refine sw_istore_6 C rfl dL_law_1357 ?_
  refine sw_aload_2 C dL_law_1359 ?_
  refine sw_aload_0 C dL_law_1360 ?_
  refine sw_iload_5 C dL_law_1361 ?_
  refine sn_iconst C 1 (by decide) dL_law_1363 ?_
  refine sn_iadd C dL_law_1364 ?_
  refine sw_sld C Z (by omega) hL ex dL_law_1365 ?_
  refine sn_cV1r C vX6_starter lL_235 rfl (by decide) rfl rfl dL_law_1366 (Nat.le_of_ble_eq_true rfl) c2 (by omega) (by omega) (by omega) ?_
  refine sw_istore_7 C rfl dL_law_1369 ?_
  refine sw_aload_2 C dL_law_1371 ?_
  refine sn_cV0r C vX6_thrown lL_164 rfl (by decide) rfl rfl dL_law_1372 (Nat.le_of_ble_eq_true rfl) (c_X6_thrown hl) (by omega) (by omega) (by omega) ?_
  refine sw_iload_6 C dL_law_1375 ?_
  refine sn_icmp_eq C 1382 (by omega) (by omega) dL_law_1377 (by decide) (fun c => ?_) (fun c => absurd hk c)
  refine sw_iload_6 C dL_law_1382 ?_
  refine sn_if_ne C 1399 (by omega) dL_law_1384 (by decide) (fun c1 => ?_) (fun c0 => ?_)
  · refine sw_goto C 2938 dL_law_1399 (by decide) ?_
    exact sw_fg (K _ _ _ _ _ (by omega) (by omega) H2)
  · have eJ := hJ c0
    refine sw_aload_3 C dL_law_1387 ?_
    refine sn_iconst C 0 (by decide) dL_law_1388 ?_
    refine sw_lald C dL_law_1389 ?_
    refine sw_iload_7 C dL_law_1390 ?_
    refine sw_i2l C dL_law_1392 ?_
    refine sw_lcmp C dL_law_1393 ?_
    refine sw_if_eq C 1399 dL_law_1394 (by decide) (fun _ => ?_) (fun c => absurd (by rw [eJ]; exact zCmp_self) c)
    refine sw_goto C 2938 dL_law_1399 (by decide) ?_
    exact sw_fg (K _ _ _ _ _ (by omega) (by omega) H2)
set_option maxRecDepth 100000 in
set_option maxHeartbeats 4000000 in
theorem cs_22 {G : zG} {X : zX} {L : Nat} {xs : Nat → Int32} {a b i : Nat} {S : zS} {J : Int64} {E : UInt64} (W : zLw G X L xs) (H : zInv S S) (hi : i + 3 ≤ L) (hL : L ≤ 1536) (ha : a + 25 ≤ 603072) (hb : b + 850 ≤ 7211114) (K : zGo G X a b i) : SN G X a b 1402 [some (.ref 400), some (.ref 0), some (.ref 12), some (.ref 23), some (.ref 24), some (zi i), none, none, none] [] S J E := by
  obtain ⟨C, Z, NC, hl, hG⟩ := W
  obtain ⟨x, hx, ex⟩ := zInt (xs (i + 1))
  obtain ⟨y, hy, ey⟩ := zInt (xs (i + 2))
  obtain ⟨k, d1, d2, mc, ms, w, S1, S2, J1, ⟨h1, h2, h3, h4⟩, c1, c2, hk, hk5, hJ, H2⟩ := op_isSpreader hl (G := G) (J := J) (E := E) H hx hy
  refine sw_aload_1 C dL_law_1402 ?_
  refine sw_aload_0 C dL_law_1403 ?_
  refine sw_iload_5 C dL_law_1404 ?_
  refine sn_iconst C 1 (by decide) dL_law_1406 ?_
  refine sn_iadd C dL_law_1407 ?_
  refine sw_sld C Z (by omega) hL ex dL_law_1408 ?_
  refine sw_aload_0 C dL_law_1409 ?_
  refine sw_iload_5 C dL_law_1410 ?_
  refine sn_iconst C 2 (by decide) dL_law_1412 ?_
  refine sn_iadd C dL_law_1413 ?_
  refine sw_sld C Z (by omega) hL ey dL_law_1414 ?_
  refine sw_aload_3 C dL_law_1415 ?_
  refine sw_callW (as := [.ref 0, zi x, zi y, .ref 23]) (st := []) (n := 4) C (fun s e => e ▸ NC) wL_isSpreader rfl iL_law ⟨by decide, by decide⟩ (by decide) (by decide) sL_isSpreader kL_236 dL_law_1416 rfl (Nat.le_of_ble_eq_true rfl) c1 (by omega) (by omega) (by omega) ?_
  refine sw_istore_6 C rfl dL_law_1419 ?_
  refine sw_aload_2 C dL_law_1421 ?_
  refine sw_aload_0 C dL_law_1422 ?_
  refine sw_iload_5 C dL_law_1423 ?_
  refine sn_iconst C 1 (by decide) dL_law_1425 ?_
  refine sn_iadd C dL_law_1426 ?_
  refine sw_sld C Z (by omega) hL ex dL_law_1427 ?_
  refine sw_aload_0 C dL_law_1428 ?_
  refine sw_iload_5 C dL_law_1429 ?_
  refine sn_iconst C 2 (by decide) dL_law_1431 ?_
  refine sn_iadd C dL_law_1432 ?_
  refine sw_sld C Z (by omega) hL ey dL_law_1433 ?_
  refine sn_cV2r C vX6_isSpreader lL_238 rfl (by decide) rfl rfl dL_law_1434 (Nat.le_of_ble_eq_true rfl) c2 (by omega) (by omega) (by omega) ?_
  refine sw_istore_7 C rfl dL_law_1437 ?_
  refine sw_aload_2 C dL_law_1439 ?_
  refine sn_cV0r C vX6_thrown lL_164 rfl (by decide) rfl rfl dL_law_1440 (Nat.le_of_ble_eq_true rfl) (c_X6_thrown hl) (by omega) (by omega) (by omega) ?_
  refine sw_iload_6 C dL_law_1443 ?_
  refine sn_icmp_eq C 1450 (by omega) (by omega) dL_law_1445 (by decide) (fun c => ?_) (fun c => absurd hk c)
  refine sw_iload_6 C dL_law_1450 ?_
  refine sn_if_ne C 1474 (by omega) dL_law_1452 (by decide) (fun c1 => ?_) (fun c0 => ?_)
  · refine sw_goto C 2938 dL_law_1474 (by decide) ?_
    exact sw_fg (K _ _ _ _ _ (by omega) (by omega) H2)
  · have eJ := hJ c0
    refine sw_aload_3 C dL_law_1455 ?_
    refine sn_iconst C 0 (by decide) dL_law_1456 ?_
    refine sw_lald C dL_law_1457 ?_
    refine sw_iload_7 C dL_law_1458 ?_
    refine sn_if_eqB C 1467 dL_law_1460 (by decide) (fun cw => ?_) (fun cw => ?_)
    · refine sw_lconst C (v := 0) (by decide) dL_law_1467 ?_
      refine sw_lcmp C dL_law_1468 ?_
      refine sw_if_eq C 1474 dL_law_1469 (by decide) (fun _ => ?_) (fun c => absurd (by rw [eJ, cw]; exact zCmp_self) c)
      refine sw_goto C 2938 dL_law_1474 (by decide) ?_
      exact sw_fg (K _ _ _ _ _ (by omega) (by omega) H2)
    · refine sw_lconst C (v := 1) (by decide) dL_law_1463 ?_
      refine sw_goto C 1468 dL_law_1464 (by decide) ?_
      refine sw_lcmp C dL_law_1468 ?_
      refine sw_if_eq C 1474 dL_law_1469 (by decide) (fun _ => ?_) (fun c => absurd (by rw [eJ, cw]; exact zCmp_self) c)
      refine sw_goto C 2938 dL_law_1474 (by decide) ?_
      exact sw_fg (K _ _ _ _ _ (by omega) (by omega) H2)
set_option maxRecDepth 100000 in
set_option maxHeartbeats 4000000 in
theorem cs_23 {G : zG} {X : zX} {L : Nat} {xs : Nat → Int32} {a b i : Nat} {S : zS} {J : Int64} {E : UInt64} (W : zLw G X L xs) (H : zInv S S) (hi : i + 3 ≤ L) (hL : L ≤ 1536) (ha : a + 25 ≤ 603072) (hb : b + 850 ≤ 7211114) (K : zGo G X a b i) : SN G X a b 1477 [some (.ref 400), some (.ref 0), some (.ref 12), some (.ref 23), some (.ref 24), some (zi i), none, none, none] [] S J E := by
  obtain ⟨C, Z, NC, hl, hG⟩ := W
  obtain ⟨x, hx, ex⟩ := zInt (xs (i + 1))
  obtain ⟨y, hy, ey⟩ := zInt (xs (i + 2))
  obtain ⟨k, d1, d2, mc, ms, w, S1, S2, J1, ⟨h1, h2, h3, h4⟩, c1, c2, hk, hk5, hJ, H2⟩ := op_isSceptic hl (G := G) (J := J) (E := E) H hx hy
  refine sw_aload_1 C dL_law_1477 ?_
  refine sw_aload_0 C dL_law_1478 ?_
  refine sw_iload_5 C dL_law_1479 ?_
  refine sn_iconst C 1 (by decide) dL_law_1481 ?_
  refine sn_iadd C dL_law_1482 ?_
  refine sw_sld C Z (by omega) hL ex dL_law_1483 ?_
  refine sw_aload_0 C dL_law_1484 ?_
  refine sw_iload_5 C dL_law_1485 ?_
  refine sn_iconst C 2 (by decide) dL_law_1487 ?_
  refine sn_iadd C dL_law_1488 ?_
  refine sw_sld C Z (by omega) hL ey dL_law_1489 ?_
  refine sw_aload_3 C dL_law_1490 ?_
  refine sw_callW (as := [.ref 0, zi x, zi y, .ref 23]) (st := []) (n := 4) C (fun s e => e ▸ NC) wL_isSceptic rfl iL_law ⟨by decide, by decide⟩ (by decide) (by decide) sL_isSceptic kL_239 dL_law_1491 rfl (Nat.le_of_ble_eq_true rfl) c1 (by omega) (by omega) (by omega) ?_
  refine sw_istore_6 C rfl dL_law_1494 ?_
  refine sw_aload_2 C dL_law_1496 ?_
  refine sw_aload_0 C dL_law_1497 ?_
  refine sw_iload_5 C dL_law_1498 ?_
  refine sn_iconst C 1 (by decide) dL_law_1500 ?_
  refine sn_iadd C dL_law_1501 ?_
  refine sw_sld C Z (by omega) hL ex dL_law_1502 ?_
  refine sw_aload_0 C dL_law_1503 ?_
  refine sw_iload_5 C dL_law_1504 ?_
  refine sn_iconst C 2 (by decide) dL_law_1506 ?_
  refine sn_iadd C dL_law_1507 ?_
  refine sw_sld C Z (by omega) hL ey dL_law_1508 ?_
  refine sn_cV2r C vX6_isSceptic lL_241 rfl (by decide) rfl rfl dL_law_1509 (Nat.le_of_ble_eq_true rfl) c2 (by omega) (by omega) (by omega) ?_
  refine sw_istore_7 C rfl dL_law_1512 ?_
  refine sw_aload_2 C dL_law_1514 ?_
  refine sn_cV0r C vX6_thrown lL_164 rfl (by decide) rfl rfl dL_law_1515 (Nat.le_of_ble_eq_true rfl) (c_X6_thrown hl) (by omega) (by omega) (by omega) ?_
  refine sw_iload_6 C dL_law_1518 ?_
  refine sn_icmp_eq C 1525 (by omega) (by omega) dL_law_1520 (by decide) (fun c => ?_) (fun c => absurd hk c)
  refine sw_iload_6 C dL_law_1525 ?_
  refine sn_if_ne C 1549 (by omega) dL_law_1527 (by decide) (fun c1 => ?_) (fun c0 => ?_)
  · refine sw_goto C 2938 dL_law_1549 (by decide) ?_
    exact sw_fg (K _ _ _ _ _ (by omega) (by omega) H2)
  · have eJ := hJ c0
    refine sw_aload_3 C dL_law_1530 ?_
    refine sn_iconst C 0 (by decide) dL_law_1531 ?_
    refine sw_lald C dL_law_1532 ?_
    refine sw_iload_7 C dL_law_1533 ?_
    refine sn_if_eqB C 1542 dL_law_1535 (by decide) (fun cw => ?_) (fun cw => ?_)
    · refine sw_lconst C (v := 0) (by decide) dL_law_1542 ?_
      refine sw_lcmp C dL_law_1543 ?_
      refine sw_if_eq C 1549 dL_law_1544 (by decide) (fun _ => ?_) (fun c => absurd (by rw [eJ, cw]; exact zCmp_self) c)
      refine sw_goto C 2938 dL_law_1549 (by decide) ?_
      exact sw_fg (K _ _ _ _ _ (by omega) (by omega) H2)
    · refine sw_lconst C (v := 1) (by decide) dL_law_1538 ?_
      refine sw_goto C 1543 dL_law_1539 (by decide) ?_
      refine sw_lcmp C dL_law_1543 ?_
      refine sw_if_eq C 1549 dL_law_1544 (by decide) (fun _ => ?_) (fun c => absurd (by rw [eJ, cw]; exact zCmp_self) c)
      refine sw_goto C 2938 dL_law_1549 (by decide) ?_
      exact sw_fg (K _ _ _ _ _ (by omega) (by omega) H2)
set_option maxRecDepth 100000 in
set_option maxHeartbeats 4000000 in
theorem cs_24 {G : zG} {X : zX} {L : Nat} {xs : Nat → Int32} {a b i : Nat} {S : zS} {J : Int64} {E : UInt64} (W : zLw G X L xs) (H : zInv S S) (hi : i + 3 ≤ L) (hL : L ≤ 1536) (ha : a + 25 ≤ 603072) (hb : b + 850 ≤ 7211114) (K : zGo G X a b i) : SN G X a b 1552 [some (.ref 400), some (.ref 0), some (.ref 12), some (.ref 23), some (.ref 24), some (zi i), none, none, none] [] S J E := by
  obtain ⟨C, Z, NC, hl, hG⟩ := W
  obtain ⟨x, hx, ex⟩ := zInt (xs (i + 1))
  obtain ⟨y, hy, ey⟩ := zInt (xs (i + 2))
  obtain ⟨k, w, d1, d2, mc, ms, S1, S2, J1, ⟨h1, h2, h3, h4⟩, c1, c2, hk, hk5, hJ, H2⟩ := op_heardRound hl (G := G) (J := J) (E := E) H hx hy
  refine sw_aload_1 C dL_law_1552 ?_
  refine sw_aload_0 C dL_law_1553 ?_
  refine sw_iload_5 C dL_law_1554 ?_
  refine sn_iconst C 1 (by decide) dL_law_1556 ?_
  refine sn_iadd C dL_law_1557 ?_
  refine sw_sld C Z (by omega) hL ex dL_law_1558 ?_
  refine sw_aload_0 C dL_law_1559 ?_
  refine sw_iload_5 C dL_law_1560 ?_
  refine sn_iconst C 2 (by decide) dL_law_1562 ?_
  refine sn_iadd C dL_law_1563 ?_
  refine sw_sld C Z (by omega) hL ey dL_law_1564 ?_
  refine sw_aload_3 C dL_law_1565 ?_
  refine sw_callW (as := [.ref 0, zi x, zi y, .ref 23]) (st := []) (n := 4) C (fun s e => e ▸ NC) wL_heardRound rfl iL_law ⟨by decide, by decide⟩ (by decide) (by decide) sL_heardRound kL_242 dL_law_1566 rfl (Nat.le_of_ble_eq_true rfl) c1 (by omega) (by omega) (by omega) ?_
  refine sw_istore_6 C rfl dL_law_1569 ?_
  refine sw_aload_2 C dL_law_1571 ?_
  refine sw_aload_0 C dL_law_1572 ?_
  refine sw_iload_5 C dL_law_1573 ?_
  refine sn_iconst C 1 (by decide) dL_law_1575 ?_
  refine sn_iadd C dL_law_1576 ?_
  refine sw_sld C Z (by omega) hL ex dL_law_1577 ?_
  refine sw_aload_0 C dL_law_1578 ?_
  refine sw_iload_5 C dL_law_1579 ?_
  refine sn_iconst C 2 (by decide) dL_law_1581 ?_
  refine sn_iadd C dL_law_1582 ?_
  refine sw_sld C Z (by omega) hL ey dL_law_1583 ?_
  refine sn_cV2r C vX6_heardRound lL_244 rfl (by decide) rfl rfl dL_law_1584 (Nat.le_of_ble_eq_true rfl) c2 (by omega) (by omega) (by omega) ?_
  refine sw_istore_7 C rfl dL_law_1587 ?_
  refine sw_aload_2 C dL_law_1589 ?_
  refine sn_cV0r C vX6_thrown lL_164 rfl (by decide) rfl rfl dL_law_1590 (Nat.le_of_ble_eq_true rfl) (c_X6_thrown hl) (by omega) (by omega) (by omega) ?_
  refine sw_iload_6 C dL_law_1593 ?_
  refine sn_icmp_eq C 1600 (by omega) (by omega) dL_law_1595 (by decide) (fun c => ?_) (fun c => absurd hk c)
  refine sw_iload_6 C dL_law_1600 ?_
  refine sn_if_ne C 1617 (by omega) dL_law_1602 (by decide) (fun c1 => ?_) (fun c0 => ?_)
  · refine sw_goto C 2938 dL_law_1617 (by decide) ?_
    exact sw_fg (K _ _ _ _ _ (by omega) (by omega) H2)
  · have eJ := hJ c0
    refine sw_aload_3 C dL_law_1605 ?_
    refine sn_iconst C 0 (by decide) dL_law_1606 ?_
    refine sw_lald C dL_law_1607 ?_
    refine sw_iload_7 C dL_law_1608 ?_
    refine sw_i2l C dL_law_1610 ?_
    refine sw_lcmp C dL_law_1611 ?_
    refine sw_if_eq C 1617 dL_law_1612 (by decide) (fun _ => ?_) (fun c => absurd (by rw [eJ]; exact zCmp_self) c)
    refine sw_goto C 2938 dL_law_1617 (by decide) ?_
    exact sw_fg (K _ _ _ _ _ (by omega) (by omega) H2)
set_option maxRecDepth 100000 in
set_option maxHeartbeats 4000000 in
theorem cs_25 {G : zG} {X : zX} {L : Nat} {xs : Nat → Int32} {a b i : Nat} {S : zS} {J : Int64} {E : UInt64} (W : zLw G X L xs) (H : zInv S S) (hi : i + 3 ≤ L) (hL : L ≤ 1536) (ha : a + 25 ≤ 603072) (hb : b + 850 ≤ 7211114) (K : zGo G X a b i) : SN G X a b 1620 [some (.ref 400), some (.ref 0), some (.ref 12), some (.ref 23), some (.ref 24), some (zi i), none, none, none] [] S J E := by
  obtain ⟨C, Z, NC, hl, hG⟩ := W
  obtain ⟨x, hx, ex⟩ := zInt (xs (i + 1))
  obtain ⟨k, w, d1, d2, mc, ms, S1, S2, J1, ⟨h1, h2, h3, h4⟩, c1, c2, hk, hk5, hJ, H2⟩ := op_spreaderCount hl (G := G) (J := J) (E := E) H hx
  refine sw_aload_1 C dL_law_1620 ?_
  refine sw_aload_0 C dL_law_1621 ?_
  refine sw_iload_5 C dL_law_1622 ?_
  refine sn_iconst C 1 (by decide) dL_law_1624 ?_
  refine sn_iadd C dL_law_1625 ?_
  refine sw_sld C Z (by omega) hL ex dL_law_1626 ?_
  refine sw_aload_3 C dL_law_1627 ?_
  refine sw_callW (as := [.ref 0, zi x, .ref 23]) (st := []) (n := 3) C (fun s e => e ▸ NC) wL_spreaderCount rfl iL_law ⟨by decide, by decide⟩ (by decide) (by decide) sL_spreaderCount kL_245 dL_law_1628 rfl (Nat.le_of_ble_eq_true rfl) c1 (by omega) (by omega) (by omega) ?_
  refine sw_istore_6 C rfl dL_law_1631 ?_
  refine sw_aload_2 C dL_law_1633 ?_
  refine sw_aload_0 C dL_law_1634 ?_
  refine sw_iload_5 C dL_law_1635 ?_
  refine sn_iconst C 1 (by decide) dL_law_1637 ?_
  refine sn_iadd C dL_law_1638 ?_
  refine sw_sld C Z (by omega) hL ex dL_law_1639 ?_
  refine sn_cV1r C vX6_spreaderCount lL_247 rfl (by decide) rfl rfl dL_law_1640 (Nat.le_of_ble_eq_true rfl) c2 (by omega) (by omega) (by omega) ?_
  refine sw_istore_7 C rfl dL_law_1643 ?_
  refine sw_aload_2 C dL_law_1645 ?_
  refine sn_cV0r C vX6_thrown lL_164 rfl (by decide) rfl rfl dL_law_1646 (Nat.le_of_ble_eq_true rfl) (c_X6_thrown hl) (by omega) (by omega) (by omega) ?_
  refine sw_iload_6 C dL_law_1649 ?_
  refine sn_icmp_eq C 1656 (by omega) (by omega) dL_law_1651 (by decide) (fun c => ?_) (fun c => absurd hk c)
  refine sw_iload_6 C dL_law_1656 ?_
  refine sn_if_ne C 1673 (by omega) dL_law_1658 (by decide) (fun c1 => ?_) (fun c0 => ?_)
  · refine sw_goto C 2938 dL_law_1673 (by decide) ?_
    exact sw_fg (K _ _ _ _ _ (by omega) (by omega) H2)
  · have eJ := hJ c0
    refine sw_aload_3 C dL_law_1661 ?_
    refine sn_iconst C 0 (by decide) dL_law_1662 ?_
    refine sw_lald C dL_law_1663 ?_
    refine sw_iload_7 C dL_law_1664 ?_
    refine sw_i2l C dL_law_1666 ?_
    refine sw_lcmp C dL_law_1667 ?_
    refine sw_if_eq C 1673 dL_law_1668 (by decide) (fun _ => ?_) (fun c => absurd (by rw [eJ]; exact zCmp_self) c)
    refine sw_goto C 2938 dL_law_1673 (by decide) ?_
    exact sw_fg (K _ _ _ _ _ (by omega) (by omega) H2)
