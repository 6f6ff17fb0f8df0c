section L27
variable {g : hcG} {S : hcS} {I : hcI} {R : hcR} {z b i kc ks : Nat} {Q : hcQ}
theorem lc_30 (hrel : REL S I R b z) (hi : i + 6 ≤ g.2.2.1 7) (hL : g.2.2.1 7 < 2 ^ 31) (next : ∀ (S' : hcS) (I' : hcI) (R' : hcR) (z' : Nat), REL S' I' R' b z' → V g mL_law 114 kc ks S' I' R' z' 1459 (LL g b i) [] Q) : V g mL_law 114 (kc + 3) (ks + 200) S I R z 1070 (LL g b i) [] Q := by
  have hrel' := hrel
  obtain ⟨N, Ni, im, so, si, ce, ho, hA, hB, hl, tl, tp, wt, te, hX, hM⟩ := hrel'
  have mn := hX.1.2.mn
  have s0 := hX.1.1.1.1
  have sm := hM.1.1
  unfold LL at next ⊢
  refine V.less (kc' := kc) (ks' := ks) ?_ (by omega) (by omega)
  refine v_aload_n (q := 1071) dL_law_1070 (kk := ?_)
  refine v_aload_n (q := 1072) dL_law_1071 (kk := ?_)
  refine v_iload_n (q := 1073) dL_law_1072 (kk := ?_)
  refine v_iconst (v := 1) (q := 1074) dL_law_1073 (kk := ?_)
  refine v_iadd (q := 1075) dL_law_1074 (kk := ?_)
  refine v_scld (q := 1076) (i + 1) (nI_add i 1) (by omega) hL dL_law_1075 (kk := ?_)
  refine v_aload_n (q := 1077) dL_law_1076 (kk := ?_)
  refine v_iload_n (q := 1078) dL_law_1077 (kk := ?_)
  refine v_iconst (v := 2) (q := 1079) dL_law_1078 (kk := ?_)
  refine v_iadd (q := 1080) dL_law_1079 (kk := ?_)
  refine v_scld (q := 1081) (i + 2) (nI_add i 2) (by omega) hL dL_law_1080 (kk := ?_)
  refine v_aload_n (q := 1082) dL_law_1081 (kk := ?_)
  refine v_iload_n (q := 1083) dL_law_1082 (kk := ?_)
  refine v_iconst (v := 3) (q := 1084) dL_law_1083 (kk := ?_)
  refine v_iadd (q := 1085) dL_law_1084 (kk := ?_)
  refine v_scld (q := 1086) (i + 3) (nI_add i 3) (by omega) hL dL_law_1085 (kk := ?_)
  refine v_cV3 (N := mX6_mark) (q := 1089) lL_137 iX6_mark kX6_mark s0 dL_law_1086 (x_mark hX.1.1 hX.2.1.1 hX.2.1.2 (fun I1 f1 s1 => ?_))
  have X1 := hX.sh f1 s1 (by rw [spMark_k.1, spMark_k.2]; exact hX.2.1.1)
  have M1 := hM.x (fun y a c => f1 y (by omega)) (fun _ _ _ => rfl) rfl
  refine v_aload_n (q := 1090) dL_law_1089 (kk := ?_)
  refine v_aload_n (q := 1091) dL_law_1090 (kk := ?_)
  refine v_iload_n (q := 1092) dL_law_1091 (kk := ?_)
  refine v_iconst (v := 1) (q := 1093) dL_law_1092 (kk := ?_)
  refine v_iadd (q := 1094) dL_law_1093 (kk := ?_)
  refine v_scld (q := 1095) (i + 1) (nI_add i 1) (by omega) hL dL_law_1094 (kk := ?_)
  refine v_aload_n (q := 1096) dL_law_1095 (kk := ?_)
  refine v_iload_n (q := 1097) dL_law_1096 (kk := ?_)
  refine v_iconst (v := 2) (q := 1098) dL_law_1097 (kk := ?_)
  refine v_iadd (q := 1099) dL_law_1098 (kk := ?_)
  refine v_scld (q := 1100) (i + 2) (nI_add i 2) (by omega) hL dL_law_1099 (kk := ?_)
  refine v_aload_n (q := 1101) dL_law_1100 (kk := ?_)
  refine v_iload_n (q := 1102) dL_law_1101 (kk := ?_)
  refine v_iconst (v := 3) (q := 1103) dL_law_1102 (kk := ?_)
  refine v_iadd (q := 1104) dL_law_1103 (kk := ?_)
  refine v_scld (q := 1105) (i + 3) (nI_add i 3) (by omega) hL dL_law_1104 (kk := ?_)
  refine v_cV3 (N := mX7_mark) (q := 1108) lL_140 iX7_mark kX7_mark sm dL_law_1105 (m_mark M1.1 hX.2.1.1 M1.2.2.1 (fun I2 f2 s2 => ?_))
  have M2 := M1.sh f2 s2
  have X2 := X1.mo (fun y hy => f2 y (by omega) (by omega) (by omega) (by omega))
  refine v_icmp_eqT 1459 dL_law_1108 (rfl) (kt := ?_)
  exact next _ _ _ _ ⟨_, _, _, _, _, _, _, _, _, _, _, _, _, _, X2, M2⟩
theorem lc_31 (hrel : REL S I R b z) (hi : i + 6 ≤ g.2.2.1 7) (hL : g.2.2.1 7 < 2 ^ 31) (next : ∀ (S' : hcS) (I' : hcI) (R' : hcR) (z' : Nat), REL S' I' R' b z' → V g mL_law 114 kc ks S' I' R' z' 1459 (LL g b i) [] Q) : V g mL_law 114 (kc + 3) (ks + 200) S I R z 1113 (LL g b i) [] Q := by
  have hrel' := hrel
  obtain ⟨N, Ni, im, so, si, ce, ho, hA, hB, hl, tl, tp, wt, te, hX, hM⟩ := hrel'
  have mn := hX.1.2.mn
  have s0 := hX.1.1.1.1
  have sm := hM.1.1
  unfold LL at next ⊢
  refine V.less (kc' := kc) (ks' := ks) ?_ (by omega) (by omega)
  refine v_aload_n (q := 1114) dL_law_1113 (kk := ?_)
  refine v_aload_n (q := 1115) dL_law_1114 (kk := ?_)
  refine v_iload_n (q := 1116) dL_law_1115 (kk := ?_)
  refine v_iconst (v := 1) (q := 1117) dL_law_1116 (kk := ?_)
  refine v_iadd (q := 1118) dL_law_1117 (kk := ?_)
  refine v_scld (q := 1119) (i + 1) (nI_add i 1) (by omega) hL dL_law_1118 (kk := ?_)
  refine v_cV1 (N := mX6_pour) (q := 1122) lL_141 iX6_pour kX6_pour s0 dL_law_1119 (x_pour hX.1.1 hX.1.2 hX.2.1.1 hX.2.1.2 (fun I1 f1 n1 => ?_))
  have X1 := hX.n f1 n1
  have M1 := hM.x (fun y a c => f1 y (by omega) (by unfold stk; omega)) (fun _ _ _ => rfl) rfl
  refine v_aload_n (q := 1123) dL_law_1122 (kk := ?_)
  refine v_aload_n (q := 1124) dL_law_1123 (kk := ?_)
  refine v_iload_n (q := 1125) dL_law_1124 (kk := ?_)
  refine v_iconst (v := 1) (q := 1126) dL_law_1125 (kk := ?_)
  refine v_iadd (q := 1127) dL_law_1126 (kk := ?_)
  refine v_scld (q := 1128) (i + 1) (nI_add i 1) (by omega) hL dL_law_1127 (kk := ?_)
  refine v_cV1 (N := mX7_pour) (q := 1131) lL_144 iX7_pour kX7_pour sm dL_law_1128 (m_pour M1.1 M1.2.1 mn hX.2.1.1 M1.2.2.1 (fun I2 f2 n2 => ?_))
  have M2 := M1.n (fun y a1 a2 a3 a4 => f2 y a1 a3 a4) n2
  have X2 := X1.mo (fun y hy => f2 y (by omega) (by omega) (by omega))
  refine v_icmp_eqT 1459 dL_law_1131 (rfl) (kt := ?_)
  exact next _ _ _ _ ⟨_, _, _, _, _, _, _, _, _, _, _, _, _, _, X2, M2⟩
theorem lc_32 (hrel : REL S I R b z) (hi : i + 6 ≤ g.2.2.1 7) (hL : g.2.2.1 7 < 2 ^ 31) (next : ∀ (S' : hcS) (I' : hcI) (R' : hcR) (z' : Nat), REL S' I' R' b z' → V g mL_law 114 kc ks S' I' R' z' 1459 (LL g b i) [] Q) : V g mL_law 114 (kc + 3) (ks + 200) S I R z 1136 (LL g b i) [] Q := by
  have hrel' := hrel
  obtain ⟨N, Ni, im, so, si, ce, ho, hA, hB, hl, tl, tp, wt, te, hX, hM⟩ := hrel'
  have mn := hX.1.2.mn
  have s0 := hX.1.1.1.1
  have sm := hM.1.1
  unfold LL at next ⊢
  refine V.less (kc' := kc) (ks' := ks) ?_ (by omega) (by omega)
  refine v_aload_n (q := 1137) dL_law_1136 (kk := ?_)
  refine v_aload_n (q := 1138) dL_law_1137 (kk := ?_)
  refine v_iload_n (q := 1139) dL_law_1138 (kk := ?_)
  refine v_iconst (v := 1) (q := 1140) dL_law_1139 (kk := ?_)
  refine v_iadd (q := 1141) dL_law_1140 (kk := ?_)
  refine v_scld (q := 1142) (i + 1) (nI_add i 1) (by omega) hL dL_law_1141 (kk := ?_)
  refine v_cV1 (N := mX6_reads) (q := 1145) lL_145 iX6_reads kX6_reads s0 dL_law_1142 (x_reads hX.1.1 hX.1.2 hX.2.1.1 hX.2.1.2 ?_)
  have M1 := hM
  refine v_aload_n (q := 1146) dL_law_1145 (kk := ?_)
  refine v_aload_n (q := 1147) dL_law_1146 (kk := ?_)
  refine v_iload_n (q := 1148) dL_law_1147 (kk := ?_)
  refine v_iconst (v := 1) (q := 1149) dL_law_1148 (kk := ?_)
  refine v_iadd (q := 1150) dL_law_1149 (kk := ?_)
  refine v_scld (q := 1151) (i + 1) (nI_add i 1) (by omega) hL dL_law_1150 (kk := ?_)
  refine v_cV1 (N := mX7_reads) (q := 1154) lL_148 iX7_reads kX7_reads sm dL_law_1151 (m_reads M1.1 M1.2.1 mn hX.2.1.1 M1.2.2.1 ?_)
  refine v_icmp_eqT 1459 dL_law_1154 (rfl) (kt := ?_)
  exact next S I R z hrel
theorem lc_33 (hrel : REL S I R b z) (hi : i + 6 ≤ g.2.2.1 7) (hL : g.2.2.1 7 < 2 ^ 31) (next : ∀ (S' : hcS) (I' : hcI) (R' : hcR) (z' : Nat), REL S' I' R' b z' → V g mL_law 114 kc ks S' I' R' z' 1459 (LL g b i) [] Q) : V g mL_law 114 (kc + 3) (ks + 200) S I R z 1159 (LL g b i) [] Q := by
  have hrel' := hrel
  obtain ⟨N, Ni, im, so, si, ce, ho, hA, hB, hl, tl, tp, wt, te, hX, hM⟩ := hrel'
  have mn := hX.1.2.mn
  have s0 := hX.1.1.1.1
  have sm := hM.1.1
  unfold LL at next ⊢
  refine V.less (kc' := kc) (ks' := ks) ?_ (by omega) (by omega)
  refine v_aload_n (q := 1160) dL_law_1159 (kk := ?_)
  refine v_aload_n (q := 1161) dL_law_1160 (kk := ?_)
  refine v_iload_n (q := 1162) dL_law_1161 (kk := ?_)
  refine v_iconst (v := 1) (q := 1163) dL_law_1162 (kk := ?_)
  refine v_iadd (q := 1164) dL_law_1163 (kk := ?_)
  refine v_scld (q := 1165) (i + 1) (nI_add i 1) (by omega) hL dL_law_1164 (kk := ?_)
  refine v_aload_n (q := 1166) dL_law_1165 (kk := ?_)
  refine v_iload_n (q := 1167) dL_law_1166 (kk := ?_)
  refine v_iconst (v := 2) (q := 1168) dL_law_1167 (kk := ?_)
  refine v_iadd (q := 1169) dL_law_1168 (kk := ?_)
  refine v_scld (q := 1170) (i + 2) (nI_add i 2) (by omega) hL dL_law_1169 (kk := ?_)
  refine v_aload_n (q := 1171) dL_law_1170 (kk := ?_)
  refine v_iload_n (q := 1172) dL_law_1171 (kk := ?_)
  refine v_iconst (v := 3) (q := 1173) dL_law_1172 (kk := ?_)
  refine v_iadd (q := 1174) dL_law_1173 (kk := ?_)
  refine v_scld (q := 1175) (i + 3) (nI_add i 3) (by omega) hL dL_law_1174 (kk := ?_)
  refine v_aload_n (q := 1176) dL_law_1175 (kk := ?_)
  refine v_iload_n (q := 1177) dL_law_1176 (kk := ?_)
  refine v_iconst (v := 4) (q := 1178) dL_law_1177 (kk := ?_)
  refine v_iadd (q := 1179) dL_law_1178 (kk := ?_)
  refine v_scld (q := 1180) (i + 4) (nI_add i 4) (by omega) hL dL_law_1179 (kk := ?_)
  refine v_aload_n (q := 1181) dL_law_1180 (kk := ?_)
  refine v_iload_n (q := 1182) dL_law_1181 (kk := ?_)
  refine v_iconst (v := 5) (q := 1183) dL_law_1182 (kk := ?_)
  refine v_iadd (q := 1184) dL_law_1183 (kk := ?_)
  refine v_scld (q := 1185) (i + 5) (nI_add i 5) (by omega) hL dL_law_1184 (kk := ?_)
  refine v_cV5 (N := mX6_copy) (q := 1188) lL_149 iX6_copy kX6_copy s0 dL_law_1185 (x_copy hX.1.1 hX.2.1.1 hX.2.1.2 (fun I1 f1 s1 => ?_))
  have X1 := hX.sh f1 s1 (by rw [spCopy_k.1, spCopy_k.2]; exact hX.2.1.1)
  have M1 := hM.x (fun y a c => f1 y (by omega)) (fun _ _ _ => rfl) rfl
  refine v_aload_n (q := 1189) dL_law_1188 (kk := ?_)
  refine v_aload_n (q := 1190) dL_law_1189 (kk := ?_)
  refine v_iload_n (q := 1191) dL_law_1190 (kk := ?_)
  refine v_iconst (v := 1) (q := 1192) dL_law_1191 (kk := ?_)
  refine v_iadd (q := 1193) dL_law_1192 (kk := ?_)
  refine v_scld (q := 1194) (i + 1) (nI_add i 1) (by omega) hL dL_law_1193 (kk := ?_)
  refine v_aload_n (q := 1195) dL_law_1194 (kk := ?_)
  refine v_iload_n (q := 1196) dL_law_1195 (kk := ?_)
  refine v_iconst (v := 2) (q := 1197) dL_law_1196 (kk := ?_)
  refine v_iadd (q := 1198) dL_law_1197 (kk := ?_)
  refine v_scld (q := 1199) (i + 2) (nI_add i 2) (by omega) hL dL_law_1198 (kk := ?_)
  refine v_aload_n (q := 1200) dL_law_1199 (kk := ?_)
  refine v_iload_n (q := 1201) dL_law_1200 (kk := ?_)
  refine v_iconst (v := 3) (q := 1202) dL_law_1201 (kk := ?_)
  refine v_iadd (q := 1203) dL_law_1202 (kk := ?_)
  refine v_scld (q := 1204) (i + 3) (nI_add i 3) (by omega) hL dL_law_1203 (kk := ?_)
  refine v_aload_n (q := 1205) dL_law_1204 (kk := ?_)
  refine v_iload_n (q := 1206) dL_law_1205 (kk := ?_)
  refine v_iconst (v := 4) (q := 1207) dL_law_1206 (kk := ?_)
  refine v_iadd (q := 1208) dL_law_1207 (kk := ?_)
  refine v_scld (q := 1209) (i + 4) (nI_add i 4) (by omega) hL dL_law_1208 (kk := ?_)
  refine v_aload_n (q := 1210) dL_law_1209 (kk := ?_)
  refine v_iload_n (q := 1211) dL_law_1210 (kk := ?_)
  refine v_iconst (v := 5) (q := 1212) dL_law_1211 (kk := ?_)
  refine v_iadd (q := 1213) dL_law_1212 (kk := ?_)
  refine v_scld (q := 1214) (i + 5) (nI_add i 5) (by omega) hL dL_law_1213 (kk := ?_)
  refine v_cV5 (N := mX7_copy) (q := 1217) lL_153 iX7_copy kX7_copy sm dL_law_1214 (m_copy M1.1 hX.2.1.1 M1.2.2.1 (fun I2 f2 s2 => ?_))
  have M2 := M1.sh f2 s2
  have X2 := X1.mo (fun y hy => f2 y (by omega) (by omega) (by omega) (by omega))
  refine v_icmp_eqT 1459 dL_law_1217 (rfl) (kt := ?_)
  exact next _ _ _ _ ⟨_, _, _, _, _, _, _, _, _, _, _, _, _, _, X2, M2⟩
theorem lc_34 (hrel : REL S I R b z) (hi : i + 6 ≤ g.2.2.1 7) (hL : g.2.2.1 7 < 2 ^ 31) (next : ∀ (S' : hcS) (I' : hcI) (R' : hcR) (z' : Nat), REL S' I' R' b z' → V g mL_law 114 kc ks S' I' R' z' 1459 (LL g b i) [] Q) : V g mL_law 114 (kc + 3) (ks + 200) S I R z 1222 (LL g b i) [] Q := by
  have hrel' := hrel
  obtain ⟨N, Ni, im, so, si, ce, ho, hA, hB, hl, tl, tp, wt, te, hX, hM⟩ := hrel'
  have mn := hX.1.2.mn
  have s0 := hX.1.1.1.1
  have sm := hM.1.1
  unfold LL at next ⊢
  refine V.less (kc' := kc) (ks' := ks) ?_ (by omega) (by omega)
  refine v_aload_n (q := 1223) dL_law_1222 (kk := ?_)
  refine v_aload_n (q := 1224) dL_law_1223 (kk := ?_)
  refine v_iload_n (q := 1225) dL_law_1224 (kk := ?_)
  refine v_iconst (v := 1) (q := 1226) dL_law_1225 (kk := ?_)
  refine v_iadd (q := 1227) dL_law_1226 (kk := ?_)
  refine v_scld (q := 1228) (i + 1) (nI_add i 1) (by omega) hL dL_law_1227 (kk := ?_)
  refine v_aload_n (q := 1229) dL_law_1228 (kk := ?_)
  refine v_iload_n (q := 1230) dL_law_1229 (kk := ?_)
  refine v_iconst (v := 2) (q := 1231) dL_law_1230 (kk := ?_)
  refine v_iadd (q := 1232) dL_law_1231 (kk := ?_)
  refine v_scld (q := 1233) (i + 2) (nI_add i 2) (by omega) hL dL_law_1232 (kk := ?_)
  refine v_aload_n (q := 1234) dL_law_1233 (kk := ?_)
  refine v_iload_n (q := 1235) dL_law_1234 (kk := ?_)
  refine v_iconst (v := 3) (q := 1236) dL_law_1235 (kk := ?_)
  refine v_iadd (q := 1237) dL_law_1236 (kk := ?_)
  refine v_scld (q := 1238) (i + 3) (nI_add i 3) (by omega) hL dL_law_1237 (kk := ?_)
  refine v_cV3 (N := mX6_lay) (q := 1241) lL_154 iX6_lay kX6_lay s0 dL_law_1238 (x_lay hX.1.1 hX.1.2 hX.2.1.1 hX.2.1.2 hX.2.2.1 (fun I1 f1 s1 => ?_))
  have X1 := hX.sl f1 s1
  have M1 := hM.x (fun y a c => f1 y (by omega)) (fun _ _ _ => rfl) rfl
  refine v_aload_n (q := 1242) dL_law_1241 (kk := ?_)
  refine v_aload_n (q := 1243) dL_law_1242 (kk := ?_)
  refine v_iload_n (q := 1244) dL_law_1243 (kk := ?_)
  refine v_iconst (v := 1) (q := 1245) dL_law_1244 (kk := ?_)
  refine v_iadd (q := 1246) dL_law_1245 (kk := ?_)
  refine v_scld (q := 1247) (i + 1) (nI_add i 1) (by omega) hL dL_law_1246 (kk := ?_)
  refine v_aload_n (q := 1248) dL_law_1247 (kk := ?_)
  refine v_iload_n (q := 1249) dL_law_1248 (kk := ?_)
  refine v_iconst (v := 2) (q := 1250) dL_law_1249 (kk := ?_)
  refine v_iadd (q := 1251) dL_law_1250 (kk := ?_)
  refine v_scld (q := 1252) (i + 2) (nI_add i 2) (by omega) hL dL_law_1251 (kk := ?_)
  refine v_aload_n (q := 1253) dL_law_1252 (kk := ?_)
  refine v_iload_n (q := 1254) dL_law_1253 (kk := ?_)
  refine v_iconst (v := 3) (q := 1255) dL_law_1254 (kk := ?_)
  refine v_iadd (q := 1256) dL_law_1255 (kk := ?_)
  refine v_scld (q := 1257) (i + 3) (nI_add i 3) (by omega) hL dL_law_1256 (kk := ?_)
  refine v_cV3 (N := mX7_lay) (q := 1260) lL_157 iX7_lay kX7_lay sm dL_law_1257 (m_lay M1.1 M1.2.1 mn hX.2.1.1 M1.2.2.1 M1.2.2.2.1 (fun I2 f2 s2 => ?_))
  have M2 := M1.sl f2 s2
  have X2 := X1.mo (fun y hy => f2 y (by omega) (by omega) (by omega) (by omega))
  refine v_icmp_eqT 1459 dL_law_1260 (rfl) (kt := ?_)
  exact next _ _ _ _ ⟨_, _, _, _, _, _, _, _, _, _, _, _, _, _, X2, M2⟩
theorem lc_35 (hrel : REL S I R b z) (hi : i + 6 ≤ g.2.2.1 7) (hL : g.2.2.1 7 < 2 ^ 31) (next : ∀ (S' : hcS) (I' : hcI) (R' : hcR) (z' : Nat), REL S' I' R' b z' → V g mL_law 114 kc ks S' I' R' z' 1459 (LL g b i) [] Q) : V g mL_law 114 (kc + 3) (ks + 200) S I R z 1265 (LL g b i) [] Q := by
  have hrel' := hrel
  obtain ⟨N, Ni, im, so, si, ce, ho, hA, hB, hl, tl, tp, wt, te, hX, hM⟩ := hrel'
  have mn := hX.1.2.mn
  have s0 := hX.1.1.1.1
  have sm := hM.1.1
  unfold LL at next ⊢
  refine V.less (kc' := kc) (ks' := ks) ?_ (by omega) (by omega)
  refine v_aload_n (q := 1266) dL_law_1265 (kk := ?_)
  refine v_aload_n (q := 1267) dL_law_1266 (kk := ?_)
  refine v_iload_n (q := 1268) dL_law_1267 (kk := ?_)
  refine v_iconst (v := 1) (q := 1269) dL_law_1268 (kk := ?_)
  refine v_iadd (q := 1270) dL_law_1269 (kk := ?_)
  refine v_scld (q := 1271) (i + 1) (nI_add i 1) (by omega) hL dL_law_1270 (kk := ?_)
  refine v_aload_n (q := 1272) dL_law_1271 (kk := ?_)
  refine v_iload_n (q := 1273) dL_law_1272 (kk := ?_)
  refine v_iconst (v := 2) (q := 1274) dL_law_1273 (kk := ?_)
  refine v_iadd (q := 1275) dL_law_1274 (kk := ?_)
  refine v_scld (q := 1276) (i + 2) (nI_add i 2) (by omega) hL dL_law_1275 (kk := ?_)
  refine v_cV2 (N := mX6_ask) (q := 1279) lL_158 iX6_ask kX6_ask s0 dL_law_1276 (x_ask hX.1.1 hX.2.2.1 ?_)
  have M1 := hM
  refine v_aload_n (q := 1280) dL_law_1279 (kk := ?_)
  refine v_aload_n (q := 1281) dL_law_1280 (kk := ?_)
  refine v_iload_n (q := 1282) dL_law_1281 (kk := ?_)
  refine v_iconst (v := 1) (q := 1283) dL_law_1282 (kk := ?_)
  refine v_iadd (q := 1284) dL_law_1283 (kk := ?_)
  refine v_scld (q := 1285) (i + 1) (nI_add i 1) (by omega) hL dL_law_1284 (kk := ?_)
  refine v_aload_n (q := 1286) dL_law_1285 (kk := ?_)
  refine v_iload_n (q := 1287) dL_law_1286 (kk := ?_)
  refine v_iconst (v := 2) (q := 1288) dL_law_1287 (kk := ?_)
  refine v_iadd (q := 1289) dL_law_1288 (kk := ?_)
  refine v_scld (q := 1290) (i + 2) (nI_add i 2) (by omega) hL dL_law_1289 (kk := ?_)
  refine v_cV2 (N := mX7_ask) (q := 1293) lL_161 iX7_ask kX7_ask sm dL_law_1290 (m_ask M1.1 (fun s hs e => by obtain ⟨k, k1, k2, k3, k4⟩ := (hX.2.2.1 s hs).2.2.1 e; exact ⟨k, k1, k3⟩) M1.2.2.2.1 ?_)
  refine v_icmp_eqT 1459 dL_law_1293 (rfl) (kt := ?_)
  exact next S I R z hrel
theorem lc_36 (hrel : REL S I R b z) (hi : i + 6 ≤ g.2.2.1 7) (hL : g.2.2.1 7 < 2 ^ 31) (next : ∀ (S' : hcS) (I' : hcI) (R' : hcR) (z' : Nat), REL S' I' R' b z' → V g mL_law 114 kc ks S' I' R' z' 1459 (LL g b i) [] Q) : V g mL_law 114 (kc + 3) (ks + 200) S I R z 1298 (LL g b i) [] Q := by
  have hrel' := hrel
  obtain ⟨N, Ni, im, so, si, ce, ho, hA, hB, hl, tl, tp, wt, te, hX, hM⟩ := hrel'
  have mn := hX.1.2.mn
  have s0 := hX.1.1.1.1
  have sm := hM.1.1
  unfold LL at next ⊢
  refine V.less (kc' := kc) (ks' := ks) ?_ (by omega) (by omega)
  refine v_aload_n (q := 1299) dL_law_1298 (kk := ?_)
  refine v_aload_n (q := 1300) dL_law_1299 (kk := ?_)
  refine v_iload_n (q := 1301) dL_law_1300 (kk := ?_)
  refine v_iconst (v := 1) (q := 1302) dL_law_1301 (kk := ?_)
  refine v_iadd (q := 1303) dL_law_1302 (kk := ?_)
  refine v_scld (q := 1304) (i + 1) (nI_add i 1) (by omega) hL dL_law_1303 (kk := ?_)
  refine v_aload_n (q := 1305) dL_law_1304 (kk := ?_)
  refine v_iload_n (q := 1306) dL_law_1305 (kk := ?_)
  refine v_iconst (v := 2) (q := 1307) dL_law_1306 (kk := ?_)
  refine v_iadd (q := 1308) dL_law_1307 (kk := ?_)
  refine v_scld (q := 1309) (i + 2) (nI_add i 2) (by omega) hL dL_law_1308 (kk := ?_)
  refine v_cV2 (N := mX6_item) (q := 1312) lL_162 iX6_item kX6_item s0 dL_law_1309 (x_item hX.1.1 hX.2.2.1 ?_)
  have M1 := hM
  refine v_aload_n (q := 1313) dL_law_1312 (kk := ?_)
  refine v_aload_n (q := 1314) dL_law_1313 (kk := ?_)
  refine v_iload_n (q := 1315) dL_law_1314 (kk := ?_)
  refine v_iconst (v := 1) (q := 1316) dL_law_1315 (kk := ?_)
  refine v_iadd (q := 1317) dL_law_1316 (kk := ?_)
  refine v_scld (q := 1318) (i + 1) (nI_add i 1) (by omega) hL dL_law_1317 (kk := ?_)
  refine v_aload_n (q := 1319) dL_law_1318 (kk := ?_)
  refine v_iload_n (q := 1320) dL_law_1319 (kk := ?_)
  refine v_iconst (v := 2) (q := 1321) dL_law_1320 (kk := ?_)
  refine v_iadd (q := 1322) dL_law_1321 (kk := ?_)
  refine v_scld (q := 1323) (i + 2) (nI_add i 2) (by omega) hL dL_law_1322 (kk := ?_)
  refine v_cV2 (N := mX7_item) (q := 1326) lL_165 iX7_item kX7_item sm dL_law_1323 (m_item M1.1 (fun s hs e => by obtain ⟨k, k1, k2, k3, k4⟩ := (hX.2.2.1 s hs).2.2.2.1 e; exact ⟨k, k1, k2⟩) M1.2.2.2.1 ?_)
  refine v_icmp_eqT 1459 dL_law_1326 (rfl) (kt := ?_)
  exact next S I R z hrel
theorem lc_37 (hrel : REL S I R b z) (hi : i + 6 ≤ g.2.2.1 7) (hL : g.2.2.1 7 < 2 ^ 31) (next : ∀ (S' : hcS) (I' : hcI) (R' : hcR) (z' : Nat), REL S' I' R' b z' → V g mL_law 114 kc ks S' I' R' z' 1459 (LL g b i) [] Q) : V g mL_law 114 (kc + 3) (ks + 200) S I R z 1331 (LL g b i) [] Q := by
  have hrel' := hrel
  obtain ⟨N, Ni, im, so, si, ce, ho, hA, hB, hl, tl, tp, wt, te, hX, hM⟩ := hrel'
  have mn := hX.1.2.mn
  have s0 := hX.1.1.1.1
  have sm := hM.1.1
  unfold LL at next ⊢
  refine V.less (kc' := kc) (ks' := ks) ?_ (by omega) (by omega)
  refine v_aload_n (q := 1332) dL_law_1331 (kk := ?_)
  refine v_aload_n (q := 1333) dL_law_1332 (kk := ?_)
  refine v_iload_n (q := 1334) dL_law_1333 (kk := ?_)
  refine v_iconst (v := 1) (q := 1335) dL_law_1334 (kk := ?_)
  refine v_iadd (q := 1336) dL_law_1335 (kk := ?_)
  refine v_scld (q := 1337) (i + 1) (nI_add i 1) (by omega) hL dL_law_1336 (kk := ?_)
  refine v_aload_n (q := 1338) dL_law_1337 (kk := ?_)
  refine v_iload_n (q := 1339) dL_law_1338 (kk := ?_)
  refine v_iconst (v := 2) (q := 1340) dL_law_1339 (kk := ?_)
  refine v_iadd (q := 1341) dL_law_1340 (kk := ?_)
  refine v_scld (q := 1342) (i + 2) (nI_add i 2) (by omega) hL dL_law_1341 (kk := ?_)
  refine v_cV2 (N := mX6_remains) (q := 1345) lL_166 iX6_remains kX6_remains s0 dL_law_1342 (x_remains hX.1.1 hX.2.2.1 ?_)
  have M1 := hM
  refine v_aload_n (q := 1346) dL_law_1345 (kk := ?_)
  refine v_aload_n (q := 1347) dL_law_1346 (kk := ?_)
  refine v_iload_n (q := 1348) dL_law_1347 (kk := ?_)
  refine v_iconst (v := 1) (q := 1349) dL_law_1348 (kk := ?_)
  refine v_iadd (q := 1350) dL_law_1349 (kk := ?_)
  refine v_scld (q := 1351) (i + 1) (nI_add i 1) (by omega) hL dL_law_1350 (kk := ?_)
  refine v_aload_n (q := 1352) dL_law_1351 (kk := ?_)
  refine v_iload_n (q := 1353) dL_law_1352 (kk := ?_)
  refine v_iconst (v := 2) (q := 1354) dL_law_1353 (kk := ?_)
  refine v_iadd (q := 1355) dL_law_1354 (kk := ?_)
  refine v_scld (q := 1356) (i + 2) (nI_add i 2) (by omega) hL dL_law_1355 (kk := ?_)
  refine v_cV2 (N := mX7_remains) (q := 1359) lL_169 iX7_remains kX7_remains sm dL_law_1356 (m_remains M1.1 M1.2.2.2.1 ?_)
  refine v_icmp_eqT 1459 dL_law_1359 (rfl) (kt := ?_)
  exact next S I R z hrel
theorem lc_38 (hrel : REL S I R b z) (hi : i + 6 ≤ g.2.2.1 7) (hL : g.2.2.1 7 < 2 ^ 31) (next : ∀ (S' : hcS) (I' : hcI) (R' : hcR) (z' : Nat), REL S' I' R' b z' → V g mL_law 114 kc ks S' I' R' z' 1459 (LL g b i) [] Q) : V g mL_law 114 (kc + 3) (ks + 200) S I R z 1364 (LL g b i) [] Q := by
  have hrel' := hrel
  obtain ⟨N, Ni, im, so, si, ce, ho, hA, hB, hl, tl, tp, wt, te, hX, hM⟩ := hrel'
  have mn := hX.1.2.mn
  have s0 := hX.1.1.1.1
  have sm := hM.1.1
  unfold LL at next ⊢
  refine V.less (kc' := kc) (ks' := ks) ?_ (by omega) (by omega)
  refine v_aload_n (q := 1365) dL_law_1364 (kk := ?_)
  refine v_aload_n (q := 1366) dL_law_1365 (kk := ?_)
  refine v_iload_n (q := 1367) dL_law_1366 (kk := ?_)
  refine v_iconst (v := 1) (q := 1368) dL_law_1367 (kk := ?_)
  refine v_iadd (q := 1369) dL_law_1368 (kk := ?_)
  refine v_scld (q := 1370) (i + 1) (nI_add i 1) (by omega) hL dL_law_1369 (kk := ?_)
  refine v_cV1 (N := mX6_tell) (q := 1373) lL_170 iX6_tell kX6_tell s0 dL_law_1370 (x_tell hX.1.1 hX.2.2.2.2.2.1.1 hX.2.2.2.2.2.1.2.1 (fun e1 => ?_) (fun e1 => ?_))
  · skip
    refine v_aload_n (q := 1374) dL_law_1373 (kk := ?_)
    refine v_aload_n (q := 1375) dL_law_1374 (kk := ?_)
    refine v_iload_n (q := 1376) dL_law_1375 (kk := ?_)
    refine v_iconst (v := 1) (q := 1377) dL_law_1376 (kk := ?_)
    refine v_iadd (q := 1378) dL_law_1377 (kk := ?_)
    refine v_scld (q := 1379) (i + 1) (nI_add i 1) (by omega) hL dL_law_1378 (kk := ?_)
    refine v_cV1 (N := mX7_tell) (q := 1382) lL_173 iX7_tell kX7_tell sm dL_law_1379 (m_tell hM.1 hM.2.2.2.2.2.2.1.1 hX.2.2.2.2.2.1.2.1 (fun e2 => ?_) (fun e2 => by omega))
    refine v_icmp_eqT 1459 dL_law_1382 (rfl) (kt := ?_)
    exact next S I R z hrel
  · skip
    have X1 := hX.bb (I' := hc_u (hc_u I (b + 52) wt (nI (g.2.2.1 (8 + (i + 1))))) b 10 (nI (wt + 1))) (R' := R) (tl' := tl) (tp' := tp) (wt' := wt + 1) (te' := upd te wt (nI (g.2.2.1 (8 + (i + 1))))) (fun y a1 _ _ a4 _ => by rw [hc_u_ne a1, hc_u_ne a4]) (fun _ _ => rfl) (by rw [uu_ne (by omega), hc_u_ne (by omega)]) ⟨by rw [uu_ne (by omega), hc_u_ne (by omega)]; exact hX.2.2.2.2.1.1, hX.2.2.2.2.1.2.1, hX.2.2.2.2.1.2.2.keep (by rw [hc_u_ne (by omega), hc_u_ne (by omega)])⟩ ⟨uu_at, by omega, fun j hj => by
      rw [hc_u_ne (by omega), hc_u_at]
      by_cases ej : j = wt
      · rw [ej, upd_at, upd_at]
      · rw [upd_ne ej, upd_ne ej]; exact hX.2.2.2.2.2.1.2.2 j (by omega)⟩
    have M1 := hM.x (I' := hc_u (hc_u I (b + 52) wt (nI (g.2.2.1 (8 + (i + 1))))) b 10 (nI (wt + 1))) (fun y a c => by rw [hc_u_ne (by omega), hc_u_ne (by omega)]) (fun _ _ _ => rfl) (rfl : R (b + 81) = R (b + 81))
    refine v_aload_n (q := 1374) dL_law_1373 (kk := ?_)
    refine v_aload_n (q := 1375) dL_law_1374 (kk := ?_)
    refine v_iload_n (q := 1376) dL_law_1375 (kk := ?_)
    refine v_iconst (v := 1) (q := 1377) dL_law_1376 (kk := ?_)
    refine v_iadd (q := 1378) dL_law_1377 (kk := ?_)
    refine v_scld (q := 1379) (i + 1) (nI_add i 1) (by omega) hL dL_law_1378 (kk := ?_)
    refine v_cV1 (N := mX7_tell) (q := 1382) lL_173 iX7_tell kX7_tell sm dL_law_1379 (m_tell M1.1 M1.2.2.2.2.2.2.1.1 hX.2.2.2.2.2.1.2.1 (fun e2 => by omega) (fun e2 => ?_))
    have M2 := M1.bb (I' := hc_u (hc_u (hc_u (hc_u I (b + 52) wt (nI (g.2.2.1 (8 + (i + 1))))) b 10 (nI (wt + 1))) (b + 81 + 21) wt (nI (g.2.2.1 (8 + (i + 1))))) (b + 81) 32 (nI (wt + 1))) (tl' := tl) (tp' := tp) (wt' := wt + 1) (te' := upd te wt (nI (g.2.2.1 (8 + (i + 1))))) (fun y a1 _ _ _ _ _ a7 => by rw [hc_u_ne a1, hc_u_ne a7]) (by rw [uu_ne (by omega), hc_u_ne (by omega)]) (by rw [hc_u_ne (by omega), hc_u_ne (by omega)]; exact M1.2.1) ⟨by rw [uu_ne (by omega), hc_u_ne (by omega)]; exact M1.2.2.2.2.2.1.1, by rw [hc_u_ne (by omega), hc_u_ne (by omega)]; exact M1.2.2.2.2.2.1.2⟩ ⟨uu_at, by rw [hc_u_ne (by omega), hc_u_at, M1.2.2.2.2.2.2.1.2]⟩
    have X2 := X1.mo (I' := hc_u (hc_u (hc_u (hc_u I (b + 52) wt (nI (g.2.2.1 (8 + (i + 1))))) b 10 (nI (wt + 1))) (b + 81 + 21) wt (nI (g.2.2.1 (8 + (i + 1))))) (b + 81) 32 (nI (wt + 1))) (fun y hy => by rw [hc_u_ne (by omega), hc_u_ne (by omega)])
    refine v_icmp_eqT 1459 dL_law_1382 (rfl) (kt := ?_)
    exact next _ _ _ _ ⟨_, _, _, _, _, _, _, _, _, _, _, _, _, _, X2, M2⟩
theorem lc_39 (hrel : REL S I R b z) (hi : i + 6 ≤ g.2.2.1 7) (hL : g.2.2.1 7 < 2 ^ 31) (next : ∀ (S' : hcS) (I' : hcI) (R' : hcR) (z' : Nat), REL S' I' R' b z' → V g mL_law 114 kc ks S' I' R' z' 1459 (LL g b i) [] Q) : V g mL_law 114 (kc + 3) (ks + 200) S I R z 1387 (LL g b i) [] Q := by
  have hrel' := hrel
  obtain ⟨N, Ni, im, so, si, ce, ho, hA, hB, hl, tl, tp, wt, te, hX, hM⟩ := hrel'
  have mn := hX.1.2.mn
  have s0 := hX.1.1.1.1
  have sm := hM.1.1
  unfold LL at next ⊢
  refine V.less (kc' := kc) (ks' := ks) ?_ (by omega) (by omega)
  refine v_aload_n (q := 1388) dL_law_1387 (kk := ?_)
  refine v_aload_n (q := 1389) dL_law_1388 (kk := ?_)
  refine v_iload_n (q := 1390) dL_law_1389 (kk := ?_)
  refine v_iconst (v := 1) (q := 1391) dL_law_1390 (kk := ?_)
  refine v_iadd (q := 1392) dL_law_1391 (kk := ?_)
  refine v_scld (q := 1393) (i + 1) (nI_add i 1) (by omega) hL dL_law_1392 (kk := ?_)
  refine v_cV1 (N := mX6_check) (q := 1396) lL_174 iX6_check kX6_check s0 dL_law_1393 (x_check (Ni := Ni) (te := te) hX.1.1 hX.2.2.2.1.1 hX.2.2.2.2.2.1.1 hX.2.2.2.2.2.1.2.1 hX.2.2.2.2.2.1.2.2 hX.2.2.2.1.2 (fun I1 R1 f1 b1 r1 => ?_))
  have X1 := hX.bb (tl' := tl) (tp' := tp) (wt' := 0) (te' := te) (fun y a1 a2 _ _ a5 => f1 y a1 a2 a5) r1 (by rw [b1, upd_ne (by omega)]) ⟨by rw [b1, upd_ne (by omega)]; exact hX.2.2.2.2.1.1, hX.2.2.2.2.1.2.1, hX.2.2.2.2.1.2.2.keep (f1 _ (by omega) (by omega) (by unfold stk; omega))⟩ ⟨by rw [b1, upd_at]; rfl, by omega, fun j hj => by omega⟩
  have M1 := hM.x (fun y a c => f1 y (by omega) (by omega) (by unfold stk; omega)) (fun _ _ _ => rfl) (r1 _ (by omega))
  refine v_aload_n (q := 1397) dL_law_1396 (kk := ?_)
  refine v_aload_n (q := 1398) dL_law_1397 (kk := ?_)
  refine v_iload_n (q := 1399) dL_law_1398 (kk := ?_)
  refine v_iconst (v := 1) (q := 1400) dL_law_1399 (kk := ?_)
  refine v_iadd (q := 1401) dL_law_1400 (kk := ?_)
  refine v_scld (q := 1402) (i + 1) (nI_add i 1) (by omega) hL dL_law_1401 (kk := ?_)
  refine v_cV1 (N := mX7_check) (q := 1405) lL_177 iX7_check kX7_check sm dL_law_1402 (m_check (Ni := Ni) (te := te) M1.1 M1.2.1 M1.2.2.2.2.1.1 M1.2.2.2.2.2.2.1.1 hX.2.2.2.2.2.1.2.1 M1.2.2.2.2.2.2.1.2 (fun e => ⟨by obtain ⟨np, nb, nt, sec, hw, -⟩ := hX.2.2.2.1.2 e; exact ⟨np, nb, nt, sec, hw⟩, M1.2.2.2.2.1.2 e⟩) (fun I2 f2 b2 n2 => ?_))
  have M2 := M1.bb (tl' := tl) (tp' := tp) (wt' := 0) (te' := te) (fun y a1 a2 a3 _ a5 a6 _ => f2 y a1 a2 a3 a5 a6) (by rw [b2, upd_ne (by omega)]) n2 ⟨by rw [b2, upd_ne (by omega)]; exact M1.2.2.2.2.2.1.1, (f2 _ (by omega) (by omega) (by omega) (by omega) (by omega)).trans M1.2.2.2.2.2.1.2⟩ ⟨by rw [b2, upd_at]; rfl, (f2 _ (by omega) (by omega) (by omega) (by omega) (by omega)).trans M1.2.2.2.2.2.2.1.2⟩
  have X2 := X1.mo (fun y hy => f2 y (by omega) (by omega) (by omega) (by omega) (by omega))
  refine v_icmp_eqT 1459 dL_law_1405 (rfl) (kt := ?_)
  exact next _ _ _ _ ⟨_, _, _, _, _, _, _, _, _, _, _, _, _, _, X2, M2⟩
theorem lc_40 (hrel : REL S I R b z) (hi : i + 6 ≤ g.2.2.1 7) (hL : g.2.2.1 7 < 2 ^ 31) (next : ∀ (S' : hcS) (I' : hcI) (R' : hcR) (z' : Nat), REL S' I' R' b z' → V g mL_law 114 kc ks S' I' R' z' 1459 (LL g b i) [] Q) : V g mL_law 114 (kc + 3) (ks + 200) S I R z 1410 (LL g b i) [] Q := by
  have hrel' := hrel
  obtain ⟨N, Ni, im, so, si, ce, ho, hA, hB, hl, tl, tp, wt, te, hX, hM⟩ := hrel'
  have mn := hX.1.2.mn
  have s0 := hX.1.1.1.1
  have sm := hM.1.1
  unfold LL at next ⊢
  refine V.less (kc' := kc) (ks' := ks) ?_ (by omega) (by omega)
  refine v_aload_n (q := 1411) dL_law_1410 (kk := ?_)
  refine v_cV0 (N := mX6_keep) (q := 1414) lL_178 iX6_keep kX6_keep s0 dL_law_1411 (x_keep hX.1.1 hX.1.2 (fun I1 R1 f1 b1 r1 n1 i1 => ?_))
  have X1 := hX.k f1 b1 r1 n1 i1
  have M1 := hM.x (fun y a c => f1 y (by omega) (by omega)) (fun _ _ _ => rfl) (r1 _ (by omega))
  refine v_aload_n (q := 1415) dL_law_1414 (kk := ?_)
  refine v_cV0 (N := mX7_keep) (q := 1418) lL_181 iX7_keep kX7_keep sm dL_law_1415 (m_keep M1.1 M1.2.1 (fun I2 f2 b2 i2 => ?_))
  have M2 := M1.k f2 b2 i2
  have X2 := X1.mo (fun y hy => f2 y (by omega) (by omega))
  refine v_icmp_eqT 1459 dL_law_1418 (rfl) (kt := ?_)
  exact next _ _ _ _ ⟨_, _, _, _, _, _, _, _, _, _, _, _, _, _, X2, M2⟩
theorem lc_41 (hrel : REL S I R b z) (hi : i + 6 ≤ g.2.2.1 7) (hL : g.2.2.1 7 < 2 ^ 31) (next : ∀ (S' : hcS) (I' : hcI) (R' : hcR) (z' : Nat), REL S' I' R' b z' → V g mL_law 114 kc ks S' I' R' z' 1459 (LL g b i) [] Q) : V g mL_law 114 (kc + 3) (ks + 200) S I R z 1423 (LL g b i) [] Q := by
  have hrel' := hrel
  obtain ⟨N, Ni, im, so, si, ce, ho, hA, hB, hl, tl, tp, wt, te, hX, hM⟩ := hrel'
  have mn := hX.1.2.mn
  have s0 := hX.1.1.1.1
  have sm := hM.1.1
  unfold LL at next ⊢
  refine V.less (kc' := kc) (ks' := ks) ?_ (by omega) (by omega)
  refine v_aload_n (q := 1424) dL_law_1423 (kk := ?_)
  refine v_cV0 (N := mX6_back) (q := 1427) lL_182 iX6_back kX6_back s0 dL_law_1424 (x_back (Ni := Ni) hX.1.1 hX.2.2.2.1.1 hX.2.2.2.1.2 (fun e1 => ?_) (fun e1 I1 R1 f1 r1 n1 => ?_))
  · skip
    refine v_aload_n (q := 1428) dL_law_1427 (kk := ?_)
    refine v_cV0 (N := mX7_back) (q := 1431) lL_185 iX7_back kX7_back sm dL_law_1428 (m_back (Ni := Ni) hM.1 hM.2.2.2.2.1.1 hM.2.2.2.2.1.2 (fun e2 => ?_) (fun e2 => by rw [e1] at e2; cases e2))
    refine v_icmp_eqT 1459 dL_law_1431 (rfl) (kt := ?_)
    exact next S I R z hrel
  · skip
    have X1 := hX.bk f1 r1 n1
    have M1 := hM.x (fun y a c => f1 y (by omega)) (fun _ _ _ => rfl) (r1 _ (by omega))
    refine v_aload_n (q := 1428) dL_law_1427 (kk := ?_)
    refine v_cV0 (N := mX7_back) (q := 1431) lL_185 iX7_back kX7_back sm dL_law_1428 (m_back (Ni := Ni) M1.1 M1.2.2.2.2.1.1 M1.2.2.2.2.1.2 (fun e2 => by rw [e1] at e2; cases e2) (fun e2 I2 f2 n2 => ?_))
    have M2 := M1.n (fun y a1 _ _ _ => f2 y a1) n2
    have X2 := X1.mo (fun y hy => f2 y (by omega))
    refine v_icmp_eqT 1459 dL_law_1431 (rfl) (kt := ?_)
    exact next _ _ _ _ ⟨_, _, _, _, _, _, _, _, _, _, _, _, _, _, X2, M2⟩
theorem lc_42 (hrel : REL S I R b z) (hi : i + 6 ≤ g.2.2.1 7) (hL : g.2.2.1 7 < 2 ^ 31) (next : ∀ (S' : hcS) (I' : hcI) (R' : hcR) (z' : Nat), REL S' I' R' b z' → V g mL_law 114 kc ks S' I' R' z' 1459 (LL g b i) [] Q) : V g mL_law 114 (kc + 3) (ks + 200) S I R z 1436 (LL g b i) [] Q := by
  have hrel' := hrel
  obtain ⟨N, Ni, im, so, si, ce, ho, hA, hB, hl, tl, tp, wt, te, hX, hM⟩ := hrel'
  have mn := hX.1.2.mn
  have s0 := hX.1.1.1.1
  have sm := hM.1.1
  unfold LL at next ⊢
  refine V.less (kc' := kc) (ks' := ks) ?_ (by omega) (by omega)
  refine v_aload_n (q := 1437) dL_law_1436 (kk := ?_)
  refine v_aload_n (q := 1438) dL_law_1437 (kk := ?_)
  refine v_iload_n (q := 1439) dL_law_1438 (kk := ?_)
  refine v_iconst (v := 1) (q := 1440) dL_law_1439 (kk := ?_)
  refine v_iadd (q := 1441) dL_law_1440 (kk := ?_)
  refine v_scld (q := 1442) (i + 1) (nI_add i 1) (by omega) hL dL_law_1441 (kk := ?_)
  refine v_cV1 (N := mX6_count) (q := 1445) lL_186 iX6_count kX6_count s0 dL_law_1442 (x_count hX.1.1 hX.1.2 hX.2.2.2.2.1.1 hX.2.2.2.2.2.1.1 ?_)
  have M1 := hM
  refine v_aload_n (q := 1446) dL_law_1445 (kk := ?_)
  refine v_aload_n (q := 1447) dL_law_1446 (kk := ?_)
  refine v_iload_n (q := 1448) dL_law_1447 (kk := ?_)
  refine v_iconst (v := 1) (q := 1449) dL_law_1448 (kk := ?_)
  refine v_iadd (q := 1450) dL_law_1449 (kk := ?_)
  refine v_scld (q := 1451) (i + 1) (nI_add i 1) (by omega) hL dL_law_1450 (kk := ?_)
  refine v_cV1 (N := mX7_count) (q := 1454) lL_189 iX7_count kX7_count sm dL_law_1451 (m_count M1.1 M1.2.1 mn M1.2.2.2.2.2.1.1 M1.2.2.2.2.2.2.1.1 ?_)
  refine v_icmp_eqT 1459 dL_law_1454 (rfl) (kt := ?_)
  exact next S I R z hrel
end L27
