theorem cs_18 {o : OM} {l : Launch} {nm : String} {n : Nat} {M : Mem} {S : SS} {N i : Nat} {xs : Nat → Int32} {bg bg2 : Nat × Nat} {Q : Option Value → AH → Prop} (hl : l.stackTraces = false) (hE : OE o) (hO : OS o) (hx : OX o N xs) (hN : N ≤ 3072) (hi : i + 6 ≤ N) (hW : WS S) (hX : XR M S) (hM : MR M S) (hb1 : 1 + bg2.1 ≤ bg.1) (hb2 : 6 + bg2.2 ≤ bg.2) (K : ∀ n' M' S', XR M' S' → MR M' S' → WS S' → Rn o l (m_Lw nm) bg2 1396 [some (.retAddr 0), some (.ref 0), some (.ref 436), some (.ref 453), some (.int (nI i)), none, none] [] (gh n' M') Q) : Rn o l (m_Lw nm) bg 1024 [some (.retAddr 0), some (.ref 0), some (.ref 436), some (.ref 453), some (.int (nI i)), none, none] [] (gh n M) Q := by
  refine r_less (bg2 := bg2) (by omega) (by omega) ?_
  refine r_aload_n d_Lw_1024 rfl ?_
  refine r_bload_n d_Lw_1025 rfl ?_
  refine r_iload (x := nI i) d_Lw_1026 rfl ?_
  refine r_iconst (v := nI 1) d_Lw_1028 (by decide) ?_
  refine n_iadd d_Lw_1029 ?_
  refine r_sld d_Lw_1030 hx (by omega) (by omega) ?_
  refine g_Vi (av := [.int (xs (i + 1))]) d_Lw_1031 k_Lw_104 ws_X_kinds (Nat.le_of_ble_eq_true rfl) rfl rfl (Nat.le_of_ble_eq_true rfl) rfl (c_X_kinds hW hX) ?_
  rintro r M1 ⟨rfl, x1, k1⟩
  refine r_aload_n d_Lw_1034 rfl ?_
  refine r_bload_n d_Lw_1035 rfl ?_
  refine r_iload (x := nI i) d_Lw_1036 rfl ?_
  refine r_iconst (v := nI 1) d_Lw_1038 (by decide) ?_
  refine n_iadd d_Lw_1039 ?_
  refine r_sld d_Lw_1040 hx (by omega) (by omega) ?_
  refine g_Vi (av := [.int (xs (i + 1))]) d_Lw_1041 k_Lw_107 ws_Md_kinds (Nat.le_of_ble_eq_true rfl) rfl rfl (Nat.le_of_ble_eq_true rfl) rfl (c_Md_kinds hW (hM.kx (fun b h1 _ => k1 b h1))) ?_
  rintro r M2 ⟨rfl, x2, k2⟩
  refine r_icmp_eq d_Lw_1044 (fun _ => ?_) (fun h => absurd rfl h)
  exact K n M2 _ (x1.kx (fun b hb => k2 b (Or.inl hb))) x2 (w_kinds hW _)
theorem cs_19 {o : OM} {l : Launch} {nm : String} {n : Nat} {M : Mem} {S : SS} {N i : Nat} {xs : Nat → Int32} {bg bg2 : Nat × Nat} {Q : Option Value → AH → Prop} (hl : l.stackTraces = false) (hE : OE o) (hO : OS o) (hx : OX o N xs) (hN : N ≤ 3072) (hi : i + 6 ≤ N) (hW : WS S) (hX : XR M S) (hM : MR M S) (hb1 : 1 + bg2.1 ≤ bg.1) (hb2 : 6 + bg2.2 ≤ bg.2) (K : ∀ n' M' S', XR M' S' → MR M' S' → WS S' → Rn o l (m_Lw nm) bg2 1396 [some (.retAddr 0), some (.ref 0), some (.ref 436), some (.ref 453), some (.int (nI i)), none, none] [] (gh n' M') Q) : Rn o l (m_Lw nm) bg 1049 [some (.retAddr 0), some (.ref 0), some (.ref 436), some (.ref 453), some (.int (nI i)), none, none] [] (gh n M) Q := by
  refine r_less (bg2 := bg2) (by omega) (by omega) ?_
  refine r_aload_n d_Lw_1049 rfl ?_
  refine r_bload_n d_Lw_1050 rfl ?_
  refine r_iload (x := nI i) d_Lw_1051 rfl ?_
  refine r_iconst (v := nI 1) d_Lw_1053 (by decide) ?_
  refine n_iadd d_Lw_1054 ?_
  refine r_sld d_Lw_1055 hx (by omega) (by omega) ?_
  refine r_bload_n d_Lw_1056 rfl ?_
  refine r_iload (x := nI i) d_Lw_1057 rfl ?_
  refine r_iconst (v := nI 2) d_Lw_1059 (by decide) ?_
  refine n_iadd d_Lw_1060 ?_
  refine r_sld d_Lw_1061 hx (by omega) (by omega) ?_
  refine r_bload_n d_Lw_1062 rfl ?_
  refine r_iload (x := nI i) d_Lw_1063 rfl ?_
  refine r_iconst (v := nI 3) d_Lw_1065 (by decide) ?_
  refine n_iadd d_Lw_1066 ?_
  refine r_sld d_Lw_1067 hx (by omega) (by omega) ?_
  refine g_Vi (av := [.int (xs (i + 1)), .int (xs (i + 2)), .int (xs (i + 3))]) d_Lw_1068 k_Lw_108 ws_X_differ (Nat.le_of_ble_eq_true rfl) rfl rfl (Nat.le_of_ble_eq_true rfl) rfl (c_X_differ hW hX) ?_
  rintro r M1 ⟨rfl, x1, k1⟩
  refine r_aload_n d_Lw_1071 rfl ?_
  refine r_bload_n d_Lw_1072 rfl ?_
  refine r_iload (x := nI i) d_Lw_1073 rfl ?_
  refine r_iconst (v := nI 1) d_Lw_1075 (by decide) ?_
  refine n_iadd d_Lw_1076 ?_
  refine r_sld d_Lw_1077 hx (by omega) (by omega) ?_
  refine r_bload_n d_Lw_1078 rfl ?_
  refine r_iload (x := nI i) d_Lw_1079 rfl ?_
  refine r_iconst (v := nI 2) d_Lw_1081 (by decide) ?_
  refine n_iadd d_Lw_1082 ?_
  refine r_sld d_Lw_1083 hx (by omega) (by omega) ?_
  refine r_bload_n d_Lw_1084 rfl ?_
  refine r_iload (x := nI i) d_Lw_1085 rfl ?_
  refine r_iconst (v := nI 3) d_Lw_1087 (by decide) ?_
  refine n_iadd d_Lw_1088 ?_
  refine r_sld d_Lw_1089 hx (by omega) (by omega) ?_
  refine g_Vi (av := [.int (xs (i + 1)), .int (xs (i + 2)), .int (xs (i + 3))]) d_Lw_1090 k_Lw_111 ws_Md_differ (Nat.le_of_ble_eq_true rfl) rfl rfl (Nat.le_of_ble_eq_true rfl) rfl (c_Md_differ hW (hM.kx (fun b h1 _ => k1 b h1))) ?_
  rintro r M2 ⟨rfl, x2, k2⟩
  refine r_icmp_eq d_Lw_1093 (fun _ => ?_) (fun h => absurd rfl h)
  exact K n M2 _ (x1.kx (fun b hb => k2 b (Or.inl hb))) x2 (w_differ hW _ _ _)
theorem cs_20 {o : OM} {l : Launch} {nm : String} {n : Nat} {M : Mem} {S : SS} {N i : Nat} {xs : Nat → Int32} {bg bg2 : Nat × Nat} {Q : Option Value → AH → Prop} (hl : l.stackTraces = false) (hE : OE o) (hO : OS o) (hx : OX o N xs) (hN : N ≤ 3072) (hi : i + 6 ≤ N) (hW : WS S) (hX : XR M S) (hM : MR M S) (hb1 : 1 + bg2.1 ≤ bg.1) (hb2 : 6 + bg2.2 ≤ bg.2) (K : ∀ n' M' S', XR M' S' → MR M' S' → WS S' → Rn o l (m_Lw nm) bg2 1396 [some (.retAddr 0), some (.ref 0), some (.ref 436), some (.ref 453), some (.int (nI i)), none, none] [] (gh n' M') Q) : Rn o l (m_Lw nm) bg 1098 [some (.retAddr 0), some (.ref 0), some (.ref 436), some (.ref 453), some (.int (nI i)), none, none] [] (gh n M) Q := by
  refine r_less (bg2 := bg2) (by omega) (by omega) ?_
  refine r_aload_n d_Lw_1098 rfl ?_
  refine r_bload_n d_Lw_1099 rfl ?_
  refine r_iload (x := nI i) d_Lw_1100 rfl ?_
  refine r_iconst (v := nI 1) d_Lw_1102 (by decide) ?_
  refine n_iadd d_Lw_1103 ?_
  refine r_sld d_Lw_1104 hx (by omega) (by omega) ?_
  refine r_bload_n d_Lw_1105 rfl ?_
  refine r_iload (x := nI i) d_Lw_1106 rfl ?_
  refine r_iconst (v := nI 2) d_Lw_1108 (by decide) ?_
  refine n_iadd d_Lw_1109 ?_
  refine r_sld d_Lw_1110 hx (by omega) (by omega) ?_
  refine r_bload_n d_Lw_1111 rfl ?_
  refine r_iload (x := nI i) d_Lw_1112 rfl ?_
  refine r_iconst (v := nI 3) d_Lw_1114 (by decide) ?_
  refine n_iadd d_Lw_1115 ?_
  refine r_sld d_Lw_1116 hx (by omega) (by omega) ?_
  refine g_Vi (av := [.int (xs (i + 1)), .int (xs (i + 2)), .int (xs (i + 3))]) d_Lw_1117 k_Lw_112 ws_X_fails (Nat.le_of_ble_eq_true rfl) rfl rfl (Nat.le_of_ble_eq_true rfl) rfl (c_X_fails hW hX) ?_
  rintro r M1 ⟨rfl, x1, k1⟩
  refine r_aload_n d_Lw_1120 rfl ?_
  refine r_bload_n d_Lw_1121 rfl ?_
  refine r_iload (x := nI i) d_Lw_1122 rfl ?_
  refine r_iconst (v := nI 1) d_Lw_1124 (by decide) ?_
  refine n_iadd d_Lw_1125 ?_
  refine r_sld d_Lw_1126 hx (by omega) (by omega) ?_
  refine r_bload_n d_Lw_1127 rfl ?_
  refine r_iload (x := nI i) d_Lw_1128 rfl ?_
  refine r_iconst (v := nI 2) d_Lw_1130 (by decide) ?_
  refine n_iadd d_Lw_1131 ?_
  refine r_sld d_Lw_1132 hx (by omega) (by omega) ?_
  refine r_bload_n d_Lw_1133 rfl ?_
  refine r_iload (x := nI i) d_Lw_1134 rfl ?_
  refine r_iconst (v := nI 3) d_Lw_1136 (by decide) ?_
  refine n_iadd d_Lw_1137 ?_
  refine r_sld d_Lw_1138 hx (by omega) (by omega) ?_
  refine g_Vi (av := [.int (xs (i + 1)), .int (xs (i + 2)), .int (xs (i + 3))]) d_Lw_1139 k_Lw_115 ws_Md_fails (Nat.le_of_ble_eq_true rfl) rfl rfl (Nat.le_of_ble_eq_true rfl) rfl (c_Md_fails hW (hM.kx (fun b h1 _ => k1 b h1))) ?_
  rintro r M2 ⟨rfl, x2, k2⟩
  refine r_icmp_eq d_Lw_1142 (fun _ => ?_) (fun h => absurd rfl h)
  exact K n M2 _ (x1.kx (fun b hb => k2 b (Or.inl hb))) x2 (w_fails hW _ _ _)
theorem cs_21 {o : OM} {l : Launch} {nm : String} {n : Nat} {M : Mem} {S : SS} {N i : Nat} {xs : Nat → Int32} {bg bg2 : Nat × Nat} {Q : Option Value → AH → Prop} (hl : l.stackTraces = false) (hE : OE o) (hO : OS o) (hx : OX o N xs) (hN : N ≤ 3072) (hi : i + 6 ≤ N) (hW : WS S) (hX : XR M S) (hM : MR M S) (hb1 : 1 + bg2.1 ≤ bg.1) (hb2 : 6 + bg2.2 ≤ bg.2) (K : ∀ n' M' S', XR M' S' → MR M' S' → WS S' → Rn o l (m_Lw nm) bg2 1396 [some (.retAddr 0), some (.ref 0), some (.ref 436), some (.ref 453), some (.int (nI i)), none, none] [] (gh n' M') Q) : Rn o l (m_Lw nm) bg 1147 [some (.retAddr 0), some (.ref 0), some (.ref 436), some (.ref 453), some (.int (nI i)), none, none] [] (gh n M) Q := by
  refine r_less (bg2 := bg2) (by omega) (by omega) ?_
  refine r_aload_n d_Lw_1147 rfl ?_
  refine r_bload_n d_Lw_1148 rfl ?_
  refine r_iload (x := nI i) d_Lw_1149 rfl ?_
  refine r_iconst (v := nI 1) d_Lw_1151 (by decide) ?_
  refine n_iadd d_Lw_1152 ?_
  refine r_sld d_Lw_1153 hx (by omega) (by omega) ?_
  refine r_bload_n d_Lw_1154 rfl ?_
  refine r_iload (x := nI i) d_Lw_1155 rfl ?_
  refine r_iconst (v := nI 2) d_Lw_1157 (by decide) ?_
  refine n_iadd d_Lw_1158 ?_
  refine r_sld d_Lw_1159 hx (by omega) (by omega) ?_
  refine g_Vi (av := [.int (xs (i + 1)), .int (xs (i + 2))]) d_Lw_1160 k_Lw_116 ws_X_free (Nat.le_of_ble_eq_true rfl) rfl rfl (Nat.le_of_ble_eq_true rfl) rfl (c_X_free hW hX) ?_
  rintro r M1 ⟨rfl, x1, k1⟩
  refine r_aload_n d_Lw_1163 rfl ?_
  refine r_bload_n d_Lw_1164 rfl ?_
  refine r_iload (x := nI i) d_Lw_1165 rfl ?_
  refine r_iconst (v := nI 1) d_Lw_1167 (by decide) ?_
  refine n_iadd d_Lw_1168 ?_
  refine r_sld d_Lw_1169 hx (by omega) (by omega) ?_
  refine r_bload_n d_Lw_1170 rfl ?_
  refine r_iload (x := nI i) d_Lw_1171 rfl ?_
  refine r_iconst (v := nI 2) d_Lw_1173 (by decide) ?_
  refine n_iadd d_Lw_1174 ?_
  refine r_sld d_Lw_1175 hx (by omega) (by omega) ?_
  refine g_Vi (av := [.int (xs (i + 1)), .int (xs (i + 2))]) d_Lw_1176 k_Lw_119 ws_Md_free (Nat.le_of_ble_eq_true rfl) rfl rfl (Nat.le_of_ble_eq_true rfl) rfl (c_Md_free hW (hM.kx (fun b h1 _ => k1 b h1))) ?_
  rintro r M2 ⟨rfl, x2, k2⟩
  refine r_icmp_eq d_Lw_1179 (fun _ => ?_) (fun h => absurd rfl h)
  exact K n M2 _ (x1.kx (fun b hb => k2 b (Or.inl hb))) x2 (w_free hW _ _)
theorem cs_22 {o : OM} {l : Launch} {nm : String} {n : Nat} {M : Mem} {S : SS} {N i : Nat} {xs : Nat → Int32} {bg bg2 : Nat × Nat} {Q : Option Value → AH → Prop} (hl : l.stackTraces = false) (hE : OE o) (hO : OS o) (hx : OX o N xs) (hN : N ≤ 3072) (hi : i + 6 ≤ N) (hW : WS S) (hX : XR M S) (hM : MR M S) (hb1 : 1 + bg2.1 ≤ bg.1) (hb2 : 6 + bg2.2 ≤ bg.2) (K : ∀ n' M' S', XR M' S' → MR M' S' → WS S' → Rn o l (m_Lw nm) bg2 1396 [some (.retAddr 0), some (.ref 0), some (.ref 436), some (.ref 453), some (.int (nI i)), none, none] [] (gh n' M') Q) : Rn o l (m_Lw nm) bg 1184 [some (.retAddr 0), some (.ref 0), some (.ref 436), some (.ref 453), some (.int (nI i)), none, none] [] (gh n M) Q := by
  refine r_less (bg2 := bg2) (by omega) (by omega) ?_
  refine r_aload_n d_Lw_1184 rfl ?_
  refine r_bload_n d_Lw_1185 rfl ?_
  refine r_iload (x := nI i) d_Lw_1186 rfl ?_
  refine r_iconst (v := nI 1) d_Lw_1188 (by decide) ?_
  refine n_iadd d_Lw_1189 ?_
  refine r_sld d_Lw_1190 hx (by omega) (by omega) ?_
  refine r_bload_n d_Lw_1191 rfl ?_
  refine r_iload (x := nI i) d_Lw_1192 rfl ?_
  refine r_iconst (v := nI 2) d_Lw_1194 (by decide) ?_
  refine n_iadd d_Lw_1195 ?_
  refine r_sld d_Lw_1196 hx (by omega) (by omega) ?_
  refine r_bload_n d_Lw_1197 rfl ?_
  refine r_iload (x := nI i) d_Lw_1198 rfl ?_
  refine r_iconst (v := nI 3) d_Lw_1200 (by decide) ?_
  refine n_iadd d_Lw_1201 ?_
  refine r_sld d_Lw_1202 hx (by omega) (by omega) ?_
  refine g_Vi (av := [.int (xs (i + 1)), .int (xs (i + 2)), .int (xs (i + 3))]) d_Lw_1203 k_Lw_120 ws_X_set (Nat.le_of_ble_eq_true rfl) rfl rfl (Nat.le_of_ble_eq_true rfl) rfl (c_X_set hW hX) ?_
  rintro r M1 ⟨rfl, x1, k1⟩
  refine r_aload_n d_Lw_1206 rfl ?_
  refine r_bload_n d_Lw_1207 rfl ?_
  refine r_iload (x := nI i) d_Lw_1208 rfl ?_
  refine r_iconst (v := nI 1) d_Lw_1210 (by decide) ?_
  refine n_iadd d_Lw_1211 ?_
  refine r_sld d_Lw_1212 hx (by omega) (by omega) ?_
  refine r_bload_n d_Lw_1213 rfl ?_
  refine r_iload (x := nI i) d_Lw_1214 rfl ?_
  refine r_iconst (v := nI 2) d_Lw_1216 (by decide) ?_
  refine n_iadd d_Lw_1217 ?_
  refine r_sld d_Lw_1218 hx (by omega) (by omega) ?_
  refine r_bload_n d_Lw_1219 rfl ?_
  refine r_iload (x := nI i) d_Lw_1220 rfl ?_
  refine r_iconst (v := nI 3) d_Lw_1222 (by decide) ?_
  refine n_iadd d_Lw_1223 ?_
  refine r_sld d_Lw_1224 hx (by omega) (by omega) ?_
  refine g_Vi (av := [.int (xs (i + 1)), .int (xs (i + 2)), .int (xs (i + 3))]) d_Lw_1225 k_Lw_123 ws_Md_set (Nat.le_of_ble_eq_true rfl) rfl rfl (Nat.le_of_ble_eq_true rfl) rfl (c_Md_set hW (hM.kx (fun b h1 _ => k1 b h1))) ?_
  rintro r M2 ⟨rfl, x2, k2⟩
  refine r_icmp_eq d_Lw_1228 (fun _ => ?_) (fun h => absurd rfl h)
  exact K n M2 _ (x1.kx (fun b hb => k2 b (Or.inl hb))) x2 (w_set hW _ _ _)
theorem cs_23 {o : OM} {l : Launch} {nm : String} {n : Nat} {M : Mem} {S : SS} {N i : Nat} {xs : Nat → Int32} {bg bg2 : Nat × Nat} {Q : Option Value → AH → Prop} (hl : l.stackTraces = false) (hE : OE o) (hO : OS o) (hx : OX o N xs) (hN : N ≤ 3072) (hi : i + 6 ≤ N) (hW : WS S) (hX : XR M S) (hM : MR M S) (hb1 : 1 + bg2.1 ≤ bg.1) (hb2 : 6 + bg2.2 ≤ bg.2) (K : ∀ n' M' S', XR M' S' → MR M' S' → WS S' → Rn o l (m_Lw nm) bg2 1396 [some (.retAddr 0), some (.ref 0), some (.ref 436), some (.ref 453), some (.int (nI i)), none, none] [] (gh n' M') Q) : Rn o l (m_Lw nm) bg 1233 [some (.retAddr 0), some (.ref 0), some (.ref 436), some (.ref 453), some (.int (nI i)), none, none] [] (gh n M) Q := by
  refine r_less (bg2 := bg2) (by omega) (by omega) ?_
  refine r_aload_n d_Lw_1233 rfl ?_
  refine r_bload_n d_Lw_1234 rfl ?_
  refine r_iload (x := nI i) d_Lw_1235 rfl ?_
  refine r_iconst (v := nI 1) d_Lw_1237 (by decide) ?_
  refine n_iadd d_Lw_1238 ?_
  refine r_sld d_Lw_1239 hx (by omega) (by omega) ?_
  refine g_Vi (av := [.int (xs (i + 1))]) d_Lw_1240 k_Lw_124 ws_X_lay (Nat.le_of_ble_eq_true rfl) rfl rfl (Nat.le_of_ble_eq_true rfl) rfl (c_X_lay hW hX) ?_
  rintro r M1 ⟨rfl, x1, k1⟩
  refine r_aload_n d_Lw_1243 rfl ?_
  refine r_bload_n d_Lw_1244 rfl ?_
  refine r_iload (x := nI i) d_Lw_1245 rfl ?_
  refine r_iconst (v := nI 1) d_Lw_1247 (by decide) ?_
  refine n_iadd d_Lw_1248 ?_
  refine r_sld d_Lw_1249 hx (by omega) (by omega) ?_
  refine g_Vi (av := [.int (xs (i + 1))]) d_Lw_1250 k_Lw_127 ws_Md_lay (Nat.le_of_ble_eq_true rfl) rfl rfl (Nat.le_of_ble_eq_true rfl) rfl (c_Md_lay hW (hM.kx (fun b h1 _ => k1 b h1))) ?_
  rintro r M2 ⟨rfl, x2, k2⟩
  refine r_icmp_eq d_Lw_1253 (fun _ => ?_) (fun h => absurd rfl h)
  exact K n M2 _ (x1.kx (fun b hb => k2 b (Or.inl hb))) x2 (w_lay hW _)
theorem cs_24 {o : OM} {l : Launch} {nm : String} {n : Nat} {M : Mem} {S : SS} {N i : Nat} {xs : Nat → Int32} {bg bg2 : Nat × Nat} {Q : Option Value → AH → Prop} (hl : l.stackTraces = false) (hE : OE o) (hO : OS o) (hx : OX o N xs) (hN : N ≤ 3072) (hi : i + 6 ≤ N) (hW : WS S) (hX : XR M S) (hM : MR M S) (hb1 : 1 + bg2.1 ≤ bg.1) (hb2 : 6 + bg2.2 ≤ bg.2) (K : ∀ n' M' S', XR M' S' → MR M' S' → WS S' → Rn o l (m_Lw nm) bg2 1396 [some (.retAddr 0), some (.ref 0), some (.ref 436), some (.ref 453), some (.int (nI i)), none, none] [] (gh n' M') Q) : Rn o l (m_Lw nm) bg 1258 [some (.retAddr 0), some (.ref 0), some (.ref 436), some (.ref 453), some (.int (nI i)), none, none] [] (gh n M) Q := by
  refine r_less (bg2 := bg2) (by omega) (by omega) ?_
  refine r_aload_n d_Lw_1258 rfl ?_
  refine g_Vi (av := []) d_Lw_1259 k_Lw_128 ws_X_unlike (Nat.le_of_ble_eq_true rfl) rfl rfl (Nat.le_of_ble_eq_true rfl) rfl (c_X_unlike hW hX) ?_
  rintro r M1 ⟨rfl, x1, k1⟩
  refine r_aload_n d_Lw_1262 rfl ?_
  refine g_Vi (av := []) d_Lw_1263 k_Lw_131 ws_Md_unlike (Nat.le_of_ble_eq_true rfl) rfl rfl (Nat.le_of_ble_eq_true rfl) rfl (c_Md_unlike hW (hM.kx (fun b h1 _ => k1 b h1))) ?_
  rintro r M2 ⟨rfl, x2, k2⟩
  refine r_icmp_eq d_Lw_1266 (fun _ => ?_) (fun h => absurd rfl h)
  exact K n M2 _ (x1.kx (fun b hb => k2 b (Or.inl hb))) x2 (w_unlike hW)
theorem cs_25 {o : OM} {l : Launch} {nm : String} {n : Nat} {M : Mem} {S : SS} {N i : Nat} {xs : Nat → Int32} {bg bg2 : Nat × Nat} {Q : Option Value → AH → Prop} (hl : l.stackTraces = false) (hE : OE o) (hO : OS o) (hx : OX o N xs) (hN : N ≤ 3072) (hi : i + 6 ≤ N) (hW : WS S) (hX : XR M S) (hM : MR M S) (hb1 : 1 + bg2.1 ≤ bg.1) (hb2 : 6 + bg2.2 ≤ bg.2) (K : ∀ n' M' S', XR M' S' → MR M' S' → WS S' → Rn o l (m_Lw nm) bg2 1396 [some (.retAddr 0), some (.ref 0), some (.ref 436), some (.ref 453), some (.int (nI i)), none, none] [] (gh n' M') Q) : Rn o l (m_Lw nm) bg 1271 [some (.retAddr 0), some (.ref 0), some (.ref 436), some (.ref 453), some (.int (nI i)), none, none] [] (gh n M) Q := by
  refine r_less (bg2 := bg2) (by omega) (by omega) ?_
  refine r_aload_n d_Lw_1271 rfl ?_
  refine r_bload_n d_Lw_1272 rfl ?_
  refine r_iload (x := nI i) d_Lw_1273 rfl ?_
  refine r_iconst (v := nI 1) d_Lw_1275 (by decide) ?_
  refine n_iadd d_Lw_1276 ?_
  refine r_sld d_Lw_1277 hx (by omega) (by omega) ?_
  refine g_Vi (av := [.int (xs (i + 1))]) d_Lw_1278 k_Lw_132 ws_X_rebuild (Nat.le_of_ble_eq_true rfl) rfl rfl (Nat.le_of_ble_eq_true rfl) rfl (c_X_rebuild hW hX) ?_
  rintro r M1 ⟨rfl, x1, k1⟩
  refine r_aload_n d_Lw_1281 rfl ?_
  refine r_bload_n d_Lw_1282 rfl ?_
  refine r_iload (x := nI i) d_Lw_1283 rfl ?_
  refine r_iconst (v := nI 1) d_Lw_1285 (by decide) ?_
  refine n_iadd d_Lw_1286 ?_
  refine r_sld d_Lw_1287 hx (by omega) (by omega) ?_
  refine g_Vi (av := [.int (xs (i + 1))]) d_Lw_1288 k_Lw_135 ws_Md_rebuild (Nat.le_of_ble_eq_true rfl) rfl rfl (Nat.le_of_ble_eq_true rfl) rfl (c_Md_rebuild hW (hM.kx (fun b h1 _ => k1 b h1))) ?_
  rintro r M2 ⟨rfl, x2, k2⟩
  refine r_icmp_eq d_Lw_1291 (fun _ => ?_) (fun h => absurd rfl h)
  exact K n M2 _ (x1.kx (fun b hb => k2 b (Or.inl hb))) x2 (w_rebuild hW _)
theorem cs_26 {o : OM} {l : Launch} {nm : String} {n : Nat} {M : Mem} {S : SS} {N i : Nat} {xs : Nat → Int32} {bg bg2 : Nat × Nat} {Q : Option Value → AH → Prop} (hl : l.stackTraces = false) (hE : OE o) (hO : OS o) (hx : OX o N xs) (hN : N ≤ 3072) (hi : i + 6 ≤ N) (hW : WS S) (hX : XR M S) (hM : MR M S) (hb1 : 1 + bg2.1 ≤ bg.1) (hb2 : 6 + bg2.2 ≤ bg.2) (K : ∀ n' M' S', XR M' S' → MR M' S' → WS S' → Rn o l (m_Lw nm) bg2 1396 [some (.retAddr 0), some (.ref 0), some (.ref 436), some (.ref 453), some (.int (nI i)), none, none] [] (gh n' M') Q) : Rn o l (m_Lw nm) bg 1296 [some (.retAddr 0), some (.ref 0), some (.ref 436), some (.ref 453), some (.int (nI i)), none, none] [] (gh n M) Q := by
  refine r_less (bg2 := bg2) (by omega) (by omega) ?_
  refine r_aload_n d_Lw_1296 rfl ?_
  refine r_bload_n d_Lw_1297 rfl ?_
  refine r_iload (x := nI i) d_Lw_1298 rfl ?_
  refine r_iconst (v := nI 1) d_Lw_1300 (by decide) ?_
  refine n_iadd d_Lw_1301 ?_
  refine r_sld d_Lw_1302 hx (by omega) (by omega) ?_
  refine r_bload_n d_Lw_1303 rfl ?_
  refine r_iload (x := nI i) d_Lw_1304 rfl ?_
  refine r_iconst (v := nI 2) d_Lw_1306 (by decide) ?_
  refine n_iadd d_Lw_1307 ?_
  refine r_sld d_Lw_1308 hx (by omega) (by omega) ?_
  refine g_Vi (av := [.int (xs (i + 1)), .int (xs (i + 2))]) d_Lw_1309 k_Lw_136 ws_X_drawn (Nat.le_of_ble_eq_true rfl) rfl rfl (Nat.le_of_ble_eq_true rfl) rfl (c_X_drawn hW hX) ?_
  rintro r M1 ⟨rfl, x1, k1⟩
  refine r_aload_n d_Lw_1312 rfl ?_
  refine r_bload_n d_Lw_1313 rfl ?_
  refine r_iload (x := nI i) d_Lw_1314 rfl ?_
  refine r_iconst (v := nI 1) d_Lw_1316 (by decide) ?_
  refine n_iadd d_Lw_1317 ?_
  refine r_sld d_Lw_1318 hx (by omega) (by omega) ?_
  refine r_bload_n d_Lw_1319 rfl ?_
  refine r_iload (x := nI i) d_Lw_1320 rfl ?_
  refine r_iconst (v := nI 2) d_Lw_1322 (by decide) ?_
  refine n_iadd d_Lw_1323 ?_
  refine r_sld d_Lw_1324 hx (by omega) (by omega) ?_
  refine g_Vi (av := [.int (xs (i + 1)), .int (xs (i + 2))]) d_Lw_1325 k_Lw_139 ws_Md_drawn (Nat.le_of_ble_eq_true rfl) rfl rfl (Nat.le_of_ble_eq_true rfl) rfl (c_Md_drawn hW (hM.kx (fun b h1 _ => k1 b h1))) ?_
  rintro r M2 ⟨rfl, x2, k2⟩
  refine r_icmp_eq d_Lw_1328 (fun _ => ?_) (fun h => absurd rfl h)
  exact K n M2 _ (x1.kx (fun b hb => k2 b (Or.inl hb))) x2 (w_drawn hW _ _)
theorem cs_27 {o : OM} {l : Launch} {nm : String} {n : Nat} {M : Mem} {S : SS} {N i : Nat} {xs : Nat → Int32} {bg bg2 : Nat × Nat} {Q : Option Value → AH → Prop} (hl : l.stackTraces = false) (hE : OE o) (hO : OS o) (hx : OX o N xs) (hN : N ≤ 3072) (hi : i + 6 ≤ N) (hW : WS S) (hX : XR M S) (hM : MR M S) (hb1 : 1 + bg2.1 ≤ bg.1) (hb2 : 6 + bg2.2 ≤ bg.2) (K : ∀ n' M' S', XR M' S' → MR M' S' → WS S' → Rn o l (m_Lw nm) bg2 1396 [some (.retAddr 0), some (.ref 0), some (.ref 436), some (.ref 453), some (.int (nI i)), none, none] [] (gh n' M') Q) : Rn o l (m_Lw nm) bg 1333 [some (.retAddr 0), some (.ref 0), some (.ref 436), some (.ref 453), some (.int (nI i)), none, none] [] (gh n M) Q := by
  refine r_less (bg2 := bg2) (by omega) (by omega) ?_
  refine r_aload_n d_Lw_1333 rfl ?_
  refine g_Vi (av := []) d_Lw_1334 k_Lw_140 ws_X_undo (Nat.le_of_ble_eq_true rfl) rfl rfl (Nat.le_of_ble_eq_true rfl) rfl (c_X_undo hX) ?_
  rintro r M1 ⟨rfl, x1, k1⟩
  refine r_aload_n d_Lw_1337 rfl ?_
  refine g_Vi (av := []) d_Lw_1338 k_Lw_143 ws_Md_undo (Nat.le_of_ble_eq_true rfl) rfl rfl (Nat.le_of_ble_eq_true rfl) rfl (c_Md_undo (hM.kx (fun b h1 _ => k1 b h1))) ?_
  rintro r M2 ⟨rfl, x2, k2⟩
  refine r_icmp_eq d_Lw_1341 (fun _ => ?_) (fun h => absurd rfl h)
  exact K n M2 _ (x1.kx (fun b hb => k2 b (Or.inl hb))) x2 (w_undo hW)
theorem cs_28 {o : OM} {l : Launch} {nm : String} {n : Nat} {M : Mem} {S : SS} {N i : Nat} {xs : Nat → Int32} {bg bg2 : Nat × Nat} {Q : Option Value → AH → Prop} (hl : l.stackTraces = false) (hE : OE o) (hO : OS o) (hx : OX o N xs) (hN : N ≤ 3072) (hi : i + 6 ≤ N) (hW : WS S) (hX : XR M S) (hM : MR M S) (hb1 : 1 + bg2.1 ≤ bg.1) (hb2 : 6 + bg2.2 ≤ bg.2) (K : ∀ n' M' S', XR M' S' → MR M' S' → WS S' → Rn o l (m_Lw nm) bg2 1396 [some (.retAddr 0), some (.ref 0), some (.ref 436), some (.ref 453), some (.int (nI i)), none, none] [] (gh n' M') Q) : Rn o l (m_Lw nm) bg 1346 [some (.retAddr 0), some (.ref 0), some (.ref 436), some (.ref 453), some (.int (nI i)), none, none] [] (gh n M) Q := by
  refine r_less (bg2 := bg2) (by omega) (by omega) ?_
  refine r_aload_n d_Lw_1346 rfl ?_
  refine r_bload_n d_Lw_1347 rfl ?_
  refine r_iload (x := nI i) d_Lw_1348 rfl ?_
  refine r_iconst (v := nI 1) d_Lw_1350 (by decide) ?_
  refine n_iadd d_Lw_1351 ?_
  refine r_sld d_Lw_1352 hx (by omega) (by omega) ?_
  refine g_Vi (av := [.int (xs (i + 1))]) d_Lw_1353 k_Lw_144 ws_X_image (Nat.le_of_ble_eq_true rfl) rfl rfl (Nat.le_of_ble_eq_true rfl) rfl (c_X_image hX) ?_
  rintro r M1 ⟨rfl, x1, k1⟩
  refine r_aload_n d_Lw_1356 rfl ?_
  refine r_bload_n d_Lw_1357 rfl ?_
  refine r_iload (x := nI i) d_Lw_1358 rfl ?_
  refine r_iconst (v := nI 1) d_Lw_1360 (by decide) ?_
  refine n_iadd d_Lw_1361 ?_
  refine r_sld d_Lw_1362 hx (by omega) (by omega) ?_
  refine g_Vi (av := [.int (xs (i + 1))]) d_Lw_1363 k_Lw_147 ws_Md_image (Nat.le_of_ble_eq_true rfl) rfl rfl (Nat.le_of_ble_eq_true rfl) rfl (c_Md_image (hM.kx (fun b h1 _ => k1 b h1))) ?_
  rintro r M2 ⟨rfl, x2, k2⟩
  refine r_icmp_eq d_Lw_1366 (fun _ => ?_) (fun h => absurd rfl h)
  exact K n M2 _ (x1.kx (fun b hb => k2 b (Or.inl hb))) x2 (w_image hW _)
theorem cs_29 {o : OM} {l : Launch} {nm : String} {n : Nat} {M : Mem} {S : SS} {N i : Nat} {xs : Nat → Int32} {bg bg2 : Nat × Nat} {Q : Option Value → AH → Prop} (hl : l.stackTraces = false) (hE : OE o) (hO : OS o) (hx : OX o N xs) (hN : N ≤ 3072) (hi : i + 6 ≤ N) (hW : WS S) (hX : XR M S) (hM : MR M S) (hb1 : 1 + bg2.1 ≤ bg.1) (hb2 : 6 + bg2.2 ≤ bg.2) (K : ∀ n' M' S', XR M' S' → MR M' S' → WS S' → Rn o l (m_Lw nm) bg2 1396 [some (.retAddr 0), some (.ref 0), some (.ref 436), some (.ref 453), some (.int (nI i)), none, none] [] (gh n' M') Q) : Rn o l (m_Lw nm) bg 1371 [some (.retAddr 0), some (.ref 0), some (.ref 436), some (.ref 453), some (.int (nI i)), none, none] [] (gh n M) Q := by
  refine r_less (bg2 := bg2) (by omega) (by omega) ?_
  refine r_aload_n d_Lw_1371 rfl ?_
  refine r_bload_n d_Lw_1372 rfl ?_
  refine r_iload (x := nI i) d_Lw_1373 rfl ?_
  refine r_iconst (v := nI 1) d_Lw_1375 (by decide) ?_
  refine n_iadd d_Lw_1376 ?_
  refine r_sld d_Lw_1377 hx (by omega) (by omega) ?_
  refine g_Vi (av := [.int (xs (i + 1))]) d_Lw_1378 k_Lw_148 ws_X_restore (Nat.le_of_ble_eq_true rfl) rfl rfl (Nat.le_of_ble_eq_true rfl) rfl (c_X_restore hX) ?_
  rintro r M1 ⟨rfl, x1, k1⟩
  refine r_aload_n d_Lw_1381 rfl ?_
  refine r_bload_n d_Lw_1382 rfl ?_
  refine r_iload (x := nI i) d_Lw_1383 rfl ?_
  refine r_iconst (v := nI 1) d_Lw_1385 (by decide) ?_
  refine n_iadd d_Lw_1386 ?_
  refine r_sld d_Lw_1387 hx (by omega) (by omega) ?_
  refine g_Vi (av := [.int (xs (i + 1))]) d_Lw_1388 k_Lw_151 ws_Md_restore (Nat.le_of_ble_eq_true rfl) rfl rfl (Nat.le_of_ble_eq_true rfl) rfl (c_Md_restore (hM.kx (fun b h1 _ => k1 b h1))) ?_
  rintro r M2 ⟨rfl, x2, k2⟩
  refine r_icmp_eq d_Lw_1391 (fun _ => ?_) (fun h => absurd rfl h)
  exact K n M2 _ (x1.kx (fun b hb => k2 b (Or.inl hb))) x2 (w_restore hW _)
