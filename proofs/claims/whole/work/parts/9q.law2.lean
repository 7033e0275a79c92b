section QL
variable {d n m i LL : Nat} {w : zM} {S : Nat → Int32}
theorem law_22 (A : zRl w S (nI LL) n m) (hi : i + 6 ≤ LL) (hL : LL ≤ 3072) : ∃ w2 n2 m2, den (d + 41) 7000 1011 [some (.ref 999), some (.ref 0), some (.ref 50), some (.int (nI i))] [] w = den (d + 41) 7000 1517 [some (.ref 999), some (.ref 0), some (.ref 50), some (.int (nI i))] [] w2 ∧ zRl w2 S (nI LL) n2 m2 := by
  have P : zPr d 5023 6059 [.int (S (i + 1))] w S (nI LL) := p_reply A
  obtain ⟨v, w1, w2, n2, m2, hc, hm, A2⟩ := P
  obtain ⟨x, rfl⟩ := (cal_rt hc).1 (by decide +kernel)
  have ke := cal_keep hc
  have E0 := law_E (rl_W A) hi hL
  have E1 := law_E (rl_Wk (rl_W A) ke) hi hL
  obtain ⟨a0, a2, a3, a4, a5⟩ := nI_a i
  obtain ⟨s1, s2, s3, s4, s5, f0⟩ := E0
  obtain ⟨t1, t2, t3, t4, t5, f1⟩ := E1
  obtain ⟨c1, c2, c3, c4, c5⟩ := law_c hi hL
  refine ⟨w2, n2, m2, ?_, A2⟩
  simp only [e_7000_1011, e_7000_1012, e_7000_1013, e_7000_1014, e_7000_1015, e_7000_1016, e_7000_1017, e_7000_1020, e_7000_1021, e_7000_1022, e_7000_1023, e_7000_1024, e_7000_1025, e_7000_1026, e_7000_1029, e_7000_1032, e_7000_1033, zk_int, zk_ref, zk_null, zk_none, zk_long, zisR_r, zisR_n, zcl_int, zcl_ref, zcl_null, zpush_s, zpush_n, zbs, zbn, true_or, or_true, not_false_eq_true, not_true_eq_false, ↓reduceIte, and_self, and_true, true_and, zt_0, zt_50, z999, nI_1, a2, a3, a4, a5, s1, s2, s3, s4, s5, t1, t2, t3, t4, t5, f0, f1, c1, c2, c3, c4, c5, hc, hm]
theorem law_23 (A : zRl w S (nI LL) n m) (hi : i + 6 ≤ LL) (hL : LL ≤ 3072) : ∃ w2 n2 m2, den (d + 41) 7000 1034 [some (.ref 999), some (.ref 0), some (.ref 50), some (.int (nI i))] [] w = den (d + 41) 7000 1517 [some (.ref 999), some (.ref 0), some (.ref 50), some (.int (nI i))] [] w2 ∧ zRl w2 S (nI LL) n2 m2 := by
  have P : zPr d 5024 6061 [.int (S (i + 1))] w S (nI LL) := p_rest A
  obtain ⟨v, w1, w2, n2, m2, hc, hm, A2⟩ := P
  obtain ⟨x, rfl⟩ := (cal_rt hc).1 (by decide +kernel)
  have ke := cal_keep hc
  have E0 := law_E (rl_W A) hi hL
  have E1 := law_E (rl_Wk (rl_W A) ke) hi hL
  obtain ⟨a0, a2, a3, a4, a5⟩ := nI_a i
  obtain ⟨s1, s2, s3, s4, s5, f0⟩ := E0
  obtain ⟨t1, t2, t3, t4, t5, f1⟩ := E1
  obtain ⟨c1, c2, c3, c4, c5⟩ := law_c hi hL
  refine ⟨w2, n2, m2, ?_, A2⟩
  simp only [e_7000_1034, e_7000_1035, e_7000_1036, e_7000_1037, e_7000_1038, e_7000_1039, e_7000_1040, e_7000_1043, e_7000_1044, e_7000_1045, e_7000_1046, e_7000_1047, e_7000_1048, e_7000_1049, e_7000_1052, e_7000_1055, e_7000_1056, zk_int, zk_ref, zk_null, zk_none, zk_long, zisR_r, zisR_n, zcl_int, zcl_ref, zcl_null, zpush_s, zpush_n, zbs, zbn, true_or, or_true, not_false_eq_true, not_true_eq_false, ↓reduceIte, and_self, and_true, true_and, zt_0, zt_50, z999, nI_1, a2, a3, a4, a5, s1, s2, s3, s4, s5, t1, t2, t3, t4, t5, f0, f1, c1, c2, c3, c4, c5, hc, hm]
theorem law_24 (A : zRl w S (nI LL) n m) (hi : i + 6 ≤ LL) (hL : LL ≤ 3072) : ∃ w2 n2 m2, den (d + 41) 7000 1057 [some (.ref 999), some (.ref 0), some (.ref 50), some (.int (nI i))] [] w = den (d + 41) 7000 1517 [some (.ref 999), some (.ref 0), some (.ref 50), some (.int (nI i))] [] w2 ∧ zRl w2 S (nI LL) n2 m2 := by
  have P : zPr d 5025 6065 [.int (S (i + 1))] w S (nI LL) := p_rests A
  obtain ⟨v, w1, w2, n2, m2, hc, hm, A2⟩ := P
  obtain ⟨x, rfl⟩ := (cal_rt hc).1 (by decide +kernel)
  have ke := cal_keep hc
  have E0 := law_E (rl_W A) hi hL
  have E1 := law_E (rl_Wk (rl_W A) ke) hi hL
  obtain ⟨a0, a2, a3, a4, a5⟩ := nI_a i
  obtain ⟨s1, s2, s3, s4, s5, f0⟩ := E0
  obtain ⟨t1, t2, t3, t4, t5, f1⟩ := E1
  obtain ⟨c1, c2, c3, c4, c5⟩ := law_c hi hL
  refine ⟨w2, n2, m2, ?_, A2⟩
  simp only [e_7000_1057, e_7000_1058, e_7000_1059, e_7000_1060, e_7000_1061, e_7000_1062, e_7000_1063, e_7000_1066, e_7000_1067, e_7000_1068, e_7000_1069, e_7000_1070, e_7000_1071, e_7000_1072, e_7000_1075, e_7000_1078, e_7000_1079, zk_int, zk_ref, zk_null, zk_none, zk_long, zisR_r, zisR_n, zcl_int, zcl_ref, zcl_null, zpush_s, zpush_n, zbs, zbn, true_or, or_true, not_false_eq_true, not_true_eq_false, ↓reduceIte, and_self, and_true, true_and, zt_0, zt_50, z999, nI_1, a2, a3, a4, a5, s1, s2, s3, s4, s5, t1, t2, t3, t4, t5, f0, f1, c1, c2, c3, c4, c5, hc, hm]
theorem law_25 (A : zRl w S (nI LL) n m) (hi : i + 6 ≤ LL) (hL : LL ≤ 3072) : ∃ w2 n2 m2, den (d + 41) 7000 1080 [some (.ref 999), some (.ref 0), some (.ref 50), some (.int (nI i))] [] w = den (d + 41) 7000 1517 [some (.ref 999), some (.ref 0), some (.ref 50), some (.int (nI i))] [] w2 ∧ zRl w2 S (nI LL) n2 m2 := by
  have P : zPr d 5026 6066 [.int (S (i + 1))] w S (nI LL) := p_best A
  obtain ⟨v, w1, w2, n2, m2, hc, hm, A2⟩ := P
  obtain ⟨x, rfl⟩ := (cal_rt hc).1 (by decide +kernel)
  have ke := cal_keep hc
  have E0 := law_E (rl_W A) hi hL
  have E1 := law_E (rl_Wk (rl_W A) ke) hi hL
  obtain ⟨a0, a2, a3, a4, a5⟩ := nI_a i
  obtain ⟨s1, s2, s3, s4, s5, f0⟩ := E0
  obtain ⟨t1, t2, t3, t4, t5, f1⟩ := E1
  obtain ⟨c1, c2, c3, c4, c5⟩ := law_c hi hL
  refine ⟨w2, n2, m2, ?_, A2⟩
  simp only [e_7000_1080, e_7000_1081, e_7000_1082, e_7000_1083, e_7000_1084, e_7000_1085, e_7000_1086, e_7000_1089, e_7000_1090, e_7000_1091, e_7000_1092, e_7000_1093, e_7000_1094, e_7000_1095, e_7000_1098, e_7000_1101, e_7000_1102, zk_int, zk_ref, zk_null, zk_none, zk_long, zisR_r, zisR_n, zcl_int, zcl_ref, zcl_null, zpush_s, zpush_n, zbs, zbn, true_or, or_true, not_false_eq_true, not_true_eq_false, ↓reduceIte, and_self, and_true, true_and, zt_0, zt_50, z999, nI_1, a2, a3, a4, a5, s1, s2, s3, s4, s5, t1, t2, t3, t4, t5, f0, f1, c1, c2, c3, c4, c5, hc, hm]
theorem law_26 (A : zRl w S (nI LL) n m) (hi : i + 6 ≤ LL) (hL : LL ≤ 3072) : ∃ w2 n2 m2, den (d + 41) 7000 1103 [some (.ref 999), some (.ref 0), some (.ref 50), some (.int (nI i))] [] w = den (d + 41) 7000 1517 [some (.ref 999), some (.ref 0), some (.ref 50), some (.int (nI i))] [] w2 ∧ zRl w2 S (nI LL) n2 m2 := by
  have P : zPr d 5027 6068 [.int (S (i + 1))] w S (nI LL) := p_points A
  obtain ⟨v, w1, w2, n2, m2, hc, hm, A2⟩ := P
  obtain ⟨x, rfl⟩ := (cal_rt hc).1 (by decide +kernel)
  have ke := cal_keep hc
  have E0 := law_E (rl_W A) hi hL
  have E1 := law_E (rl_Wk (rl_W A) ke) hi hL
  obtain ⟨a0, a2, a3, a4, a5⟩ := nI_a i
  obtain ⟨s1, s2, s3, s4, s5, f0⟩ := E0
  obtain ⟨t1, t2, t3, t4, t5, f1⟩ := E1
  obtain ⟨c1, c2, c3, c4, c5⟩ := law_c hi hL
  refine ⟨w2, n2, m2, ?_, A2⟩
  simp only [e_7000_1103, e_7000_1104, e_7000_1105, e_7000_1106, e_7000_1107, e_7000_1108, e_7000_1109, e_7000_1112, e_7000_1113, e_7000_1114, e_7000_1115, e_7000_1116, e_7000_1117, e_7000_1118, e_7000_1121, e_7000_1124, e_7000_1125, zk_int, zk_ref, zk_null, zk_none, zk_long, zisR_r, zisR_n, zcl_int, zcl_ref, zcl_null, zpush_s, zpush_n, zbs, zbn, true_or, or_true, not_false_eq_true, not_true_eq_false, ↓reduceIte, and_self, and_true, true_and, zt_0, zt_50, z999, nI_1, a2, a3, a4, a5, s1, s2, s3, s4, s5, t1, t2, t3, t4, t5, f0, f1, c1, c2, c3, c4, c5, hc, hm]
theorem law_27 (A : zRl w S (nI LL) n m) (hi : i + 6 ≤ LL) (hL : LL ≤ 3072) : ∃ w2 n2 m2, den (d + 41) 7000 1126 [some (.ref 999), some (.ref 0), some (.ref 50), some (.int (nI i))] [] w = den (d + 41) 7000 1517 [some (.ref 999), some (.ref 0), some (.ref 50), some (.int (nI i))] [] w2 ∧ zRl w2 S (nI LL) n2 m2 := by
  have P : zPr d 5028 6069 [] w S (nI LL) := p_leavers A
  obtain ⟨v, w1, w2, n2, m2, hc, hm, A2⟩ := P
  obtain ⟨x, rfl⟩ := (cal_rt hc).1 (by decide +kernel)
  have ke := cal_keep hc
  have E0 := law_E (rl_W A) hi hL
  have E1 := law_E (rl_Wk (rl_W A) ke) hi hL
  obtain ⟨a0, a2, a3, a4, a5⟩ := nI_a i
  obtain ⟨s1, s2, s3, s4, s5, f0⟩ := E0
  obtain ⟨t1, t2, t3, t4, t5, f1⟩ := E1
  obtain ⟨c1, c2, c3, c4, c5⟩ := law_c hi hL
  refine ⟨w2, n2, m2, ?_, A2⟩
  simp only [e_7000_1126, e_7000_1127, e_7000_1130, e_7000_1131, e_7000_1134, e_7000_1137, e_7000_1138, zk_int, zk_ref, zk_null, zk_none, zk_long, zisR_r, zisR_n, zcl_int, zcl_ref, zcl_null, zpush_s, zpush_n, zbs, zbn, true_or, or_true, not_false_eq_true, not_true_eq_false, ↓reduceIte, and_self, and_true, true_and, zt_0, zt_50, z999, nI_1, a2, a3, a4, a5, s1, s2, s3, s4, s5, t1, t2, t3, t4, t5, f0, f1, c1, c2, c3, c4, c5, hc, hm]
theorem law_28 (A : zRl w S (nI LL) n m) (hi : i + 6 ≤ LL) (hL : LL ≤ 3072) : ∃ w2 n2 m2, den (d + 41) 7000 1139 [some (.ref 999), some (.ref 0), some (.ref 50), some (.int (nI i))] [] w = den (d + 41) 7000 1517 [some (.ref 999), some (.ref 0), some (.ref 50), some (.int (nI i))] [] w2 ∧ zRl w2 S (nI LL) n2 m2 := by
  have P : zPr d 5029 6073 [.int (S (i + 1)), .int (S (i + 2))] w S (nI LL) := p_most A
  obtain ⟨v, w1, w2, n2, m2, hc, hm, A2⟩ := P
  obtain ⟨x, rfl⟩ := (cal_rt hc).1 (by decide +kernel)
  have ke := cal_keep hc
  have E0 := law_E (rl_W A) hi hL
  have E1 := law_E (rl_Wk (rl_W A) ke) hi hL
  obtain ⟨a0, a2, a3, a4, a5⟩ := nI_a i
  obtain ⟨s1, s2, s3, s4, s5, f0⟩ := E0
  obtain ⟨t1, t2, t3, t4, t5, f1⟩ := E1
  obtain ⟨c1, c2, c3, c4, c5⟩ := law_c hi hL
  refine ⟨w2, n2, m2, ?_, A2⟩
  simp only [e_7000_1139, e_7000_1140, e_7000_1141, e_7000_1142, e_7000_1143, e_7000_1144, e_7000_1145, e_7000_1146, e_7000_1147, e_7000_1148, e_7000_1149, e_7000_1150, e_7000_1153, e_7000_1154, e_7000_1155, e_7000_1156, e_7000_1157, e_7000_1158, e_7000_1159, e_7000_1160, e_7000_1161, e_7000_1162, e_7000_1163, e_7000_1164, e_7000_1167, e_7000_1170, e_7000_1171, zk_int, zk_ref, zk_null, zk_none, zk_long, zisR_r, zisR_n, zcl_int, zcl_ref, zcl_null, zpush_s, zpush_n, zbs, zbn, true_or, or_true, not_false_eq_true, not_true_eq_false, ↓reduceIte, and_self, and_true, true_and, zt_0, zt_50, z999, nI_1, a2, a3, a4, a5, s1, s2, s3, s4, s5, t1, t2, t3, t4, t5, f0, f1, c1, c2, c3, c4, c5, hc, hm]
theorem law_29 (A : zRl w S (nI LL) n m) (hi : i + 6 ≤ LL) (hL : LL ≤ 3072) : ∃ w2 n2 m2, den (d + 41) 7000 1172 [some (.ref 999), some (.ref 0), some (.ref 50), some (.int (nI i))] [] w = den (d + 41) 7000 1517 [some (.ref 999), some (.ref 0), some (.ref 50), some (.int (nI i))] [] w2 ∧ zRl w2 S (nI LL) n2 m2 := by
  have P : zPr d 5030 6074 [.int (S (i + 1)), .int (S (i + 2))] w S (nI LL) := p_even A
  obtain ⟨v, w1, w2, n2, m2, hc, hm, A2⟩ := P
  obtain ⟨x, rfl⟩ := (cal_rt hc).1 (by decide +kernel)
  have ke := cal_keep hc
  have E0 := law_E (rl_W A) hi hL
  have E1 := law_E (rl_Wk (rl_W A) ke) hi hL
  obtain ⟨a0, a2, a3, a4, a5⟩ := nI_a i
  obtain ⟨s1, s2, s3, s4, s5, f0⟩ := E0
  obtain ⟨t1, t2, t3, t4, t5, f1⟩ := E1
  obtain ⟨c1, c2, c3, c4, c5⟩ := law_c hi hL
  refine ⟨w2, n2, m2, ?_, A2⟩
  simp only [e_7000_1172, e_7000_1173, e_7000_1174, e_7000_1175, e_7000_1176, e_7000_1177, e_7000_1178, e_7000_1179, e_7000_1180, e_7000_1181, e_7000_1182, e_7000_1183, e_7000_1186, e_7000_1187, e_7000_1188, e_7000_1189, e_7000_1190, e_7000_1191, e_7000_1192, e_7000_1193, e_7000_1194, e_7000_1195, e_7000_1196, e_7000_1197, e_7000_1200, e_7000_1203, e_7000_1204, zk_int, zk_ref, zk_null, zk_none, zk_long, zisR_r, zisR_n, zcl_int, zcl_ref, zcl_null, zpush_s, zpush_n, zbs, zbn, true_or, or_true, not_false_eq_true, not_true_eq_false, ↓reduceIte, and_self, and_true, true_and, zt_0, zt_50, z999, nI_1, a2, a3, a4, a5, s1, s2, s3, s4, s5, t1, t2, t3, t4, t5, f0, f1, c1, c2, c3, c4, c5, hc, hm]
theorem law_30 (A : zRl w S (nI LL) n m) (hi : i + 6 ≤ LL) (hL : LL ≤ 3072) : ∃ w2 n2 m2, den (d + 41) 7000 1205 [some (.ref 999), some (.ref 0), some (.ref 50), some (.int (nI i))] [] w = den (d + 41) 7000 1517 [some (.ref 999), some (.ref 0), some (.ref 50), some (.int (nI i))] [] w2 ∧ zRl w2 S (nI LL) n2 m2 := by
  have P : zPr d 5031 6076 [.int (S (i + 1)), .int (S (i + 2))] w S (nI LL) := p_turns A
  obtain ⟨v, w1, w2, n2, m2, hc, hm, A2⟩ := P
  obtain ⟨x, rfl⟩ := (cal_rt hc).1 (by decide +kernel)
  have ke := cal_keep hc
  have E0 := law_E (rl_W A) hi hL
  have E1 := law_E (rl_Wk (rl_W A) ke) hi hL
  obtain ⟨a0, a2, a3, a4, a5⟩ := nI_a i
  obtain ⟨s1, s2, s3, s4, s5, f0⟩ := E0
  obtain ⟨t1, t2, t3, t4, t5, f1⟩ := E1
  obtain ⟨c1, c2, c3, c4, c5⟩ := law_c hi hL
  refine ⟨w2, n2, m2, ?_, A2⟩
  simp only [e_7000_1205, e_7000_1206, e_7000_1207, e_7000_1208, e_7000_1209, e_7000_1210, e_7000_1211, e_7000_1212, e_7000_1213, e_7000_1214, e_7000_1215, e_7000_1216, e_7000_1219, e_7000_1220, e_7000_1221, e_7000_1222, e_7000_1223, e_7000_1224, e_7000_1225, e_7000_1226, e_7000_1227, e_7000_1228, e_7000_1229, e_7000_1230, e_7000_1233, e_7000_1236, e_7000_1237, zk_int, zk_ref, zk_null, zk_none, zk_long, zisR_r, zisR_n, zcl_int, zcl_ref, zcl_null, zpush_s, zpush_n, zbs, zbn, true_or, or_true, not_false_eq_true, not_true_eq_false, ↓reduceIte, and_self, and_true, true_and, zt_0, zt_50, z999, nI_1, a2, a3, a4, a5, s1, s2, s3, s4, s5, t1, t2, t3, t4, t5, f0, f1, c1, c2, c3, c4, c5, hc, hm]
theorem law_31 (A : zRl w S (nI LL) n m) (hi : i + 6 ≤ LL) (hL : LL ≤ 3072) : ∃ w2 n2 m2, den (d + 41) 7000 1238 [some (.ref 999), some (.ref 0), some (.ref 50), some (.int (nI i))] [] w = den (d + 41) 7000 1517 [some (.ref 999), some (.ref 0), some (.ref 50), some (.int (nI i))] [] w2 ∧ zRl w2 S (nI LL) n2 m2 := by
  have P : zPr d 5032 6077 [.int (S (i + 1))] w S (nI LL) := p_luck A
  obtain ⟨v, w1, w2, n2, m2, hc, hm, A2⟩ := P
  obtain ⟨x, rfl⟩ := (cal_rt hc).1 (by decide +kernel)
  have ke := cal_keep hc
  have E0 := law_E (rl_W A) hi hL
  have E1 := law_E (rl_Wk (rl_W A) ke) hi hL
  obtain ⟨a0, a2, a3, a4, a5⟩ := nI_a i
  obtain ⟨s1, s2, s3, s4, s5, f0⟩ := E0
  obtain ⟨t1, t2, t3, t4, t5, f1⟩ := E1
  obtain ⟨c1, c2, c3, c4, c5⟩ := law_c hi hL
  refine ⟨w2, n2, m2, ?_, A2⟩
  simp only [e_7000_1238, e_7000_1239, e_7000_1240, e_7000_1241, e_7000_1242, e_7000_1243, e_7000_1244, e_7000_1247, e_7000_1248, e_7000_1249, e_7000_1250, e_7000_1251, e_7000_1252, e_7000_1253, e_7000_1256, e_7000_1259, e_7000_1260, zk_int, zk_ref, zk_null, zk_none, zk_long, zisR_r, zisR_n, zcl_int, zcl_ref, zcl_null, zpush_s, zpush_n, zbs, zbn, true_or, or_true, not_false_eq_true, not_true_eq_false, ↓reduceIte, and_self, and_true, true_and, zt_0, zt_50, z999, nI_1, a2, a3, a4, a5, s1, s2, s3, s4, s5, t1, t2, t3, t4, t5, f0, f1, c1, c2, c3, c4, c5, hc, hm]
theorem law_32 (A : zRl w S (nI LL) n m) (hi : i + 6 ≤ LL) (hL : LL ≤ 3072) : ∃ w2 n2 m2, den (d + 41) 7000 1261 [some (.ref 999), some (.ref 0), some (.ref 50), some (.int (nI i))] [] w = den (d + 41) 7000 1517 [some (.ref 999), some (.ref 0), some (.ref 50), some (.int (nI i))] [] w2 ∧ zRl w2 S (nI LL) n2 m2 := by
  have P : zPr d 5033 6078 [.int (S (i + 1))] w S (nI LL) := p_worth A
  obtain ⟨v, w1, w2, n2, m2, hc, hm, A2⟩ := P
  obtain ⟨x, rfl⟩ := (cal_rt hc).1 (by decide +kernel)
  have ke := cal_keep hc
  have E0 := law_E (rl_W A) hi hL
  have E1 := law_E (rl_Wk (rl_W A) ke) hi hL
  obtain ⟨a0, a2, a3, a4, a5⟩ := nI_a i
  obtain ⟨s1, s2, s3, s4, s5, f0⟩ := E0
  obtain ⟨t1, t2, t3, t4, t5, f1⟩ := E1
  obtain ⟨c1, c2, c3, c4, c5⟩ := law_c hi hL
  refine ⟨w2, n2, m2, ?_, A2⟩
  simp only [e_7000_1261, e_7000_1262, e_7000_1263, e_7000_1264, e_7000_1265, e_7000_1266, e_7000_1267, e_7000_1270, e_7000_1271, e_7000_1272, e_7000_1273, e_7000_1274, e_7000_1275, e_7000_1276, e_7000_1279, e_7000_1282, e_7000_1283, zk_int, zk_ref, zk_null, zk_none, zk_long, zisR_r, zisR_n, zcl_int, zcl_ref, zcl_null, zpush_s, zpush_n, zbs, zbn, true_or, or_true, not_false_eq_true, not_true_eq_false, ↓reduceIte, and_self, and_true, true_and, zt_0, zt_50, z999, nI_1, a2, a3, a4, a5, s1, s2, s3, s4, s5, t1, t2, t3, t4, t5, f0, f1, c1, c2, c3, c4, c5, hc, hm]
theorem law_33 (A : zRl w S (nI LL) n m) (hi : i + 6 ≤ LL) (hL : LL ≤ 3072) : ∃ w2 n2 m2, den (d + 41) 7000 1284 [some (.ref 999), some (.ref 0), some (.ref 50), some (.int (nI i))] [] w = den (d + 41) 7000 1517 [some (.ref 999), some (.ref 0), some (.ref 50), some (.int (nI i))] [] w2 ∧ zRl w2 S (nI LL) n2 m2 := by
  have P : zPr d 5034 6079 [] w S (nI LL) := p_raise A
  obtain ⟨v, w1, w2, n2, m2, hc, hm, A2⟩ := P
  obtain ⟨x, rfl⟩ := (cal_rt hc).1 (by decide +kernel)
  have ke := cal_keep hc
  have E0 := law_E (rl_W A) hi hL
  have E1 := law_E (rl_Wk (rl_W A) ke) hi hL
  obtain ⟨a0, a2, a3, a4, a5⟩ := nI_a i
  obtain ⟨s1, s2, s3, s4, s5, f0⟩ := E0
  obtain ⟨t1, t2, t3, t4, t5, f1⟩ := E1
  obtain ⟨c1, c2, c3, c4, c5⟩ := law_c hi hL
  refine ⟨w2, n2, m2, ?_, A2⟩
  simp only [e_7000_1284, e_7000_1285, e_7000_1288, e_7000_1289, e_7000_1292, e_7000_1295, e_7000_1296, zk_int, zk_ref, zk_null, zk_none, zk_long, zisR_r, zisR_n, zcl_int, zcl_ref, zcl_null, zpush_s, zpush_n, zbs, zbn, true_or, or_true, not_false_eq_true, not_true_eq_false, ↓reduceIte, and_self, and_true, true_and, zt_0, zt_50, z999, nI_1, a2, a3, a4, a5, s1, s2, s3, s4, s5, t1, t2, t3, t4, t5, f0, f1, c1, c2, c3, c4, c5, hc, hm]
theorem law_34 (A : zRl w S (nI LL) n m) (hi : i + 6 ≤ LL) (hL : LL ≤ 3072) : ∃ w2 n2 m2, den (d + 41) 7000 1297 [some (.ref 999), some (.ref 0), some (.ref 50), some (.int (nI i))] [] w = den (d + 41) 7000 1517 [some (.ref 999), some (.ref 0), some (.ref 50), some (.int (nI i))] [] w2 ∧ zRl w2 S (nI LL) n2 m2 := by
  have P : zPr d 5035 6081 [.int (S (i + 1))] w S (nI LL) := p_judge A
  obtain ⟨v, w1, w2, n2, m2, hc, hm, A2⟩ := P
  obtain ⟨x, rfl⟩ := (cal_rt hc).1 (by decide +kernel)
  have ke := cal_keep hc
  have E0 := law_E (rl_W A) hi hL
  have E1 := law_E (rl_Wk (rl_W A) ke) hi hL
  obtain ⟨a0, a2, a3, a4, a5⟩ := nI_a i
  obtain ⟨s1, s2, s3, s4, s5, f0⟩ := E0
  obtain ⟨t1, t2, t3, t4, t5, f1⟩ := E1
  obtain ⟨c1, c2, c3, c4, c5⟩ := law_c hi hL
  refine ⟨w2, n2, m2, ?_, A2⟩
  simp only [e_7000_1297, e_7000_1298, e_7000_1299, e_7000_1300, e_7000_1301, e_7000_1302, e_7000_1303, e_7000_1306, e_7000_1307, e_7000_1308, e_7000_1309, e_7000_1310, e_7000_1311, e_7000_1312, e_7000_1315, e_7000_1318, e_7000_1319, zk_int, zk_ref, zk_null, zk_none, zk_long, zisR_r, zisR_n, zcl_int, zcl_ref, zcl_null, zpush_s, zpush_n, zbs, zbn, true_or, or_true, not_false_eq_true, not_true_eq_false, ↓reduceIte, and_self, and_true, true_and, zt_0, zt_50, z999, nI_1, a2, a3, a4, a5, s1, s2, s3, s4, s5, t1, t2, t3, t4, t5, f0, f1, c1, c2, c3, c4, c5, hc, hm]
theorem law_35 (A : zRl w S (nI LL) n m) (hi : i + 6 ≤ LL) (hL : LL ≤ 3072) : ∃ w2 n2 m2, den (d + 41) 7000 1320 [some (.ref 999), some (.ref 0), some (.ref 50), some (.int (nI i))] [] w = den (d + 41) 7000 1517 [some (.ref 999), some (.ref 0), some (.ref 50), some (.int (nI i))] [] w2 ∧ zRl w2 S (nI LL) n2 m2 := by
  have P : zPr d 5036 6082 [.int (S (i + 1)), .int (S (i + 2))] w S (nI LL) := p_told A
  obtain ⟨v, w1, w2, n2, m2, hc, hm, A2⟩ := P
  obtain ⟨x, rfl⟩ := (cal_rt hc).1 (by decide +kernel)
  have ke := cal_keep hc
  have E0 := law_E (rl_W A) hi hL
  have E1 := law_E (rl_Wk (rl_W A) ke) hi hL
  obtain ⟨a0, a2, a3, a4, a5⟩ := nI_a i
  obtain ⟨s1, s2, s3, s4, s5, f0⟩ := E0
  obtain ⟨t1, t2, t3, t4, t5, f1⟩ := E1
  obtain ⟨c1, c2, c3, c4, c5⟩ := law_c hi hL
  refine ⟨w2, n2, m2, ?_, A2⟩
  simp only [e_7000_1320, e_7000_1321, e_7000_1322, e_7000_1323, e_7000_1324, e_7000_1325, e_7000_1326, e_7000_1327, e_7000_1328, e_7000_1329, e_7000_1330, e_7000_1331, e_7000_1334, e_7000_1335, e_7000_1336, e_7000_1337, e_7000_1338, e_7000_1339, e_7000_1340, e_7000_1341, e_7000_1342, e_7000_1343, e_7000_1344, e_7000_1345, e_7000_1348, e_7000_1351, e_7000_1352, zk_int, zk_ref, zk_null, zk_none, zk_long, zisR_r, zisR_n, zcl_int, zcl_ref, zcl_null, zpush_s, zpush_n, zbs, zbn, true_or, or_true, not_false_eq_true, not_true_eq_false, ↓reduceIte, and_self, and_true, true_and, zt_0, zt_50, z999, nI_1, a2, a3, a4, a5, s1, s2, s3, s4, s5, t1, t2, t3, t4, t5, f0, f1, c1, c2, c3, c4, c5, hc, hm]
theorem law_36 (A : zRl w S (nI LL) n m) (hi : i + 6 ≤ LL) (hL : LL ≤ 3072) : ∃ w2 n2 m2, den (d + 41) 7000 1353 [some (.ref 999), some (.ref 0), some (.ref 50), some (.int (nI i))] [] w = den (d + 41) 7000 1517 [some (.ref 999), some (.ref 0), some (.ref 50), some (.int (nI i))] [] w2 ∧ zRl w2 S (nI LL) n2 m2 := by
  have P : zPr d 5037 6083 [] w S (nI LL) := p_evening A
  obtain ⟨v, w1, w2, n2, m2, hc, hm, A2⟩ := P
  obtain ⟨x, rfl⟩ := (cal_rt hc).1 (by decide +kernel)
  have ke := cal_keep hc
  have E0 := law_E (rl_W A) hi hL
  have E1 := law_E (rl_Wk (rl_W A) ke) hi hL
  obtain ⟨a0, a2, a3, a4, a5⟩ := nI_a i
  obtain ⟨s1, s2, s3, s4, s5, f0⟩ := E0
  obtain ⟨t1, t2, t3, t4, t5, f1⟩ := E1
  obtain ⟨c1, c2, c3, c4, c5⟩ := law_c hi hL
  refine ⟨w2, n2, m2, ?_, A2⟩
  simp only [e_7000_1353, e_7000_1354, e_7000_1357, e_7000_1358, e_7000_1361, e_7000_1364, e_7000_1365, zk_int, zk_ref, zk_null, zk_none, zk_long, zisR_r, zisR_n, zcl_int, zcl_ref, zcl_null, zpush_s, zpush_n, zbs, zbn, true_or, or_true, not_false_eq_true, not_true_eq_false, ↓reduceIte, and_self, and_true, true_and, zt_0, zt_50, z999, nI_1, a2, a3, a4, a5, s1, s2, s3, s4, s5, t1, t2, t3, t4, t5, f0, f1, c1, c2, c3, c4, c5, hc, hm]
theorem law_37 (A : zRl w S (nI LL) n m) (hi : i + 6 ≤ LL) (hL : LL ≤ 3072) : ∃ w2 n2 m2, den (d + 41) 7000 1366 [some (.ref 999), some (.ref 0), some (.ref 50), some (.int (nI i))] [] w = den (d + 41) 7000 1517 [some (.ref 999), some (.ref 0), some (.ref 50), some (.int (nI i))] [] w2 ∧ zRl w2 S (nI LL) n2 m2 := by
  have P : zPr d 5038 6086 [] w S (nI LL) := p_guests A
  obtain ⟨v, w1, w2, n2, m2, hc, hm, A2⟩ := P
  obtain ⟨x, rfl⟩ := (cal_rt hc).1 (by decide +kernel)
  have ke := cal_keep hc
  have E0 := law_E (rl_W A) hi hL
  have E1 := law_E (rl_Wk (rl_W A) ke) hi hL
  obtain ⟨a0, a2, a3, a4, a5⟩ := nI_a i
  obtain ⟨s1, s2, s3, s4, s5, f0⟩ := E0
  obtain ⟨t1, t2, t3, t4, t5, f1⟩ := E1
  obtain ⟨c1, c2, c3, c4, c5⟩ := law_c hi hL
  refine ⟨w2, n2, m2, ?_, A2⟩
  simp only [e_7000_1366, e_7000_1367, e_7000_1370, e_7000_1371, e_7000_1374, e_7000_1377, e_7000_1378, zk_int, zk_ref, zk_null, zk_none, zk_long, zisR_r, zisR_n, zcl_int, zcl_ref, zcl_null, zpush_s, zpush_n, zbs, zbn, true_or, or_true, not_false_eq_true, not_true_eq_false, ↓reduceIte, and_self, and_true, true_and, zt_0, zt_50, z999, nI_1, a2, a3, a4, a5, s1, s2, s3, s4, s5, t1, t2, t3, t4, t5, f0, f1, c1, c2, c3, c4, c5, hc, hm]
theorem law_38 (A : zRl w S (nI LL) n m) (hi : i + 6 ≤ LL) (hL : LL ≤ 3072) : ∃ w2 n2 m2, den (d + 41) 7000 1379 [some (.ref 999), some (.ref 0), some (.ref 50), some (.int (nI i))] [] w = den (d + 41) 7000 1517 [some (.ref 999), some (.ref 0), some (.ref 50), some (.int (nI i))] [] w2 ∧ zRl w2 S (nI LL) n2 m2 := by
  have P : zPr d 5039 6087 [.int (S (i + 1))] w S (nI LL) := p_seed A
  obtain ⟨v, w1, w2, n2, m2, hc, hm, A2⟩ := P
  obtain ⟨x, rfl⟩ := (cal_rt hc).1 (by decide +kernel)
  have ke := cal_keep hc
  have E0 := law_E (rl_W A) hi hL
  have E1 := law_E (rl_Wk (rl_W A) ke) hi hL
  obtain ⟨a0, a2, a3, a4, a5⟩ := nI_a i
  obtain ⟨s1, s2, s3, s4, s5, f0⟩ := E0
  obtain ⟨t1, t2, t3, t4, t5, f1⟩ := E1
  obtain ⟨c1, c2, c3, c4, c5⟩ := law_c hi hL
  refine ⟨w2, n2, m2, ?_, A2⟩
  simp only [e_7000_1379, e_7000_1380, e_7000_1381, e_7000_1382, e_7000_1383, e_7000_1384, e_7000_1385, e_7000_1388, e_7000_1389, e_7000_1390, e_7000_1391, e_7000_1392, e_7000_1393, e_7000_1394, e_7000_1397, e_7000_1400, e_7000_1401, zk_int, zk_ref, zk_null, zk_none, zk_long, zisR_r, zisR_n, zcl_int, zcl_ref, zcl_null, zpush_s, zpush_n, zbs, zbn, true_or, or_true, not_false_eq_true, not_true_eq_false, ↓reduceIte, and_self, and_true, true_and, zt_0, zt_50, z999, nI_1, a2, a3, a4, a5, s1, s2, s3, s4, s5, t1, t2, t3, t4, t5, f0, f1, c1, c2, c3, c4, c5, hc, hm]
theorem law_39 (A : zRl w S (nI LL) n m) (hi : i + 6 ≤ LL) (hL : LL ≤ 3072) : ∃ w2 n2 m2, den (d + 41) 7000 1402 [some (.ref 999), some (.ref 0), some (.ref 50), some (.int (nI i))] [] w = den (d + 41) 7000 1517 [some (.ref 999), some (.ref 0), some (.ref 50), some (.int (nI i))] [] w2 ∧ zRl w2 S (nI LL) n2 m2 := by
  have P : zPr d 5040 6092 [.int (S (i + 1)), .int (S (i + 2)), .int (S (i + 3))] w S (nI LL) := p_act A
  obtain ⟨v, w1, w2, n2, m2, hc, hm, A2⟩ := P
  obtain ⟨x, rfl⟩ := (cal_rt hc).1 (by decide +kernel)
  have ke := cal_keep hc
  have E0 := law_E (rl_W A) hi hL
  have E1 := law_E (rl_Wk (rl_W A) ke) hi hL
  obtain ⟨a0, a2, a3, a4, a5⟩ := nI_a i
  obtain ⟨s1, s2, s3, s4, s5, f0⟩ := E0
  obtain ⟨t1, t2, t3, t4, t5, f1⟩ := E1
  obtain ⟨c1, c2, c3, c4, c5⟩ := law_c hi hL
  refine ⟨w2, n2, m2, ?_, A2⟩
  simp only [e_7000_1402, e_7000_1403, e_7000_1404, e_7000_1405, e_7000_1406, e_7000_1407, e_7000_1408, e_7000_1409, e_7000_1410, e_7000_1411, e_7000_1412, e_7000_1413, e_7000_1414, e_7000_1415, e_7000_1416, e_7000_1417, e_7000_1418, e_7000_1421, e_7000_1422, e_7000_1423, e_7000_1424, e_7000_1425, e_7000_1426, e_7000_1427, e_7000_1428, e_7000_1429, e_7000_1430, e_7000_1431, e_7000_1432, e_7000_1433, e_7000_1434, e_7000_1435, e_7000_1436, e_7000_1437, e_7000_1440, e_7000_1443, e_7000_1444, zk_int, zk_ref, zk_null, zk_none, zk_long, zisR_r, zisR_n, zcl_int, zcl_ref, zcl_null, zpush_s, zpush_n, zbs, zbn, true_or, or_true, not_false_eq_true, not_true_eq_false, ↓reduceIte, and_self, and_true, true_and, zt_0, zt_50, z999, nI_1, a2, a3, a4, a5, s1, s2, s3, s4, s5, t1, t2, t3, t4, t5, f0, f1, c1, c2, c3, c4, c5, hc, hm]
theorem law_40 (A : zRl w S (nI LL) n m) (hi : i + 6 ≤ LL) (hL : LL ≤ 3072) : ∃ w2 n2 m2, den (d + 41) 7000 1445 [some (.ref 999), some (.ref 0), some (.ref 50), some (.int (nI i))] [] w = den (d + 41) 7000 1517 [some (.ref 999), some (.ref 0), some (.ref 50), some (.int (nI i))] [] w2 ∧ zRl w2 S (nI LL) n2 m2 := by
  have P : zPr d 5041 6093 [.int (S (i + 1))] w S (nI LL) := p_trace A
  obtain ⟨v, w1, w2, n2, m2, hc, hm, A2⟩ := P
  obtain ⟨x, rfl⟩ := (cal_rt hc).1 (by decide +kernel)
  have ke := cal_keep hc
  have E0 := law_E (rl_W A) hi hL
  have E1 := law_E (rl_Wk (rl_W A) ke) hi hL
  obtain ⟨a0, a2, a3, a4, a5⟩ := nI_a i
  obtain ⟨s1, s2, s3, s4, s5, f0⟩ := E0
  obtain ⟨t1, t2, t3, t4, t5, f1⟩ := E1
  obtain ⟨c1, c2, c3, c4, c5⟩ := law_c hi hL
  refine ⟨w2, n2, m2, ?_, A2⟩
  simp only [e_7000_1445, e_7000_1446, e_7000_1447, e_7000_1448, e_7000_1449, e_7000_1450, e_7000_1451, e_7000_1454, e_7000_1455, e_7000_1456, e_7000_1457, e_7000_1458, e_7000_1459, e_7000_1460, e_7000_1463, e_7000_1466, e_7000_1467, zk_int, zk_ref, zk_null, zk_none, zk_long, zisR_r, zisR_n, zcl_int, zcl_ref, zcl_null, zpush_s, zpush_n, zbs, zbn, true_or, or_true, not_false_eq_true, not_true_eq_false, ↓reduceIte, and_self, and_true, true_and, zt_0, zt_50, z999, nI_1, a2, a3, a4, a5, s1, s2, s3, s4, s5, t1, t2, t3, t4, t5, f0, f1, c1, c2, c3, c4, c5, hc, hm]
theorem law_41 (A : zRl w S (nI LL) n m) (hi : i + 6 ≤ LL) (hL : LL ≤ 3072) : ∃ w2 n2 m2, den (d + 41) 7000 1468 [some (.ref 999), some (.ref 0), some (.ref 50), some (.int (nI i))] [] w = den (d + 41) 7000 1517 [some (.ref 999), some (.ref 0), some (.ref 50), some (.int (nI i))] [] w2 ∧ zRl w2 S (nI LL) n2 m2 := by
  have P : zPr d 5042 6094 [] w S (nI LL) := p_image A
  obtain ⟨v, w1, w2, n2, m2, hc, hm, A2⟩ := P
  obtain ⟨x, rfl⟩ := (cal_rt hc).1 (by decide +kernel)
  have ke := cal_keep hc
  have E0 := law_E (rl_W A) hi hL
  have E1 := law_E (rl_Wk (rl_W A) ke) hi hL
  obtain ⟨a0, a2, a3, a4, a5⟩ := nI_a i
  obtain ⟨s1, s2, s3, s4, s5, f0⟩ := E0
  obtain ⟨t1, t2, t3, t4, t5, f1⟩ := E1
  obtain ⟨c1, c2, c3, c4, c5⟩ := law_c hi hL
  refine ⟨w2, n2, m2, ?_, A2⟩
  simp only [e_7000_1468, e_7000_1469, e_7000_1472, e_7000_1473, e_7000_1476, e_7000_1479, e_7000_1480, zk_int, zk_ref, zk_null, zk_none, zk_long, zisR_r, zisR_n, zcl_int, zcl_ref, zcl_null, zpush_s, zpush_n, zbs, zbn, true_or, or_true, not_false_eq_true, not_true_eq_false, ↓reduceIte, and_self, and_true, true_and, zt_0, zt_50, z999, nI_1, a2, a3, a4, a5, s1, s2, s3, s4, s5, t1, t2, t3, t4, t5, f0, f1, c1, c2, c3, c4, c5, hc, hm]
theorem law_42 (A : zRl w S (nI LL) n m) (hi : i + 6 ≤ LL) (hL : LL ≤ 3072) : ∃ w2 n2 m2, den (d + 41) 7000 1481 [some (.ref 999), some (.ref 0), some (.ref 50), some (.int (nI i))] [] w = den (d + 41) 7000 1517 [some (.ref 999), some (.ref 0), some (.ref 50), some (.int (nI i))] [] w2 ∧ zRl w2 S (nI LL) n2 m2 := by
  have P : zPr d 5043 6095 [] w S (nI LL) := p_restore A
  obtain ⟨v, w1, w2, n2, m2, hc, hm, A2⟩ := P
  obtain ⟨x, rfl⟩ := (cal_rt hc).1 (by decide +kernel)
  have ke := cal_keep hc
  have E0 := law_E (rl_W A) hi hL
  have E1 := law_E (rl_Wk (rl_W A) ke) hi hL
  obtain ⟨a0, a2, a3, a4, a5⟩ := nI_a i
  obtain ⟨s1, s2, s3, s4, s5, f0⟩ := E0
  obtain ⟨t1, t2, t3, t4, t5, f1⟩ := E1
  obtain ⟨c1, c2, c3, c4, c5⟩ := law_c hi hL
  refine ⟨w2, n2, m2, ?_, A2⟩
  simp only [e_7000_1481, e_7000_1482, e_7000_1485, e_7000_1486, e_7000_1489, e_7000_1492, e_7000_1493, zk_int, zk_ref, zk_null, zk_none, zk_long, zisR_r, zisR_n, zcl_int, zcl_ref, zcl_null, zpush_s, zpush_n, zbs, zbn, true_or, or_true, not_false_eq_true, not_true_eq_false, ↓reduceIte, and_self, and_true, true_and, zt_0, zt_50, z999, nI_1, a2, a3, a4, a5, s1, s2, s3, s4, s5, t1, t2, t3, t4, t5, f0, f1, c1, c2, c3, c4, c5, hc, hm]
theorem law_43 (A : zRl w S (nI LL) n m) (hi : i + 6 ≤ LL) (hL : LL ≤ 3072) : ∃ w2 n2 m2, den (d + 41) 7000 1494 [some (.ref 999), some (.ref 0), some (.ref 50), some (.int (nI i))] [] w = den (d + 41) 7000 1517 [some (.ref 999), some (.ref 0), some (.ref 50), some (.int (nI i))] [] w2 ∧ zRl w2 S (nI LL) n2 m2 := by
  have P : zPr d 5044 6096 [.int (S (i + 1))] w S (nI LL) := p_status A
  obtain ⟨v, w1, w2, n2, m2, hc, hm, A2⟩ := P
  obtain ⟨x, rfl⟩ := (cal_rt hc).1 (by decide +kernel)
  have ke := cal_keep hc
  have E0 := law_E (rl_W A) hi hL
  have E1 := law_E (rl_Wk (rl_W A) ke) hi hL
  obtain ⟨a0, a2, a3, a4, a5⟩ := nI_a i
  obtain ⟨s1, s2, s3, s4, s5, f0⟩ := E0
  obtain ⟨t1, t2, t3, t4, t5, f1⟩ := E1
  obtain ⟨c1, c2, c3, c4, c5⟩ := law_c hi hL
  refine ⟨w2, n2, m2, ?_, A2⟩
  simp only [e_7000_1494, e_7000_1495, e_7000_1496, e_7000_1497, e_7000_1498, e_7000_1499, e_7000_1500, e_7000_1503, e_7000_1504, e_7000_1505, e_7000_1506, e_7000_1507, e_7000_1508, e_7000_1509, e_7000_1512, e_7000_1515, e_7000_1516, zk_int, zk_ref, zk_null, zk_none, zk_long, zisR_r, zisR_n, zcl_int, zcl_ref, zcl_null, zpush_s, zpush_n, zbs, zbn, true_or, or_true, not_false_eq_true, not_true_eq_false, ↓reduceIte, and_self, and_true, true_and, zt_0, zt_50, z999, nI_1, a2, a3, a4, a5, s1, s2, s3, s4, s5, t1, t2, t3, t4, t5, f0, f1, c1, c2, c3, c4, c5, hc, hm]
end QL
