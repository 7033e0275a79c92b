theorem fRf_n {w : zM} {j a : Nat} (h : a ≠ 33) : (fRf w j).1 a = w.1 a := zA_n _ _ h
theorem fRf_2 {w : zM} {j : Nat} : (fRf w j).2 = w.2 := id rfl
section PQ
variable {d n m : Nat} {w w1 w2 : zM} {S : Nat → Int32} {L : Int32} {T V G : Nat → Int32}
theorem set_R {X : zM} {j z s i : Nat} {v : Int64} (hj : j < 8) (hz1 : z ≤ 160) (hi : i < z) (e65 : X.1 65 j = nI s) (e66 : X.1 66 j = nI z) (e64 : X.1 64 j = 1) (hs : s < 4) : cal (d + 40) 6008 [.ref 50, .int (nI j), .int (nI i), .long v] X = some (some (.int 1), zuB X 68 (vp_updL (X.2 68) (160 * j + i) (sLow (nI s) v))) := by
  have q1 := m_isShelf (d := d + 39) (w := X) hj
  have hz := zis_nI (j := j) (n := 8) hj (by decide)
  have hc := nI_clamp (n := j) (by omega)
  have k0 := nI_lt0 (a := i) (by omega)
  have k1 : (nI i < nI z) = True := eq_true (nI_lt hi (by omega))
  have hz2 := zis_nI (j := 160 * j + i) (n := 1280) (by omega) (by decide)
  have hc2 := nI_clamp (n := 160 * j + i) (by omega)
  rcases (by omega : s = 0 ∨ s = 1 ∨ s = 2 ∨ s = 3) with rfl | rfl | rfl | rfl
  · have e : sLow (nI 0) v = v.toInt32.toInt8.toInt32.toInt64 := if_pos (by decide)
    have e0 : nI 0 = 0 := rfl
    rw [e0] at e65
    rw [e]
    simp only [c_6008, e_6008_0, e_6008_1, e_6008_2, e_6008_5, e_6008_8, e_6008_9, e_6008_10, e_6008_13, e_6008_14, e_6008_15, e_6008_18, e_6008_19, e_6008_20, e_6008_21, e_6008_24, e_6008_25, e_6008_27, e_6008_30, e_6008_31, e_6008_32, e_6008_35, e_6008_36, e_6008_37, e_6008_40, e_6008_41, e_6008_43, e_6008_46, e_6008_47, e_6008_48, e_6008_51, e_6008_52, e_6008_53, e_6008_56, e_6008_57, e_6008_58, e_6008_61, e_6008_62, e_6008_64, e_6008_67, e_6008_68, e_6008_69, e_6008_72, e_6008_75, e_6008_76, e_6008_77, e_6008_78, e_6008_79, e_6008_80, e_6008_83, e_6008_84, e_6008_85, e_6008_88, e_6008_89, e_6008_90, e_6008_91, e_6008_92, e_6008_95, e_6008_96, e_6008_99, e_6008_100, e_6008_101, e_6008_102, e_6008_105, e_6008_106, e_6008_107, e_6008_108, e_6008_109, e_6008_112, e_6008_113, e_6008_116, e_6008_117, e_6008_118, e_6008_119, e_6008_122, e_6008_123, e_6008_124, e_6008_125, e_6008_128, e_6008_129, e_6008_130, e_6008_131, zk_int, zk_ref, zk_null, zk_none, zk_long, zisR_r, zisR_n, zcl_int, zcl_ref, zcl_null, zpush_s, zpush_n, zbs, zbn, true_or, or_true, not_false_eq_true, not_true_eq_false, ↓reduceIte, and_self, and_true, true_and, ie_0_1, ie_0_2, ie_0_3, ie_0_4, ie_0_5, ie_0_6, ie_0_7, ie_1_0, ie_1_2, ie_1_3, ie_1_4, ie_1_5, ie_1_6, ie_1_7, ie_2_0, ie_2_1, ie_2_3, ie_2_4, ie_2_5, ie_2_6, ie_2_7, ie_3_0, ie_3_1, ie_3_2, ie_3_4, ie_3_5, ie_3_6, ie_3_7, ie_4_0, ie_4_1, ie_4_2, ie_4_3, ie_4_5, ie_4_6, ie_4_7, ie_5_0, ie_5_1, ie_5_2, ie_5_3, ie_5_4, ie_5_6, ie_5_7, ie_6_0, ie_6_1, ie_6_2, ie_6_3, ie_6_4, ie_6_5, ie_6_7, ie_7_0, ie_7_1, ie_7_2, ie_7_3, ie_7_4, ie_7_5, ie_7_6, zt_50, zr_50_21, zt_64, zn_64, zo_64, zl_64, zq_64, zr_50_23, zt_66, zn_66, zo_66, zl_66, zq_66, zr_50_22, zt_65, zn_65, zo_65, zl_65, zq_65, zr_50_25, zt_68, zn_68, zq_68, q1, hz, hc, e64, e65, e66, k0, k1, ix160, hz2, hc2, zul_B]
  · have e : sLow (nI 1) v = v.toInt32.toInt16.toInt32.toInt64 := (if_neg (by decide)).trans (if_pos (by decide))
    have e0 : nI 1 = 1 := rfl
    rw [e0] at e65
    rw [e]
    simp only [c_6008, e_6008_0, e_6008_1, e_6008_2, e_6008_5, e_6008_8, e_6008_9, e_6008_10, e_6008_13, e_6008_14, e_6008_15, e_6008_18, e_6008_19, e_6008_20, e_6008_21, e_6008_24, e_6008_25, e_6008_27, e_6008_30, e_6008_31, e_6008_32, e_6008_35, e_6008_36, e_6008_37, e_6008_40, e_6008_41, e_6008_43, e_6008_46, e_6008_47, e_6008_48, e_6008_51, e_6008_52, e_6008_53, e_6008_56, e_6008_57, e_6008_58, e_6008_61, e_6008_62, e_6008_64, e_6008_67, e_6008_68, e_6008_69, e_6008_72, e_6008_75, e_6008_76, e_6008_77, e_6008_78, e_6008_79, e_6008_80, e_6008_83, e_6008_84, e_6008_85, e_6008_88, e_6008_89, e_6008_90, e_6008_91, e_6008_92, e_6008_95, e_6008_96, e_6008_99, e_6008_100, e_6008_101, e_6008_102, e_6008_105, e_6008_106, e_6008_107, e_6008_108, e_6008_109, e_6008_112, e_6008_113, e_6008_116, e_6008_117, e_6008_118, e_6008_119, e_6008_122, e_6008_123, e_6008_124, e_6008_125, e_6008_128, e_6008_129, e_6008_130, e_6008_131, zk_int, zk_ref, zk_null, zk_none, zk_long, zisR_r, zisR_n, zcl_int, zcl_ref, zcl_null, zpush_s, zpush_n, zbs, zbn, true_or, or_true, not_false_eq_true, not_true_eq_false, ↓reduceIte, and_self, and_true, true_and, ie_0_1, ie_0_2, ie_0_3, ie_0_4, ie_0_5, ie_0_6, ie_0_7, ie_1_0, ie_1_2, ie_1_3, ie_1_4, ie_1_5, ie_1_6, ie_1_7, ie_2_0, ie_2_1, ie_2_3, ie_2_4, ie_2_5, ie_2_6, ie_2_7, ie_3_0, ie_3_1, ie_3_2, ie_3_4, ie_3_5, ie_3_6, ie_3_7, ie_4_0, ie_4_1, ie_4_2, ie_4_3, ie_4_5, ie_4_6, ie_4_7, ie_5_0, ie_5_1, ie_5_2, ie_5_3, ie_5_4, ie_5_6, ie_5_7, ie_6_0, ie_6_1, ie_6_2, ie_6_3, ie_6_4, ie_6_5, ie_6_7, ie_7_0, ie_7_1, ie_7_2, ie_7_3, ie_7_4, ie_7_5, ie_7_6, zt_50, zr_50_21, zt_64, zn_64, zo_64, zl_64, zq_64, zr_50_23, zt_66, zn_66, zo_66, zl_66, zq_66, zr_50_22, zt_65, zn_65, zo_65, zl_65, zq_65, zr_50_25, zt_68, zn_68, zq_68, q1, hz, hc, e64, e65, e66, k0, k1, ix160, hz2, hc2, zul_B]
  · have e : sLow (nI 2) v = v.toInt32.toInt64 := (if_neg (by decide)).trans ((if_neg (by decide)).trans (if_pos (by decide)))
    have e0 : nI 2 = 2 := rfl
    rw [e0] at e65
    rw [e]
    simp only [c_6008, e_6008_0, e_6008_1, e_6008_2, e_6008_5, e_6008_8, e_6008_9, e_6008_10, e_6008_13, e_6008_14, e_6008_15, e_6008_18, e_6008_19, e_6008_20, e_6008_21, e_6008_24, e_6008_25, e_6008_27, e_6008_30, e_6008_31, e_6008_32, e_6008_35, e_6008_36, e_6008_37, e_6008_40, e_6008_41, e_6008_43, e_6008_46, e_6008_47, e_6008_48, e_6008_51, e_6008_52, e_6008_53, e_6008_56, e_6008_57, e_6008_58, e_6008_61, e_6008_62, e_6008_64, e_6008_67, e_6008_68, e_6008_69, e_6008_72, e_6008_75, e_6008_76, e_6008_77, e_6008_78, e_6008_79, e_6008_80, e_6008_83, e_6008_84, e_6008_85, e_6008_88, e_6008_89, e_6008_90, e_6008_91, e_6008_92, e_6008_95, e_6008_96, e_6008_99, e_6008_100, e_6008_101, e_6008_102, e_6008_105, e_6008_106, e_6008_107, e_6008_108, e_6008_109, e_6008_112, e_6008_113, e_6008_116, e_6008_117, e_6008_118, e_6008_119, e_6008_122, e_6008_123, e_6008_124, e_6008_125, e_6008_128, e_6008_129, e_6008_130, e_6008_131, zk_int, zk_ref, zk_null, zk_none, zk_long, zisR_r, zisR_n, zcl_int, zcl_ref, zcl_null, zpush_s, zpush_n, zbs, zbn, true_or, or_true, not_false_eq_true, not_true_eq_false, ↓reduceIte, and_self, and_true, true_and, ie_0_1, ie_0_2, ie_0_3, ie_0_4, ie_0_5, ie_0_6, ie_0_7, ie_1_0, ie_1_2, ie_1_3, ie_1_4, ie_1_5, ie_1_6, ie_1_7, ie_2_0, ie_2_1, ie_2_3, ie_2_4, ie_2_5, ie_2_6, ie_2_7, ie_3_0, ie_3_1, ie_3_2, ie_3_4, ie_3_5, ie_3_6, ie_3_7, ie_4_0, ie_4_1, ie_4_2, ie_4_3, ie_4_5, ie_4_6, ie_4_7, ie_5_0, ie_5_1, ie_5_2, ie_5_3, ie_5_4, ie_5_6, ie_5_7, ie_6_0, ie_6_1, ie_6_2, ie_6_3, ie_6_4, ie_6_5, ie_6_7, ie_7_0, ie_7_1, ie_7_2, ie_7_3, ie_7_4, ie_7_5, ie_7_6, zt_50, zr_50_21, zt_64, zn_64, zo_64, zl_64, zq_64, zr_50_23, zt_66, zn_66, zo_66, zl_66, zq_66, zr_50_22, zt_65, zn_65, zo_65, zl_65, zq_65, zr_50_25, zt_68, zn_68, zq_68, q1, hz, hc, e64, e65, e66, k0, k1, ix160, hz2, hc2, zul_B]
  · have e : sLow (nI 3) v = v := (if_neg (by decide)).trans ((if_neg (by decide)).trans (if_neg (by decide)))
    have e0 : nI 3 = 3 := rfl
    rw [e0] at e65
    rw [e]
    simp only [c_6008, e_6008_0, e_6008_1, e_6008_2, e_6008_5, e_6008_8, e_6008_9, e_6008_10, e_6008_13, e_6008_14, e_6008_15, e_6008_18, e_6008_19, e_6008_20, e_6008_21, e_6008_24, e_6008_25, e_6008_27, e_6008_30, e_6008_31, e_6008_32, e_6008_35, e_6008_36, e_6008_37, e_6008_40, e_6008_41, e_6008_43, e_6008_46, e_6008_47, e_6008_48, e_6008_51, e_6008_52, e_6008_53, e_6008_56, e_6008_57, e_6008_58, e_6008_61, e_6008_62, e_6008_64, e_6008_67, e_6008_68, e_6008_69, e_6008_72, e_6008_75, e_6008_76, e_6008_77, e_6008_78, e_6008_79, e_6008_80, e_6008_83, e_6008_84, e_6008_85, e_6008_88, e_6008_89, e_6008_90, e_6008_91, e_6008_92, e_6008_95, e_6008_96, e_6008_99, e_6008_100, e_6008_101, e_6008_102, e_6008_105, e_6008_106, e_6008_107, e_6008_108, e_6008_109, e_6008_112, e_6008_113, e_6008_116, e_6008_117, e_6008_118, e_6008_119, e_6008_122, e_6008_123, e_6008_124, e_6008_125, e_6008_128, e_6008_129, e_6008_130, e_6008_131, zk_int, zk_ref, zk_null, zk_none, zk_long, zisR_r, zisR_n, zcl_int, zcl_ref, zcl_null, zpush_s, zpush_n, zbs, zbn, true_or, or_true, not_false_eq_true, not_true_eq_false, ↓reduceIte, and_self, and_true, true_and, ie_0_1, ie_0_2, ie_0_3, ie_0_4, ie_0_5, ie_0_6, ie_0_7, ie_1_0, ie_1_2, ie_1_3, ie_1_4, ie_1_5, ie_1_6, ie_1_7, ie_2_0, ie_2_1, ie_2_3, ie_2_4, ie_2_5, ie_2_6, ie_2_7, ie_3_0, ie_3_1, ie_3_2, ie_3_4, ie_3_5, ie_3_6, ie_3_7, ie_4_0, ie_4_1, ie_4_2, ie_4_3, ie_4_5, ie_4_6, ie_4_7, ie_5_0, ie_5_1, ie_5_2, ie_5_3, ie_5_4, ie_5_6, ie_5_7, ie_6_0, ie_6_1, ie_6_2, ie_6_3, ie_6_4, ie_6_5, ie_6_7, ie_7_0, ie_7_1, ie_7_2, ie_7_3, ie_7_4, ie_7_5, ie_7_6, zt_50, zr_50_21, zt_64, zn_64, zo_64, zl_64, zq_64, zr_50_23, zt_66, zn_66, zo_66, zl_66, zq_66, zr_50_22, zt_65, zn_65, zo_65, zl_65, zq_65, zr_50_25, zt_68, zn_68, zq_68, q1, hz, hc, e64, e65, e66, k0, k1, ix160, hz2, hc2, zul_B]
theorem p_set {x k : Int32} {v : Int64} (A : zRl w S L n m) : zPr d 5002 6008 [.int x, .int k, .long v] w S L := by
  have hn8 := rl_n A
  rcases ix_c x (by decide : 8 < 1000) with hx | ⟨j, hj, rfl⟩
  · have q1 := m_isShelf_o (d := d + 39) (w := fRf w 1) hx
    have r := m_no (d := d + 39) (w := fRf w 1) (j := 1) (c := -1) (by decide) (by decide)
    refine pr_f A (by decide) (f_set_1 (d := d + 38) hx) (zKp_r _) ?_ (zKp_r _)
    simp only [c_6008, e_6008_0, e_6008_1, e_6008_2, e_6008_5, e_6008_8, e_6008_9, e_6008_10, e_6008_13, e_6008_14, e_6008_15, e_6008_18, e_6008_19, e_6008_20, e_6008_21, e_6008_24, e_6008_25, e_6008_27, e_6008_30, e_6008_31, e_6008_32, e_6008_35, e_6008_36, e_6008_37, e_6008_40, e_6008_41, e_6008_43, e_6008_46, e_6008_47, e_6008_48, e_6008_51, e_6008_52, e_6008_53, e_6008_56, e_6008_57, e_6008_58, e_6008_61, e_6008_62, e_6008_64, e_6008_67, e_6008_68, e_6008_69, e_6008_72, e_6008_75, e_6008_76, e_6008_77, e_6008_78, e_6008_79, e_6008_80, e_6008_83, e_6008_84, e_6008_85, e_6008_88, e_6008_89, e_6008_90, e_6008_91, e_6008_92, e_6008_95, e_6008_96, e_6008_99, e_6008_100, e_6008_101, e_6008_102, e_6008_105, e_6008_106, e_6008_107, e_6008_108, e_6008_109, e_6008_112, e_6008_113, e_6008_116, e_6008_117, e_6008_118, e_6008_119, e_6008_122, e_6008_123, e_6008_124, e_6008_125, e_6008_128, e_6008_129, e_6008_130, e_6008_131, zk_int, zk_ref, zk_null, zk_none, zk_long, zisR_r, zisR_n, zcl_int, zcl_ref, zcl_null, zpush_s, zpush_n, zbs, zbn, true_or, or_true, not_false_eq_true, not_true_eq_false, ↓reduceIte, and_self, and_true, true_and, zt_50, q1, r]
  · have q1 := fun w => m_isShelf (d := d + 39) (w := w) hj
    have hz := zis_nI (j := j) (n := 8) hj (by decide)
    have hc := nI_clamp (n := j) (by omega)
    rcases A.2.2.1 j hj with ⟨h1, h2⟩ | ⟨h1, s', z', g1, g2, g3, g4, g5, g6, g7⟩ | ⟨h1, t', g1, g2, g3⟩
    · have f := f_set_b (d := d + 38) (w := w) (x := k) (v := v) hj (by rw [h2]; decide)
      rw [if_pos h2] at f
      have r := m_no (d := d + 39) (w := fRf w 3) (j := 3) (c := -3) (by decide) (by decide)
      have h1' : (fRf w 3).1 64 j = 0 := by rw [fRf_n (by decide)]; exact h1
      refine pr_f A (by decide) f (zKp_r _) ?_ (zKp_r _)
      simp only [c_6008, e_6008_0, e_6008_1, e_6008_2, e_6008_5, e_6008_8, e_6008_9, e_6008_10, e_6008_13, e_6008_14, e_6008_15, e_6008_18, e_6008_19, e_6008_20, e_6008_21, e_6008_24, e_6008_25, e_6008_27, e_6008_30, e_6008_31, e_6008_32, e_6008_35, e_6008_36, e_6008_37, e_6008_40, e_6008_41, e_6008_43, e_6008_46, e_6008_47, e_6008_48, e_6008_51, e_6008_52, e_6008_53, e_6008_56, e_6008_57, e_6008_58, e_6008_61, e_6008_62, e_6008_64, e_6008_67, e_6008_68, e_6008_69, e_6008_72, e_6008_75, e_6008_76, e_6008_77, e_6008_78, e_6008_79, e_6008_80, e_6008_83, e_6008_84, e_6008_85, e_6008_88, e_6008_89, e_6008_90, e_6008_91, e_6008_92, e_6008_95, e_6008_96, e_6008_99, e_6008_100, e_6008_101, e_6008_102, e_6008_105, e_6008_106, e_6008_107, e_6008_108, e_6008_109, e_6008_112, e_6008_113, e_6008_116, e_6008_117, e_6008_118, e_6008_119, e_6008_122, e_6008_123, e_6008_124, e_6008_125, e_6008_128, e_6008_129, e_6008_130, e_6008_131, zk_int, zk_ref, zk_null, zk_none, zk_long, zisR_r, zisR_n, zcl_int, zcl_ref, zcl_null, zpush_s, zpush_n, zbs, zbn, true_or, or_true, not_false_eq_true, not_true_eq_false, ↓reduceIte, and_self, and_true, true_and, ie_0_1, ie_0_2, ie_0_3, ie_0_4, ie_0_5, ie_0_6, ie_0_7, ie_1_0, ie_1_2, ie_1_3, ie_1_4, ie_1_5, ie_1_6, ie_1_7, ie_2_0, ie_2_1, ie_2_3, ie_2_4, ie_2_5, ie_2_6, ie_2_7, ie_3_0, ie_3_1, ie_3_2, ie_3_4, ie_3_5, ie_3_6, ie_3_7, ie_4_0, ie_4_1, ie_4_2, ie_4_3, ie_4_5, ie_4_6, ie_4_7, ie_5_0, ie_5_1, ie_5_2, ie_5_3, ie_5_4, ie_5_6, ie_5_7, ie_6_0, ie_6_1, ie_6_2, ie_6_3, ie_6_4, ie_6_5, ie_6_7, ie_7_0, ie_7_1, ie_7_2, ie_7_3, ie_7_4, ie_7_5, ie_7_6, zt_50, zr_50_21, zt_64, zn_64, zo_64, zl_64, zq_64, q1, hz, hc, h1', r]
    · have h100 : 100 ≤ w.1 (34 + 2 * j) 1 := by rw [g4]; exact nI_le (a := 100) (by omega) (by omega)
      rcases ix_c k (by omega : z' < 1000) with hk | ⟨i, hi, rfl⟩
      · have r := m_no (d := d + 39) (w := fRf w 5) (j := 5) (c := -5) (by decide) (by decide)
        have h1' : (fRf w 5).1 64 j = 1 := by rw [fRf_n (by decide)]; exact h1
        have h6' : (fRf w 5).1 66 j = nI z' := by rw [fRf_n (by decide)]; exact g6
        refine pr_f A (by decide) (f_set_5 (d := d + 38) hj h100 g5 g2 hk) (zKp_r _) ?_ (zKp_r _)
        by_cases k0 : k < 0
        · simp only [c_6008, e_6008_0, e_6008_1, e_6008_2, e_6008_5, e_6008_8, e_6008_9, e_6008_10, e_6008_13, e_6008_14, e_6008_15, e_6008_18, e_6008_19, e_6008_20, e_6008_21, e_6008_24, e_6008_25, e_6008_27, e_6008_30, e_6008_31, e_6008_32, e_6008_35, e_6008_36, e_6008_37, e_6008_40, e_6008_41, e_6008_43, e_6008_46, e_6008_47, e_6008_48, e_6008_51, e_6008_52, e_6008_53, e_6008_56, e_6008_57, e_6008_58, e_6008_61, e_6008_62, e_6008_64, e_6008_67, e_6008_68, e_6008_69, e_6008_72, e_6008_75, e_6008_76, e_6008_77, e_6008_78, e_6008_79, e_6008_80, e_6008_83, e_6008_84, e_6008_85, e_6008_88, e_6008_89, e_6008_90, e_6008_91, e_6008_92, e_6008_95, e_6008_96, e_6008_99, e_6008_100, e_6008_101, e_6008_102, e_6008_105, e_6008_106, e_6008_107, e_6008_108, e_6008_109, e_6008_112, e_6008_113, e_6008_116, e_6008_117, e_6008_118, e_6008_119, e_6008_122, e_6008_123, e_6008_124, e_6008_125, e_6008_128, e_6008_129, e_6008_130, e_6008_131, zk_int, zk_ref, zk_null, zk_none, zk_long, zisR_r, zisR_n, zcl_int, zcl_ref, zcl_null, zpush_s, zpush_n, zbs, zbn, true_or, or_true, not_false_eq_true, not_true_eq_false, ↓reduceIte, and_self, and_true, true_and, ie_0_1, ie_0_2, ie_0_3, ie_0_4, ie_0_5, ie_0_6, ie_0_7, ie_1_0, ie_1_2, ie_1_3, ie_1_4, ie_1_5, ie_1_6, ie_1_7, ie_2_0, ie_2_1, ie_2_3, ie_2_4, ie_2_5, ie_2_6, ie_2_7, ie_3_0, ie_3_1, ie_3_2, ie_3_4, ie_3_5, ie_3_6, ie_3_7, ie_4_0, ie_4_1, ie_4_2, ie_4_3, ie_4_5, ie_4_6, ie_4_7, ie_5_0, ie_5_1, ie_5_2, ie_5_3, ie_5_4, ie_5_6, ie_5_7, ie_6_0, ie_6_1, ie_6_2, ie_6_3, ie_6_4, ie_6_5, ie_6_7, ie_7_0, ie_7_1, ie_7_2, ie_7_3, ie_7_4, ie_7_5, ie_7_6, zt_50, zr_50_21, zt_64, zn_64, zo_64, zl_64, zq_64, zr_50_23, zt_66, zn_66, zo_66, zl_66, zq_66, q1, hz, hc, h1', h6', k0, r]
        · have k1 : (k < nI z') = False := eq_false (Int32.not_lt.mpr (hk.resolve_left k0))
          simp only [c_6008, e_6008_0, e_6008_1, e_6008_2, e_6008_5, e_6008_8, e_6008_9, e_6008_10, e_6008_13, e_6008_14, e_6008_15, e_6008_18, e_6008_19, e_6008_20, e_6008_21, e_6008_24, e_6008_25, e_6008_27, e_6008_30, e_6008_31, e_6008_32, e_6008_35, e_6008_36, e_6008_37, e_6008_40, e_6008_41, e_6008_43, e_6008_46, e_6008_47, e_6008_48, e_6008_51, e_6008_52, e_6008_53, e_6008_56, e_6008_57, e_6008_58, e_6008_61, e_6008_62, e_6008_64, e_6008_67, e_6008_68, e_6008_69, e_6008_72, e_6008_75, e_6008_76, e_6008_77, e_6008_78, e_6008_79, e_6008_80, e_6008_83, e_6008_84, e_6008_85, e_6008_88, e_6008_89, e_6008_90, e_6008_91, e_6008_92, e_6008_95, e_6008_96, e_6008_99, e_6008_100, e_6008_101, e_6008_102, e_6008_105, e_6008_106, e_6008_107, e_6008_108, e_6008_109, e_6008_112, e_6008_113, e_6008_116, e_6008_117, e_6008_118, e_6008_119, e_6008_122, e_6008_123, e_6008_124, e_6008_125, e_6008_128, e_6008_129, e_6008_130, e_6008_131, zk_int, zk_ref, zk_null, zk_none, zk_long, zisR_r, zisR_n, zcl_int, zcl_ref, zcl_null, zpush_s, zpush_n, zbs, zbn, true_or, or_true, not_false_eq_true, not_true_eq_false, ↓reduceIte, and_self, and_true, true_and, ie_0_1, ie_0_2, ie_0_3, ie_0_4, ie_0_5, ie_0_6, ie_0_7, ie_1_0, ie_1_2, ie_1_3, ie_1_4, ie_1_5, ie_1_6, ie_1_7, ie_2_0, ie_2_1, ie_2_3, ie_2_4, ie_2_5, ie_2_6, ie_2_7, ie_3_0, ie_3_1, ie_3_2, ie_3_4, ie_3_5, ie_3_6, ie_3_7, ie_4_0, ie_4_1, ie_4_2, ie_4_3, ie_4_5, ie_4_6, ie_4_7, ie_5_0, ie_5_1, ie_5_2, ie_5_3, ie_5_4, ie_5_6, ie_5_7, ie_6_0, ie_6_1, ie_6_2, ie_6_3, ie_6_4, ie_6_5, ie_6_7, ie_7_0, ie_7_1, ie_7_2, ie_7_3, ie_7_4, ie_7_5, ie_7_6, zt_50, zr_50_21, zt_64, zn_64, zo_64, zl_64, zq_64, zr_50_23, zt_66, zn_66, zo_66, zl_66, zq_66, q1, hz, hc, h1', h6', k0, k1, r]
      · have hcl := f_set (d := d + 38) (v := v) hj h100 g5 g2 hi
        have e100 : w.1 (34 + 2 * j) 1 - 100 = nI s' := by
          rw [g4]
          rcases (by omega : s' = 0 ∨ s' = 1 ∨ s' = 2 ∨ s' = 3) with rfl | rfl | rfl | rfl <;> decide
        rw [e100] at hcl
        have hm := set_R (d := d) (X := zuB w (34 + 2 * j + 1) (vp_updL (w.2 (34 + 2 * j + 1)) i (sLow (nI s') v))) (v := v) hj g2 hi g3 g6 h1 g1
        refine ⟨_, _, _, n, m, hcl, hm, zRl_sh A hj (fun a h1 h2 => rfl) (fun i hi => ⟨rfl, rfl, rfl, rfl⟩) (fun a h1 h2 h3 => ?_) (fun b hb => ?_) ?_⟩
        · rw [zB_n _ _ h2, zB_n _ _ h1]
        · rw [zB_s]
          show vp_updL ((zuB w (34 + 2 * j + 1) (vp_updL (w.2 (34 + 2 * j + 1)) i (sLow (nI s') v))).2 68) (160 * j + i) (sLow (nI s') v) b = w.2 68 b
          unfold vp_updL
          rw [if_neg (by omega), zB_n _ _ (by omega)]
        · refine Or.inr (Or.inl ⟨h1, s', z', g1, g2, g3, g4, g5, g6, fun b hb => ?_⟩)
          rw [zB_s, zB_n _ _ (by omega : 68 ≠ 34 + 2 * j + 1), zB_n _ _ (by omega : 34 + 2 * j + 1 ≠ 68), zB_s]
          unfold vp_updL
          by_cases hbi : b = i
          · subst hbi
            rw [if_pos rfl, if_pos rfl]
            exact ⟨rfl, sLow_i _ _⟩
          · rw [if_neg (by omega), if_neg hbi]
            exact g7 b hb
    · have f := f_set_b (d := d + 38) (w := w) (x := k) (v := v) hj (by rw [g3]; exact nI_ge (b := 100) (by omega) (by decide))
      have hne : ¬ w.1 (34 + 2 * j) 1 = -1 := by rw [g3]; exact nI_neN (by omega)
      rw [if_neg hne] at f
      have r := m_no (d := d + 39) (w := fRf w 2) (j := 2) (c := -2) (by decide) (by decide)
      have h1' : (fRf w 2).1 64 j = 2 := by rw [fRf_n (by decide)]; exact h1
      refine pr_f A (by decide) f (zKp_r _) ?_ (zKp_r _)
      simp only [c_6008, e_6008_0, e_6008_1, e_6008_2, e_6008_5, e_6008_8, e_6008_9, e_6008_10, e_6008_13, e_6008_14, e_6008_15, e_6008_18, e_6008_19, e_6008_20, e_6008_21, e_6008_24, e_6008_25, e_6008_27, e_6008_30, e_6008_31, e_6008_32, e_6008_35, e_6008_36, e_6008_37, e_6008_40, e_6008_41, e_6008_43, e_6008_46, e_6008_47, e_6008_48, e_6008_51, e_6008_52, e_6008_53, e_6008_56, e_6008_57, e_6008_58, e_6008_61, e_6008_62, e_6008_64, e_6008_67, e_6008_68, e_6008_69, e_6008_72, e_6008_75, e_6008_76, e_6008_77, e_6008_78, e_6008_79, e_6008_80, e_6008_83, e_6008_84, e_6008_85, e_6008_88, e_6008_89, e_6008_90, e_6008_91, e_6008_92, e_6008_95, e_6008_96, e_6008_99, e_6008_100, e_6008_101, e_6008_102, e_6008_105, e_6008_106, e_6008_107, e_6008_108, e_6008_109, e_6008_112, e_6008_113, e_6008_116, e_6008_117, e_6008_118, e_6008_119, e_6008_122, e_6008_123, e_6008_124, e_6008_125, e_6008_128, e_6008_129, e_6008_130, e_6008_131, zk_int, zk_ref, zk_null, zk_none, zk_long, zisR_r, zisR_n, zcl_int, zcl_ref, zcl_null, zpush_s, zpush_n, zbs, zbn, true_or, or_true, not_false_eq_true, not_true_eq_false, ↓reduceIte, and_self, and_true, true_and, ie_0_1, ie_0_2, ie_0_3, ie_0_4, ie_0_5, ie_0_6, ie_0_7, ie_1_0, ie_1_2, ie_1_3, ie_1_4, ie_1_5, ie_1_6, ie_1_7, ie_2_0, ie_2_1, ie_2_3, ie_2_4, ie_2_5, ie_2_6, ie_2_7, ie_3_0, ie_3_1, ie_3_2, ie_3_4, ie_3_5, ie_3_6, ie_3_7, ie_4_0, ie_4_1, ie_4_2, ie_4_3, ie_4_5, ie_4_6, ie_4_7, ie_5_0, ie_5_1, ie_5_2, ie_5_3, ie_5_4, ie_5_6, ie_5_7, ie_6_0, ie_6_1, ie_6_2, ie_6_3, ie_6_4, ie_6_5, ie_6_7, ie_7_0, ie_7_1, ie_7_2, ie_7_3, ie_7_4, ie_7_5, ie_7_6, zt_50, zr_50_21, zt_64, zn_64, zo_64, zl_64, zq_64, q1, hz, hc, h1', r]
end PQ
theorem zui_u {X : zM} {a k : Nat} {u v : Int32} : zui (zui X a k u) a k v = zui X a k v := by
  rw [zui_A (zui X a k u), zi_s, zui_A X a k u, zA_A, upd_u, ← zui_A]
def rTL (w : zM) (j z : Nat) : Nat → Int32 := fun i => if i < z then (w.2 (34 + 2 * j + 1) i).toInt32 else 0
section PS
variable {d n m : Nat} {w w1 w2 X : zM} {S : Nat → Int32} {L : Int32} {T V G : Nat → Int32}
theorem rTL_X {j z : Nat} (hj : j < 8) (g5 : w.1 (34 + 2 * j) 2 = nI z) (g2 : z ≤ 160) : rTx w (34 + 2 * j) z (rTL w j z) :=
  ⟨zSs_j hj, g5, g2, fun i hi => (if_pos hi).symm, fun i hi => if_neg (by omega)⟩
theorem m_wants_o {s : Int32} (hs : s < 0 ∨ 8 ≤ s) : cal (d + 1) 6015 [.ref 50, .int s] w = some (some (.int (-1)), w) := by
  have q1 := m_isShelf_o (d := d) (w := w) hs
  simp only [c_6015, e_6015_0, e_6015_1, e_6015_2, e_6015_5, e_6015_8, e_6015_9, e_6015_12, e_6015_13, e_6015_16, e_6015_17, e_6015_18, e_6015_19, e_6015_22, e_6015_24, e_6015_27, e_6015_28, e_6015_31, e_6015_32, e_6015_33, e_6015_36, e_6015_38, e_6015_41, e_6015_42, zk_int, zk_ref, zk_null, zk_none, zk_long, zisR_r, zisR_n, zcl_int, zcl_ref, zcl_null, zpush_s, zpush_n, zbs, zbn, true_or, or_true, not_false_eq_true, not_true_eq_false, ↓reduceIte, and_self, and_true, true_and, zt_50, q1]
theorem m_wants_0 {j : Nat} (hj : j < 8) (h : w.1 64 j = 0) : cal (d + 1) 6015 [.ref 50, .int (nI j)] w = some (some (.int (-3)), w) := by
  have q1 := m_isShelf (d := d) (w := w) hj
  have hz := zis_nI (j := j) (n := 8) hj (by decide)
  have hc := nI_clamp (n := j) (by omega)
  simp only [c_6015, e_6015_0, e_6015_1, e_6015_2, e_6015_5, e_6015_8, e_6015_9, e_6015_12, e_6015_13, e_6015_16, e_6015_17, e_6015_18, e_6015_19, e_6015_22, e_6015_24, e_6015_27, e_6015_28, e_6015_31, e_6015_32, e_6015_33, e_6015_36, e_6015_38, e_6015_41, e_6015_42, zk_int, zk_ref, zk_null, zk_none, zk_long, zisR_r, zisR_n, zcl_int, zcl_ref, zcl_null, zpush_s, zpush_n, zbs, zbn, true_or, or_true, not_false_eq_true, not_true_eq_false, ↓reduceIte, and_self, and_true, true_and, ie_0_1, ie_0_2, ie_0_3, ie_0_4, ie_0_5, ie_0_6, ie_0_7, ie_1_0, ie_1_2, ie_1_3, ie_1_4, ie_1_5, ie_1_6, ie_1_7, ie_2_0, ie_2_1, ie_2_3, ie_2_4, ie_2_5, ie_2_6, ie_2_7, ie_3_0, ie_3_1, ie_3_2, ie_3_4, ie_3_5, ie_3_6, ie_3_7, ie_4_0, ie_4_1, ie_4_2, ie_4_3, ie_4_5, ie_4_6, ie_4_7, ie_5_0, ie_5_1, ie_5_2, ie_5_3, ie_5_4, ie_5_6, ie_5_7, ie_6_0, ie_6_1, ie_6_2, ie_6_3, ie_6_4, ie_6_5, ie_6_7, ie_7_0, ie_7_1, ie_7_2, ie_7_3, ie_7_4, ie_7_5, ie_7_6, zt_50, zr_50_21, zt_64, zn_64, zo_64, zl_64, zq_64, q1, hz, hc, h]
theorem m_wants_1 {j : Nat} (hj : j < 8) (h : w.1 64 j = 1) : cal (d + 1) 6015 [.ref 50, .int (nI j)] w = some (some (.int 0), w) := by
  have q1 := m_isShelf (d := d) (w := w) hj
  have hz := zis_nI (j := j) (n := 8) hj (by decide)
  have hc := nI_clamp (n := j) (by omega)
  simp only [c_6015, e_6015_0, e_6015_1, e_6015_2, e_6015_5, e_6015_8, e_6015_9, e_6015_12, e_6015_13, e_6015_16, e_6015_17, e_6015_18, e_6015_19, e_6015_22, e_6015_24, e_6015_27, e_6015_28, e_6015_31, e_6015_32, e_6015_33, e_6015_36, e_6015_38, e_6015_41, e_6015_42, zk_int, zk_ref, zk_null, zk_none, zk_long, zisR_r, zisR_n, zcl_int, zcl_ref, zcl_null, zpush_s, zpush_n, zbs, zbn, true_or, or_true, not_false_eq_true, not_true_eq_false, ↓reduceIte, and_self, and_true, true_and, ie_0_1, ie_0_2, ie_0_3, ie_0_4, ie_0_5, ie_0_6, ie_0_7, ie_1_0, ie_1_2, ie_1_3, ie_1_4, ie_1_5, ie_1_6, ie_1_7, ie_2_0, ie_2_1, ie_2_3, ie_2_4, ie_2_5, ie_2_6, ie_2_7, ie_3_0, ie_3_1, ie_3_2, ie_3_4, ie_3_5, ie_3_6, ie_3_7, ie_4_0, ie_4_1, ie_4_2, ie_4_3, ie_4_5, ie_4_6, ie_4_7, ie_5_0, ie_5_1, ie_5_2, ie_5_3, ie_5_4, ie_5_6, ie_5_7, ie_6_0, ie_6_1, ie_6_2, ie_6_3, ie_6_4, ie_6_5, ie_6_7, ie_7_0, ie_7_1, ie_7_2, ie_7_3, ie_7_4, ie_7_5, ie_7_6, zt_50, zr_50_21, zt_64, zn_64, zo_64, zl_64, zq_64, q1, hz, hc, h]
theorem m_wants_2 {j : Nat} (hj : j < 8) (h : w.1 64 j = 2) : cal (d + 1) 6015 [.ref 50, .int (nI j)] w = some (some (.int (-2)), w) := by
  have q1 := m_isShelf (d := d) (w := w) hj
  have hz := zis_nI (j := j) (n := 8) hj (by decide)
  have hc := nI_clamp (n := j) (by omega)
  simp only [c_6015, e_6015_0, e_6015_1, e_6015_2, e_6015_5, e_6015_8, e_6015_9, e_6015_12, e_6015_13, e_6015_16, e_6015_17, e_6015_18, e_6015_19, e_6015_22, e_6015_24, e_6015_27, e_6015_28, e_6015_31, e_6015_32, e_6015_33, e_6015_36, e_6015_38, e_6015_41, e_6015_42, zk_int, zk_ref, zk_null, zk_none, zk_long, zisR_r, zisR_n, zcl_int, zcl_ref, zcl_null, zpush_s, zpush_n, zbs, zbn, true_or, or_true, not_false_eq_true, not_true_eq_false, ↓reduceIte, and_self, and_true, true_and, ie_0_1, ie_0_2, ie_0_3, ie_0_4, ie_0_5, ie_0_6, ie_0_7, ie_1_0, ie_1_2, ie_1_3, ie_1_4, ie_1_5, ie_1_6, ie_1_7, ie_2_0, ie_2_1, ie_2_3, ie_2_4, ie_2_5, ie_2_6, ie_2_7, ie_3_0, ie_3_1, ie_3_2, ie_3_4, ie_3_5, ie_3_6, ie_3_7, ie_4_0, ie_4_1, ie_4_2, ie_4_3, ie_4_5, ie_4_6, ie_4_7, ie_5_0, ie_5_1, ie_5_2, ie_5_3, ie_5_4, ie_5_6, ie_5_7, ie_6_0, ie_6_1, ie_6_2, ie_6_3, ie_6_4, ie_6_5, ie_6_7, ie_7_0, ie_7_1, ie_7_2, ie_7_3, ie_7_4, ie_7_5, ie_7_6, zt_50, zr_50_21, zt_64, zn_64, zo_64, zl_64, zq_64, q1, hz, hc, h]
theorem m_intAt {j i : Nat} (hj : j < 8) (hi : i < 160) : cal d 6016 [.ref 50, .int (nI j), .int (nI i)] w = some (some (.int (w.2 68 (160 * j + i)).toInt32), w) := by
  have hz2 := zis_nI (j := 160 * j + i) (n := 1280) (by omega) (by decide)
  have hc2 := nI_clamp (n := 160 * j + i) (by omega)
  simp only [c_6016, e_6016_0, e_6016_1, e_6016_4, e_6016_7, e_6016_8, e_6016_9, e_6016_10, e_6016_11, e_6016_12, e_6016_13, zk_int, zk_ref, zk_null, zk_none, zk_long, zisR_r, zisR_n, zcl_int, zcl_ref, zcl_null, zpush_s, zpush_n, zbs, zbn, true_or, or_true, not_false_eq_true, not_true_eq_false, ↓reduceIte, and_self, and_true, true_and, ie_0_1, ie_0_2, ie_0_3, ie_0_4, ie_0_5, ie_0_6, ie_0_7, ie_1_0, ie_1_2, ie_1_3, ie_1_4, ie_1_5, ie_1_6, ie_1_7, ie_2_0, ie_2_1, ie_2_3, ie_2_4, ie_2_5, ie_2_6, ie_2_7, ie_3_0, ie_3_1, ie_3_2, ie_3_4, ie_3_5, ie_3_6, ie_3_7, ie_4_0, ie_4_1, ie_4_2, ie_4_3, ie_4_5, ie_4_6, ie_4_7, ie_5_0, ie_5_1, ie_5_2, ie_5_3, ie_5_4, ie_5_6, ie_5_7, ie_6_0, ie_6_1, ie_6_2, ie_6_3, ie_6_4, ie_6_5, ie_6_7, ie_7_0, ie_7_1, ie_7_2, ie_7_3, ie_7_4, ie_7_5, ie_7_6, zt_50, zr_50_25, zt_68, zn_68, zq_68, ix160, hz2, hc2]
theorem m_ro_l {j z : Nat} {x : Int32} {L : Nat → Int32} (hj : j < 8) (hz : z ≤ 160) (hm : m ≤ z) (h1 : X.1 50 1 = nI m) (hL : ∀ i, i < z → (X.2 68 (160 * j + i)).toInt32 = L i) : ∀ r v, v + r = m → ∃ v', den (d + 1) 6080 36 [some (.ref 50), some (.int (nI j)), some (.int x), some (.int 0), some (.int (nI v))] [] (zui X 50 42 (-1)) = den (d + 1) 6080 86 [some (.ref 50), some (.int (nI j)), some (.int x), some (.int 0), some (.int v')] [] (zui X 50 42 (fBad L r v)) := by
  have e42 : ∀ a, (zui X 50 42 a).1 50 42 = a := fun a => by rw [zi_s, u_eq]
  have e1 : ∀ a, (zui X 50 42 a).1 50 1 = nI m := fun a => by rw [zi_s, u_ne (by decide)]; exact h1
  intro r
  induction r with
  | zero =>
    intro v hv
    have e : v = m := by omega
    subst e
    have g1 := nI_le_n (Nat.le_refl v) (by omega)
    refine ⟨nI v, ?_⟩
    rw [e_6080_36]
    simp only [e_6080_38, e_6080_39, e_6080_42, zk_int, zk_ref, zk_null, zk_none, zk_long, zisR_r, zisR_n, zcl_int, zcl_ref, zcl_null, zpush_s, zpush_n, zbs, zbn, true_or, or_true, not_false_eq_true, not_true_eq_false, ↓reduceIte, and_self, and_true, true_and, zt_50, e1, g1]
    rfl
  | succ r ih =>
    intro v hv
    have hvm : v < m := by omega
    have g1 := nI_ge_f hvm (by omega)
    have q := m_intAt (d := d) (w := zui X 50 42 (-1)) (i := v) hj (by omega)
    have q' : cal d 6016 [.ref 50, .int (nI j), .int (nI v)] (zui X 50 42 (-1)) = some (some (.int (L v)), zui X 50 42 (-1)) := by
      rw [← hL v (by omega)]; exact q
    have em : ((-1 : Int32) = -1) = True := eq_true rfl
    have nv : (nI v = -1) = False := eq_false (nI_neN (by omega))
    by_cases hb : 0 ≤ L v ∧ L v ≤ 3
    · obtain ⟨v', h⟩ := ih (v + 1) (by omega)
      refine ⟨v', ?_⟩
      have eb : fBad L (r + 1) v = fBad L r (v + 1) := if_pos hb
      have b1 := Int32.not_lt.mpr hb.1
      have b2 := hb.2
      rw [eb, ← h, e_6080_36]
      simp only [e_6080_38, e_6080_39, e_6080_42, e_6080_45, e_6080_46, e_6080_49, e_6080_50, e_6080_53, e_6080_54, e_6080_55, e_6080_57, e_6080_60, e_6080_63, e_6080_64, e_6080_65, e_6080_67, e_6080_70, e_6080_71, e_6080_80, e_6080_83, zk_int, zk_ref, zk_null, zk_none, zk_long, zisR_r, zisR_n, zcl_int, zcl_ref, zcl_null, zpush_s, zpush_n, zbs, zbn, true_or, or_true, not_false_eq_true, not_true_eq_false, ↓reduceIte, and_self, and_true, true_and, zt_50, e1, e42, g1, q', em, b1, b2, nI_1]
    · have eb : fBad L (r + 1) v = nI v := if_neg hb
      have key : den (d + 1) 6080 36 [some (.ref 50), some (.int (nI j)), some (.int x), some (.int 0), some (.int (nI v))] [] (zui X 50 42 (-1)) = den (d + 1) 6080 36 [some (.ref 50), some (.int (nI j)), some (.int x), some (.int 0), some (.int (nI (v + 1)))] [] (zui X 50 42 (nI v)) := by
        rw [e_6080_36]
        by_cases b1 : L v < 0
        · simp only [e_6080_38, e_6080_39, e_6080_42, e_6080_45, e_6080_46, e_6080_49, e_6080_50, e_6080_53, e_6080_54, e_6080_55, e_6080_57, e_6080_60, e_6080_63, e_6080_64, e_6080_65, e_6080_67, e_6080_70, e_6080_71, e_6080_74, e_6080_75, e_6080_77, e_6080_80, e_6080_83, zk_int, zk_ref, zk_null, zk_none, zk_long, zisR_r, zisR_n, zcl_int, zcl_ref, zcl_null, zpush_s, zpush_n, zbs, zbn, true_or, or_true, not_false_eq_true, not_true_eq_false, ↓reduceIte, and_self, and_true, true_and, zt_50, e1, e42, g1, q', em, b1, nI_1, zui_u]
        · have b2 : ¬ L v ≤ 3 := fun h => hb ⟨Int32.not_lt.mp b1, h⟩
          simp only [e_6080_38, e_6080_39, e_6080_42, e_6080_45, e_6080_46, e_6080_49, e_6080_50, e_6080_53, e_6080_54, e_6080_55, e_6080_57, e_6080_60, e_6080_63, e_6080_64, e_6080_65, e_6080_67, e_6080_70, e_6080_71, e_6080_74, e_6080_75, e_6080_77, e_6080_80, e_6080_83, zk_int, zk_ref, zk_null, zk_none, zk_long, zisR_r, zisR_n, zcl_int, zcl_ref, zcl_null, zpush_s, zpush_n, zbs, zbn, true_or, or_true, not_false_eq_true, not_true_eq_false, ↓reduceIte, and_self, and_true, true_and, zt_50, e1, e42, g1, q', em, b1, b2, nI_1, zui_u]
      refine ⟨nI (v + 1), ?_⟩
      rw [key, eb, e_6080_36]
      by_cases g2 : nI m ≤ nI (v + 1)
      · simp only [e_6080_38, e_6080_39, e_6080_42, zk_int, zk_ref, zk_null, zk_none, zk_long, zisR_r, zisR_n, zcl_int, zcl_ref, zcl_null, zpush_s, zpush_n, zbs, zbn, true_or, or_true, not_false_eq_true, not_true_eq_false, ↓reduceIte, and_self, and_true, true_and, zt_50, e1, g2]
      · simp only [e_6080_38, e_6080_39, e_6080_42, e_6080_45, e_6080_46, e_6080_49, e_6080_50, zk_int, zk_ref, zk_null, zk_none, zk_long, zisR_r, zisR_n, zcl_int, zcl_ref, zcl_null, zpush_s, zpush_n, zbs, zbn, true_or, or_true, not_false_eq_true, not_true_eq_false, ↓reduceIte, and_self, and_true, true_and, zt_50, e1, e42, g2, nv]
theorem kp_42 {v : Int32} : zKp w (zui w 50 42 v) := by
  rw [zui_A]
  exact zKp_50 (fun k hk => u_ne (by omega))
end PS
