def zMc (w : zM) (T V G : Nat → Int32) (n m : Nat) : Prop := zMs w T V G ∧ zMn w n m ∧ zRg T V G n m
section MB
variable {d n m : Nat} {w : zM} {T V G : Nat → Int32}
theorem m_wouldOf {t : Nat} (C : zMc w T V G n m) (ht : t < n) (hg : ∀ s, t = s + 1 → cal (d + 1) 6047 [.ref 50, .int (nI s)] w = some (some (.int (sGv T V G s)), w)) : cal (d + 2) 6046 [.ref 50, .int (nI t)] w = some (some (.int (sWould T G t (sSvc V (sSrv T t)) (sAhd (sGv T V G) t))), w) := by
  obtain ⟨A, -, R⟩ := C
  have hn8 : n ≤ 8 := R.2.2.2.2.2.2.2.1
  have hm4 : m ≤ 4 := R.2.2.2.2.2.2.2.2
  have ht8 : t < 8 := by omega
  obtain ⟨a0, a1, a2, a3, a4⟩ := A.1 t ht8
  have rt := R.1 t ht
  obtain ⟨s1, s2⟩ := sSrv_b R ht
  have hz := zis_nI ht8 (by decide)
  have hc := nI_clamp (n := t) (by omega)
  have qc := m_custom (d := d + 1) A ht8
  have qs := m_service (d := d + 1) A ht8 (by omega) s2
  have ql := m_lacks (d := d) A ht8 (by omega) s2 (sSvc_b R s1)
  have qm := m_middle (d := d + 1) A
  rcases kind_c rt.1 with h | h | h | h | h | h | h
  · have e : sWould T G t (sSvc V (sSrv T t)) (sAhd (sGv T V G) t) = T (5 * t + 3) := by unfold sWould; rw [if_pos h]
    rw [e]
    simp only [c_6046, e_6046_0, e_6046_1, e_6046_4, e_6046_5, e_6046_6, e_6046_44, e_6046_45, e_6046_46, e_6046_49, e_6046_50, e_6046_51, e_6046_52, e_6046_55, e_6046_56, e_6046_57, e_6046_58, e_6046_61, e_6046_62, e_6046_63, e_6046_64, e_6046_66, e_6046_67, e_6046_68, e_6046_69, e_6046_72, e_6046_73, e_6046_76, e_6046_77, e_6046_79, e_6046_80, e_6046_81, e_6046_82, e_6046_83, e_6046_84, e_6046_85, e_6046_88, e_6046_89, e_6046_90, e_6046_93, e_6046_94, e_6046_97, e_6046_98, e_6046_99, e_6046_100, e_6046_101, e_6046_102, e_6046_103, e_6046_106, e_6046_107, e_6046_108, e_6046_109, e_6046_112, e_6046_113, e_6046_115, e_6046_116, e_6046_117, e_6046_118, e_6046_119, e_6046_122, e_6046_123, e_6046_124, e_6046_127, e_6046_128, e_6046_131, e_6046_132, e_6046_133, e_6046_134, e_6046_135, e_6046_138, e_6046_139, e_6046_140, e_6046_141, e_6046_144, e_6046_145, e_6046_148, e_6046_149, e_6046_150, e_6046_151, e_6046_152, e_6046_155, e_6046_156, e_6046_157, e_6046_160, e_6046_161, e_6046_164, e_6046_165, e_6046_166, e_6046_167, e_6046_168, e_6046_169, e_6046_172, e_6046_173, e_6046_174, e_6046_175, e_6046_176, e_6046_179, e_6046_180, e_6046_181, e_6046_182, e_6046_183, e_6046_186, e_6046_187, e_6046_190, e_6046_191, e_6046_192, e_6046_193, e_6046_196, e_6046_197, e_6046_198, zk_int, zk_ref, zk_null, zk_none, zk_long, zisR_r, zisR_n, zcl_int, zcl_ref, zcl_null, zpush_s, zpush_n, zbs, zbn, true_or, or_true, not_false_eq_true, not_true_eq_false, ↓reduceIte, and_self, and_true, true_and, zt_50, zr_50_9, zt_52, zn_52, zo_52, zl_52, zq_52, zr_50_12, zt_55, zn_55, zo_55, zl_55, zq_55, hz, hc, a0, a3, h, ie_0_1, ie_0_2, ie_0_3, ie_0_4, ie_0_5, ie_0_6, ie_0_7, ie_1_0, ie_1_2, ie_1_3, ie_1_4, ie_1_5, ie_1_6, ie_1_7, ie_2_0, ie_2_1, ie_2_3, ie_2_4, ie_2_5, ie_2_6, ie_2_7, ie_3_0, ie_3_1, ie_3_2, ie_3_4, ie_3_5, ie_3_6, ie_3_7, ie_4_0, ie_4_1, ie_4_2, ie_4_3, ie_4_5, ie_4_6, ie_4_7, ie_5_0, ie_5_1, ie_5_2, ie_5_3, ie_5_4, ie_5_6, ie_5_7, ie_6_0, ie_6_1, ie_6_2, ie_6_3, ie_6_4, ie_6_5, ie_6_7, ie_7_0, ie_7_1, ie_7_2, ie_7_3, ie_7_4, ie_7_5, ie_7_6]
  · have e : sWould T G t (sSvc V (sSrv T t)) (sAhd (sGv T V G) t) = sCus T t := by unfold sWould; rw [h]; rfl
    rw [e]
    simp only [c_6046, e_6046_0, e_6046_1, e_6046_4, e_6046_5, e_6046_6, e_6046_44, e_6046_45, e_6046_46, e_6046_49, e_6046_50, e_6046_51, e_6046_52, e_6046_55, e_6046_56, e_6046_57, e_6046_58, e_6046_61, e_6046_62, e_6046_63, e_6046_64, e_6046_66, e_6046_67, e_6046_68, e_6046_69, e_6046_72, e_6046_73, e_6046_76, e_6046_77, e_6046_79, e_6046_80, e_6046_81, e_6046_82, e_6046_83, e_6046_84, e_6046_85, e_6046_88, e_6046_89, e_6046_90, e_6046_93, e_6046_94, e_6046_97, e_6046_98, e_6046_99, e_6046_100, e_6046_101, e_6046_102, e_6046_103, e_6046_106, e_6046_107, e_6046_108, e_6046_109, e_6046_112, e_6046_113, e_6046_115, e_6046_116, e_6046_117, e_6046_118, e_6046_119, e_6046_122, e_6046_123, e_6046_124, e_6046_127, e_6046_128, e_6046_131, e_6046_132, e_6046_133, e_6046_134, e_6046_135, e_6046_138, e_6046_139, e_6046_140, e_6046_141, e_6046_144, e_6046_145, e_6046_148, e_6046_149, e_6046_150, e_6046_151, e_6046_152, e_6046_155, e_6046_156, e_6046_157, e_6046_160, e_6046_161, e_6046_164, e_6046_165, e_6046_166, e_6046_167, e_6046_168, e_6046_169, e_6046_172, e_6046_173, e_6046_174, e_6046_175, e_6046_176, e_6046_179, e_6046_180, e_6046_181, e_6046_182, e_6046_183, e_6046_186, e_6046_187, e_6046_190, e_6046_191, e_6046_192, e_6046_193, e_6046_196, e_6046_197, e_6046_198, zk_int, zk_ref, zk_null, zk_none, zk_long, zisR_r, zisR_n, zcl_int, zcl_ref, zcl_null, zpush_s, zpush_n, zbs, zbn, true_or, or_true, not_false_eq_true, not_true_eq_false, ↓reduceIte, and_self, and_true, true_and, zt_50, zr_50_9, zt_52, zn_52, zo_52, zl_52, zq_52, hz, hc, a0, h, ie_0_1, ie_0_2, ie_0_3, ie_0_4, ie_0_5, ie_0_6, ie_0_7, ie_1_0, ie_1_2, ie_1_3, ie_1_4, ie_1_5, ie_1_6, ie_1_7, ie_2_0, ie_2_1, ie_2_3, ie_2_4, ie_2_5, ie_2_6, ie_2_7, ie_3_0, ie_3_1, ie_3_2, ie_3_4, ie_3_5, ie_3_6, ie_3_7, ie_4_0, ie_4_1, ie_4_2, ie_4_3, ie_4_5, ie_4_6, ie_4_7, ie_5_0, ie_5_1, ie_5_2, ie_5_3, ie_5_4, ie_5_6, ie_5_7, ie_6_0, ie_6_1, ie_6_2, ie_6_3, ie_6_4, ie_6_5, ie_6_7, ie_7_0, ie_7_1, ie_7_2, ie_7_3, ie_7_4, ie_7_5, ie_7_6, qc]
  · have e : sWould T G t (sSvc V (sSrv T t)) (sAhd (sGv T V G) t) = (T (5 * t + 1) + sCus T t + 9) / 10 * 10 - T (5 * t + 1) := by unfold sWould; rw [h]; rfl
    rw [e, rnd_m rt.2.1 (sCus_b R ht).2]
    by_cases h0 : sCus T t + T (5 * t + 1) - (sCus T t + T (5 * t + 1)) / 10 * 10 = 0
    · rw [if_pos h0]
      simp only [c_6046, e_6046_0, e_6046_1, e_6046_4, e_6046_5, e_6046_6, e_6046_44, e_6046_45, e_6046_46, e_6046_49, e_6046_50, e_6046_51, e_6046_52, e_6046_55, e_6046_56, e_6046_57, e_6046_58, e_6046_61, e_6046_62, e_6046_63, e_6046_64, e_6046_66, e_6046_67, e_6046_68, e_6046_69, e_6046_72, e_6046_73, e_6046_76, e_6046_77, e_6046_79, e_6046_80, e_6046_81, e_6046_82, e_6046_83, e_6046_84, e_6046_85, e_6046_88, e_6046_89, e_6046_90, e_6046_93, e_6046_94, e_6046_97, e_6046_98, e_6046_99, e_6046_100, e_6046_101, e_6046_102, e_6046_103, e_6046_106, e_6046_107, e_6046_108, e_6046_109, e_6046_112, e_6046_113, e_6046_115, e_6046_116, e_6046_117, e_6046_118, e_6046_119, e_6046_122, e_6046_123, e_6046_124, e_6046_127, e_6046_128, e_6046_131, e_6046_132, e_6046_133, e_6046_134, e_6046_135, e_6046_138, e_6046_139, e_6046_140, e_6046_141, e_6046_144, e_6046_145, e_6046_148, e_6046_149, e_6046_150, e_6046_151, e_6046_152, e_6046_155, e_6046_156, e_6046_157, e_6046_160, e_6046_161, e_6046_164, e_6046_165, e_6046_166, e_6046_167, e_6046_168, e_6046_169, e_6046_172, e_6046_173, e_6046_174, e_6046_175, e_6046_176, e_6046_179, e_6046_180, e_6046_181, e_6046_182, e_6046_183, e_6046_186, e_6046_187, e_6046_190, e_6046_191, e_6046_192, e_6046_193, e_6046_196, e_6046_197, e_6046_198, zk_int, zk_ref, zk_null, zk_none, zk_long, zisR_r, zisR_n, zcl_int, zcl_ref, zcl_null, zpush_s, zpush_n, zbs, zbn, true_or, or_true, not_false_eq_true, not_true_eq_false, ↓reduceIte, and_self, and_true, true_and, zt_50, zr_50_9, zt_52, zn_52, zo_52, zl_52, zq_52, zr_50_10, zt_53, zn_53, zo_53, zl_53, zq_53, hz, hc, a0, a1, h, ie_0_1, ie_0_2, ie_0_3, ie_0_4, ie_0_5, ie_0_6, ie_0_7, ie_1_0, ie_1_2, ie_1_3, ie_1_4, ie_1_5, ie_1_6, ie_1_7, ie_2_0, ie_2_1, ie_2_3, ie_2_4, ie_2_5, ie_2_6, ie_2_7, ie_3_0, ie_3_1, ie_3_2, ie_3_4, ie_3_5, ie_3_6, ie_3_7, ie_4_0, ie_4_1, ie_4_2, ie_4_3, ie_4_5, ie_4_6, ie_4_7, ie_5_0, ie_5_1, ie_5_2, ie_5_3, ie_5_4, ie_5_6, ie_5_7, ie_6_0, ie_6_1, ie_6_2, ie_6_3, ie_6_4, ie_6_5, ie_6_7, ie_7_0, ie_7_1, ie_7_2, ie_7_3, ie_7_4, ie_7_5, ie_7_6, qc, i32_10, h0]
    · rw [if_neg h0]
      simp only [c_6046, e_6046_0, e_6046_1, e_6046_4, e_6046_5, e_6046_6, e_6046_44, e_6046_45, e_6046_46, e_6046_49, e_6046_50, e_6046_51, e_6046_52, e_6046_55, e_6046_56, e_6046_57, e_6046_58, e_6046_61, e_6046_62, e_6046_63, e_6046_64, e_6046_66, e_6046_67, e_6046_68, e_6046_69, e_6046_72, e_6046_73, e_6046_76, e_6046_77, e_6046_79, e_6046_80, e_6046_81, e_6046_82, e_6046_83, e_6046_84, e_6046_85, e_6046_88, e_6046_89, e_6046_90, e_6046_93, e_6046_94, e_6046_97, e_6046_98, e_6046_99, e_6046_100, e_6046_101, e_6046_102, e_6046_103, e_6046_106, e_6046_107, e_6046_108, e_6046_109, e_6046_112, e_6046_113, e_6046_115, e_6046_116, e_6046_117, e_6046_118, e_6046_119, e_6046_122, e_6046_123, e_6046_124, e_6046_127, e_6046_128, e_6046_131, e_6046_132, e_6046_133, e_6046_134, e_6046_135, e_6046_138, e_6046_139, e_6046_140, e_6046_141, e_6046_144, e_6046_145, e_6046_148, e_6046_149, e_6046_150, e_6046_151, e_6046_152, e_6046_155, e_6046_156, e_6046_157, e_6046_160, e_6046_161, e_6046_164, e_6046_165, e_6046_166, e_6046_167, e_6046_168, e_6046_169, e_6046_172, e_6046_173, e_6046_174, e_6046_175, e_6046_176, e_6046_179, e_6046_180, e_6046_181, e_6046_182, e_6046_183, e_6046_186, e_6046_187, e_6046_190, e_6046_191, e_6046_192, e_6046_193, e_6046_196, e_6046_197, e_6046_198, zk_int, zk_ref, zk_null, zk_none, zk_long, zisR_r, zisR_n, zcl_int, zcl_ref, zcl_null, zpush_s, zpush_n, zbs, zbn, true_or, or_true, not_false_eq_true, not_true_eq_false, ↓reduceIte, and_self, and_true, true_and, zt_50, zr_50_9, zt_52, zn_52, zo_52, zl_52, zq_52, zr_50_10, zt_53, zn_53, zo_53, zl_53, zq_53, hz, hc, a0, a1, h, ie_0_1, ie_0_2, ie_0_3, ie_0_4, ie_0_5, ie_0_6, ie_0_7, ie_1_0, ie_1_2, ie_1_3, ie_1_4, ie_1_5, ie_1_6, ie_1_7, ie_2_0, ie_2_1, ie_2_3, ie_2_4, ie_2_5, ie_2_6, ie_2_7, ie_3_0, ie_3_1, ie_3_2, ie_3_4, ie_3_5, ie_3_6, ie_3_7, ie_4_0, ie_4_1, ie_4_2, ie_4_3, ie_4_5, ie_4_6, ie_4_7, ie_5_0, ie_5_1, ie_5_2, ie_5_3, ie_5_4, ie_5_6, ie_5_7, ie_6_0, ie_6_1, ie_6_2, ie_6_3, ie_6_4, ie_6_5, ie_6_7, ie_7_0, ie_7_1, ie_7_2, ie_7_3, ie_7_4, ie_7_5, ie_7_6, qc, i32_10, h0]
  · have e : sWould T G t (sSvc V (sSrv T t)) (sAhd (sGv T V G) t) = sCus T t + sSvc V (sSrv T t) * T (5 * t + 2) := by unfold sWould; rw [h]; rfl
    rw [e]
    simp only [c_6046, e_6046_0, e_6046_1, e_6046_4, e_6046_5, e_6046_6, e_6046_44, e_6046_45, e_6046_46, e_6046_49, e_6046_50, e_6046_51, e_6046_52, e_6046_55, e_6046_56, e_6046_57, e_6046_58, e_6046_61, e_6046_62, e_6046_63, e_6046_64, e_6046_66, e_6046_67, e_6046_68, e_6046_69, e_6046_72, e_6046_73, e_6046_76, e_6046_77, e_6046_79, e_6046_80, e_6046_81, e_6046_82, e_6046_83, e_6046_84, e_6046_85, e_6046_88, e_6046_89, e_6046_90, e_6046_93, e_6046_94, e_6046_97, e_6046_98, e_6046_99, e_6046_100, e_6046_101, e_6046_102, e_6046_103, e_6046_106, e_6046_107, e_6046_108, e_6046_109, e_6046_112, e_6046_113, e_6046_115, e_6046_116, e_6046_117, e_6046_118, e_6046_119, e_6046_122, e_6046_123, e_6046_124, e_6046_127, e_6046_128, e_6046_131, e_6046_132, e_6046_133, e_6046_134, e_6046_135, e_6046_138, e_6046_139, e_6046_140, e_6046_141, e_6046_144, e_6046_145, e_6046_148, e_6046_149, e_6046_150, e_6046_151, e_6046_152, e_6046_155, e_6046_156, e_6046_157, e_6046_160, e_6046_161, e_6046_164, e_6046_165, e_6046_166, e_6046_167, e_6046_168, e_6046_169, e_6046_172, e_6046_173, e_6046_174, e_6046_175, e_6046_176, e_6046_179, e_6046_180, e_6046_181, e_6046_182, e_6046_183, e_6046_186, e_6046_187, e_6046_190, e_6046_191, e_6046_192, e_6046_193, e_6046_196, e_6046_197, e_6046_198, zk_int, zk_ref, zk_null, zk_none, zk_long, zisR_r, zisR_n, zcl_int, zcl_ref, zcl_null, zpush_s, zpush_n, zbs, zbn, true_or, or_true, not_false_eq_true, not_true_eq_false, ↓reduceIte, and_self, and_true, true_and, zt_50, zr_50_9, zt_52, zn_52, zo_52, zl_52, zq_52, zr_50_11, zt_54, zn_54, zo_54, zl_54, zq_54, hz, hc, a0, a2, h, ie_0_1, ie_0_2, ie_0_3, ie_0_4, ie_0_5, ie_0_6, ie_0_7, ie_1_0, ie_1_2, ie_1_3, ie_1_4, ie_1_5, ie_1_6, ie_1_7, ie_2_0, ie_2_1, ie_2_3, ie_2_4, ie_2_5, ie_2_6, ie_2_7, ie_3_0, ie_3_1, ie_3_2, ie_3_4, ie_3_5, ie_3_6, ie_3_7, ie_4_0, ie_4_1, ie_4_2, ie_4_3, ie_4_5, ie_4_6, ie_4_7, ie_5_0, ie_5_1, ie_5_2, ie_5_3, ie_5_4, ie_5_6, ie_5_7, ie_6_0, ie_6_1, ie_6_2, ie_6_3, ie_6_4, ie_6_5, ie_6_7, ie_7_0, ie_7_1, ie_7_2, ie_7_3, ie_7_4, ie_7_5, ie_7_6, qc, qs]
  · have e : sWould T G t (sSvc V (sSrv T t)) (sAhd (sGv T V G) t) = T (5 * t + 1) * sMid G / 100 := by unfold sWould; rw [h]; rfl
    rw [e]
    simp only [c_6046, e_6046_0, e_6046_1, e_6046_4, e_6046_5, e_6046_6, e_6046_44, e_6046_45, e_6046_46, e_6046_49, e_6046_50, e_6046_51, e_6046_52, e_6046_55, e_6046_56, e_6046_57, e_6046_58, e_6046_61, e_6046_62, e_6046_63, e_6046_64, e_6046_66, e_6046_67, e_6046_68, e_6046_69, e_6046_72, e_6046_73, e_6046_76, e_6046_77, e_6046_79, e_6046_80, e_6046_81, e_6046_82, e_6046_83, e_6046_84, e_6046_85, e_6046_88, e_6046_89, e_6046_90, e_6046_93, e_6046_94, e_6046_97, e_6046_98, e_6046_99, e_6046_100, e_6046_101, e_6046_102, e_6046_103, e_6046_106, e_6046_107, e_6046_108, e_6046_109, e_6046_112, e_6046_113, e_6046_115, e_6046_116, e_6046_117, e_6046_118, e_6046_119, e_6046_122, e_6046_123, e_6046_124, e_6046_127, e_6046_128, e_6046_131, e_6046_132, e_6046_133, e_6046_134, e_6046_135, e_6046_138, e_6046_139, e_6046_140, e_6046_141, e_6046_144, e_6046_145, e_6046_148, e_6046_149, e_6046_150, e_6046_151, e_6046_152, e_6046_155, e_6046_156, e_6046_157, e_6046_160, e_6046_161, e_6046_164, e_6046_165, e_6046_166, e_6046_167, e_6046_168, e_6046_169, e_6046_172, e_6046_173, e_6046_174, e_6046_175, e_6046_176, e_6046_179, e_6046_180, e_6046_181, e_6046_182, e_6046_183, e_6046_186, e_6046_187, e_6046_190, e_6046_191, e_6046_192, e_6046_193, e_6046_196, e_6046_197, e_6046_198, zk_int, zk_ref, zk_null, zk_none, zk_long, zisR_r, zisR_n, zcl_int, zcl_ref, zcl_null, zpush_s, zpush_n, zbs, zbn, true_or, or_true, not_false_eq_true, not_true_eq_false, ↓reduceIte, and_self, and_true, true_and, zt_50, zr_50_9, zt_52, zn_52, zo_52, zl_52, zq_52, zr_50_10, zt_53, zn_53, zo_53, zl_53, zq_53, hz, hc, a0, a1, h, ie_0_1, ie_0_2, ie_0_3, ie_0_4, ie_0_5, ie_0_6, ie_0_7, ie_1_0, ie_1_2, ie_1_3, ie_1_4, ie_1_5, ie_1_6, ie_1_7, ie_2_0, ie_2_1, ie_2_3, ie_2_4, ie_2_5, ie_2_6, ie_2_7, ie_3_0, ie_3_1, ie_3_2, ie_3_4, ie_3_5, ie_3_6, ie_3_7, ie_4_0, ie_4_1, ie_4_2, ie_4_3, ie_4_5, ie_4_6, ie_4_7, ie_5_0, ie_5_1, ie_5_2, ie_5_3, ie_5_4, ie_5_6, ie_5_7, ie_6_0, ie_6_1, ie_6_2, ie_6_3, ie_6_4, ie_6_5, ie_6_7, ie_7_0, ie_7_1, ie_7_2, ie_7_3, ie_7_4, ie_7_5, ie_7_6, qm, i32_100]
  · have e : sWould T G t (sSvc V (sSrv T t)) (sAhd (sGv T V G) t) = if sCus T t < sAhd (sGv T V G) t then sAhd (sGv T V G) t else sCus T t := by unfold sWould; rw [h]; rfl
    rw [e]
    have hw : cal (d + 2) 6046 [.ref 50, .int (nI t)] w = if (sAhd (sGv T V G) t) ≤ sCus T t then some (some (.int (sCus T t)), w) else some (some (.int (sAhd (sGv T V G) t)), w) := by
      cases t with
      | zero =>
        have z0 : nI 0 = 0 := nI_0
        rw [z0] at hz hc qc ⊢
        simp only [c_6046, e_6046_0, e_6046_1, e_6046_4, e_6046_5, e_6046_6, e_6046_44, e_6046_45, e_6046_46, e_6046_49, e_6046_50, e_6046_51, e_6046_52, e_6046_55, e_6046_56, e_6046_57, e_6046_58, e_6046_61, e_6046_62, e_6046_63, e_6046_64, e_6046_66, e_6046_67, e_6046_68, e_6046_69, e_6046_72, e_6046_73, e_6046_76, e_6046_77, e_6046_79, e_6046_80, e_6046_81, e_6046_82, e_6046_83, e_6046_84, e_6046_85, e_6046_88, e_6046_89, e_6046_90, e_6046_93, e_6046_94, e_6046_97, e_6046_98, e_6046_99, e_6046_100, e_6046_101, e_6046_102, e_6046_103, e_6046_106, e_6046_107, e_6046_108, e_6046_109, e_6046_112, e_6046_113, e_6046_115, e_6046_116, e_6046_117, e_6046_118, e_6046_119, e_6046_122, e_6046_123, e_6046_124, e_6046_127, e_6046_128, e_6046_131, e_6046_132, e_6046_133, e_6046_134, e_6046_135, e_6046_138, e_6046_139, e_6046_140, e_6046_141, e_6046_144, e_6046_145, e_6046_148, e_6046_149, e_6046_150, e_6046_151, e_6046_152, e_6046_155, e_6046_156, e_6046_157, e_6046_160, e_6046_161, e_6046_164, e_6046_165, e_6046_166, e_6046_167, e_6046_168, e_6046_169, e_6046_172, e_6046_173, e_6046_174, e_6046_175, e_6046_176, e_6046_179, e_6046_180, e_6046_181, e_6046_182, e_6046_183, e_6046_186, e_6046_187, e_6046_190, e_6046_191, e_6046_192, e_6046_193, e_6046_196, e_6046_197, e_6046_198, zk_int, zk_ref, zk_null, zk_none, zk_long, zisR_r, zisR_n, zcl_int, zcl_ref, zcl_null, zpush_s, zpush_n, zbs, zbn, true_or, or_true, not_false_eq_true, not_true_eq_false, ↓reduceIte, and_self, and_true, true_and, zt_50, zr_50_9, zt_52, zn_52, zo_52, zl_52, zq_52, hz, hc, a0, h, ie_0_1, ie_0_2, ie_0_3, ie_0_4, ie_0_5, ie_0_6, ie_0_7, ie_1_0, ie_1_2, ie_1_3, ie_1_4, ie_1_5, ie_1_6, ie_1_7, ie_2_0, ie_2_1, ie_2_3, ie_2_4, ie_2_5, ie_2_6, ie_2_7, ie_3_0, ie_3_1, ie_3_2, ie_3_4, ie_3_5, ie_3_6, ie_3_7, ie_4_0, ie_4_1, ie_4_2, ie_4_3, ie_4_5, ie_4_6, ie_4_7, ie_5_0, ie_5_1, ie_5_2, ie_5_3, ie_5_4, ie_5_6, ie_5_7, ie_6_0, ie_6_1, ie_6_2, ie_6_3, ie_6_4, ie_6_5, ie_6_7, ie_7_0, ie_7_1, ie_7_2, ie_7_3, ie_7_4, ie_7_5, ie_7_6, qc]
        rfl
      | succ s =>
        have g0 : (nI (s + 1) = 0) = False := nI_ne0' (by omega) (by omega)
        have gs := hg s rfl
        have np := nI_pred s
        simp only [c_6046, e_6046_0, e_6046_1, e_6046_4, e_6046_5, e_6046_6, e_6046_44, e_6046_45, e_6046_46, e_6046_49, e_6046_50, e_6046_51, e_6046_52, e_6046_55, e_6046_56, e_6046_57, e_6046_58, e_6046_61, e_6046_62, e_6046_63, e_6046_64, e_6046_66, e_6046_67, e_6046_68, e_6046_69, e_6046_72, e_6046_73, e_6046_76, e_6046_77, e_6046_79, e_6046_80, e_6046_81, e_6046_82, e_6046_83, e_6046_84, e_6046_85, e_6046_88, e_6046_89, e_6046_90, e_6046_93, e_6046_94, e_6046_97, e_6046_98, e_6046_99, e_6046_100, e_6046_101, e_6046_102, e_6046_103, e_6046_106, e_6046_107, e_6046_108, e_6046_109, e_6046_112, e_6046_113, e_6046_115, e_6046_116, e_6046_117, e_6046_118, e_6046_119, e_6046_122, e_6046_123, e_6046_124, e_6046_127, e_6046_128, e_6046_131, e_6046_132, e_6046_133, e_6046_134, e_6046_135, e_6046_138, e_6046_139, e_6046_140, e_6046_141, e_6046_144, e_6046_145, e_6046_148, e_6046_149, e_6046_150, e_6046_151, e_6046_152, e_6046_155, e_6046_156, e_6046_157, e_6046_160, e_6046_161, e_6046_164, e_6046_165, e_6046_166, e_6046_167, e_6046_168, e_6046_169, e_6046_172, e_6046_173, e_6046_174, e_6046_175, e_6046_176, e_6046_179, e_6046_180, e_6046_181, e_6046_182, e_6046_183, e_6046_186, e_6046_187, e_6046_190, e_6046_191, e_6046_192, e_6046_193, e_6046_196, e_6046_197, e_6046_198, zk_int, zk_ref, zk_null, zk_none, zk_long, zisR_r, zisR_n, zcl_int, zcl_ref, zcl_null, zpush_s, zpush_n, zbs, zbn, true_or, or_true, not_false_eq_true, not_true_eq_false, ↓reduceIte, and_self, and_true, true_and, zt_50, zr_50_9, zt_52, zn_52, zo_52, zl_52, zq_52, hz, hc, a0, h, ie_0_1, ie_0_2, ie_0_3, ie_0_4, ie_0_5, ie_0_6, ie_0_7, ie_1_0, ie_1_2, ie_1_3, ie_1_4, ie_1_5, ie_1_6, ie_1_7, ie_2_0, ie_2_1, ie_2_3, ie_2_4, ie_2_5, ie_2_6, ie_2_7, ie_3_0, ie_3_1, ie_3_2, ie_3_4, ie_3_5, ie_3_6, ie_3_7, ie_4_0, ie_4_1, ie_4_2, ie_4_3, ie_4_5, ie_4_6, ie_4_7, ie_5_0, ie_5_1, ie_5_2, ie_5_3, ie_5_4, ie_5_6, ie_5_7, ie_6_0, ie_6_1, ie_6_2, ie_6_3, ie_6_4, ie_6_5, ie_6_7, ie_7_0, ie_7_1, ie_7_2, ie_7_3, ie_7_4, ie_7_5, ie_7_6, qc, g0, np, gs]
        rfl
    rw [hw]
    by_cases hx : sCus T t < sAhd (sGv T V G) t
    · rw [if_neg (Int32.not_le.mpr hx), if_pos hx]
    · rw [if_pos (Int32.not_lt.mp hx), if_neg hx]
  · have e : sWould T G t (sSvc V (sSrv T t)) (sAhd (sGv T V G) t) = if sCus T t + sSvc V (sSrv T t) * T (5 * t + 2) - T (5 * t + 3) * sLack (sSvc V (sSrv T t)) < 0 then 0 else sCus T t + sSvc V (sSrv T t) * T (5 * t + 2) - T (5 * t + 3) * sLack (sSvc V (sSrv T t)) := by unfold sWould; rw [h]; rfl
    rw [e]
    by_cases hx : sCus T t + sSvc V (sSrv T t) * T (5 * t + 2) - T (5 * t + 3) * sLack (sSvc V (sSrv T t)) < 0
    · have hx' : (0 ≤ sCus T t + sSvc V (sSrv T t) * T (5 * t + 2) - T (5 * t + 3) * sLack (sSvc V (sSrv T t))) = False := eq_false (Int32.not_le.mpr hx)
      rw [if_pos hx]
      simp only [c_6046, e_6046_0, e_6046_1, e_6046_4, e_6046_5, e_6046_6, e_6046_44, e_6046_45, e_6046_46, e_6046_49, e_6046_50, e_6046_51, e_6046_52, e_6046_55, e_6046_56, e_6046_57, e_6046_58, e_6046_61, e_6046_62, e_6046_63, e_6046_64, e_6046_66, e_6046_67, e_6046_68, e_6046_69, e_6046_72, e_6046_73, e_6046_76, e_6046_77, e_6046_79, e_6046_80, e_6046_81, e_6046_82, e_6046_83, e_6046_84, e_6046_85, e_6046_88, e_6046_89, e_6046_90, e_6046_93, e_6046_94, e_6046_97, e_6046_98, e_6046_99, e_6046_100, e_6046_101, e_6046_102, e_6046_103, e_6046_106, e_6046_107, e_6046_108, e_6046_109, e_6046_112, e_6046_113, e_6046_115, e_6046_116, e_6046_117, e_6046_118, e_6046_119, e_6046_122, e_6046_123, e_6046_124, e_6046_127, e_6046_128, e_6046_131, e_6046_132, e_6046_133, e_6046_134, e_6046_135, e_6046_138, e_6046_139, e_6046_140, e_6046_141, e_6046_144, e_6046_145, e_6046_148, e_6046_149, e_6046_150, e_6046_151, e_6046_152, e_6046_155, e_6046_156, e_6046_157, e_6046_160, e_6046_161, e_6046_164, e_6046_165, e_6046_166, e_6046_167, e_6046_168, e_6046_169, e_6046_172, e_6046_173, e_6046_174, e_6046_175, e_6046_176, e_6046_179, e_6046_180, e_6046_181, e_6046_182, e_6046_183, e_6046_186, e_6046_187, e_6046_190, e_6046_191, e_6046_192, e_6046_193, e_6046_196, e_6046_197, e_6046_198, zk_int, zk_ref, zk_null, zk_none, zk_long, zisR_r, zisR_n, zcl_int, zcl_ref, zcl_null, zpush_s, zpush_n, zbs, zbn, true_or, or_true, not_false_eq_true, not_true_eq_false, ↓reduceIte, and_self, and_true, true_and, zt_50, zr_50_9, zt_52, zn_52, zo_52, zl_52, zq_52, zr_50_12, zt_55, zn_55, zo_55, zl_55, zq_55, zr_50_11, zt_54, zn_54, zo_54, zl_54, zq_54, hz, hc, a0, a2, a3, h, ie_0_1, ie_0_2, ie_0_3, ie_0_4, ie_0_5, ie_0_6, ie_0_7, ie_1_0, ie_1_2, ie_1_3, ie_1_4, ie_1_5, ie_1_6, ie_1_7, ie_2_0, ie_2_1, ie_2_3, ie_2_4, ie_2_5, ie_2_6, ie_2_7, ie_3_0, ie_3_1, ie_3_2, ie_3_4, ie_3_5, ie_3_6, ie_3_7, ie_4_0, ie_4_1, ie_4_2, ie_4_3, ie_4_5, ie_4_6, ie_4_7, ie_5_0, ie_5_1, ie_5_2, ie_5_3, ie_5_4, ie_5_6, ie_5_7, ie_6_0, ie_6_1, ie_6_2, ie_6_3, ie_6_4, ie_6_5, ie_6_7, ie_7_0, ie_7_1, ie_7_2, ie_7_3, ie_7_4, ie_7_5, ie_7_6, qc, qs, ql, hx, hx']
    · have hx' : (0 ≤ sCus T t + sSvc V (sSrv T t) * T (5 * t + 2) - T (5 * t + 3) * sLack (sSvc V (sSrv T t))) = True := eq_true (Int32.not_lt.mp hx)
      rw [if_neg hx]
      simp only [c_6046, e_6046_0, e_6046_1, e_6046_4, e_6046_5, e_6046_6, e_6046_44, e_6046_45, e_6046_46, e_6046_49, e_6046_50, e_6046_51, e_6046_52, e_6046_55, e_6046_56, e_6046_57, e_6046_58, e_6046_61, e_6046_62, e_6046_63, e_6046_64, e_6046_66, e_6046_67, e_6046_68, e_6046_69, e_6046_72, e_6046_73, e_6046_76, e_6046_77, e_6046_79, e_6046_80, e_6046_81, e_6046_82, e_6046_83, e_6046_84, e_6046_85, e_6046_88, e_6046_89, e_6046_90, e_6046_93, e_6046_94, e_6046_97, e_6046_98, e_6046_99, e_6046_100, e_6046_101, e_6046_102, e_6046_103, e_6046_106, e_6046_107, e_6046_108, e_6046_109, e_6046_112, e_6046_113, e_6046_115, e_6046_116, e_6046_117, e_6046_118, e_6046_119, e_6046_122, e_6046_123, e_6046_124, e_6046_127, e_6046_128, e_6046_131, e_6046_132, e_6046_133, e_6046_134, e_6046_135, e_6046_138, e_6046_139, e_6046_140, e_6046_141, e_6046_144, e_6046_145, e_6046_148, e_6046_149, e_6046_150, e_6046_151, e_6046_152, e_6046_155, e_6046_156, e_6046_157, e_6046_160, e_6046_161, e_6046_164, e_6046_165, e_6046_166, e_6046_167, e_6046_168, e_6046_169, e_6046_172, e_6046_173, e_6046_174, e_6046_175, e_6046_176, e_6046_179, e_6046_180, e_6046_181, e_6046_182, e_6046_183, e_6046_186, e_6046_187, e_6046_190, e_6046_191, e_6046_192, e_6046_193, e_6046_196, e_6046_197, e_6046_198, zk_int, zk_ref, zk_null, zk_none, zk_long, zisR_r, zisR_n, zcl_int, zcl_ref, zcl_null, zpush_s, zpush_n, zbs, zbn, true_or, or_true, not_false_eq_true, not_true_eq_false, ↓reduceIte, and_self, and_true, true_and, zt_50, zr_50_9, zt_52, zn_52, zo_52, zl_52, zq_52, zr_50_12, zt_55, zn_55, zo_55, zl_55, zq_55, zr_50_11, zt_54, zn_54, zo_54, zl_54, zq_54, hz, hc, a0, a2, a3, h, ie_0_1, ie_0_2, ie_0_3, ie_0_4, ie_0_5, ie_0_6, ie_0_7, ie_1_0, ie_1_2, ie_1_3, ie_1_4, ie_1_5, ie_1_6, ie_1_7, ie_2_0, ie_2_1, ie_2_3, ie_2_4, ie_2_5, ie_2_6, ie_2_7, ie_3_0, ie_3_1, ie_3_2, ie_3_4, ie_3_5, ie_3_6, ie_3_7, ie_4_0, ie_4_1, ie_4_2, ie_4_3, ie_4_5, ie_4_6, ie_4_7, ie_5_0, ie_5_1, ie_5_2, ie_5_3, ie_5_4, ie_5_6, ie_5_7, ie_6_0, ie_6_1, ie_6_2, ie_6_3, ie_6_4, ie_6_5, ie_6_7, ie_7_0, ie_7_1, ie_7_2, ie_7_3, ie_7_4, ie_7_5, ie_7_6, qc, qs, ql, hx, hx']
theorem m_givesOf_l {d : Nat} (C : zMc w T V G n m) : ∀ t d, t < n → cal (d + 2 * t + 3) 6047 [.ref 50, .int (nI t)] w = some (some (.int (sGv T V G t)), w) := by
  intro t
  induction t with
  | zero =>
    intro d ht
    have qw := m_wouldOf (d := d + 2 * 0) C ht (fun s hs => by omega)
    obtain ⟨A, -, R⟩ := C
    have hn8 : n ≤ 8 := R.2.2.2.2.2.2.2.1
    have ht8 : 0 < 8 := by omega
    obtain ⟨a0, a1, a2, a3, a4⟩ := A.1 0 ht8
    have hz := zis_nI ht8 (by decide)
    have hc := nI_clamp (n := 0) (by omega)
    rw [sGv_eq, (sGift_m R ht (sSvc_b R (sSrv_b R ht).1) (sAhd_b R ht)).2]
    simp only [c_6047, e_6047_0, e_6047_1, e_6047_4, e_6047_5, e_6047_6, e_6047_7, e_6047_10, e_6047_11, e_6047_13, e_6047_14, e_6047_15, e_6047_16, e_6047_17, e_6047_20, e_6047_21, e_6047_22, e_6047_23, e_6047_26, e_6047_27, e_6047_30, e_6047_31, zk_int, zk_ref, zk_null, zk_none, zk_long, zisR_r, zisR_n, zcl_int, zcl_ref, zcl_null, zpush_s, zpush_n, zbs, zbn, true_or, or_true, not_false_eq_true, not_true_eq_false, ↓reduceIte, and_self, and_true, true_and, zt_50, zr_50_10, zt_53, zn_53, zo_53, zl_53, zq_53, hz, hc, a1, A.2.2.2.1, i32_100, qw]
    split <;> rfl
  | succ t ih =>
    intro d ht
    have qw := m_wouldOf (d := d + 2 * (t + 1)) C ht (fun s hs => by
      have e : s = t := by omega
      subst e
      have i := ih d (by omega)
      have e2 : d + 2 * (s + 1) + 1 = d + 2 * s + 3 := by omega
      rw [e2]
      exact i)
    obtain ⟨A, -, R⟩ := C
    have hn8 : n ≤ 8 := R.2.2.2.2.2.2.2.1
    have ht8 : t + 1 < 8 := by omega
    obtain ⟨a0, a1, a2, a3, a4⟩ := A.1 (t + 1) ht8
    have hz := zis_nI ht8 (by decide)
    have hc := nI_clamp (n := t + 1) (by omega)
    rw [sGv_eq, (sGift_m R ht (sSvc_b R (sSrv_b R ht).1) (sAhd_b R ht)).2]
    generalize d + 2 * (t + 1) = D at qw ⊢
    simp only [c_6047, e_6047_0, e_6047_1, e_6047_4, e_6047_5, e_6047_6, e_6047_7, e_6047_10, e_6047_11, e_6047_13, e_6047_14, e_6047_15, e_6047_16, e_6047_17, e_6047_20, e_6047_21, e_6047_22, e_6047_23, e_6047_26, e_6047_27, e_6047_30, e_6047_31, zk_int, zk_ref, zk_null, zk_none, zk_long, zisR_r, zisR_n, zcl_int, zcl_ref, zcl_null, zpush_s, zpush_n, zbs, zbn, true_or, or_true, not_false_eq_true, not_true_eq_false, ↓reduceIte, and_self, and_true, true_and, zt_50, zr_50_10, zt_53, zn_53, zo_53, zl_53, zq_53, hz, hc, a1, A.2.2.2.1, i32_100, qw]
    split <;> rfl
theorem m_givesOf {t : Nat} (C : zMc w T V G n m) (ht : t < n) : cal (d + 17) 6047 [.ref 50, .int (nI t)] w = some (some (.int (sGv T V G t)), w) := by
  have hn8 : n ≤ 8 := C.2.2.2.2.2.2.2.2.2.1
  have e : d + 17 = (d + 2 * (7 - t)) + 2 * t + 3 := by omega
  rw [e]
  exact m_givesOf_l (d := d) C t _ ht
theorem m_wouldAt {t : Nat} (C : zMc w T V G n m) (ht : t < n) : cal (d + 18) 6046 [.ref 50, .int (nI t)] w = some (some (.int (sWould T G t (sSvc V (sSrv T t)) (sAhd (sGv T V G) t))), w) :=
  m_wouldOf (d := d + 16) C ht (fun s hs => m_givesOf C (by omega))
theorem m_allGiven (C : zMc w T V G n m) : cal (d + 18) 6050 [.ref 50] w = some (some (.int (zsum (sGv T V G) n)), w) := by
  have c1 := C.2.1.1
  have hn8 : n ≤ 8 := C.2.2.2.2.2.2.2.2.2.1
  have key : ∀ r j, j + r = n → den (d + 18) 6050 4 [some (.ref 50), some (.int (zsum (sGv T V G) j)), some (.int (nI j))] [] w = some (some (.int (zsum (sGv T V G) n)), w) := by
    intro r
    induction r with
    | zero =>
      intro j hj
      have e : j = n := by omega
      subst e
      have g1 := nI_le_n (Nat.le_refl j) (by omega)
      simp only [c_6050, e_6050_0, e_6050_1, e_6050_2, e_6050_3, e_6050_4, e_6050_5, e_6050_6, e_6050_9, e_6050_12, e_6050_13, e_6050_14, e_6050_15, e_6050_18, e_6050_19, e_6050_20, e_6050_23, e_6050_26, e_6050_27, zk_int, zk_ref, zk_null, zk_none, zk_long, zisR_r, zisR_n, zcl_int, zcl_ref, zcl_null, zpush_s, zpush_n, zbs, zbn, true_or, or_true, not_false_eq_true, not_true_eq_false, ↓reduceIte, and_self, and_true, true_and, zt_50, c1, g1]
    | succ r ih =>
      intro j hj
      have hjn : j < n := by omega
      have g1 := nI_ge_f hjn (by omega)
      have q1 := m_givesOf (d := d) C hjn
      have ih2 := ih (j + 1) (by omega)
      rw [e_6050_4]
      simp only [c_6050, e_6050_0, e_6050_1, e_6050_2, e_6050_3, e_6050_5, e_6050_6, e_6050_9, e_6050_12, e_6050_13, e_6050_14, e_6050_15, e_6050_18, e_6050_19, e_6050_20, e_6050_23, e_6050_26, e_6050_27, zk_int, zk_ref, zk_null, zk_none, zk_long, zisR_r, zisR_n, zcl_int, zcl_ref, zcl_null, zpush_s, zpush_n, zbs, zbn, true_or, or_true, not_false_eq_true, not_true_eq_false, ↓reduceIte, and_self, and_true, true_and, zt_50, c1, g1, q1, nI_1]
      rw [← zsum_s] at ih2
      exact ih2
  simp only [c_6050, e_6050_0, e_6050_1, e_6050_2, e_6050_3, e_6050_5, e_6050_6, e_6050_9, e_6050_12, e_6050_13, e_6050_14, e_6050_15, e_6050_18, e_6050_19, e_6050_20, e_6050_23, e_6050_26, e_6050_27, zk_int, zk_ref, zk_null, zk_none, zk_long, zisR_r, zisR_n, zcl_int, zcl_ref, zcl_null, zpush_s, zpush_n, zbs, zbn, true_or, or_true, not_false_eq_true, not_true_eq_false, ↓reduceIte, and_self, and_true, true_and]
  exact key n 0 (by omega)
theorem m_ownOf {y : Int32} (C : zMc w T V G n m) : cal (d + 18) 6052 [.ref 50, .int y] w = some (some (.int (zsum (sOwnF T (sGv T V G) y) n)), w) := by
  have c1 := C.2.1.1
  have hn8 : n ≤ 8 := C.2.2.2.2.2.2.2.2.2.1
  have key : ∀ r j, j + r = n → den (d + 18) 6052 4 [some (.ref 50), some (.int y), some (.int (zsum (sOwnF T (sGv T V G) y) j)), some (.int (nI j))] [] w = some (some (.int (zsum (sOwnF T (sGv T V G) y) n)), w) := by
    intro r
    induction r with
    | zero =>
      intro j hj
      have e : j = n := by omega
      subst e
      have g1 := nI_le_n (Nat.le_refl j) (by omega)
      simp only [c_6052, e_6052_0, e_6052_1, e_6052_2, e_6052_3, e_6052_4, e_6052_5, e_6052_6, e_6052_9, e_6052_12, e_6052_13, e_6052_16, e_6052_17, e_6052_18, e_6052_19, e_6052_22, e_6052_23, e_6052_24, e_6052_25, e_6052_28, e_6052_29, e_6052_30, e_6052_33, e_6052_36, e_6052_37, zk_int, zk_ref, zk_null, zk_none, zk_long, zisR_r, zisR_n, zcl_int, zcl_ref, zcl_null, zpush_s, zpush_n, zbs, zbn, true_or, or_true, not_false_eq_true, not_true_eq_false, ↓reduceIte, and_self, and_true, true_and, zt_50, c1, g1]
    | succ r ih =>
      intro j hj
      have hjn : j < n := by omega
      have g1 := nI_ge_f hjn (by omega)
      obtain ⟨a0, a1, a2, a3, a4⟩ := C.1.1 j (by omega)
      have hz := zis_nI (j := j) (n := 8) (by omega) (by decide)
      have hc := nI_clamp (n := j) (by omega)
      have q1 := m_givesOf (d := d) C hjn
      have ih2 := ih (j + 1) (by omega)
      rw [e_6052_4]
      by_cases hx : T (5 * j + 4) = y
      · have q3 : sOwnF T (sGv T V G) y j = sGv T V G j := if_pos hx
        simp only [c_6052, e_6052_0, e_6052_1, e_6052_2, e_6052_3, e_6052_5, e_6052_6, e_6052_9, e_6052_12, e_6052_13, e_6052_16, e_6052_17, e_6052_18, e_6052_19, e_6052_22, e_6052_23, e_6052_24, e_6052_25, e_6052_28, e_6052_29, e_6052_30, e_6052_33, e_6052_36, e_6052_37, zk_int, zk_ref, zk_null, zk_none, zk_long, zisR_r, zisR_n, zcl_int, zcl_ref, zcl_null, zpush_s, zpush_n, zbs, zbn, true_or, or_true, not_false_eq_true, not_true_eq_false, ↓reduceIte, and_self, and_true, true_and, zt_50, zr_50_13, zt_56, zn_56, zo_56, zl_56, zq_56, c1, g1, q1, nI_1, hz, hc, a4, hx]
        rw [← zsum_s, q3] at ih2
        exact ih2
      · have q3 : sOwnF T (sGv T V G) y j = 0 := if_neg hx
        simp only [c_6052, e_6052_0, e_6052_1, e_6052_2, e_6052_3, e_6052_5, e_6052_6, e_6052_9, e_6052_12, e_6052_13, e_6052_16, e_6052_17, e_6052_18, e_6052_19, e_6052_22, e_6052_23, e_6052_24, e_6052_25, e_6052_28, e_6052_29, e_6052_30, e_6052_33, e_6052_36, e_6052_37, zk_int, zk_ref, zk_null, zk_none, zk_long, zisR_r, zisR_n, zcl_int, zcl_ref, zcl_null, zpush_s, zpush_n, zbs, zbn, true_or, or_true, not_false_eq_true, not_true_eq_false, ↓reduceIte, and_self, and_true, true_and, zt_50, zr_50_13, zt_56, zn_56, zo_56, zl_56, zq_56, c1, g1, q1, nI_1, hz, hc, a4, hx]
        rw [← zsum_s, q3, Int32.add_zero] at ih2
        exact ih2
  simp only [c_6052, e_6052_0, e_6052_1, e_6052_2, e_6052_3, e_6052_5, e_6052_6, e_6052_9, e_6052_12, e_6052_13, e_6052_16, e_6052_17, e_6052_18, e_6052_19, e_6052_22, e_6052_23, e_6052_24, e_6052_25, e_6052_28, e_6052_29, e_6052_30, e_6052_33, e_6052_36, e_6052_37, zk_int, zk_ref, zk_null, zk_none, zk_long, zisR_r, zisR_n, zcl_int, zcl_ref, zcl_null, zpush_s, zpush_n, zbs, zbn, true_or, or_true, not_false_eq_true, not_true_eq_false, ↓reduceIte, and_self, and_true, true_and]
  exact key n 0 (by omega)
theorem m_tablesOf {y : Int32} (A : zMs w T V G) (hn : zMn w n m) : cal d 6028 [.ref 50, .int y] w = some (some (.int (zsum (sCntF T y) n)), w) := by
  have c1 := hn.1
  have hn8 : n ≤ 8 := hn.2.2.1
  have key : ∀ r j, j + r = n → den d 6028 4 [some (.ref 50), some (.int y), some (.int (zsum (sCntF T y) j)), some (.int (nI j))] [] w = some (some (.int (zsum (sCntF T y) n)), w) := by
    intro r
    induction r with
    | zero =>
      intro j hj
      have e : j = n := by omega
      subst e
      have g1 := nI_le_n (Nat.le_refl j) (by omega)
      simp only [c_6028, e_6028_0, e_6028_1, e_6028_2, e_6028_3, e_6028_4, e_6028_5, e_6028_6, e_6028_9, e_6028_12, e_6028_13, e_6028_16, e_6028_17, e_6028_18, e_6028_19, e_6028_22, e_6028_25, e_6028_28, e_6028_31, e_6028_32, zk_int, zk_ref, zk_null, zk_none, zk_long, zisR_r, zisR_n, zcl_int, zcl_ref, zcl_null, zpush_s, zpush_n, zbs, zbn, true_or, or_true, not_false_eq_true, not_true_eq_false, ↓reduceIte, and_self, and_true, true_and, zt_50, c1, g1]
    | succ r ih =>
      intro j hj
      have hjn : j < n := by omega
      have g1 := nI_ge_f hjn (by omega)
      obtain ⟨a0, a1, a2, a3, a4⟩ := A.1 j (by omega)
      have hz := zis_nI (j := j) (n := 8) (by omega) (by decide)
      have hc := nI_clamp (n := j) (by omega)
      have ih2 := ih (j + 1) (by omega)
      rw [e_6028_4]
      by_cases hx : T (5 * j + 4) = y
      · have q3 : sCntF T y j = 1 := if_pos hx
        simp only [c_6028, e_6028_0, e_6028_1, e_6028_2, e_6028_3, e_6028_5, e_6028_6, e_6028_9, e_6028_12, e_6028_13, e_6028_16, e_6028_17, e_6028_18, e_6028_19, e_6028_22, e_6028_25, e_6028_28, e_6028_31, e_6028_32, zk_int, zk_ref, zk_null, zk_none, zk_long, zisR_r, zisR_n, zcl_int, zcl_ref, zcl_null, zpush_s, zpush_n, zbs, zbn, true_or, or_true, not_false_eq_true, not_true_eq_false, ↓reduceIte, and_self, and_true, true_and, zt_50, zr_50_13, zt_56, zn_56, zo_56, zl_56, zq_56, c1, g1, nI_1, hz, hc, a4, hx]
        rw [← zsum_s, q3] at ih2
        exact ih2
      · have q3 : sCntF T y j = 0 := if_neg hx
        simp only [c_6028, e_6028_0, e_6028_1, e_6028_2, e_6028_3, e_6028_5, e_6028_6, e_6028_9, e_6028_12, e_6028_13, e_6028_16, e_6028_17, e_6028_18, e_6028_19, e_6028_22, e_6028_25, e_6028_28, e_6028_31, e_6028_32, zk_int, zk_ref, zk_null, zk_none, zk_long, zisR_r, zisR_n, zcl_int, zcl_ref, zcl_null, zpush_s, zpush_n, zbs, zbn, true_or, or_true, not_false_eq_true, not_true_eq_false, ↓reduceIte, and_self, and_true, true_and, zt_50, zr_50_13, zt_56, zn_56, zo_56, zl_56, zq_56, c1, g1, nI_1, hz, hc, a4, hx]
        rw [← zsum_s, q3, Int32.add_zero] at ih2
        exact ih2
  simp only [c_6028, e_6028_0, e_6028_1, e_6028_2, e_6028_3, e_6028_5, e_6028_6, e_6028_9, e_6028_12, e_6028_13, e_6028_16, e_6028_17, e_6028_18, e_6028_19, e_6028_22, e_6028_25, e_6028_28, e_6028_31, e_6028_32, zk_int, zk_ref, zk_null, zk_none, zk_long, zisR_r, zisR_n, zcl_int, zcl_ref, zcl_null, zpush_s, zpush_n, zbs, zbn, true_or, or_true, not_false_eq_true, not_true_eq_false, ↓reduceIte, and_self, and_true, true_and]
  exact key n 0 (by omega)
theorem m_allBills (A : zMs w T V G) (hn : zMn w n m) : cal d 6085 [.ref 50] w = some (some (.int (zsum (fun t => T (5 * t + 1)) n)), w) := by
  have c1 := hn.1
  have hn8 : n ≤ 8 := hn.2.2.1
  have key : ∀ r j, j + r = n → den d 6085 4 [some (.ref 50), some (.int (zsum (fun t => T (5 * t + 1)) j)), some (.int (nI j))] [] w = some (some (.int (zsum (fun t => T (5 * t + 1)) n)), w) := by
    intro r
    induction r with
    | zero =>
      intro j hj
      have e : j = n := by omega
      subst e
      have g1 := nI_le_n (Nat.le_refl j) (by omega)
      simp only [c_6085, e_6085_0, e_6085_1, e_6085_2, e_6085_3, e_6085_4, e_6085_5, e_6085_6, e_6085_9, e_6085_12, e_6085_13, e_6085_14, e_6085_17, e_6085_18, e_6085_19, e_6085_20, e_6085_21, e_6085_24, e_6085_27, e_6085_28, zk_int, zk_ref, zk_null, zk_none, zk_long, zisR_r, zisR_n, zcl_int, zcl_ref, zcl_null, zpush_s, zpush_n, zbs, zbn, true_or, or_true, not_false_eq_true, not_true_eq_false, ↓reduceIte, and_self, and_true, true_and, zt_50, c1, g1]
    | succ r ih =>
      intro j hj
      have hjn : j < n := by omega
      have g1 := nI_ge_f hjn (by omega)
      obtain ⟨a0, a1, a2, a3, a4⟩ := A.1 j (by omega)
      have hz := zis_nI (j := j) (n := 8) (by omega) (by decide)
      have hc := nI_clamp (n := j) (by omega)
      have ih2 := ih (j + 1) (by omega)
      rw [e_6085_4]
      simp only [c_6085, e_6085_0, e_6085_1, e_6085_2, e_6085_3, e_6085_5, e_6085_6, e_6085_9, e_6085_12, e_6085_13, e_6085_14, e_6085_17, e_6085_18, e_6085_19, e_6085_20, e_6085_21, e_6085_24, e_6085_27, e_6085_28, zk_int, zk_ref, zk_null, zk_none, zk_long, zisR_r, zisR_n, zcl_int, zcl_ref, zcl_null, zpush_s, zpush_n, zbs, zbn, true_or, or_true, not_false_eq_true, not_true_eq_false, ↓reduceIte, and_self, and_true, true_and, zt_50, zr_50_10, zt_53, zn_53, zo_53, zl_53, zq_53, c1, g1, nI_1, hz, hc, a1]
      rw [← zsum_s] at ih2
      exact ih2
  simp only [c_6085, e_6085_0, e_6085_1, e_6085_2, e_6085_3, e_6085_5, e_6085_6, e_6085_9, e_6085_12, e_6085_13, e_6085_14, e_6085_17, e_6085_18, e_6085_19, e_6085_20, e_6085_21, e_6085_24, e_6085_27, e_6085_28, zk_int, zk_ref, zk_null, zk_none, zk_long, zisR_r, zisR_n, zcl_int, zcl_ref, zcl_null, zpush_s, zpush_n, zbs, zbn, true_or, or_true, not_false_eq_true, not_true_eq_false, ↓reduceIte, and_self, and_true, true_and]
  exact key n 0 (by omega)
end MB
