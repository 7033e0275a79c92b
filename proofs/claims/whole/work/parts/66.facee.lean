section FN
variable {d n m : Nat} {w : zM}
theorem f_sta_0 : cal (d + 2) 5044 [.ref 0, .int 0] w = some (some (.int (w.1 1 3)), w) := by
  simp only [c_5044, e_5044_0, e_5044_1, e_5044_52, e_5044_53, e_5044_56, e_5044_59, e_5044_60, e_5044_61, e_5044_64, e_5044_67, e_5044_68, e_5044_69, e_5044_72, e_5044_75, e_5044_76, e_5044_77, e_5044_80, e_5044_81, e_5044_84, e_5044_85, e_5044_86, e_5044_89, e_5044_90, e_5044_93, e_5044_94, e_5044_95, e_5044_98, e_5044_101, e_5044_102, e_5044_103, e_5044_106, e_5044_109, e_5044_110, e_5044_111, e_5044_114, e_5044_117, e_5044_118, e_5044_119, e_5044_122, e_5044_125, e_5044_126, e_5044_127, e_5044_129, e_5044_132, e_5044_133, e_5044_135, e_5044_138, e_5044_139, e_5044_142, e_5044_143, e_5044_145, e_5044_146, e_5044_149, e_5044_152, e_5044_153, c_1002, e_1002_0, e_1002_1, e_1002_4, zk_int, zk_ref, zk_null, zk_none, zk_long, zisR_r, zisR_n, zcl_int, zcl_ref, zcl_null, zpush_s, zpush_n, zbs, zbn, true_or, or_true, not_false_eq_true, not_true_eq_false, ↓reduceIte, and_self, and_true, true_and, zt_0, zr_0_0, zt_1]
theorem f_sta_1 : cal (d + 2) 5044 [.ref 0, .int 1] w = some (some (.int (w.1 1 4)), w) := by
  have k0 : ((1 : Int32) = 0) = False := eq_false (by decide)
  simp only [c_5044, e_5044_0, e_5044_1, e_5044_52, e_5044_53, e_5044_56, e_5044_59, e_5044_60, e_5044_61, e_5044_64, e_5044_67, e_5044_68, e_5044_69, e_5044_72, e_5044_75, e_5044_76, e_5044_77, e_5044_80, e_5044_81, e_5044_84, e_5044_85, e_5044_86, e_5044_89, e_5044_90, e_5044_93, e_5044_94, e_5044_95, e_5044_98, e_5044_101, e_5044_102, e_5044_103, e_5044_106, e_5044_109, e_5044_110, e_5044_111, e_5044_114, e_5044_117, e_5044_118, e_5044_119, e_5044_122, e_5044_125, e_5044_126, e_5044_127, e_5044_129, e_5044_132, e_5044_133, e_5044_135, e_5044_138, e_5044_139, e_5044_142, e_5044_143, e_5044_145, e_5044_146, e_5044_149, e_5044_152, e_5044_153, c_1003, e_1003_0, e_1003_1, e_1003_4, zk_int, zk_ref, zk_null, zk_none, zk_long, zisR_r, zisR_n, zcl_int, zcl_ref, zcl_null, zpush_s, zpush_n, zbs, zbn, true_or, or_true, not_false_eq_true, not_true_eq_false, ↓reduceIte, and_self, and_true, true_and, zt_0, zr_0_0, zt_1, k0]
theorem f_sta_5 : cal (d + 2) 5044 [.ref 0, .int 5] w = some (some (.int (w.1 1 5)), w) := by
  have k0 : ((5 : Int32) = 0) = False := eq_false (by decide)
  have k1 : ((5 : Int32) = 1) = False := eq_false (by decide)
  have k2 : ((5 : Int32) = 2) = False := eq_false (by decide)
  have k3 : ((5 : Int32) = 3) = False := eq_false (by decide)
  have k4 : ((5 : Int32) = 4) = False := eq_false (by decide)
  simp only [c_5044, e_5044_0, e_5044_1, e_5044_52, e_5044_53, e_5044_56, e_5044_59, e_5044_60, e_5044_61, e_5044_64, e_5044_67, e_5044_68, e_5044_69, e_5044_72, e_5044_75, e_5044_76, e_5044_77, e_5044_80, e_5044_81, e_5044_84, e_5044_85, e_5044_86, e_5044_89, e_5044_90, e_5044_93, e_5044_94, e_5044_95, e_5044_98, e_5044_101, e_5044_102, e_5044_103, e_5044_106, e_5044_109, e_5044_110, e_5044_111, e_5044_114, e_5044_117, e_5044_118, e_5044_119, e_5044_122, e_5044_125, e_5044_126, e_5044_127, e_5044_129, e_5044_132, e_5044_133, e_5044_135, e_5044_138, e_5044_139, e_5044_142, e_5044_143, e_5044_145, e_5044_146, e_5044_149, e_5044_152, e_5044_153, c_1004, e_1004_0, e_1004_1, e_1004_4, zk_int, zk_ref, zk_null, zk_none, zk_long, zisR_r, zisR_n, zcl_int, zcl_ref, zcl_null, zpush_s, zpush_n, zbs, zbn, true_or, or_true, not_false_eq_true, not_true_eq_false, ↓reduceIte, and_self, and_true, true_and, zt_0, zr_0_0, zt_1, k0, k1, k2, k3, k4]
theorem f_sta_6 : cal (d + 2) 5044 [.ref 0, .int 6] w = some (some (.int (w.1 1 6)), w) := by
  have k0 : ((6 : Int32) = 0) = False := eq_false (by decide)
  have k1 : ((6 : Int32) = 1) = False := eq_false (by decide)
  have k2 : ((6 : Int32) = 2) = False := eq_false (by decide)
  have k3 : ((6 : Int32) = 3) = False := eq_false (by decide)
  have k4 : ((6 : Int32) = 4) = False := eq_false (by decide)
  have k5 : ((6 : Int32) = 5) = False := eq_false (by decide)
  simp only [c_5044, e_5044_0, e_5044_1, e_5044_52, e_5044_53, e_5044_56, e_5044_59, e_5044_60, e_5044_61, e_5044_64, e_5044_67, e_5044_68, e_5044_69, e_5044_72, e_5044_75, e_5044_76, e_5044_77, e_5044_80, e_5044_81, e_5044_84, e_5044_85, e_5044_86, e_5044_89, e_5044_90, e_5044_93, e_5044_94, e_5044_95, e_5044_98, e_5044_101, e_5044_102, e_5044_103, e_5044_106, e_5044_109, e_5044_110, e_5044_111, e_5044_114, e_5044_117, e_5044_118, e_5044_119, e_5044_122, e_5044_125, e_5044_126, e_5044_127, e_5044_129, e_5044_132, e_5044_133, e_5044_135, e_5044_138, e_5044_139, e_5044_142, e_5044_143, e_5044_145, e_5044_146, e_5044_149, e_5044_152, e_5044_153, c_1005, e_1005_0, e_1005_1, e_1005_4, zk_int, zk_ref, zk_null, zk_none, zk_long, zisR_r, zisR_n, zcl_int, zcl_ref, zcl_null, zpush_s, zpush_n, zbs, zbn, true_or, or_true, not_false_eq_true, not_true_eq_false, ↓reduceIte, and_self, and_true, true_and, zt_0, zr_0_0, zt_1, k0, k1, k2, k3, k4, k5]
theorem f_sta_7 : cal (d + 2) 5044 [.ref 0, .int 7] w = some (some (.int (w.1 1 7)), w) := by
  have k0 : ((7 : Int32) = 0) = False := eq_false (by decide)
  have k1 : ((7 : Int32) = 1) = False := eq_false (by decide)
  have k2 : ((7 : Int32) = 2) = False := eq_false (by decide)
  have k3 : ((7 : Int32) = 3) = False := eq_false (by decide)
  have k4 : ((7 : Int32) = 4) = False := eq_false (by decide)
  have k5 : ((7 : Int32) = 5) = False := eq_false (by decide)
  have k6 : ((7 : Int32) = 6) = False := eq_false (by decide)
  simp only [c_5044, e_5044_0, e_5044_1, e_5044_52, e_5044_53, e_5044_56, e_5044_59, e_5044_60, e_5044_61, e_5044_64, e_5044_67, e_5044_68, e_5044_69, e_5044_72, e_5044_75, e_5044_76, e_5044_77, e_5044_80, e_5044_81, e_5044_84, e_5044_85, e_5044_86, e_5044_89, e_5044_90, e_5044_93, e_5044_94, e_5044_95, e_5044_98, e_5044_101, e_5044_102, e_5044_103, e_5044_106, e_5044_109, e_5044_110, e_5044_111, e_5044_114, e_5044_117, e_5044_118, e_5044_119, e_5044_122, e_5044_125, e_5044_126, e_5044_127, e_5044_129, e_5044_132, e_5044_133, e_5044_135, e_5044_138, e_5044_139, e_5044_142, e_5044_143, e_5044_145, e_5044_146, e_5044_149, e_5044_152, e_5044_153, c_1006, e_1006_0, e_1006_1, e_1006_4, zk_int, zk_ref, zk_null, zk_none, zk_long, zisR_r, zisR_n, zcl_int, zcl_ref, zcl_null, zpush_s, zpush_n, zbs, zbn, true_or, or_true, not_false_eq_true, not_true_eq_false, ↓reduceIte, and_self, and_true, true_and, zt_0, zr_0_0, zt_1, k0, k1, k2, k3, k4, k5, k6]
end FN
