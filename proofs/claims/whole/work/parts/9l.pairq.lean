section QE
variable {d n m j z p p0 : Nat} {w w1 w2 X X0 : zM} {L N : Nat → Int32} {T V G : Nat → Int32}
theorem mBd_i {b g : Nat} (hb : b < 5) (h : rBy (L p) = nI b) (hg : g < 5) (B : mBd L n m p g) : g = b := by
  have hx := rByF_i 5 0 rfl b hb h
  by_cases e : g = b
  · exact e
  · have := (rWrd_n (L := L) (p := p) hg (fun e2 => e (by
      have := rFst_d ⟨g, hg⟩ ⟨b, hb⟩ (e2.symm.trans hx)
      exact congrArg Fin.val this))).2
    have B1 := B.1
    rw [this] at B1
    exact absurd B1 Bool.false_ne_true
theorem mBd_n {g : Nat} (h : rBy (L p) = -1) (hg : g < 5) : ¬ mBd L n m p g := fun B => by
  have := (rWrd_n (L := L) (p := p) hg (rByF_n 5 0 rfl h g (Nat.zero_le _) hg)).2
  have B1 := B.1
  rw [this] at B1
  exact absurd B1 Bool.false_ne_true
theorem rItm_n (h : rBy (L p) = -1) : rItm L n m p N = (false, p, p, N) := if_pos h
theorem rItm_i {b : Nat} (hb : b < 5) (h : rBy (L p) = nI b) : rItm L n m p N = if (rWrd L (rStr (2000 + b)) p).1 = true then (if (b = 0 ∧ ¬ m < 4) ∨ (b = 1 ∧ ¬ n < 8) then (false, (rWrd L (rStr (2000 + b)) p).2, p, N) else rNs L m b (rCnt b) 0 (rWrd L (rStr (2000 + b)) p).2 N) else (false, (rWrd L (rStr (2000 + b)) p).2, (rWrd L (rStr (2000 + b)) p).2, N) := by
  unfold rItm
  rw [h, if_neg (nI_neN (by omega)), nI_clamp (by omega)]
theorem rIx_i {b : Nat} (hb : b < 5) (h : rBy (L p) = nI b) : rIx L p = b := by
  unfold rIx
  rw [h, nI_clamp (by omega)]
theorem m_it_h {v : Int32} {Y : zM} (E : mE X j z p L) (hp : p < 900) (M : zMn X n m) (hb : ∀ g, g < 5 → ¬ mBd L n m p g) (q : cal (d + 1) 6031 [.ref 50] X = some (some (.int v), Y)) : cal (d + 2) 6037 [.ref 50] X = den (d + 2) 6037 48 [some (.ref 50), some (.int (nI p)), some (.int v), none, none] [] Y := by
  have l := m_it_0 (d := d) E hp M 5 0 rfl (fun g _ h => hb g h)
  rw [nI_0] at l
  have e30 := E.2.1
  simp only [c_6037, e_6037_0, e_6037_1, zk_int, zk_ref, zk_null, zk_none, zk_long, zisR_r, zisR_n, zcl_int, zcl_ref, zcl_null, zpush_s, zpush_n, zbs, zbn, true_or, or_true, not_false_eq_true, not_true_eq_false, ↓reduceIte, and_self, and_true, true_and, l]
  rw [e_6037_38 zisR_r]
  simp only [e_6037_39, e_6037_42, e_6037_43, e_6037_44, e_6037_47, zk_int, zk_ref, zk_null, zk_none, zk_long, zisR_r, zisR_n, zcl_int, zcl_ref, zcl_null, zpush_s, zpush_n, zbs, zbn, true_or, or_true, not_false_eq_true, not_true_eq_false, ↓reduceIte, and_self, and_true, true_and, zt_50, e30, q]
theorem m_item (E0 : mE X0 j z p0 L) (I : mI X0 X n m T V G) (h30 : X.1 50 30 = nI p) (hp : p < 700) : ∃ X', ((rItm L n m p N).1 = true → cal (d + 2) 6037 [.ref 50] X = some (some (.int 1), X') ∧ X'.1 50 30 = nI (rItm L n m p N).2.1 ∧ mI X0 X' (rTh (n, m, T, V, G) (rIx L p) (rItm L n m p N).2.2.2).1 (rTh (n, m, T, V, G) (rIx L p) (rItm L n m p N).2.2.2).2.1 (rTh (n, m, T, V, G) (rIx L p) (rItm L n m p N).2.2.2).2.2.1 (rTh (n, m, T, V, G) (rIx L p) (rItm L n m p N).2.2.2).2.2.2.1 (rTh (n, m, T, V, G) (rIx L p) (rItm L n m p N).2.2.2).2.2.2.2) ∧
    ((rItm L n m p N).1 = false → cal (d + 2) 6037 [.ref 50] X = some (some (.int 0), X') ∧ X'.1 50 33 = nI (rItm L n m p N).2.2.1 ∧ mFr X0 X') := by
  have E := mI_E (q := p) E0 I.1 h30
  have M := I.2.2
  have wd := m_word (d := d + 1) E (by omega)
  have em : ((-1 : Int32) = -1) = True := eq_true rfl
  rcases rBy_c (L p) with hb | ⟨b, hb5, hb⟩
  · rw [mWd_n hb, if_pos rfl] at wd
    have q := m_it_h (d := d) E (by omega) M (fun g hg => mBd_n hb hg) wd
    rw [rItm_n hb]
    refine ⟨zui X 50 33 (nI p), fun h => absurd h Bool.false_ne_true, fun _ => ⟨?_, by rw [zi_s, u_eq], mFr_t I.1 (mFr_50 (by omega))⟩⟩
    rw [q]
    simp only [e_6037_48, e_6037_49, e_6037_50, e_6037_53, e_6037_54, zk_int, zk_ref, zk_null, zk_none, zk_long, zisR_r, zisR_n, zcl_int, zcl_ref, zcl_null, zpush_s, zpush_n, zbs, zbn, true_or, or_true, not_false_eq_true, not_true_eq_false, ↓reduceIte, and_self, and_true, true_and, em]
  · rw [rItm_i hb5 hb, rIx_i hb5 hb]
    rw [mWd_i hb5 hb] at wd
    have ea : rWrd L (wl b) p = _ := rWrd_app 32 (rStr (2000 + b)) p
    have bnd := rWrd_b L (rStr (2000 + b)) p
    have hlen := rStr_len hb5
    have nb1 : (nI b = -1) = False := eq_false (nI_neN (by omega))
    by_cases ho : (rWrd L (rStr (2000 + b)) p).1 = true
    · rw [if_pos ho] at ea ⊢
      by_cases hf : (b = 0 ∧ ¬ m < 4) ∨ (b = 1 ∧ ¬ n < 8)
      · rw [if_pos hf]
        have l := m_it_1 (d := d) E (by omega) M hb5 ⟨ho, hf⟩ b 0 (by omega) (fun h _ h2 B => by have := mBd_i hb5 hb (by omega) B; omega)
        rw [nI_0] at l
        refine ⟨zui X 50 33 (nI p), fun h => absurd h Bool.false_ne_true, fun _ => ⟨?_, by rw [zi_s, u_eq], mFr_t I.1 (mFr_50 (by omega))⟩⟩
        simp only [c_6037, e_6037_0, e_6037_1, zk_int, zk_ref, zk_null, zk_none, zk_long, zisR_r, zisR_n, zcl_int, zcl_ref, zcl_null, zpush_s, zpush_n, zbs, zbn, true_or, or_true, not_false_eq_true, not_true_eq_false, ↓reduceIte, and_self, and_true, true_and, l]
      · rw [if_neg hf]
        have nB : ∀ g, g < 5 → ¬ mBd L n m p g := fun g hg B => by
          have := mBd_i hb5 hb hg B
          subst this
          exact hf B.2
        by_cases h32 : L (rWrd L (rStr (2000 + b)) p).2 = 32
        · rw [if_pos h32] at ea
          rw [ea, if_pos rfl] at wd
          dsimp only at wd
          rw [if_neg (nI_neN (by omega))] at wd
          have q := m_it_h (d := d) E (by omega) M nB wd
          generalize hp2 : (rWrd L (rStr (2000 + b)) p).2 = p2 at *
          have I1 : mI X0 (zui X 50 30 (nI (p2 + 1))) n m T V G := mI_50 I (by omega)
          have m1 := I1.2.2.2.1
          have m0 := I1.2.2.1
          have rc : ∃ r, rCnt b = r + 1 := by
            rcases (by omega : b = 0 ∨ b = 1 ∨ b = 2 ∨ b = 3 ∨ b = 4) with rfl | rfl | rfl | rfl | rfl
            · exact ⟨2, rfl⟩
            · exact ⟨4, rfl⟩
            · exact ⟨0, rfl⟩
            · exact ⟨0, rfl⟩
            · exact ⟨2, rfl⟩
          have h5 := rCnt_5 (i := b)
          obtain ⟨r, hr⟩ := rc
          obtain ⟨X1, I', t1, t2⟩ := m_nums (d := d) (X0 := X0) (o1 := nI p) E0 hb5 r 0 p2 N (zui X 50 30 (nI (p2 + 1))) (by omega) (by omega) h32 I1 (by rw [zi_s, u_eq]) (fun q hq => absurd hq (Nat.not_lt_zero q))
          rw [← hr] at t1 t2
          have go : cal (d + 2) 6037 [.ref 50] X = den (d + 2) 6037 175 [some (.ref 50), some (.int (nI p)), some (.int (nI b)), some (.int (nI (rCnt b))), some (.int 0)] [] (zui X 50 30 (nI (p2 + 1))) := by
            rw [q]
            have a0 : ((0 : Int32) ≤ 0) = True := eq_true (by decide)
            have gc : (nI (rCnt b) ≤ 0) = False := nI_nle0 (by omega) (by omega)
            have f4 : b = 0 → (nI m = 4) = False := fun e => eq_false (fun h => by
              have := (nI_eq (a := m) (b := 4) (by have := M.2.2.2; omega) (by omega)).mp h
              exact hf (Or.inl ⟨e, by omega⟩))
            have f8 : b = 1 → (nI n = 8) = False := fun e => eq_false (fun h => by
              have := (nI_eq (a := n) (b := 8) (by have := M.2.2.1; omega) (by omega)).mp h
              exact hf (Or.inr ⟨e, by omega⟩))
            rcases (by omega : b = 0 ∨ b = 1 ∨ b = 2 ∨ b = 3 ∨ b = 4) with rfl | rfl | rfl | rfl | rfl
            · have f := f4 rfl
              have c3 : rCnt 0 = 3 := rfl
              rw [c3, nJ_3] at gc ⊢
              rw [nJ_0] at nb1 ⊢
              simp only [c_6037, e_6037_0, e_6037_1, e_6037_3, e_6037_4, e_6037_7, e_6037_8, e_6037_9, e_6037_12, e_6037_15, e_6037_16, e_6037_17, e_6037_20, e_6037_23, e_6037_24, e_6037_25, e_6037_28, e_6037_31, e_6037_32, e_6037_35, e_6037_38, e_6037_39, e_6037_42, e_6037_43, e_6037_44, e_6037_47, e_6037_48, e_6037_49, e_6037_50, e_6037_53, e_6037_54, e_6037_55, e_6037_56, e_6037_59, e_6037_60, e_6037_63, e_6037_64, e_6037_67, e_6037_68, e_6037_69, e_6037_72, e_6037_73, e_6037_76, e_6037_78, e_6037_81, e_6037_82, e_6037_83, e_6037_86, e_6037_87, e_6037_88, e_6037_91, e_6037_92, e_6037_93, e_6037_96, e_6037_97, e_6037_100, e_6037_101, e_6037_102, e_6037_105, e_6037_106, e_6037_109, e_6037_110, e_6037_111, e_6037_112, e_6037_114, e_6037_116, e_6037_117, e_6037_120, e_6037_122, e_6037_125, e_6037_126, e_6037_129, e_6037_130, e_6037_133, e_6037_136, e_6037_137, e_6037_140, e_6037_141, e_6037_144, e_6037_145, e_6037_148, e_6037_149, e_6037_150, e_6037_151, e_6037_153, e_6037_156, e_6037_157, e_6037_158, e_6037_161, e_6037_164, e_6037_165, e_6037_166, e_6037_167, e_6037_170, e_6037_171, e_6037_172, e_6037_176, e_6037_177, e_6037_178, e_6037_181, e_6037_183, e_6037_184, e_6037_187, e_6037_189, e_6037_190, e_6037_193, e_6037_194, e_6037_197, e_6037_198, e_6037_199, e_6037_200, e_6037_202, e_6037_205, e_6037_208, e_6037_211, e_6037_212, e_6037_213, e_6037_214, e_6037_217, e_6037_219, e_6037_220, e_6037_223, e_6037_224, e_6037_227, e_6037_231, e_6037_260, e_6037_261, e_6037_262, e_6037_265, e_6037_266, e_6037_267, e_6037_268, e_6037_271, e_6037_272, e_6037_273, e_6037_274, e_6037_277, e_6037_278, e_6037_279, e_6037_282, e_6037_283, e_6037_286, e_6037_287, e_6037_288, e_6037_291, e_6037_292, e_6037_293, e_6037_294, e_6037_297, e_6037_298, e_6037_299, e_6037_300, e_6037_303, e_6037_304, e_6037_305, e_6037_306, e_6037_309, e_6037_310, e_6037_311, e_6037_312, e_6037_315, e_6037_316, e_6037_317, e_6037_320, e_6037_321, e_6037_324, e_6037_325, e_6037_326, e_6037_329, e_6037_330, e_6037_331, e_6037_334, e_6037_337, e_6037_338, e_6037_339, e_6037_342, e_6037_343, e_6037_344, e_6037_347, e_6037_350, e_6037_351, e_6037_355, e_6037_356, e_6037_359, e_6037_360, e_6037_363, e_6037_365, e_6037_366, e_6037_369, e_6037_371, e_6037_372, e_6037_373, e_6037_376, e_6037_379, e_6037_380, zk_int, zk_ref, zk_null, zk_none, zk_long, zisR_r, zisR_n, zcl_int, zcl_ref, zcl_null, zpush_s, zpush_n, zbs, zbn, true_or, or_true, not_false_eq_true, not_true_eq_false, ↓reduceIte, and_self, and_true, true_and, ie_0_1, ie_0_2, ie_0_3, ie_0_4, ie_0_5, ie_0_6, ie_0_7, ie_1_0, ie_1_2, ie_1_3, ie_1_4, ie_1_5, ie_1_6, ie_1_7, ie_2_0, ie_2_1, ie_2_3, ie_2_4, ie_2_5, ie_2_6, ie_2_7, ie_3_0, ie_3_1, ie_3_2, ie_3_4, ie_3_5, ie_3_6, ie_3_7, ie_4_0, ie_4_1, ie_4_2, ie_4_3, ie_4_5, ie_4_6, ie_4_7, ie_5_0, ie_5_1, ie_5_2, ie_5_3, ie_5_4, ie_5_6, ie_5_7, ie_6_0, ie_6_1, ie_6_2, ie_6_3, ie_6_4, ie_6_5, ie_6_7, ie_7_0, ie_7_1, ie_7_2, ie_7_3, ie_7_4, ie_7_5, ie_7_6, zt_50, nb1, m1, f, gc, a0]
            · have f := f8 rfl
              have c3 : rCnt 1 = 5 := rfl
              rw [c3, nJ_5] at gc ⊢
              rw [nJ_1] at nb1 ⊢
              simp only [c_6037, e_6037_0, e_6037_1, e_6037_3, e_6037_4, e_6037_7, e_6037_8, e_6037_9, e_6037_12, e_6037_15, e_6037_16, e_6037_17, e_6037_20, e_6037_23, e_6037_24, e_6037_25, e_6037_28, e_6037_31, e_6037_32, e_6037_35, e_6037_38, e_6037_39, e_6037_42, e_6037_43, e_6037_44, e_6037_47, e_6037_48, e_6037_49, e_6037_50, e_6037_53, e_6037_54, e_6037_55, e_6037_56, e_6037_59, e_6037_60, e_6037_63, e_6037_64, e_6037_67, e_6037_68, e_6037_69, e_6037_72, e_6037_73, e_6037_76, e_6037_78, e_6037_81, e_6037_82, e_6037_83, e_6037_86, e_6037_87, e_6037_88, e_6037_91, e_6037_92, e_6037_93, e_6037_96, e_6037_97, e_6037_100, e_6037_101, e_6037_102, e_6037_105, e_6037_106, e_6037_109, e_6037_110, e_6037_111, e_6037_112, e_6037_114, e_6037_116, e_6037_117, e_6037_120, e_6037_122, e_6037_125, e_6037_126, e_6037_129, e_6037_130, e_6037_133, e_6037_136, e_6037_137, e_6037_140, e_6037_141, e_6037_144, e_6037_145, e_6037_148, e_6037_149, e_6037_150, e_6037_151, e_6037_153, e_6037_156, e_6037_157, e_6037_158, e_6037_161, e_6037_164, e_6037_165, e_6037_166, e_6037_167, e_6037_170, e_6037_171, e_6037_172, e_6037_176, e_6037_177, e_6037_178, e_6037_181, e_6037_183, e_6037_184, e_6037_187, e_6037_189, e_6037_190, e_6037_193, e_6037_194, e_6037_197, e_6037_198, e_6037_199, e_6037_200, e_6037_202, e_6037_205, e_6037_208, e_6037_211, e_6037_212, e_6037_213, e_6037_214, e_6037_217, e_6037_219, e_6037_220, e_6037_223, e_6037_224, e_6037_227, e_6037_231, e_6037_260, e_6037_261, e_6037_262, e_6037_265, e_6037_266, e_6037_267, e_6037_268, e_6037_271, e_6037_272, e_6037_273, e_6037_274, e_6037_277, e_6037_278, e_6037_279, e_6037_282, e_6037_283, e_6037_286, e_6037_287, e_6037_288, e_6037_291, e_6037_292, e_6037_293, e_6037_294, e_6037_297, e_6037_298, e_6037_299, e_6037_300, e_6037_303, e_6037_304, e_6037_305, e_6037_306, e_6037_309, e_6037_310, e_6037_311, e_6037_312, e_6037_315, e_6037_316, e_6037_317, e_6037_320, e_6037_321, e_6037_324, e_6037_325, e_6037_326, e_6037_329, e_6037_330, e_6037_331, e_6037_334, e_6037_337, e_6037_338, e_6037_339, e_6037_342, e_6037_343, e_6037_344, e_6037_347, e_6037_350, e_6037_351, e_6037_355, e_6037_356, e_6037_359, e_6037_360, e_6037_363, e_6037_365, e_6037_366, e_6037_369, e_6037_371, e_6037_372, e_6037_373, e_6037_376, e_6037_379, e_6037_380, zk_int, zk_ref, zk_null, zk_none, zk_long, zisR_r, zisR_n, zcl_int, zcl_ref, zcl_null, zpush_s, zpush_n, zbs, zbn, true_or, or_true, not_false_eq_true, not_true_eq_false, ↓reduceIte, and_self, and_true, true_and, ie_0_1, ie_0_2, ie_0_3, ie_0_4, ie_0_5, ie_0_6, ie_0_7, ie_1_0, ie_1_2, ie_1_3, ie_1_4, ie_1_5, ie_1_6, ie_1_7, ie_2_0, ie_2_1, ie_2_3, ie_2_4, ie_2_5, ie_2_6, ie_2_7, ie_3_0, ie_3_1, ie_3_2, ie_3_4, ie_3_5, ie_3_6, ie_3_7, ie_4_0, ie_4_1, ie_4_2, ie_4_3, ie_4_5, ie_4_6, ie_4_7, ie_5_0, ie_5_1, ie_5_2, ie_5_3, ie_5_4, ie_5_6, ie_5_7, ie_6_0, ie_6_1, ie_6_2, ie_6_3, ie_6_4, ie_6_5, ie_6_7, ie_7_0, ie_7_1, ie_7_2, ie_7_3, ie_7_4, ie_7_5, ie_7_6, zt_50, nb1, m0, f, gc, a0]
            · have c3 : rCnt 2 = 1 := rfl
              rw [c3, nJ_1] at gc ⊢
              rw [nJ_2] at nb1 ⊢
              simp only [c_6037, e_6037_0, e_6037_1, e_6037_3, e_6037_4, e_6037_7, e_6037_8, e_6037_9, e_6037_12, e_6037_15, e_6037_16, e_6037_17, e_6037_20, e_6037_23, e_6037_24, e_6037_25, e_6037_28, e_6037_31, e_6037_32, e_6037_35, e_6037_38, e_6037_39, e_6037_42, e_6037_43, e_6037_44, e_6037_47, e_6037_48, e_6037_49, e_6037_50, e_6037_53, e_6037_54, e_6037_55, e_6037_56, e_6037_59, e_6037_60, e_6037_63, e_6037_64, e_6037_67, e_6037_68, e_6037_69, e_6037_72, e_6037_73, e_6037_76, e_6037_78, e_6037_81, e_6037_82, e_6037_83, e_6037_86, e_6037_87, e_6037_88, e_6037_91, e_6037_92, e_6037_93, e_6037_96, e_6037_97, e_6037_100, e_6037_101, e_6037_102, e_6037_105, e_6037_106, e_6037_109, e_6037_110, e_6037_111, e_6037_112, e_6037_114, e_6037_116, e_6037_117, e_6037_120, e_6037_122, e_6037_125, e_6037_126, e_6037_129, e_6037_130, e_6037_133, e_6037_136, e_6037_137, e_6037_140, e_6037_141, e_6037_144, e_6037_145, e_6037_148, e_6037_149, e_6037_150, e_6037_151, e_6037_153, e_6037_156, e_6037_157, e_6037_158, e_6037_161, e_6037_164, e_6037_165, e_6037_166, e_6037_167, e_6037_170, e_6037_171, e_6037_172, e_6037_176, e_6037_177, e_6037_178, e_6037_181, e_6037_183, e_6037_184, e_6037_187, e_6037_189, e_6037_190, e_6037_193, e_6037_194, e_6037_197, e_6037_198, e_6037_199, e_6037_200, e_6037_202, e_6037_205, e_6037_208, e_6037_211, e_6037_212, e_6037_213, e_6037_214, e_6037_217, e_6037_219, e_6037_220, e_6037_223, e_6037_224, e_6037_227, e_6037_231, e_6037_260, e_6037_261, e_6037_262, e_6037_265, e_6037_266, e_6037_267, e_6037_268, e_6037_271, e_6037_272, e_6037_273, e_6037_274, e_6037_277, e_6037_278, e_6037_279, e_6037_282, e_6037_283, e_6037_286, e_6037_287, e_6037_288, e_6037_291, e_6037_292, e_6037_293, e_6037_294, e_6037_297, e_6037_298, e_6037_299, e_6037_300, e_6037_303, e_6037_304, e_6037_305, e_6037_306, e_6037_309, e_6037_310, e_6037_311, e_6037_312, e_6037_315, e_6037_316, e_6037_317, e_6037_320, e_6037_321, e_6037_324, e_6037_325, e_6037_326, e_6037_329, e_6037_330, e_6037_331, e_6037_334, e_6037_337, e_6037_338, e_6037_339, e_6037_342, e_6037_343, e_6037_344, e_6037_347, e_6037_350, e_6037_351, e_6037_355, e_6037_356, e_6037_359, e_6037_360, e_6037_363, e_6037_365, e_6037_366, e_6037_369, e_6037_371, e_6037_372, e_6037_373, e_6037_376, e_6037_379, e_6037_380, zk_int, zk_ref, zk_null, zk_none, zk_long, zisR_r, zisR_n, zcl_int, zcl_ref, zcl_null, zpush_s, zpush_n, zbs, zbn, true_or, or_true, not_false_eq_true, not_true_eq_false, ↓reduceIte, and_self, and_true, true_and, ie_0_1, ie_0_2, ie_0_3, ie_0_4, ie_0_5, ie_0_6, ie_0_7, ie_1_0, ie_1_2, ie_1_3, ie_1_4, ie_1_5, ie_1_6, ie_1_7, ie_2_0, ie_2_1, ie_2_3, ie_2_4, ie_2_5, ie_2_6, ie_2_7, ie_3_0, ie_3_1, ie_3_2, ie_3_4, ie_3_5, ie_3_6, ie_3_7, ie_4_0, ie_4_1, ie_4_2, ie_4_3, ie_4_5, ie_4_6, ie_4_7, ie_5_0, ie_5_1, ie_5_2, ie_5_3, ie_5_4, ie_5_6, ie_5_7, ie_6_0, ie_6_1, ie_6_2, ie_6_3, ie_6_4, ie_6_5, ie_6_7, ie_7_0, ie_7_1, ie_7_2, ie_7_3, ie_7_4, ie_7_5, ie_7_6, zt_50, nb1, gc, a0]
            · have c3 : rCnt 3 = 1 := rfl
              rw [c3, nJ_1] at gc ⊢
              rw [nJ_3] at nb1 ⊢
              simp only [c_6037, e_6037_0, e_6037_1, e_6037_3, e_6037_4, e_6037_7, e_6037_8, e_6037_9, e_6037_12, e_6037_15, e_6037_16, e_6037_17, e_6037_20, e_6037_23, e_6037_24, e_6037_25, e_6037_28, e_6037_31, e_6037_32, e_6037_35, e_6037_38, e_6037_39, e_6037_42, e_6037_43, e_6037_44, e_6037_47, e_6037_48, e_6037_49, e_6037_50, e_6037_53, e_6037_54, e_6037_55, e_6037_56, e_6037_59, e_6037_60, e_6037_63, e_6037_64, e_6037_67, e_6037_68, e_6037_69, e_6037_72, e_6037_73, e_6037_76, e_6037_78, e_6037_81, e_6037_82, e_6037_83, e_6037_86, e_6037_87, e_6037_88, e_6037_91, e_6037_92, e_6037_93, e_6037_96, e_6037_97, e_6037_100, e_6037_101, e_6037_102, e_6037_105, e_6037_106, e_6037_109, e_6037_110, e_6037_111, e_6037_112, e_6037_114, e_6037_116, e_6037_117, e_6037_120, e_6037_122, e_6037_125, e_6037_126, e_6037_129, e_6037_130, e_6037_133, e_6037_136, e_6037_137, e_6037_140, e_6037_141, e_6037_144, e_6037_145, e_6037_148, e_6037_149, e_6037_150, e_6037_151, e_6037_153, e_6037_156, e_6037_157, e_6037_158, e_6037_161, e_6037_164, e_6037_165, e_6037_166, e_6037_167, e_6037_170, e_6037_171, e_6037_172, e_6037_176, e_6037_177, e_6037_178, e_6037_181, e_6037_183, e_6037_184, e_6037_187, e_6037_189, e_6037_190, e_6037_193, e_6037_194, e_6037_197, e_6037_198, e_6037_199, e_6037_200, e_6037_202, e_6037_205, e_6037_208, e_6037_211, e_6037_212, e_6037_213, e_6037_214, e_6037_217, e_6037_219, e_6037_220, e_6037_223, e_6037_224, e_6037_227, e_6037_231, e_6037_260, e_6037_261, e_6037_262, e_6037_265, e_6037_266, e_6037_267, e_6037_268, e_6037_271, e_6037_272, e_6037_273, e_6037_274, e_6037_277, e_6037_278, e_6037_279, e_6037_282, e_6037_283, e_6037_286, e_6037_287, e_6037_288, e_6037_291, e_6037_292, e_6037_293, e_6037_294, e_6037_297, e_6037_298, e_6037_299, e_6037_300, e_6037_303, e_6037_304, e_6037_305, e_6037_306, e_6037_309, e_6037_310, e_6037_311, e_6037_312, e_6037_315, e_6037_316, e_6037_317, e_6037_320, e_6037_321, e_6037_324, e_6037_325, e_6037_326, e_6037_329, e_6037_330, e_6037_331, e_6037_334, e_6037_337, e_6037_338, e_6037_339, e_6037_342, e_6037_343, e_6037_344, e_6037_347, e_6037_350, e_6037_351, e_6037_355, e_6037_356, e_6037_359, e_6037_360, e_6037_363, e_6037_365, e_6037_366, e_6037_369, e_6037_371, e_6037_372, e_6037_373, e_6037_376, e_6037_379, e_6037_380, zk_int, zk_ref, zk_null, zk_none, zk_long, zisR_r, zisR_n, zcl_int, zcl_ref, zcl_null, zpush_s, zpush_n, zbs, zbn, true_or, or_true, not_false_eq_true, not_true_eq_false, ↓reduceIte, and_self, and_true, true_and, ie_0_1, ie_0_2, ie_0_3, ie_0_4, ie_0_5, ie_0_6, ie_0_7, ie_1_0, ie_1_2, ie_1_3, ie_1_4, ie_1_5, ie_1_6, ie_1_7, ie_2_0, ie_2_1, ie_2_3, ie_2_4, ie_2_5, ie_2_6, ie_2_7, ie_3_0, ie_3_1, ie_3_2, ie_3_4, ie_3_5, ie_3_6, ie_3_7, ie_4_0, ie_4_1, ie_4_2, ie_4_3, ie_4_5, ie_4_6, ie_4_7, ie_5_0, ie_5_1, ie_5_2, ie_5_3, ie_5_4, ie_5_6, ie_5_7, ie_6_0, ie_6_1, ie_6_2, ie_6_3, ie_6_4, ie_6_5, ie_6_7, ie_7_0, ie_7_1, ie_7_2, ie_7_3, ie_7_4, ie_7_5, ie_7_6, zt_50, nb1, gc, a0]
            · have c3 : rCnt 4 = 3 := rfl
              rw [c3, nJ_3] at gc ⊢
              rw [nJ_4] at nb1 ⊢
              simp only [c_6037, e_6037_0, e_6037_1, e_6037_3, e_6037_4, e_6037_7, e_6037_8, e_6037_9, e_6037_12, e_6037_15, e_6037_16, e_6037_17, e_6037_20, e_6037_23, e_6037_24, e_6037_25, e_6037_28, e_6037_31, e_6037_32, e_6037_35, e_6037_38, e_6037_39, e_6037_42, e_6037_43, e_6037_44, e_6037_47, e_6037_48, e_6037_49, e_6037_50, e_6037_53, e_6037_54, e_6037_55, e_6037_56, e_6037_59, e_6037_60, e_6037_63, e_6037_64, e_6037_67, e_6037_68, e_6037_69, e_6037_72, e_6037_73, e_6037_76, e_6037_78, e_6037_81, e_6037_82, e_6037_83, e_6037_86, e_6037_87, e_6037_88, e_6037_91, e_6037_92, e_6037_93, e_6037_96, e_6037_97, e_6037_100, e_6037_101, e_6037_102, e_6037_105, e_6037_106, e_6037_109, e_6037_110, e_6037_111, e_6037_112, e_6037_114, e_6037_116, e_6037_117, e_6037_120, e_6037_122, e_6037_125, e_6037_126, e_6037_129, e_6037_130, e_6037_133, e_6037_136, e_6037_137, e_6037_140, e_6037_141, e_6037_144, e_6037_145, e_6037_148, e_6037_149, e_6037_150, e_6037_151, e_6037_153, e_6037_156, e_6037_157, e_6037_158, e_6037_161, e_6037_164, e_6037_165, e_6037_166, e_6037_167, e_6037_170, e_6037_171, e_6037_172, e_6037_176, e_6037_177, e_6037_178, e_6037_181, e_6037_183, e_6037_184, e_6037_187, e_6037_189, e_6037_190, e_6037_193, e_6037_194, e_6037_197, e_6037_198, e_6037_199, e_6037_200, e_6037_202, e_6037_205, e_6037_208, e_6037_211, e_6037_212, e_6037_213, e_6037_214, e_6037_217, e_6037_219, e_6037_220, e_6037_223, e_6037_224, e_6037_227, e_6037_231, e_6037_260, e_6037_261, e_6037_262, e_6037_265, e_6037_266, e_6037_267, e_6037_268, e_6037_271, e_6037_272, e_6037_273, e_6037_274, e_6037_277, e_6037_278, e_6037_279, e_6037_282, e_6037_283, e_6037_286, e_6037_287, e_6037_288, e_6037_291, e_6037_292, e_6037_293, e_6037_294, e_6037_297, e_6037_298, e_6037_299, e_6037_300, e_6037_303, e_6037_304, e_6037_305, e_6037_306, e_6037_309, e_6037_310, e_6037_311, e_6037_312, e_6037_315, e_6037_316, e_6037_317, e_6037_320, e_6037_321, e_6037_324, e_6037_325, e_6037_326, e_6037_329, e_6037_330, e_6037_331, e_6037_334, e_6037_337, e_6037_338, e_6037_339, e_6037_342, e_6037_343, e_6037_344, e_6037_347, e_6037_350, e_6037_351, e_6037_355, e_6037_356, e_6037_359, e_6037_360, e_6037_363, e_6037_365, e_6037_366, e_6037_369, e_6037_371, e_6037_372, e_6037_373, e_6037_376, e_6037_379, e_6037_380, zk_int, zk_ref, zk_null, zk_none, zk_long, zisR_r, zisR_n, zcl_int, zcl_ref, zcl_null, zpush_s, zpush_n, zbs, zbn, true_or, or_true, not_false_eq_true, not_true_eq_false, ↓reduceIte, and_self, and_true, true_and, ie_0_1, ie_0_2, ie_0_3, ie_0_4, ie_0_5, ie_0_6, ie_0_7, ie_1_0, ie_1_2, ie_1_3, ie_1_4, ie_1_5, ie_1_6, ie_1_7, ie_2_0, ie_2_1, ie_2_3, ie_2_4, ie_2_5, ie_2_6, ie_2_7, ie_3_0, ie_3_1, ie_3_2, ie_3_4, ie_3_5, ie_3_6, ie_3_7, ie_4_0, ie_4_1, ie_4_2, ie_4_3, ie_4_5, ie_4_6, ie_4_7, ie_5_0, ie_5_1, ie_5_2, ie_5_3, ie_5_4, ie_5_6, ie_5_7, ie_6_0, ie_6_1, ie_6_2, ie_6_3, ie_6_4, ie_6_5, ie_6_7, ie_7_0, ie_7_1, ie_7_2, ie_7_3, ie_7_4, ie_7_5, ie_7_6, zt_50, nb1, gc, a0]
          rw [nI_0] at t1 t2
          by_cases hN : (rNs L m b (rCnt b) 0 p2 N).1 = true
          · obtain ⟨s1, s2, s3⟩ := t1 hN
            obtain ⟨X2, u1, u2, u3⟩ := m_it_tell (d := d) (o1 := nI p) (c := nI (rCnt b)) (o4 := nI (rCnt b)) (N := (rNs L m b (rCnt b) 0 p2 N).2.2.2) hb5 I' hf s3
            exact ⟨X2, fun _ => ⟨go.trans (s1.trans u1), u2.trans s2, u3⟩, fun h => absurd (hN.symm.trans h) (by decide)⟩
          · have hN' : (rNs L m b (rCnt b) 0 p2 N).1 = false := by cases h : (rNs L m b (rCnt b) 0 p2 N).1 with
              | true => exact absurd h hN
              | false => rfl
            obtain ⟨s1, s2⟩ := t2 hN'
            exact ⟨X1, fun h => absurd h hN, fun _ => ⟨go.trans s1, s2, I'.1⟩⟩
        · rw [if_neg h32] at ea
          rw [ea, if_neg Bool.false_ne_true] at wd
          dsimp only at wd
          rw [if_pos rfl] at wd
          have q := m_it_h (d := d) E (by omega) M nB wd
          have er : rNs L m b (rCnt b) 0 (rWrd L (rStr (2000 + b)) p).2 N = (false, (rWrd L (rStr (2000 + b)) p).2, (rWrd L (rStr (2000 + b)) p).2, N) := by
            rcases (by omega : b = 0 ∨ b = 1 ∨ b = 2 ∨ b = 3 ∨ b = 4) with rfl | rfl | rfl | rfl | rfl <;> exact if_neg h32
          rw [er]
          refine ⟨zui X 50 33 (nI (rWrd L (rStr (2000 + b)) p).2), fun h => absurd h Bool.false_ne_true, fun _ => ⟨?_, by rw [zi_s, u_eq], mFr_t I.1 (mFr_50 (by omega))⟩⟩
          rw [q]
          simp only [e_6037_48, e_6037_49, e_6037_50, e_6037_53, e_6037_54, zk_int, zk_ref, zk_null, zk_none, zk_long, zisR_r, zisR_n, zcl_int, zcl_ref, zcl_null, zpush_s, zpush_n, zbs, zbn, true_or, or_true, not_false_eq_true, not_true_eq_false, ↓reduceIte, and_self, and_true, true_and, em]
    · rw [if_neg ho] at ea ⊢
      have nB : ∀ g, g < 5 → ¬ mBd L n m p g := fun g hg B => by
        have := mBd_i hb5 hb hg B
        subst this
        exact ho B.1
      rw [ea, if_neg ho] at wd
      dsimp only at wd
      rw [if_pos rfl] at wd
      have q := m_it_h (d := d) E (by omega) M nB wd
      refine ⟨zui X 50 33 (nI (rWrd L (rStr (2000 + b)) p).2), fun h => absurd h Bool.false_ne_true, fun _ => ⟨?_, by rw [zi_s, u_eq], mFr_t I.1 (mFr_50 (by omega))⟩⟩
      rw [q]
      simp only [e_6037_48, e_6037_49, e_6037_50, e_6037_53, e_6037_54, zk_int, zk_ref, zk_null, zk_none, zk_long, zisR_r, zisR_n, zcl_int, zcl_ref, zcl_null, zpush_s, zpush_n, zbs, zbn, true_or, or_true, not_false_eq_true, not_true_eq_false, ↓reduceIte, and_self, and_true, true_and, em]
end QE
