def mBd (L : Nat → Int32) (n m p g : Nat) : Prop := (rWrd L (rStr (2000 + g)) p).1 = true ∧ ((g = 0 ∧ ¬ m < 4) ∨ (g = 1 ∧ ¬ n < 8))
section QD
variable {d n m j z p p0 : Nat} {w w1 w2 X X0 : zM} {L N : Nat → Int32} {T V G : Nat → Int32}
theorem m_it_0 (E : mE X j z p L) (hp : p < 900) (M : zMn X n m) : ∀ r f, f + r = 5 → (∀ g, f ≤ g → g < 5 → ¬ mBd L n m p g) → den (d + 2) 6037 2 [some (.ref 50), some (.int (nI f)), none, none, none] [] X = den (d + 2) 6037 38 [some (.ref 50), some (.int (nI 5)), none, none, none] [] X := by
  intro r
  induction r with
  | zero =>
    intro f hf _
    have e : f = 5 := by omega
    subst e
    have g1 : ((5 : Int32) ≤ nI 5) = True := eq_true (by decide)
    rw [e_6037_2]
    simp only [e_6037_3, e_6037_4, zk_int, zk_ref, zk_null, zk_none, zk_long, zisR_r, zisR_n, zcl_int, zcl_ref, zcl_null, zpush_s, zpush_n, zbs, zbn, true_or, or_true, not_false_eq_true, not_true_eq_false, ↓reduceIte, and_self, and_true, true_and, g1]
  | succ r ih =>
    intro f hf hb
    have hf5 : f < 5 := by omega
    have g1 : ((5 : Int32) ≤ nI f) = False := nI_ge_f (b := 5) hf5 (by decide)
    have a := m_wordAt (d := d + 1) E hp hf5
    have b := m_full (d := d + 1) M.1 M.2.1 M.2.2.1 M.2.2.2 hf5
    rw [← ih (f + 1) (by omega) (fun g h1 h2 => hb g (by omega) h2), e_6037_2]
    by_cases h1 : (rWrd L (rStr (2000 + f)) p).1 = true
    · rw [if_pos h1] at a
      rw [if_neg (fun h => hb f (Nat.le_refl _) hf5 ⟨h1, h⟩)] at b
      simp only [e_6037_3, e_6037_4, e_6037_7, e_6037_8, e_6037_9, e_6037_12, e_6037_15, e_6037_16, e_6037_17, e_6037_20, e_6037_32, e_6037_35, zk_int, zk_ref, zk_null, zk_none, zk_long, zisR_r, zisR_n, zcl_int, zcl_ref, zcl_null, zpush_s, zpush_n, zbs, zbn, true_or, or_true, not_false_eq_true, not_true_eq_false, ↓reduceIte, and_self, and_true, true_and, ie_0_1, ie_0_2, ie_0_3, ie_0_4, ie_0_5, ie_0_6, ie_0_7, ie_1_0, ie_1_2, ie_1_3, ie_1_4, ie_1_5, ie_1_6, ie_1_7, ie_2_0, ie_2_1, ie_2_3, ie_2_4, ie_2_5, ie_2_6, ie_2_7, ie_3_0, ie_3_1, ie_3_2, ie_3_4, ie_3_5, ie_3_6, ie_3_7, ie_4_0, ie_4_1, ie_4_2, ie_4_3, ie_4_5, ie_4_6, ie_4_7, ie_5_0, ie_5_1, ie_5_2, ie_5_3, ie_5_4, ie_5_6, ie_5_7, ie_6_0, ie_6_1, ie_6_2, ie_6_3, ie_6_4, ie_6_5, ie_6_7, ie_7_0, ie_7_1, ie_7_2, ie_7_3, ie_7_4, ie_7_5, ie_7_6, zt_50, g1, a, b, nI_1]
    · rw [if_neg h1] at a
      simp only [e_6037_3, e_6037_4, e_6037_7, e_6037_8, e_6037_9, e_6037_12, e_6037_32, e_6037_35, zk_int, zk_ref, zk_null, zk_none, zk_long, zisR_r, zisR_n, zcl_int, zcl_ref, zcl_null, zpush_s, zpush_n, zbs, zbn, true_or, or_true, not_false_eq_true, not_true_eq_false, ↓reduceIte, and_self, and_true, true_and, ie_0_1, ie_0_2, ie_0_3, ie_0_4, ie_0_5, ie_0_6, ie_0_7, ie_1_0, ie_1_2, ie_1_3, ie_1_4, ie_1_5, ie_1_6, ie_1_7, ie_2_0, ie_2_1, ie_2_3, ie_2_4, ie_2_5, ie_2_6, ie_2_7, ie_3_0, ie_3_1, ie_3_2, ie_3_4, ie_3_5, ie_3_6, ie_3_7, ie_4_0, ie_4_1, ie_4_2, ie_4_3, ie_4_5, ie_4_6, ie_4_7, ie_5_0, ie_5_1, ie_5_2, ie_5_3, ie_5_4, ie_5_6, ie_5_7, ie_6_0, ie_6_1, ie_6_2, ie_6_3, ie_6_4, ie_6_5, ie_6_7, ie_7_0, ie_7_1, ie_7_2, ie_7_3, ie_7_4, ie_7_5, ie_7_6, zt_50, g1, a, nI_1]
theorem m_it_1 (E : mE X j z p L) (hp : p < 900) (M : zMn X n m) {g : Nat} (hg : g < 5) (hb : mBd L n m p g) : ∀ r f, f + r = g → (∀ h, f ≤ h → h < g → ¬ mBd L n m p h) → den (d + 2) 6037 2 [some (.ref 50), some (.int (nI f)), none, none, none] [] X = some (some (.int 0), zui X 50 33 (nI p)) := by
  intro r
  induction r with
  | zero =>
    intro f hf _
    have e : f = g := by omega
    subst e
    have g1 : ((5 : Int32) ≤ nI f) = False := nI_ge_f (b := 5) hg (by decide)
    have a := m_wordAt (d := d + 1) E hp hg
    have b := m_full (d := d + 1) M.1 M.2.1 M.2.2.1 M.2.2.2 hg
    rw [if_pos hb.1] at a
    rw [if_pos hb.2] at b
    have e30 := E.2.1
    have wr := m_wrong (d := d + 1) (X := X) (x := nI p)
    rw [e_6037_2]
    simp only [e_6037_3, e_6037_4, e_6037_7, e_6037_8, e_6037_9, e_6037_12, e_6037_15, e_6037_16, e_6037_17, e_6037_20, e_6037_23, e_6037_24, e_6037_25, e_6037_28, e_6037_31, zk_int, zk_ref, zk_null, zk_none, zk_long, zisR_r, zisR_n, zcl_int, zcl_ref, zcl_null, zpush_s, zpush_n, zbs, zbn, true_or, or_true, not_false_eq_true, not_true_eq_false, ↓reduceIte, and_self, and_true, true_and, ie_0_1, ie_0_2, ie_0_3, ie_0_4, ie_0_5, ie_0_6, ie_0_7, ie_1_0, ie_1_2, ie_1_3, ie_1_4, ie_1_5, ie_1_6, ie_1_7, ie_2_0, ie_2_1, ie_2_3, ie_2_4, ie_2_5, ie_2_6, ie_2_7, ie_3_0, ie_3_1, ie_3_2, ie_3_4, ie_3_5, ie_3_6, ie_3_7, ie_4_0, ie_4_1, ie_4_2, ie_4_3, ie_4_5, ie_4_6, ie_4_7, ie_5_0, ie_5_1, ie_5_2, ie_5_3, ie_5_4, ie_5_6, ie_5_7, ie_6_0, ie_6_1, ie_6_2, ie_6_3, ie_6_4, ie_6_5, ie_6_7, ie_7_0, ie_7_1, ie_7_2, ie_7_3, ie_7_4, ie_7_5, ie_7_6, zt_50, g1, a, b, e30, wr]
  | succ r ih =>
    intro f hf hn
    have hf5 : f < 5 := by omega
    have g1 : ((5 : Int32) ≤ nI f) = False := nI_ge_f (b := 5) hf5 (by decide)
    have a := m_wordAt (d := d + 1) E hp hf5
    have b := m_full (d := d + 1) M.1 M.2.1 M.2.2.1 M.2.2.2 hf5
    rw [← ih (f + 1) (by omega) (fun h h1 h2 => hn h (by omega) h2), e_6037_2]
    by_cases h1 : (rWrd L (rStr (2000 + f)) p).1 = true
    · rw [if_pos h1] at a
      rw [if_neg (fun h => hn f (Nat.le_refl _) (by omega) ⟨h1, h⟩)] at b
      simp only [e_6037_3, e_6037_4, e_6037_7, e_6037_8, e_6037_9, e_6037_12, e_6037_15, e_6037_16, e_6037_17, e_6037_20, e_6037_32, e_6037_35, zk_int, zk_ref, zk_null, zk_none, zk_long, zisR_r, zisR_n, zcl_int, zcl_ref, zcl_null, zpush_s, zpush_n, zbs, zbn, true_or, or_true, not_false_eq_true, not_true_eq_false, ↓reduceIte, and_self, and_true, true_and, ie_0_1, ie_0_2, ie_0_3, ie_0_4, ie_0_5, ie_0_6, ie_0_7, ie_1_0, ie_1_2, ie_1_3, ie_1_4, ie_1_5, ie_1_6, ie_1_7, ie_2_0, ie_2_1, ie_2_3, ie_2_4, ie_2_5, ie_2_6, ie_2_7, ie_3_0, ie_3_1, ie_3_2, ie_3_4, ie_3_5, ie_3_6, ie_3_7, ie_4_0, ie_4_1, ie_4_2, ie_4_3, ie_4_5, ie_4_6, ie_4_7, ie_5_0, ie_5_1, ie_5_2, ie_5_3, ie_5_4, ie_5_6, ie_5_7, ie_6_0, ie_6_1, ie_6_2, ie_6_3, ie_6_4, ie_6_5, ie_6_7, ie_7_0, ie_7_1, ie_7_2, ie_7_3, ie_7_4, ie_7_5, ie_7_6, zt_50, g1, a, b, nI_1]
    · rw [if_neg h1] at a
      simp only [e_6037_3, e_6037_4, e_6037_7, e_6037_8, e_6037_9, e_6037_12, e_6037_32, e_6037_35, zk_int, zk_ref, zk_null, zk_none, zk_long, zisR_r, zisR_n, zcl_int, zcl_ref, zcl_null, zpush_s, zpush_n, zbs, zbn, true_or, or_true, not_false_eq_true, not_true_eq_false, ↓reduceIte, and_self, and_true, true_and, ie_0_1, ie_0_2, ie_0_3, ie_0_4, ie_0_5, ie_0_6, ie_0_7, ie_1_0, ie_1_2, ie_1_3, ie_1_4, ie_1_5, ie_1_6, ie_1_7, ie_2_0, ie_2_1, ie_2_3, ie_2_4, ie_2_5, ie_2_6, ie_2_7, ie_3_0, ie_3_1, ie_3_2, ie_3_4, ie_3_5, ie_3_6, ie_3_7, ie_4_0, ie_4_1, ie_4_2, ie_4_3, ie_4_5, ie_4_6, ie_4_7, ie_5_0, ie_5_1, ie_5_2, ie_5_3, ie_5_4, ie_5_6, ie_5_7, ie_6_0, ie_6_1, ie_6_2, ie_6_3, ie_6_4, ie_6_5, ie_6_7, ie_7_0, ie_7_1, ie_7_2, ie_7_3, ie_7_4, ie_7_5, ie_7_6, zt_50, g1, a, nI_1]
theorem mAdW_F {s a b : Int32} : mFr X (mAdW X m s a b) :=
  mFr_t (mFr_t (mFr_t (mFr_t (mFr_t (mFr_t (mFr_a (by omega)) (mFr_a (by omega))) (mFr_a (by omega))) (mFr_a (by omega))) (mFr_a (by omega))) (mFr_a (by omega))) (mFr_50 (by omega))
theorem mAdT_F {k b q a y : Int32} : mFr X (mAdT X n k b q a y) :=
  mFr_t (mFr_t (mFr_t (mFr_t (mFr_t (mFr_a (by omega)) (mFr_a (by omega))) (mFr_a (by omega))) (mFr_a (by omega))) (mFr_a (by omega))) (mFr_50 (by omega))
theorem m_it_tell {i : Nat} {o1 c o4 : Int32} (hi : i < 5) (I : mI X0 X n m T V G) (hr : ¬ ((i = 0 ∧ ¬ m < 4) ∨ (i = 1 ∧ ¬ n < 8))) (h71 : ∀ q, q < rCnt i → X.1 71 q = N q) : ∃ X', den (d + 2) 6037 230 [some (.ref 50), some (.int o1), some (.int (nI i)), some (.int c), some (.int o4)] [] X = some (some (.int 1), X') ∧ X'.1 50 30 = X.1 50 30 ∧ mI X0 X' (rTh (n, m, T, V, G) i N).1 (rTh (n, m, T, V, G) i N).2.1 (rTh (n, m, T, V, G) i N).2.2.1 (rTh (n, m, T, V, G) i N).2.2.2.1 (rTh (n, m, T, V, G) i N).2.2.2.2 := by
  have z0 := zis_nI (j := 0) (n := 5) (by decide) (by decide)
  have z1 := zis_nI (j := 1) (n := 5) (by decide) (by decide)
  have z2 := zis_nI (j := 2) (n := 5) (by decide) (by decide)
  have z3 := zis_nI (j := 3) (n := 5) (by decide) (by decide)
  have z4 := zis_nI (j := 4) (n := 5) (by decide) (by decide)
  have c0 := nI_clamp (n := 0) (by omega)
  have c1 := nI_clamp (n := 1) (by omega)
  have c2 := nI_clamp (n := 2) (by omega)
  have c3 := nI_clamp (n := 3) (by omega)
  have c4 := nI_clamp (n := 4) (by omega)
  rw [nJ_0] at z0 c0
  rw [nJ_1] at z1 c1
  rw [nJ_2] at z2 c2
  rw [nJ_3] at z3 c3
  rw [nJ_4] at z4 c4
  rcases (by omega : i = 0 ∨ i = 1 ∨ i = 2 ∨ i = 3 ∨ i = 4) with rfl | rfl | rfl | rfl | rfl
  · have hm : m < 4 := by omega
    have t0 := h71 0 (by decide)
    have t1 := h71 1 (by decide)
    have t2 := h71 2 (by decide)
    have q := m_comes (d := d + 1) (w := X) (s := N 0) (p := N 1) (q := N 2) I.2.2.2.1 hm
    have e : rTh (n, m, T, V, G) 0 N = (n, m + 1, T, sWtr V m (N 0) (N 1) (N 2), G) := rfl
    rw [e]
    refine ⟨mAdW X m (N 0) (N 1) (N 2), ?_, by rw [mAdW_50, u_ne (by decide)], mFr_t I.1 mAdW_F, mAdW_s I.2.1 hm, by rw [mAdW_50, u_ne (by decide)]; exact I.2.2.1, by rw [mAdW_50, u_eq], I.2.2.2.2.1, by show m + 1 ≤ 4; omega⟩
    rw [nJ_0, e_6037_230]
    simp only [c_6037, e_6037_0, e_6037_1, e_6037_3, e_6037_4, e_6037_7, e_6037_8, e_6037_9, e_6037_12, e_6037_15, e_6037_16, e_6037_17, e_6037_20, e_6037_23, e_6037_24, e_6037_25, e_6037_28, e_6037_31, e_6037_32, e_6037_35, e_6037_38, e_6037_39, e_6037_42, e_6037_43, e_6037_44, e_6037_47, e_6037_48, e_6037_49, e_6037_50, e_6037_53, e_6037_54, e_6037_55, e_6037_56, e_6037_59, e_6037_60, e_6037_63, e_6037_64, e_6037_67, e_6037_68, e_6037_69, e_6037_72, e_6037_73, e_6037_76, e_6037_78, e_6037_81, e_6037_82, e_6037_83, e_6037_86, e_6037_87, e_6037_88, e_6037_91, e_6037_92, e_6037_93, e_6037_96, e_6037_97, e_6037_100, e_6037_101, e_6037_102, e_6037_105, e_6037_106, e_6037_109, e_6037_110, e_6037_111, e_6037_112, e_6037_116, e_6037_117, e_6037_120, e_6037_122, e_6037_125, e_6037_126, e_6037_129, e_6037_130, e_6037_133, e_6037_136, e_6037_137, e_6037_140, e_6037_141, e_6037_144, e_6037_145, e_6037_148, e_6037_149, e_6037_150, e_6037_151, e_6037_153, e_6037_156, e_6037_157, e_6037_158, e_6037_161, e_6037_164, e_6037_165, e_6037_166, e_6037_167, e_6037_170, e_6037_171, e_6037_172, e_6037_176, e_6037_177, e_6037_178, e_6037_181, e_6037_183, e_6037_184, e_6037_187, e_6037_189, e_6037_190, e_6037_193, e_6037_194, e_6037_197, e_6037_198, e_6037_199, e_6037_200, e_6037_202, e_6037_205, e_6037_208, e_6037_211, e_6037_212, e_6037_213, e_6037_214, e_6037_217, e_6037_219, e_6037_220, e_6037_223, e_6037_224, e_6037_227, e_6037_231, e_6037_260, e_6037_261, e_6037_262, e_6037_265, e_6037_266, e_6037_267, e_6037_268, e_6037_271, e_6037_272, e_6037_273, e_6037_274, e_6037_277, e_6037_278, e_6037_279, e_6037_282, e_6037_283, e_6037_286, e_6037_287, e_6037_288, e_6037_291, e_6037_292, e_6037_293, e_6037_294, e_6037_297, e_6037_298, e_6037_299, e_6037_300, e_6037_303, e_6037_304, e_6037_305, e_6037_306, e_6037_309, e_6037_310, e_6037_311, e_6037_312, e_6037_315, e_6037_316, e_6037_317, e_6037_320, e_6037_321, e_6037_324, e_6037_325, e_6037_326, e_6037_329, e_6037_330, e_6037_331, e_6037_334, e_6037_337, e_6037_338, e_6037_339, e_6037_342, e_6037_343, e_6037_344, e_6037_347, e_6037_350, e_6037_351, e_6037_355, e_6037_356, e_6037_359, e_6037_360, e_6037_363, e_6037_365, e_6037_366, e_6037_369, e_6037_371, e_6037_372, e_6037_373, e_6037_376, e_6037_379, e_6037_380, zk_int, zk_ref, zk_null, zk_none, zk_long, zisR_r, zisR_n, zcl_int, zcl_ref, zcl_null, zpush_s, zpush_n, zbs, zbn, true_or, or_true, not_false_eq_true, not_true_eq_false, ↓reduceIte, and_self, and_true, true_and, ie_0_1, ie_0_2, ie_0_3, ie_0_4, ie_0_5, ie_0_6, ie_0_7, ie_1_0, ie_1_2, ie_1_3, ie_1_4, ie_1_5, ie_1_6, ie_1_7, ie_2_0, ie_2_1, ie_2_3, ie_2_4, ie_2_5, ie_2_6, ie_2_7, ie_3_0, ie_3_1, ie_3_2, ie_3_4, ie_3_5, ie_3_6, ie_3_7, ie_4_0, ie_4_1, ie_4_2, ie_4_3, ie_4_5, ie_4_6, ie_4_7, ie_5_0, ie_5_1, ie_5_2, ie_5_3, ie_5_4, ie_5_6, ie_5_7, ie_6_0, ie_6_1, ie_6_2, ie_6_3, ie_6_4, ie_6_5, ie_6_7, ie_7_0, ie_7_1, ie_7_2, ie_7_3, ie_7_4, ie_7_5, ie_7_6, zt_50, zr_50_28, zt_71, zn_71, zo_71, zl_71, zq_71, z0, z1, z2, c0, c1, c2, t0, t1, t2, q]
  · have hn : n < 8 := by omega
    have t0 := h71 0 (by decide)
    have t1 := h71 1 (by decide)
    have t2 := h71 2 (by decide)
    have t3 := h71 3 (by decide)
    have t4 := h71 4 (by decide)
    have q := m_adds (d := d + 1) (w := X) (k := N 0) (b := N 1) (p := N 2) (a := N 3) (y := N 4) I.2.2.1 hn
    have e : rTh (n, m, T, V, G) 1 N = (n + 1, m, upd (sGst T n (N 0) (N 1) (N 2) (N 3)) (5 * n + 4) (N 4), V, G) := rfl
    rw [e]
    refine ⟨mAdT X n (N 0) (N 1) (N 2) (N 3) (N 4), ?_, by rw [mAdT_50, u_ne (by decide)], mFr_t I.1 mAdT_F, mAdT_s I.2.1 hn, by rw [mAdT_50, u_eq], by rw [mAdT_50, u_ne (by decide)]; exact I.2.2.2.1, by show n + 1 ≤ 8; omega, I.2.2.2.2.2⟩
    rw [nJ_1, e_6037_230]
    simp only [c_6037, e_6037_0, e_6037_1, e_6037_3, e_6037_4, e_6037_7, e_6037_8, e_6037_9, e_6037_12, e_6037_15, e_6037_16, e_6037_17, e_6037_20, e_6037_23, e_6037_24, e_6037_25, e_6037_28, e_6037_31, e_6037_32, e_6037_35, e_6037_38, e_6037_39, e_6037_42, e_6037_43, e_6037_44, e_6037_47, e_6037_48, e_6037_49, e_6037_50, e_6037_53, e_6037_54, e_6037_55, e_6037_56, e_6037_59, e_6037_60, e_6037_63, e_6037_64, e_6037_67, e_6037_68, e_6037_69, e_6037_72, e_6037_73, e_6037_76, e_6037_78, e_6037_81, e_6037_82, e_6037_83, e_6037_86, e_6037_87, e_6037_88, e_6037_91, e_6037_92, e_6037_93, e_6037_96, e_6037_97, e_6037_100, e_6037_101, e_6037_102, e_6037_105, e_6037_106, e_6037_109, e_6037_110, e_6037_111, e_6037_112, e_6037_116, e_6037_117, e_6037_120, e_6037_122, e_6037_125, e_6037_126, e_6037_129, e_6037_130, e_6037_133, e_6037_136, e_6037_137, e_6037_140, e_6037_141, e_6037_144, e_6037_145, e_6037_148, e_6037_149, e_6037_150, e_6037_151, e_6037_153, e_6037_156, e_6037_157, e_6037_158, e_6037_161, e_6037_164, e_6037_165, e_6037_166, e_6037_167, e_6037_170, e_6037_171, e_6037_172, e_6037_176, e_6037_177, e_6037_178, e_6037_181, e_6037_183, e_6037_184, e_6037_187, e_6037_189, e_6037_190, e_6037_193, e_6037_194, e_6037_197, e_6037_198, e_6037_199, e_6037_200, e_6037_202, e_6037_205, e_6037_208, e_6037_211, e_6037_212, e_6037_213, e_6037_214, e_6037_217, e_6037_219, e_6037_220, e_6037_223, e_6037_224, e_6037_227, e_6037_231, e_6037_260, e_6037_261, e_6037_262, e_6037_265, e_6037_266, e_6037_267, e_6037_268, e_6037_271, e_6037_272, e_6037_273, e_6037_274, e_6037_277, e_6037_278, e_6037_279, e_6037_282, e_6037_283, e_6037_286, e_6037_287, e_6037_288, e_6037_291, e_6037_292, e_6037_293, e_6037_294, e_6037_297, e_6037_298, e_6037_299, e_6037_300, e_6037_303, e_6037_304, e_6037_305, e_6037_306, e_6037_309, e_6037_310, e_6037_311, e_6037_312, e_6037_315, e_6037_316, e_6037_317, e_6037_320, e_6037_321, e_6037_324, e_6037_325, e_6037_326, e_6037_329, e_6037_330, e_6037_331, e_6037_334, e_6037_337, e_6037_338, e_6037_339, e_6037_342, e_6037_343, e_6037_344, e_6037_347, e_6037_350, e_6037_351, e_6037_355, e_6037_356, e_6037_359, e_6037_360, e_6037_363, e_6037_365, e_6037_366, e_6037_369, e_6037_371, e_6037_372, e_6037_373, e_6037_376, e_6037_379, e_6037_380, zk_int, zk_ref, zk_null, zk_none, zk_long, zisR_r, zisR_n, zcl_int, zcl_ref, zcl_null, zpush_s, zpush_n, zbs, zbn, true_or, or_true, not_false_eq_true, not_true_eq_false, ↓reduceIte, and_self, and_true, true_and, ie_0_1, ie_0_2, ie_0_3, ie_0_4, ie_0_5, ie_0_6, ie_0_7, ie_1_0, ie_1_2, ie_1_3, ie_1_4, ie_1_5, ie_1_6, ie_1_7, ie_2_0, ie_2_1, ie_2_3, ie_2_4, ie_2_5, ie_2_6, ie_2_7, ie_3_0, ie_3_1, ie_3_2, ie_3_4, ie_3_5, ie_3_6, ie_3_7, ie_4_0, ie_4_1, ie_4_2, ie_4_3, ie_4_5, ie_4_6, ie_4_7, ie_5_0, ie_5_1, ie_5_2, ie_5_3, ie_5_4, ie_5_6, ie_5_7, ie_6_0, ie_6_1, ie_6_2, ie_6_3, ie_6_4, ie_6_5, ie_6_7, ie_7_0, ie_7_1, ie_7_2, ie_7_3, ie_7_4, ie_7_5, ie_7_6, zt_50, zr_50_28, zt_71, zn_71, zo_71, zl_71, zq_71, z0, z1, z2, z3, z4, c0, c1, c2, c3, c4, t0, t1, t2, t3, t4, q]
  · have t0 := h71 0 (by decide)
    have e : rTh (n, m, T, V, G) 2 N = (n, m, T, V, upd G 0 (N 0)) := rfl
    rw [e]
    refine ⟨zui X 50 2 (N 0), ?_, by rw [zi_s, u_ne (by decide)], mFr_t I.1 (mFr_50 (by omega)), by rw [zui_A]; exact zMs_G0 I.2.1, zMn_k I.2.2 (by rw [zi_s, u_ne (by decide)]) (by rw [zi_s, u_ne (by decide)])⟩
    rw [nJ_2, e_6037_230]
    simp only [c_6037, e_6037_0, e_6037_1, e_6037_3, e_6037_4, e_6037_7, e_6037_8, e_6037_9, e_6037_12, e_6037_15, e_6037_16, e_6037_17, e_6037_20, e_6037_23, e_6037_24, e_6037_25, e_6037_28, e_6037_31, e_6037_32, e_6037_35, e_6037_38, e_6037_39, e_6037_42, e_6037_43, e_6037_44, e_6037_47, e_6037_48, e_6037_49, e_6037_50, e_6037_53, e_6037_54, e_6037_55, e_6037_56, e_6037_59, e_6037_60, e_6037_63, e_6037_64, e_6037_67, e_6037_68, e_6037_69, e_6037_72, e_6037_73, e_6037_76, e_6037_78, e_6037_81, e_6037_82, e_6037_83, e_6037_86, e_6037_87, e_6037_88, e_6037_91, e_6037_92, e_6037_93, e_6037_96, e_6037_97, e_6037_100, e_6037_101, e_6037_102, e_6037_105, e_6037_106, e_6037_109, e_6037_110, e_6037_111, e_6037_112, e_6037_116, e_6037_117, e_6037_120, e_6037_122, e_6037_125, e_6037_126, e_6037_129, e_6037_130, e_6037_133, e_6037_136, e_6037_137, e_6037_140, e_6037_141, e_6037_144, e_6037_145, e_6037_148, e_6037_149, e_6037_150, e_6037_151, e_6037_153, e_6037_156, e_6037_157, e_6037_158, e_6037_161, e_6037_164, e_6037_165, e_6037_166, e_6037_167, e_6037_170, e_6037_171, e_6037_172, e_6037_176, e_6037_177, e_6037_178, e_6037_181, e_6037_183, e_6037_184, e_6037_187, e_6037_189, e_6037_190, e_6037_193, e_6037_194, e_6037_197, e_6037_198, e_6037_199, e_6037_200, e_6037_202, e_6037_205, e_6037_208, e_6037_211, e_6037_212, e_6037_213, e_6037_214, e_6037_217, e_6037_219, e_6037_220, e_6037_223, e_6037_224, e_6037_227, e_6037_231, e_6037_260, e_6037_261, e_6037_262, e_6037_265, e_6037_266, e_6037_267, e_6037_268, e_6037_271, e_6037_272, e_6037_273, e_6037_274, e_6037_277, e_6037_278, e_6037_279, e_6037_282, e_6037_283, e_6037_286, e_6037_287, e_6037_288, e_6037_291, e_6037_292, e_6037_293, e_6037_294, e_6037_297, e_6037_298, e_6037_299, e_6037_300, e_6037_303, e_6037_304, e_6037_305, e_6037_306, e_6037_309, e_6037_310, e_6037_311, e_6037_312, e_6037_315, e_6037_316, e_6037_317, e_6037_320, e_6037_321, e_6037_324, e_6037_325, e_6037_326, e_6037_329, e_6037_330, e_6037_331, e_6037_334, e_6037_337, e_6037_338, e_6037_339, e_6037_342, e_6037_343, e_6037_344, e_6037_347, e_6037_350, e_6037_351, e_6037_355, e_6037_356, e_6037_359, e_6037_360, e_6037_363, e_6037_365, e_6037_366, e_6037_369, e_6037_371, e_6037_372, e_6037_373, e_6037_376, e_6037_379, e_6037_380, zk_int, zk_ref, zk_null, zk_none, zk_long, zisR_r, zisR_n, zcl_int, zcl_ref, zcl_null, zpush_s, zpush_n, zbs, zbn, true_or, or_true, not_false_eq_true, not_true_eq_false, ↓reduceIte, and_self, and_true, true_and, ie_0_1, ie_0_2, ie_0_3, ie_0_4, ie_0_5, ie_0_6, ie_0_7, ie_1_0, ie_1_2, ie_1_3, ie_1_4, ie_1_5, ie_1_6, ie_1_7, ie_2_0, ie_2_1, ie_2_3, ie_2_4, ie_2_5, ie_2_6, ie_2_7, ie_3_0, ie_3_1, ie_3_2, ie_3_4, ie_3_5, ie_3_6, ie_3_7, ie_4_0, ie_4_1, ie_4_2, ie_4_3, ie_4_5, ie_4_6, ie_4_7, ie_5_0, ie_5_1, ie_5_2, ie_5_3, ie_5_4, ie_5_6, ie_5_7, ie_6_0, ie_6_1, ie_6_2, ie_6_3, ie_6_4, ie_6_5, ie_6_7, ie_7_0, ie_7_1, ie_7_2, ie_7_3, ie_7_4, ie_7_5, ie_7_6, zt_50, zr_50_28, zt_71, zn_71, zo_71, zl_71, zq_71, z0, c0, t0]
  · have t0 := h71 0 (by decide)
    have e : rTh (n, m, T, V, G) 3 N = (n, m, T, V, upd G 1 (N 0)) := rfl
    rw [e]
    refine ⟨zui X 50 3 (N 0), ?_, by rw [zi_s, u_ne (by decide)], mFr_t I.1 (mFr_50 (by omega)), by rw [zui_A]; exact zMs_G1 I.2.1, zMn_k I.2.2 (by rw [zi_s, u_ne (by decide)]) (by rw [zi_s, u_ne (by decide)])⟩
    rw [nJ_3, e_6037_230]
    simp only [c_6037, e_6037_0, e_6037_1, e_6037_3, e_6037_4, e_6037_7, e_6037_8, e_6037_9, e_6037_12, e_6037_15, e_6037_16, e_6037_17, e_6037_20, e_6037_23, e_6037_24, e_6037_25, e_6037_28, e_6037_31, e_6037_32, e_6037_35, e_6037_38, e_6037_39, e_6037_42, e_6037_43, e_6037_44, e_6037_47, e_6037_48, e_6037_49, e_6037_50, e_6037_53, e_6037_54, e_6037_55, e_6037_56, e_6037_59, e_6037_60, e_6037_63, e_6037_64, e_6037_67, e_6037_68, e_6037_69, e_6037_72, e_6037_73, e_6037_76, e_6037_78, e_6037_81, e_6037_82, e_6037_83, e_6037_86, e_6037_87, e_6037_88, e_6037_91, e_6037_92, e_6037_93, e_6037_96, e_6037_97, e_6037_100, e_6037_101, e_6037_102, e_6037_105, e_6037_106, e_6037_109, e_6037_110, e_6037_111, e_6037_112, e_6037_116, e_6037_117, e_6037_120, e_6037_122, e_6037_125, e_6037_126, e_6037_129, e_6037_130, e_6037_133, e_6037_136, e_6037_137, e_6037_140, e_6037_141, e_6037_144, e_6037_145, e_6037_148, e_6037_149, e_6037_150, e_6037_151, e_6037_153, e_6037_156, e_6037_157, e_6037_158, e_6037_161, e_6037_164, e_6037_165, e_6037_166, e_6037_167, e_6037_170, e_6037_171, e_6037_172, e_6037_176, e_6037_177, e_6037_178, e_6037_181, e_6037_183, e_6037_184, e_6037_187, e_6037_189, e_6037_190, e_6037_193, e_6037_194, e_6037_197, e_6037_198, e_6037_199, e_6037_200, e_6037_202, e_6037_205, e_6037_208, e_6037_211, e_6037_212, e_6037_213, e_6037_214, e_6037_217, e_6037_219, e_6037_220, e_6037_223, e_6037_224, e_6037_227, e_6037_231, e_6037_260, e_6037_261, e_6037_262, e_6037_265, e_6037_266, e_6037_267, e_6037_268, e_6037_271, e_6037_272, e_6037_273, e_6037_274, e_6037_277, e_6037_278, e_6037_279, e_6037_282, e_6037_283, e_6037_286, e_6037_287, e_6037_288, e_6037_291, e_6037_292, e_6037_293, e_6037_294, e_6037_297, e_6037_298, e_6037_299, e_6037_300, e_6037_303, e_6037_304, e_6037_305, e_6037_306, e_6037_309, e_6037_310, e_6037_311, e_6037_312, e_6037_315, e_6037_316, e_6037_317, e_6037_320, e_6037_321, e_6037_324, e_6037_325, e_6037_326, e_6037_329, e_6037_330, e_6037_331, e_6037_334, e_6037_337, e_6037_338, e_6037_339, e_6037_342, e_6037_343, e_6037_344, e_6037_347, e_6037_350, e_6037_351, e_6037_355, e_6037_356, e_6037_359, e_6037_360, e_6037_363, e_6037_365, e_6037_366, e_6037_369, e_6037_371, e_6037_372, e_6037_373, e_6037_376, e_6037_379, e_6037_380, zk_int, zk_ref, zk_null, zk_none, zk_long, zisR_r, zisR_n, zcl_int, zcl_ref, zcl_null, zpush_s, zpush_n, zbs, zbn, true_or, or_true, not_false_eq_true, not_true_eq_false, ↓reduceIte, and_self, and_true, true_and, ie_0_1, ie_0_2, ie_0_3, ie_0_4, ie_0_5, ie_0_6, ie_0_7, ie_1_0, ie_1_2, ie_1_3, ie_1_4, ie_1_5, ie_1_6, ie_1_7, ie_2_0, ie_2_1, ie_2_3, ie_2_4, ie_2_5, ie_2_6, ie_2_7, ie_3_0, ie_3_1, ie_3_2, ie_3_4, ie_3_5, ie_3_6, ie_3_7, ie_4_0, ie_4_1, ie_4_2, ie_4_3, ie_4_5, ie_4_6, ie_4_7, ie_5_0, ie_5_1, ie_5_2, ie_5_3, ie_5_4, ie_5_6, ie_5_7, ie_6_0, ie_6_1, ie_6_2, ie_6_3, ie_6_4, ie_6_5, ie_6_7, ie_7_0, ie_7_1, ie_7_2, ie_7_3, ie_7_4, ie_7_5, ie_7_6, zt_50, zr_50_28, zt_71, zn_71, zo_71, zl_71, zq_71, z0, c0, t0]
  · have t0 := h71 0 (by decide)
    have t1 := h71 1 (by decide)
    have t2 := h71 2 (by decide)
    have e : rTh (n, m, T, V, G) 4 N = (n, m, T, V, upd (upd (upd G 2 (N 0)) 3 (N 1)) 4 (N 2)) := rfl
    rw [e]
    have y0 := zis_nI (j := 0) (n := 3) (by decide) (by decide)
    have y1 := zis_nI (j := 1) (n := 3) (by decide) (by decide)
    have y2 := zis_nI (j := 2) (n := 3) (by decide) (by decide)
    rw [nJ_0] at y0
    rw [nJ_1] at y1
    rw [nJ_2] at y2
    have n71 : ∀ (w : zM) k v, (zui w 63 k v).1 71 = w.1 71 := fun w k v => zi_n _ (by decide)
    have l0 : ((3 : Int32) ≤ 0) = False := eq_false (by decide)
    have l1 : ((3 : Int32) ≤ 1) = False := eq_false (by decide)
    have l2 : ((3 : Int32) ≤ 2) = False := eq_false (by decide)
    have l3 : ((3 : Int32) ≤ 3) = True := eq_true (by decide)
    have a0 : (0 : Int32) + 1 = 1 := by decide
    have a1 : (1 : Int32) + 1 = 2 := by decide
    have a2 : (2 : Int32) + 1 = 3 := by decide
    have m0 := zMs_G2 (e := N 0) I.2.1
    rw [← zui_A] at m0
    have m1 := zMs_G3 (e := N 1) m0
    rw [← zui_A] at m1
    have m2 := zMs_G4 (e := N 2) m1
    rw [← zui_A] at m2
    refine ⟨zui (zui (zui X 63 0 (N 0)) 63 1 (N 1)) 63 2 (N 2), ?_, by rw [zi_n _ (by decide), zi_n _ (by decide), zi_n _ (by decide)], mFr_t (mFr_t (mFr_t I.1 (mFr_a (by omega))) (mFr_a (by omega))) (mFr_a (by omega)), m2, zMn_k I.2.2 (by rw [zi_n _ (by decide), zi_n _ (by decide), zi_n _ (by decide)]) (by rw [zi_n _ (by decide), zi_n _ (by decide), zi_n _ (by decide)])⟩
    rw [nJ_4, e_6037_230]
    simp only [c_6037, e_6037_0, e_6037_1, e_6037_3, e_6037_4, e_6037_7, e_6037_8, e_6037_9, e_6037_12, e_6037_15, e_6037_16, e_6037_17, e_6037_20, e_6037_23, e_6037_24, e_6037_25, e_6037_28, e_6037_31, e_6037_32, e_6037_35, e_6037_38, e_6037_39, e_6037_42, e_6037_43, e_6037_44, e_6037_47, e_6037_48, e_6037_49, e_6037_50, e_6037_53, e_6037_54, e_6037_55, e_6037_56, e_6037_59, e_6037_60, e_6037_63, e_6037_64, e_6037_67, e_6037_68, e_6037_69, e_6037_72, e_6037_73, e_6037_76, e_6037_78, e_6037_81, e_6037_82, e_6037_83, e_6037_86, e_6037_87, e_6037_88, e_6037_91, e_6037_92, e_6037_93, e_6037_96, e_6037_97, e_6037_100, e_6037_101, e_6037_102, e_6037_105, e_6037_106, e_6037_109, e_6037_110, e_6037_111, e_6037_112, e_6037_116, e_6037_117, e_6037_120, e_6037_122, e_6037_125, e_6037_126, e_6037_129, e_6037_130, e_6037_133, e_6037_136, e_6037_137, e_6037_140, e_6037_141, e_6037_144, e_6037_145, e_6037_148, e_6037_149, e_6037_150, e_6037_151, e_6037_153, e_6037_156, e_6037_157, e_6037_158, e_6037_161, e_6037_164, e_6037_165, e_6037_166, e_6037_167, e_6037_170, e_6037_171, e_6037_172, e_6037_176, e_6037_177, e_6037_178, e_6037_181, e_6037_183, e_6037_184, e_6037_187, e_6037_189, e_6037_190, e_6037_193, e_6037_194, e_6037_197, e_6037_198, e_6037_199, e_6037_200, e_6037_202, e_6037_205, e_6037_208, e_6037_211, e_6037_212, e_6037_213, e_6037_214, e_6037_217, e_6037_219, e_6037_220, e_6037_223, e_6037_224, e_6037_227, e_6037_231, e_6037_260, e_6037_261, e_6037_262, e_6037_265, e_6037_266, e_6037_267, e_6037_268, e_6037_271, e_6037_272, e_6037_273, e_6037_274, e_6037_277, e_6037_278, e_6037_279, e_6037_282, e_6037_283, e_6037_286, e_6037_287, e_6037_288, e_6037_291, e_6037_292, e_6037_293, e_6037_294, e_6037_297, e_6037_298, e_6037_299, e_6037_300, e_6037_303, e_6037_304, e_6037_305, e_6037_306, e_6037_309, e_6037_310, e_6037_311, e_6037_312, e_6037_315, e_6037_316, e_6037_317, e_6037_320, e_6037_321, e_6037_324, e_6037_325, e_6037_326, e_6037_329, e_6037_330, e_6037_331, e_6037_334, e_6037_337, e_6037_338, e_6037_339, e_6037_342, e_6037_343, e_6037_344, e_6037_347, e_6037_350, e_6037_351, e_6037_353, e_6037_355, e_6037_356, e_6037_359, e_6037_360, e_6037_363, e_6037_365, e_6037_366, e_6037_369, e_6037_371, e_6037_372, e_6037_373, e_6037_376, e_6037_379, e_6037_380, zk_int, zk_ref, zk_null, zk_none, zk_long, zisR_r, zisR_n, zcl_int, zcl_ref, zcl_null, zpush_s, zpush_n, zbs, zbn, true_or, or_true, not_false_eq_true, not_true_eq_false, ↓reduceIte, and_self, and_true, true_and, ie_0_1, ie_0_2, ie_0_3, ie_0_4, ie_0_5, ie_0_6, ie_0_7, ie_1_0, ie_1_2, ie_1_3, ie_1_4, ie_1_5, ie_1_6, ie_1_7, ie_2_0, ie_2_1, ie_2_3, ie_2_4, ie_2_5, ie_2_6, ie_2_7, ie_3_0, ie_3_1, ie_3_2, ie_3_4, ie_3_5, ie_3_6, ie_3_7, ie_4_0, ie_4_1, ie_4_2, ie_4_3, ie_4_5, ie_4_6, ie_4_7, ie_5_0, ie_5_1, ie_5_2, ie_5_3, ie_5_4, ie_5_6, ie_5_7, ie_6_0, ie_6_1, ie_6_2, ie_6_3, ie_6_4, ie_6_5, ie_6_7, ie_7_0, ie_7_1, ie_7_2, ie_7_3, ie_7_4, ie_7_5, ie_7_6, zt_50, zr_50_28, zt_71, zn_71, zo_71, zl_71, zq_71, zr_50_20, zt_63, zn_63, zo_63, zl_63, zq_63, z0, z1, z2, c0, c1, c2, t0, t1, t2, y0, y1, y2, n71, l0, l1, l2, l3, a0, a1, a2]
end QD
