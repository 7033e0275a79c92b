section PG
variable {d n m n2 m2 : Nat} {w w1 w2 : zM} {S : Nat → Int32} {L : Int32} {T V G : Nat → Int32}
theorem m_become {a y : Nat} {v lo hi : Int32} (ht : zTag a = 10) (hn : zLen a = 4) (hy : y < 4) (h1 : lo ≤ v) (h2 : v ≤ hi) : cal (d + 1) 6024 [.ref 50, .ref a, .int (nI y), .int v, .int lo, .int hi] w = some (some (.int (w.1 a y)), zuA w a (upd (w.1 a) y v)) := by
  have hz := zis_nI (j := y) (n := 4) hy (by decide)
  have hc := nI_clamp (n := y) (by omega)
  have l1 : (v < lo) = False := eq_false (Int32.not_lt.mpr h1)
  have zo : zTag a = 10 ∨ zTag a = 20 := Or.inl ht
  have zl : ∀ w j, zld w a j = w.1 a j := fun w j => zld_A ht
  simp only [c_6024, e_6024_0, e_6024_1, e_6024_3, e_6024_6, e_6024_7, e_6024_9, e_6024_12, e_6024_13, e_6024_15, e_6024_18, e_6024_19, e_6024_20, e_6024_21, e_6024_22, e_6024_24, e_6024_25, e_6024_26, e_6024_27, e_6024_28, e_6024_30, zk_int, zk_ref, zk_null, zk_none, zk_long, zisR_r, zisR_n, zcl_int, zcl_ref, zcl_null, zpush_s, zpush_n, zbs, zbn, true_or, or_true, not_false_eq_true, not_true_eq_false, ↓reduceIte, and_self, and_true, true_and, zt_50, l1, h2, zo, ht, hn, hz, hc, zl, zui_A]
theorem m_become_6 {a y : Nat} {v lo hi : Int32} (h : ¬ (lo ≤ v ∧ v ≤ hi)) : cal (d + 1) 6024 [.ref 50, .ref a, .int (nI y), .int v, .int lo, .int hi] w = some (some (.int (-6)), mRf w 6) := by
  have r := m_no (d := d) (w := w) (j := 6) (c := -6) (by decide) (by decide)
  by_cases h1 : v < lo
  · simp only [c_6024, e_6024_0, e_6024_1, e_6024_3, e_6024_6, e_6024_7, e_6024_9, e_6024_12, e_6024_13, e_6024_15, e_6024_18, e_6024_19, e_6024_20, e_6024_21, e_6024_22, e_6024_24, e_6024_25, e_6024_26, e_6024_27, e_6024_28, e_6024_30, zk_int, zk_ref, zk_null, zk_none, zk_long, zisR_r, zisR_n, zcl_int, zcl_ref, zcl_null, zpush_s, zpush_n, zbs, zbn, true_or, or_true, not_false_eq_true, not_true_eq_false, ↓reduceIte, and_self, and_true, true_and, zt_50, h1, r]
  · have h2 : ¬ v ≤ hi := fun c => h ⟨Int32.not_lt.mp h1, c⟩
    simp only [c_6024, e_6024_0, e_6024_1, e_6024_3, e_6024_6, e_6024_7, e_6024_9, e_6024_12, e_6024_13, e_6024_15, e_6024_18, e_6024_19, e_6024_20, e_6024_21, e_6024_22, e_6024_24, e_6024_25, e_6024_26, e_6024_27, e_6024_28, e_6024_30, zk_int, zk_ref, zk_null, zk_none, zk_long, zisR_r, zisR_n, zcl_int, zcl_ref, zcl_null, zpush_s, zpush_n, zbs, zbn, true_or, or_true, not_false_eq_true, not_true_eq_false, ↓reduceIte, and_self, and_true, true_and, zt_50, h1, h2, r]
theorem zRg_V3 {y : Nat} {e : Int32} (R : zRg T V G n m) (he : zBt e 1 9) : zRg T (upd V (6 * y + 3) e) G n m := by
  obtain ⟨rt, rv, rg⟩ := R
  refine ⟨rt, fun x hx => ?_, rg⟩
  obtain ⟨h0, h1, h3⟩ := rv x hx
  refine ⟨?_, ?_, ?_⟩
  · rw [u_ne (by omega)]; exact h0
  · rw [u_ne (by omega)]; exact h1
  · by_cases hxy : x = y
    · subst hxy; rw [u_eq]; exact he
    · rw [u_ne (by omega)]; exact h3
theorem zRg_Vo {k : Nat} {e : Int32} (R : zRg T V G n m) (hk : k % 6 = 2 ∨ k % 6 = 4) : zRg T (upd V k e) G n m := by
  obtain ⟨rt, rv, rg⟩ := R
  refine ⟨rt, fun x hx => ?_, rg⟩
  obtain ⟨h0, h1, h3⟩ := rv x hx
  refine ⟨?_, ?_, ?_⟩
  · rw [u_ne (by omega)]; exact h0
  · rw [u_ne (by omega)]; exact h1
  · rw [u_ne (by omega)]; exact h3
theorem sk_o {k : Nat} {e : Int32} (h : ∀ x, x < m → zBt (V (6 * x + 0)) 0 6) (hk : ¬ k % 6 = 0) : ∀ x, x < m → zBt (upd V k e (6 * x + 0)) 0 6 := by
  intro x hx
  rw [u_ne (by omega)]
  exact h x hx
theorem sk_0 {y : Nat} {e : Int32} (h : ∀ x, x < m → zBt (V (6 * x + 0)) 0 6) (he : zBt e 0 6) : ∀ x, x < m → zBt (upd V (6 * y + 0) e (6 * x + 0)) 0 6 := by
  intro x hx
  by_cases hxy : x = y
  · subst hxy; rw [u_eq]; exact he
  · rw [u_ne (by omega)]; exact h x hx
theorem bt_c {v a b : Int32} {A B : Int} (ha : a.toInt = A) (hb : b.toInt = B) (h : a ≤ v ∧ v ≤ b) : zBt v A B := by
  obtain ⟨h1, h2⟩ := h
  rw [ti_le] at h1 h2
  exact ⟨by omega, by omega⟩
theorem p_becomes {x k v : Int32} (A : zRl w S L n m) : zPr d 5012 6025 [.int x, .int k, .int v] w S L := by
  have C := rl_C A
  have M := rl_M A
  have hm := rl_m A
  rcases ix_c x (by omega : m < 1000) with hx | ⟨y, hy, rfl⟩
  · have q1 := m_isWaiter_o (d := d + 39) (zMc_f (j := 1) M).2.1 hx
    have r1 := m_no (d := d + 39) (w := fRf w 1) (j := 1) (c := -1) (by decide) (by decide)
    refine pr_f A (by decide) (f_bec_1 (d := d + 37) C hx) (zKp_r _) ?_ (zKp_r _)
    simp only [c_6025, e_6025_0, e_6025_1, e_6025_2, e_6025_5, e_6025_8, e_6025_9, e_6025_10, e_6025_13, e_6025_14, e_6025_15, e_6025_48, e_6025_49, e_6025_50, e_6025_53, e_6025_54, e_6025_55, e_6025_56, e_6025_58, e_6025_61, e_6025_62, e_6025_63, e_6025_64, e_6025_67, e_6025_68, e_6025_69, e_6025_70, e_6025_71, e_6025_74, e_6025_75, e_6025_76, e_6025_77, e_6025_80, e_6025_81, e_6025_82, e_6025_83, e_6025_85, e_6025_88, e_6025_89, e_6025_90, e_6025_91, e_6025_94, e_6025_95, e_6025_96, e_6025_97, e_6025_99, e_6025_102, e_6025_103, e_6025_104, e_6025_105, e_6025_108, e_6025_109, e_6025_110, e_6025_111, e_6025_114, e_6025_117, e_6025_118, e_6025_119, e_6025_121, e_6025_124, zk_int, zk_ref, zk_null, zk_none, zk_long, zisR_r, zisR_n, zcl_int, zcl_ref, zcl_null, zpush_s, zpush_n, zbs, zbn, true_or, or_true, not_false_eq_true, not_true_eq_false, ↓reduceIte, and_self, and_true, true_and, zt_50, q1, r1]
  · by_cases hk : k < 0 ∨ 4 < k
    · have q1 := m_isWaiter (d := d + 39) (zMc_f (j := 5) M).2.1 hy
      have r1 := m_no (d := d + 39) (w := fRf w 5) (j := 5) (c := -5) (by decide) (by decide)
      have e4 : (4 : Int32).toInt = 4 := by decide
      have ne : ∀ c : Int32, 0 ≤ c.toInt → c.toInt ≤ 4 → (k = c) = False := fun c h1 h2 => eq_false (fun e => by
        subst e
        rw [ti_lt, ti_lt, ti_0, e4] at hk
        omega)
      refine pr_f A (by decide) (f_bec_5 (d := d + 37) C hy hk) (zKp_r _) ?_ (zKp_r _)
      simp only [c_6025, e_6025_0, e_6025_1, e_6025_2, e_6025_5, e_6025_8, e_6025_9, e_6025_10, e_6025_13, e_6025_14, e_6025_15, e_6025_48, e_6025_49, e_6025_50, e_6025_53, e_6025_54, e_6025_55, e_6025_56, e_6025_58, e_6025_61, e_6025_62, e_6025_63, e_6025_64, e_6025_67, e_6025_68, e_6025_69, e_6025_70, e_6025_71, e_6025_74, e_6025_75, e_6025_76, e_6025_77, e_6025_80, e_6025_81, e_6025_82, e_6025_83, e_6025_85, e_6025_88, e_6025_89, e_6025_90, e_6025_91, e_6025_94, e_6025_95, e_6025_96, e_6025_97, e_6025_99, e_6025_102, e_6025_103, e_6025_104, e_6025_105, e_6025_108, e_6025_109, e_6025_110, e_6025_111, e_6025_114, e_6025_117, e_6025_118, e_6025_119, e_6025_121, e_6025_124, zk_int, zk_ref, zk_null, zk_none, zk_long, zisR_r, zisR_n, zcl_int, zcl_ref, zcl_null, zpush_s, zpush_n, zbs, zbn, true_or, or_true, not_false_eq_true, not_true_eq_false, ↓reduceIte, and_self, and_true, true_and, ie_0_1, ie_0_2, ie_0_3, ie_0_4, ie_0_5, ie_0_6, ie_0_7, ie_1_0, ie_1_2, ie_1_3, ie_1_4, ie_1_5, ie_1_6, ie_1_7, ie_2_0, ie_2_1, ie_2_3, ie_2_4, ie_2_5, ie_2_6, ie_2_7, ie_3_0, ie_3_1, ie_3_2, ie_3_4, ie_3_5, ie_3_6, ie_3_7, ie_4_0, ie_4_1, ie_4_2, ie_4_3, ie_4_5, ie_4_6, ie_4_7, ie_5_0, ie_5_1, ie_5_2, ie_5_3, ie_5_4, ie_5_6, ie_5_7, ie_6_0, ie_6_1, ie_6_2, ie_6_3, ie_6_4, ie_6_5, ie_6_7, ie_7_0, ie_7_1, ie_7_2, ie_7_3, ie_7_4, ie_7_5, ie_7_6, zt_50, q1, r1, ne 0 (by decide) (by decide), ne 1 (by decide) (by decide), ne 2 (by decide) (by decide), ne 3 (by decide) (by decide), ne 4 (by decide) (by decide)]
    · have kc : k = 0 ∨ k = 1 ∨ k = 2 ∨ k = 3 ∨ k = 4 := by
        have e4 : (4 : Int32).toInt = 4 := by decide
        have e2 : (2 : Int32).toInt = 2 := by decide
        have e3 : (3 : Int32).toInt = 3 := by decide
        rw [ti_lt, ti_lt, ti_0, e4] at hk
        rw [ti_eq, ti_eq, ti_eq, ti_eq, ti_eq, ti_0, ti_1, e2, e3, e4]
        omega
      rcases kc with rfl | rfl | rfl | rfl | rfl
      · by_cases hv : 0 ≤ v ∧ v ≤ 6
        · have hb : zBt v 0 6 := bt_c (by decide) (by decide) hv
          have Ms := zMs_u (a := 3) (k := 6 * y + 0) (v := v) M.1 (by decide)
          have Mn : zMn (zuA w 3 (upd (w.1 3) (6 * y + 0) v)) n m := zMn_k M.2.1 (by rw [zA_n _ _ (by decide)]) (by rw [zA_n _ _ (by decide)])
          have q1 := m_isWaiter (d := d + 39) Mn hy
          have qb := m_become (d := d + 38) (w := zuA w 3 (upd (w.1 3) (6 * y + 0) v)) (y := y) (lo := 0) (hi := 6) zt_57 zn_57 (by omega) hv.1 hv.2
          have vv : (zuA w 3 (upd (w.1 3) (6 * y + 0) v)).1 57 y = w.1 3 (6 * y + 0) := by
            rw [zA_n _ _ (by decide)]
            obtain ⟨b0, b1, b2, b3, b4, b5⟩ := M.1.2.1 y (by omega)
            exact b0
          rw [vv] at qb
          have R := zRl_c (kc := 6 * y + 0) (km := y) (v := v) A (ac := 3) (am := 57) (by omega) (by omega) (zA_n _ _ (by decide)) (zA_s _ _ _) (zA_n _ _ (by decide)) (zMs_V0 Ms (by omega)) (zRg_V0 M.2.2 (by obtain ⟨h1, h2⟩ := hb; exact ⟨h1, by omega⟩)) (sk_0 A.1.2.2.1 hb) (by omega)
          refine ⟨_, _, _, n, m, f_becs_0 (d := d + 37) C hy hv, ?_, R⟩
          simp only [c_6025, e_6025_0, e_6025_1, e_6025_2, e_6025_5, e_6025_8, e_6025_9, e_6025_10, e_6025_13, e_6025_14, e_6025_15, e_6025_48, e_6025_49, e_6025_50, e_6025_53, e_6025_54, e_6025_55, e_6025_56, e_6025_58, e_6025_61, e_6025_62, e_6025_63, e_6025_64, e_6025_67, e_6025_68, e_6025_69, e_6025_70, e_6025_71, e_6025_74, e_6025_75, e_6025_76, e_6025_77, e_6025_80, e_6025_81, e_6025_82, e_6025_83, e_6025_85, e_6025_88, e_6025_89, e_6025_90, e_6025_91, e_6025_94, e_6025_95, e_6025_96, e_6025_97, e_6025_99, e_6025_102, e_6025_103, e_6025_104, e_6025_105, e_6025_108, e_6025_109, e_6025_110, e_6025_111, e_6025_114, e_6025_117, e_6025_118, e_6025_119, e_6025_121, e_6025_124, zk_int, zk_ref, zk_null, zk_none, zk_long, zisR_r, zisR_n, zcl_int, zcl_ref, zcl_null, zpush_s, zpush_n, zbs, zbn, true_or, or_true, not_false_eq_true, not_true_eq_false, ↓reduceIte, and_self, and_true, true_and, ie_0_1, ie_0_2, ie_0_3, ie_0_4, ie_0_5, ie_0_6, ie_0_7, ie_1_0, ie_1_2, ie_1_3, ie_1_4, ie_1_5, ie_1_6, ie_1_7, ie_2_0, ie_2_1, ie_2_3, ie_2_4, ie_2_5, ie_2_6, ie_2_7, ie_3_0, ie_3_1, ie_3_2, ie_3_4, ie_3_5, ie_3_6, ie_3_7, ie_4_0, ie_4_1, ie_4_2, ie_4_3, ie_4_5, ie_4_6, ie_4_7, ie_5_0, ie_5_1, ie_5_2, ie_5_3, ie_5_4, ie_5_6, ie_5_7, ie_6_0, ie_6_1, ie_6_2, ie_6_3, ie_6_4, ie_6_5, ie_6_7, ie_7_0, ie_7_1, ie_7_2, ie_7_3, ie_7_4, ie_7_5, ie_7_6, zt_50, zr_50_14, q1, qb]
        · have q1 := m_isWaiter (d := d + 39) (zMc_f (j := 6) M).2.1 hy
          have qb := m_become_6 (d := d + 38) (w := fRf w 6) (a := 57) (y := y) (v := v) (lo := 0) (hi := 6) hv
          refine pr_f A (by decide) (f_bec_60 (d := d + 37) C hy hv) (zKp_r _) ?_ (zKp_r _)
          simp only [c_6025, e_6025_0, e_6025_1, e_6025_2, e_6025_5, e_6025_8, e_6025_9, e_6025_10, e_6025_13, e_6025_14, e_6025_15, e_6025_48, e_6025_49, e_6025_50, e_6025_53, e_6025_54, e_6025_55, e_6025_56, e_6025_58, e_6025_61, e_6025_62, e_6025_63, e_6025_64, e_6025_67, e_6025_68, e_6025_69, e_6025_70, e_6025_71, e_6025_74, e_6025_75, e_6025_76, e_6025_77, e_6025_80, e_6025_81, e_6025_82, e_6025_83, e_6025_85, e_6025_88, e_6025_89, e_6025_90, e_6025_91, e_6025_94, e_6025_95, e_6025_96, e_6025_97, e_6025_99, e_6025_102, e_6025_103, e_6025_104, e_6025_105, e_6025_108, e_6025_109, e_6025_110, e_6025_111, e_6025_114, e_6025_117, e_6025_118, e_6025_119, e_6025_121, e_6025_124, zk_int, zk_ref, zk_null, zk_none, zk_long, zisR_r, zisR_n, zcl_int, zcl_ref, zcl_null, zpush_s, zpush_n, zbs, zbn, true_or, or_true, not_false_eq_true, not_true_eq_false, ↓reduceIte, and_self, and_true, true_and, ie_0_1, ie_0_2, ie_0_3, ie_0_4, ie_0_5, ie_0_6, ie_0_7, ie_1_0, ie_1_2, ie_1_3, ie_1_4, ie_1_5, ie_1_6, ie_1_7, ie_2_0, ie_2_1, ie_2_3, ie_2_4, ie_2_5, ie_2_6, ie_2_7, ie_3_0, ie_3_1, ie_3_2, ie_3_4, ie_3_5, ie_3_6, ie_3_7, ie_4_0, ie_4_1, ie_4_2, ie_4_3, ie_4_5, ie_4_6, ie_4_7, ie_5_0, ie_5_1, ie_5_2, ie_5_3, ie_5_4, ie_5_6, ie_5_7, ie_6_0, ie_6_1, ie_6_2, ie_6_3, ie_6_4, ie_6_5, ie_6_7, ie_7_0, ie_7_1, ie_7_2, ie_7_3, ie_7_4, ie_7_5, ie_7_6, zt_50, zr_50_14, q1, qb]
      · by_cases hv : 0 ≤ v ∧ v ≤ 3
        · have hb : zBt v 0 3 := bt_c (by decide) (by decide) hv
          have Ms := zMs_u (a := 3) (k := 6 * y + 1) (v := v) M.1 (by decide)
          have Mn : zMn (zuA w 3 (upd (w.1 3) (6 * y + 1) v)) n m := zMn_k M.2.1 (by rw [zA_n _ _ (by decide)]) (by rw [zA_n _ _ (by decide)])
          have q1 := m_isWaiter (d := d + 39) Mn hy
          have qb := m_become (d := d + 38) (w := zuA w 3 (upd (w.1 3) (6 * y + 1) v)) (y := y) (lo := 0) (hi := 3) zt_58 zn_58 (by omega) hv.1 hv.2
          have vv : (zuA w 3 (upd (w.1 3) (6 * y + 1) v)).1 58 y = w.1 3 (6 * y + 1) := by
            rw [zA_n _ _ (by decide)]
            obtain ⟨b0, b1, b2, b3, b4, b5⟩ := M.1.2.1 y (by omega)
            exact b1
          rw [vv] at qb
          have R := zRl_c (kc := 6 * y + 1) (km := y) (v := v) A (ac := 3) (am := 58) (by omega) (by omega) (zA_n _ _ (by decide)) (zA_s _ _ _) (zA_n _ _ (by decide)) (zMs_V1 Ms (by omega)) (zRg_V1 M.2.2 hb) (sk_o A.1.2.2.1 (by omega)) (by omega)
          refine ⟨_, _, _, n, m, f_becs_1 (d := d + 37) C hy hv, ?_, R⟩
          simp only [c_6025, e_6025_0, e_6025_1, e_6025_2, e_6025_5, e_6025_8, e_6025_9, e_6025_10, e_6025_13, e_6025_14, e_6025_15, e_6025_48, e_6025_49, e_6025_50, e_6025_53, e_6025_54, e_6025_55, e_6025_56, e_6025_58, e_6025_61, e_6025_62, e_6025_63, e_6025_64, e_6025_67, e_6025_68, e_6025_69, e_6025_70, e_6025_71, e_6025_74, e_6025_75, e_6025_76, e_6025_77, e_6025_80, e_6025_81, e_6025_82, e_6025_83, e_6025_85, e_6025_88, e_6025_89, e_6025_90, e_6025_91, e_6025_94, e_6025_95, e_6025_96, e_6025_97, e_6025_99, e_6025_102, e_6025_103, e_6025_104, e_6025_105, e_6025_108, e_6025_109, e_6025_110, e_6025_111, e_6025_114, e_6025_117, e_6025_118, e_6025_119, e_6025_121, e_6025_124, zk_int, zk_ref, zk_null, zk_none, zk_long, zisR_r, zisR_n, zcl_int, zcl_ref, zcl_null, zpush_s, zpush_n, zbs, zbn, true_or, or_true, not_false_eq_true, not_true_eq_false, ↓reduceIte, and_self, and_true, true_and, ie_0_1, ie_0_2, ie_0_3, ie_0_4, ie_0_5, ie_0_6, ie_0_7, ie_1_0, ie_1_2, ie_1_3, ie_1_4, ie_1_5, ie_1_6, ie_1_7, ie_2_0, ie_2_1, ie_2_3, ie_2_4, ie_2_5, ie_2_6, ie_2_7, ie_3_0, ie_3_1, ie_3_2, ie_3_4, ie_3_5, ie_3_6, ie_3_7, ie_4_0, ie_4_1, ie_4_2, ie_4_3, ie_4_5, ie_4_6, ie_4_7, ie_5_0, ie_5_1, ie_5_2, ie_5_3, ie_5_4, ie_5_6, ie_5_7, ie_6_0, ie_6_1, ie_6_2, ie_6_3, ie_6_4, ie_6_5, ie_6_7, ie_7_0, ie_7_1, ie_7_2, ie_7_3, ie_7_4, ie_7_5, ie_7_6, zt_50, zr_50_15, q1, qb]
        · have q1 := m_isWaiter (d := d + 39) (zMc_f (j := 6) M).2.1 hy
          have qb := m_become_6 (d := d + 38) (w := fRf w 6) (a := 58) (y := y) (v := v) (lo := 0) (hi := 3) hv
          refine pr_f A (by decide) (f_bec_61 (d := d + 37) C hy hv) (zKp_r _) ?_ (zKp_r _)
          simp only [c_6025, e_6025_0, e_6025_1, e_6025_2, e_6025_5, e_6025_8, e_6025_9, e_6025_10, e_6025_13, e_6025_14, e_6025_15, e_6025_48, e_6025_49, e_6025_50, e_6025_53, e_6025_54, e_6025_55, e_6025_56, e_6025_58, e_6025_61, e_6025_62, e_6025_63, e_6025_64, e_6025_67, e_6025_68, e_6025_69, e_6025_70, e_6025_71, e_6025_74, e_6025_75, e_6025_76, e_6025_77, e_6025_80, e_6025_81, e_6025_82, e_6025_83, e_6025_85, e_6025_88, e_6025_89, e_6025_90, e_6025_91, e_6025_94, e_6025_95, e_6025_96, e_6025_97, e_6025_99, e_6025_102, e_6025_103, e_6025_104, e_6025_105, e_6025_108, e_6025_109, e_6025_110, e_6025_111, e_6025_114, e_6025_117, e_6025_118, e_6025_119, e_6025_121, e_6025_124, zk_int, zk_ref, zk_null, zk_none, zk_long, zisR_r, zisR_n, zcl_int, zcl_ref, zcl_null, zpush_s, zpush_n, zbs, zbn, true_or, or_true, not_false_eq_true, not_true_eq_false, ↓reduceIte, and_self, and_true, true_and, ie_0_1, ie_0_2, ie_0_3, ie_0_4, ie_0_5, ie_0_6, ie_0_7, ie_1_0, ie_1_2, ie_1_3, ie_1_4, ie_1_5, ie_1_6, ie_1_7, ie_2_0, ie_2_1, ie_2_3, ie_2_4, ie_2_5, ie_2_6, ie_2_7, ie_3_0, ie_3_1, ie_3_2, ie_3_4, ie_3_5, ie_3_6, ie_3_7, ie_4_0, ie_4_1, ie_4_2, ie_4_3, ie_4_5, ie_4_6, ie_4_7, ie_5_0, ie_5_1, ie_5_2, ie_5_3, ie_5_4, ie_5_6, ie_5_7, ie_6_0, ie_6_1, ie_6_2, ie_6_3, ie_6_4, ie_6_5, ie_6_7, ie_7_0, ie_7_1, ie_7_2, ie_7_3, ie_7_4, ie_7_5, ie_7_6, zt_50, zr_50_15, q1, qb]
      · by_cases hv : 0 ≤ v ∧ v ≤ 99
        · have hb : zBt v 0 99 := bt_c (by decide) (by decide) hv
          have Ms := zMs_u (a := 3) (k := 6 * y + 2) (v := v) M.1 (by decide)
          have Mn : zMn (zuA w 3 (upd (w.1 3) (6 * y + 2) v)) n m := zMn_k M.2.1 (by rw [zA_n _ _ (by decide)]) (by rw [zA_n _ _ (by decide)])
          have q1 := m_isWaiter (d := d + 39) Mn hy
          have qb := m_become (d := d + 38) (w := zuA w 3 (upd (w.1 3) (6 * y + 2) v)) (y := y) (lo := 0) (hi := 99) zt_59 zn_59 (by omega) hv.1 hv.2
          have vv : (zuA w 3 (upd (w.1 3) (6 * y + 2) v)).1 59 y = w.1 3 (6 * y + 2) := by
            rw [zA_n _ _ (by decide)]
            obtain ⟨b0, b1, b2, b3, b4, b5⟩ := M.1.2.1 y (by omega)
            exact b2
          rw [vv] at qb
          have R := zRl_c (kc := 6 * y + 2) (km := y) (v := v) A (ac := 3) (am := 59) (by omega) (by omega) (zA_n _ _ (by decide)) (zA_s _ _ _) (zA_n _ _ (by decide)) (zMs_V2 Ms (by omega)) (zRg_Vo M.2.2 (by omega)) (sk_o A.1.2.2.1 (by omega)) (by omega)
          refine ⟨_, _, _, n, m, f_becs_2 (d := d + 37) C hy hv, ?_, R⟩
          simp only [c_6025, e_6025_0, e_6025_1, e_6025_2, e_6025_5, e_6025_8, e_6025_9, e_6025_10, e_6025_13, e_6025_14, e_6025_15, e_6025_48, e_6025_49, e_6025_50, e_6025_53, e_6025_54, e_6025_55, e_6025_56, e_6025_58, e_6025_61, e_6025_62, e_6025_63, e_6025_64, e_6025_67, e_6025_68, e_6025_69, e_6025_70, e_6025_71, e_6025_74, e_6025_75, e_6025_76, e_6025_77, e_6025_80, e_6025_81, e_6025_82, e_6025_83, e_6025_85, e_6025_88, e_6025_89, e_6025_90, e_6025_91, e_6025_94, e_6025_95, e_6025_96, e_6025_97, e_6025_99, e_6025_102, e_6025_103, e_6025_104, e_6025_105, e_6025_108, e_6025_109, e_6025_110, e_6025_111, e_6025_114, e_6025_117, e_6025_118, e_6025_119, e_6025_121, e_6025_124, zk_int, zk_ref, zk_null, zk_none, zk_long, zisR_r, zisR_n, zcl_int, zcl_ref, zcl_null, zpush_s, zpush_n, zbs, zbn, true_or, or_true, not_false_eq_true, not_true_eq_false, ↓reduceIte, and_self, and_true, true_and, ie_0_1, ie_0_2, ie_0_3, ie_0_4, ie_0_5, ie_0_6, ie_0_7, ie_1_0, ie_1_2, ie_1_3, ie_1_4, ie_1_5, ie_1_6, ie_1_7, ie_2_0, ie_2_1, ie_2_3, ie_2_4, ie_2_5, ie_2_6, ie_2_7, ie_3_0, ie_3_1, ie_3_2, ie_3_4, ie_3_5, ie_3_6, ie_3_7, ie_4_0, ie_4_1, ie_4_2, ie_4_3, ie_4_5, ie_4_6, ie_4_7, ie_5_0, ie_5_1, ie_5_2, ie_5_3, ie_5_4, ie_5_6, ie_5_7, ie_6_0, ie_6_1, ie_6_2, ie_6_3, ie_6_4, ie_6_5, ie_6_7, ie_7_0, ie_7_1, ie_7_2, ie_7_3, ie_7_4, ie_7_5, ie_7_6, zt_50, zr_50_16, q1, qb]
        · have q1 := m_isWaiter (d := d + 39) (zMc_f (j := 6) M).2.1 hy
          have qb := m_become_6 (d := d + 38) (w := fRf w 6) (a := 59) (y := y) (v := v) (lo := 0) (hi := 99) hv
          refine pr_f A (by decide) (f_bec_62 (d := d + 37) C hy hv) (zKp_r _) ?_ (zKp_r _)
          simp only [c_6025, e_6025_0, e_6025_1, e_6025_2, e_6025_5, e_6025_8, e_6025_9, e_6025_10, e_6025_13, e_6025_14, e_6025_15, e_6025_48, e_6025_49, e_6025_50, e_6025_53, e_6025_54, e_6025_55, e_6025_56, e_6025_58, e_6025_61, e_6025_62, e_6025_63, e_6025_64, e_6025_67, e_6025_68, e_6025_69, e_6025_70, e_6025_71, e_6025_74, e_6025_75, e_6025_76, e_6025_77, e_6025_80, e_6025_81, e_6025_82, e_6025_83, e_6025_85, e_6025_88, e_6025_89, e_6025_90, e_6025_91, e_6025_94, e_6025_95, e_6025_96, e_6025_97, e_6025_99, e_6025_102, e_6025_103, e_6025_104, e_6025_105, e_6025_108, e_6025_109, e_6025_110, e_6025_111, e_6025_114, e_6025_117, e_6025_118, e_6025_119, e_6025_121, e_6025_124, zk_int, zk_ref, zk_null, zk_none, zk_long, zisR_r, zisR_n, zcl_int, zcl_ref, zcl_null, zpush_s, zpush_n, zbs, zbn, true_or, or_true, not_false_eq_true, not_true_eq_false, ↓reduceIte, and_self, and_true, true_and, ie_0_1, ie_0_2, ie_0_3, ie_0_4, ie_0_5, ie_0_6, ie_0_7, ie_1_0, ie_1_2, ie_1_3, ie_1_4, ie_1_5, ie_1_6, ie_1_7, ie_2_0, ie_2_1, ie_2_3, ie_2_4, ie_2_5, ie_2_6, ie_2_7, ie_3_0, ie_3_1, ie_3_2, ie_3_4, ie_3_5, ie_3_6, ie_3_7, ie_4_0, ie_4_1, ie_4_2, ie_4_3, ie_4_5, ie_4_6, ie_4_7, ie_5_0, ie_5_1, ie_5_2, ie_5_3, ie_5_4, ie_5_6, ie_5_7, ie_6_0, ie_6_1, ie_6_2, ie_6_3, ie_6_4, ie_6_5, ie_6_7, ie_7_0, ie_7_1, ie_7_2, ie_7_3, ie_7_4, ie_7_5, ie_7_6, zt_50, zr_50_16, q1, qb]
      · by_cases hv : 1 ≤ v ∧ v ≤ 9
        · have hb : zBt v 1 9 := bt_c (by decide) (by decide) hv
          have Ms := zMs_u (a := 3) (k := 6 * y + 3) (v := v) M.1 (by decide)
          have Mn : zMn (zuA w 3 (upd (w.1 3) (6 * y + 3) v)) n m := zMn_k M.2.1 (by rw [zA_n _ _ (by decide)]) (by rw [zA_n _ _ (by decide)])
          have q1 := m_isWaiter (d := d + 39) Mn hy
          have qb := m_become (d := d + 38) (w := zuA w 3 (upd (w.1 3) (6 * y + 3) v)) (y := y) (lo := 1) (hi := 9) zt_60 zn_60 (by omega) hv.1 hv.2
          have vv : (zuA w 3 (upd (w.1 3) (6 * y + 3) v)).1 60 y = w.1 3 (6 * y + 3) := by
            rw [zA_n _ _ (by decide)]
            obtain ⟨b0, b1, b2, b3, b4, b5⟩ := M.1.2.1 y (by omega)
            exact b3
          rw [vv] at qb
          have R := zRl_c (kc := 6 * y + 3) (km := y) (v := v) A (ac := 3) (am := 60) (by omega) (by omega) (zA_n _ _ (by decide)) (zA_s _ _ _) (zA_n _ _ (by decide)) (zMs_V3 Ms (by omega)) (zRg_V3 M.2.2 hb) (sk_o A.1.2.2.1 (by omega)) (by omega)
          refine ⟨_, _, _, n, m, f_becs_3 (d := d + 37) C hy hv, ?_, R⟩
          simp only [c_6025, e_6025_0, e_6025_1, e_6025_2, e_6025_5, e_6025_8, e_6025_9, e_6025_10, e_6025_13, e_6025_14, e_6025_15, e_6025_48, e_6025_49, e_6025_50, e_6025_53, e_6025_54, e_6025_55, e_6025_56, e_6025_58, e_6025_61, e_6025_62, e_6025_63, e_6025_64, e_6025_67, e_6025_68, e_6025_69, e_6025_70, e_6025_71, e_6025_74, e_6025_75, e_6025_76, e_6025_77, e_6025_80, e_6025_81, e_6025_82, e_6025_83, e_6025_85, e_6025_88, e_6025_89, e_6025_90, e_6025_91, e_6025_94, e_6025_95, e_6025_96, e_6025_97, e_6025_99, e_6025_102, e_6025_103, e_6025_104, e_6025_105, e_6025_108, e_6025_109, e_6025_110, e_6025_111, e_6025_114, e_6025_117, e_6025_118, e_6025_119, e_6025_121, e_6025_124, zk_int, zk_ref, zk_null, zk_none, zk_long, zisR_r, zisR_n, zcl_int, zcl_ref, zcl_null, zpush_s, zpush_n, zbs, zbn, true_or, or_true, not_false_eq_true, not_true_eq_false, ↓reduceIte, and_self, and_true, true_and, ie_0_1, ie_0_2, ie_0_3, ie_0_4, ie_0_5, ie_0_6, ie_0_7, ie_1_0, ie_1_2, ie_1_3, ie_1_4, ie_1_5, ie_1_6, ie_1_7, ie_2_0, ie_2_1, ie_2_3, ie_2_4, ie_2_5, ie_2_6, ie_2_7, ie_3_0, ie_3_1, ie_3_2, ie_3_4, ie_3_5, ie_3_6, ie_3_7, ie_4_0, ie_4_1, ie_4_2, ie_4_3, ie_4_5, ie_4_6, ie_4_7, ie_5_0, ie_5_1, ie_5_2, ie_5_3, ie_5_4, ie_5_6, ie_5_7, ie_6_0, ie_6_1, ie_6_2, ie_6_3, ie_6_4, ie_6_5, ie_6_7, ie_7_0, ie_7_1, ie_7_2, ie_7_3, ie_7_4, ie_7_5, ie_7_6, zt_50, zr_50_17, q1, qb]
        · have q1 := m_isWaiter (d := d + 39) (zMc_f (j := 6) M).2.1 hy
          have qb := m_become_6 (d := d + 38) (w := fRf w 6) (a := 60) (y := y) (v := v) (lo := 1) (hi := 9) hv
          refine pr_f A (by decide) (f_bec_63 (d := d + 37) C hy hv) (zKp_r _) ?_ (zKp_r _)
          simp only [c_6025, e_6025_0, e_6025_1, e_6025_2, e_6025_5, e_6025_8, e_6025_9, e_6025_10, e_6025_13, e_6025_14, e_6025_15, e_6025_48, e_6025_49, e_6025_50, e_6025_53, e_6025_54, e_6025_55, e_6025_56, e_6025_58, e_6025_61, e_6025_62, e_6025_63, e_6025_64, e_6025_67, e_6025_68, e_6025_69, e_6025_70, e_6025_71, e_6025_74, e_6025_75, e_6025_76, e_6025_77, e_6025_80, e_6025_81, e_6025_82, e_6025_83, e_6025_85, e_6025_88, e_6025_89, e_6025_90, e_6025_91, e_6025_94, e_6025_95, e_6025_96, e_6025_97, e_6025_99, e_6025_102, e_6025_103, e_6025_104, e_6025_105, e_6025_108, e_6025_109, e_6025_110, e_6025_111, e_6025_114, e_6025_117, e_6025_118, e_6025_119, e_6025_121, e_6025_124, zk_int, zk_ref, zk_null, zk_none, zk_long, zisR_r, zisR_n, zcl_int, zcl_ref, zcl_null, zpush_s, zpush_n, zbs, zbn, true_or, or_true, not_false_eq_true, not_true_eq_false, ↓reduceIte, and_self, and_true, true_and, ie_0_1, ie_0_2, ie_0_3, ie_0_4, ie_0_5, ie_0_6, ie_0_7, ie_1_0, ie_1_2, ie_1_3, ie_1_4, ie_1_5, ie_1_6, ie_1_7, ie_2_0, ie_2_1, ie_2_3, ie_2_4, ie_2_5, ie_2_6, ie_2_7, ie_3_0, ie_3_1, ie_3_2, ie_3_4, ie_3_5, ie_3_6, ie_3_7, ie_4_0, ie_4_1, ie_4_2, ie_4_3, ie_4_5, ie_4_6, ie_4_7, ie_5_0, ie_5_1, ie_5_2, ie_5_3, ie_5_4, ie_5_6, ie_5_7, ie_6_0, ie_6_1, ie_6_2, ie_6_3, ie_6_4, ie_6_5, ie_6_7, ie_7_0, ie_7_1, ie_7_2, ie_7_3, ie_7_4, ie_7_5, ie_7_6, zt_50, zr_50_17, q1, qb]
      · by_cases hv : 0 ≤ v ∧ v ≤ 999
        · have hb : zBt v 0 999 := bt_c (by decide) (by decide) hv
          have Ms := zMs_u (a := 3) (k := 6 * y + 4) (v := v) M.1 (by decide)
          have Mn : zMn (zuA w 3 (upd (w.1 3) (6 * y + 4) v)) n m := zMn_k M.2.1 (by rw [zA_n _ _ (by decide)]) (by rw [zA_n _ _ (by decide)])
          have q1 := m_isWaiter (d := d + 39) Mn hy
          have qb := m_become (d := d + 38) (w := zuA w 3 (upd (w.1 3) (6 * y + 4) v)) (y := y) (lo := 0) (hi := 999) zt_61 zn_61 (by omega) hv.1 hv.2
          have vv : (zuA w 3 (upd (w.1 3) (6 * y + 4) v)).1 61 y = w.1 3 (6 * y + 4) := by
            rw [zA_n _ _ (by decide)]
            obtain ⟨b0, b1, b2, b3, b4, b5⟩ := M.1.2.1 y (by omega)
            exact b4
          rw [vv] at qb
          have R := zRl_c (kc := 6 * y + 4) (km := y) (v := v) A (ac := 3) (am := 61) (by omega) (by omega) (zA_n _ _ (by decide)) (zA_s _ _ _) (zA_n _ _ (by decide)) (zMs_V4 Ms (by omega)) (zRg_Vo M.2.2 (by omega)) (sk_o A.1.2.2.1 (by omega)) (by omega)
          refine ⟨_, _, _, n, m, f_becs_4 (d := d + 37) C hy hv, ?_, R⟩
          simp only [c_6025, e_6025_0, e_6025_1, e_6025_2, e_6025_5, e_6025_8, e_6025_9, e_6025_10, e_6025_13, e_6025_14, e_6025_15, e_6025_48, e_6025_49, e_6025_50, e_6025_53, e_6025_54, e_6025_55, e_6025_56, e_6025_58, e_6025_61, e_6025_62, e_6025_63, e_6025_64, e_6025_67, e_6025_68, e_6025_69, e_6025_70, e_6025_71, e_6025_74, e_6025_75, e_6025_76, e_6025_77, e_6025_80, e_6025_81, e_6025_82, e_6025_83, e_6025_85, e_6025_88, e_6025_89, e_6025_90, e_6025_91, e_6025_94, e_6025_95, e_6025_96, e_6025_97, e_6025_99, e_6025_102, e_6025_103, e_6025_104, e_6025_105, e_6025_108, e_6025_109, e_6025_110, e_6025_111, e_6025_114, e_6025_117, e_6025_118, e_6025_119, e_6025_121, e_6025_124, zk_int, zk_ref, zk_null, zk_none, zk_long, zisR_r, zisR_n, zcl_int, zcl_ref, zcl_null, zpush_s, zpush_n, zbs, zbn, true_or, or_true, not_false_eq_true, not_true_eq_false, ↓reduceIte, and_self, and_true, true_and, ie_0_1, ie_0_2, ie_0_3, ie_0_4, ie_0_5, ie_0_6, ie_0_7, ie_1_0, ie_1_2, ie_1_3, ie_1_4, ie_1_5, ie_1_6, ie_1_7, ie_2_0, ie_2_1, ie_2_3, ie_2_4, ie_2_5, ie_2_6, ie_2_7, ie_3_0, ie_3_1, ie_3_2, ie_3_4, ie_3_5, ie_3_6, ie_3_7, ie_4_0, ie_4_1, ie_4_2, ie_4_3, ie_4_5, ie_4_6, ie_4_7, ie_5_0, ie_5_1, ie_5_2, ie_5_3, ie_5_4, ie_5_6, ie_5_7, ie_6_0, ie_6_1, ie_6_2, ie_6_3, ie_6_4, ie_6_5, ie_6_7, ie_7_0, ie_7_1, ie_7_2, ie_7_3, ie_7_4, ie_7_5, ie_7_6, zt_50, zr_50_18, q1, qb]
        · have q1 := m_isWaiter (d := d + 39) (zMc_f (j := 6) M).2.1 hy
          have qb := m_become_6 (d := d + 38) (w := fRf w 6) (a := 61) (y := y) (v := v) (lo := 0) (hi := 999) hv
          refine pr_f A (by decide) (f_bec_64 (d := d + 37) C hy hv) (zKp_r _) ?_ (zKp_r _)
          simp only [c_6025, e_6025_0, e_6025_1, e_6025_2, e_6025_5, e_6025_8, e_6025_9, e_6025_10, e_6025_13, e_6025_14, e_6025_15, e_6025_48, e_6025_49, e_6025_50, e_6025_53, e_6025_54, e_6025_55, e_6025_56, e_6025_58, e_6025_61, e_6025_62, e_6025_63, e_6025_64, e_6025_67, e_6025_68, e_6025_69, e_6025_70, e_6025_71, e_6025_74, e_6025_75, e_6025_76, e_6025_77, e_6025_80, e_6025_81, e_6025_82, e_6025_83, e_6025_85, e_6025_88, e_6025_89, e_6025_90, e_6025_91, e_6025_94, e_6025_95, e_6025_96, e_6025_97, e_6025_99, e_6025_102, e_6025_103, e_6025_104, e_6025_105, e_6025_108, e_6025_109, e_6025_110, e_6025_111, e_6025_114, e_6025_117, e_6025_118, e_6025_119, e_6025_121, e_6025_124, zk_int, zk_ref, zk_null, zk_none, zk_long, zisR_r, zisR_n, zcl_int, zcl_ref, zcl_null, zpush_s, zpush_n, zbs, zbn, true_or, or_true, not_false_eq_true, not_true_eq_false, ↓reduceIte, and_self, and_true, true_and, ie_0_1, ie_0_2, ie_0_3, ie_0_4, ie_0_5, ie_0_6, ie_0_7, ie_1_0, ie_1_2, ie_1_3, ie_1_4, ie_1_5, ie_1_6, ie_1_7, ie_2_0, ie_2_1, ie_2_3, ie_2_4, ie_2_5, ie_2_6, ie_2_7, ie_3_0, ie_3_1, ie_3_2, ie_3_4, ie_3_5, ie_3_6, ie_3_7, ie_4_0, ie_4_1, ie_4_2, ie_4_3, ie_4_5, ie_4_6, ie_4_7, ie_5_0, ie_5_1, ie_5_2, ie_5_3, ie_5_4, ie_5_6, ie_5_7, ie_6_0, ie_6_1, ie_6_2, ie_6_3, ie_6_4, ie_6_5, ie_6_7, ie_7_0, ie_7_1, ie_7_2, ie_7_3, ie_7_4, ie_7_5, ie_7_6, zt_50, zr_50_18, q1, qb]
theorem zRg_Gn {k : Nat} {e : Int32} (R : zRg T V G n m) (hk : k = 2 ∨ k = 3 ∨ k = 4) (he : zBt e 0 99) : zRg T V (upd G k e) n m := by
  obtain ⟨rt, rv, g0, g1, g2, g3, g4, rn, rm⟩ := R
  refine ⟨rt, rv, ?_, ?_, ?_, ?_, ?_, rn, rm⟩
  · rw [u_ne (by omega)]; exact g0
  · rw [u_ne (by omega)]; exact g1
  · by_cases h : k = 2
    · subst h; rw [u_eq]; exact he
    · rw [u_ne (by omega)]; exact g2
  · by_cases h : k = 3
    · subst h; rw [u_eq]; exact he
    · rw [u_ne (by omega)]; exact g3
  · by_cases h : k = 4
    · subst h; rw [u_eq]; exact he
    · rw [u_ne (by omega)]; exact g4
theorem zMs_G2 {e : Int32} (A : zMs w T V G) : zMs (zuA w 63 (upd (w.1 63) 0 e)) T V (upd G 2 e) := by
  have n52 : (zuA w 63 (upd (w.1 63) 0 e)).1 52 = w.1 52 := zA_n _ _ (by decide)
  have n53 : (zuA w 63 (upd (w.1 63) 0 e)).1 53 = w.1 53 := zA_n _ _ (by decide)
  have n54 : (zuA w 63 (upd (w.1 63) 0 e)).1 54 = w.1 54 := zA_n _ _ (by decide)
  have n55 : (zuA w 63 (upd (w.1 63) 0 e)).1 55 = w.1 55 := zA_n _ _ (by decide)
  have n56 : (zuA w 63 (upd (w.1 63) 0 e)).1 56 = w.1 56 := zA_n _ _ (by decide)
  have n57 : (zuA w 63 (upd (w.1 63) 0 e)).1 57 = w.1 57 := zA_n _ _ (by decide)
  have n58 : (zuA w 63 (upd (w.1 63) 0 e)).1 58 = w.1 58 := zA_n _ _ (by decide)
  have n59 : (zuA w 63 (upd (w.1 63) 0 e)).1 59 = w.1 59 := zA_n _ _ (by decide)
  have n60 : (zuA w 63 (upd (w.1 63) 0 e)).1 60 = w.1 60 := zA_n _ _ (by decide)
  have n61 : (zuA w 63 (upd (w.1 63) 0 e)).1 61 = w.1 61 := zA_n _ _ (by decide)
  have n62 : (zuA w 63 (upd (w.1 63) 0 e)).1 62 = w.1 62 := zA_n _ _ (by decide)
  have n50 : (zuA w 63 (upd (w.1 63) 0 e)).1 50 = w.1 50 := zA_n _ _ (by decide)
  have n63 : (zuA w 63 (upd (w.1 63) 0 e)).1 63 = (upd (w.1 63) 0 e) := zA_s _ _ _
  obtain ⟨a, b, g0, g1, g2, g3, g4⟩ := A
  refine ⟨fun t ht => ?_, fun x hx => ?_, ?_, ?_, ?_, ?_, ?_⟩
  · rw [n52, n53, n54, n55, n56]; exact a t ht
  · rw [n57, n58, n59, n60, n61, n62]; exact b x hx
  · rw [n50, u_ne (by decide)]; exact g0
  · rw [n50, u_ne (by decide)]; exact g1
  · rw [n63, u_eq, u_eq]
  · rw [n63, u_ne (by decide), u_ne (by decide)]; exact g3
  · rw [n63, u_ne (by decide), u_ne (by decide)]; exact g4
theorem zMs_G3 {e : Int32} (A : zMs w T V G) : zMs (zuA w 63 (upd (w.1 63) 1 e)) T V (upd G 3 e) := by
  have n52 : (zuA w 63 (upd (w.1 63) 1 e)).1 52 = w.1 52 := zA_n _ _ (by decide)
  have n53 : (zuA w 63 (upd (w.1 63) 1 e)).1 53 = w.1 53 := zA_n _ _ (by decide)
  have n54 : (zuA w 63 (upd (w.1 63) 1 e)).1 54 = w.1 54 := zA_n _ _ (by decide)
  have n55 : (zuA w 63 (upd (w.1 63) 1 e)).1 55 = w.1 55 := zA_n _ _ (by decide)
  have n56 : (zuA w 63 (upd (w.1 63) 1 e)).1 56 = w.1 56 := zA_n _ _ (by decide)
  have n57 : (zuA w 63 (upd (w.1 63) 1 e)).1 57 = w.1 57 := zA_n _ _ (by decide)
  have n58 : (zuA w 63 (upd (w.1 63) 1 e)).1 58 = w.1 58 := zA_n _ _ (by decide)
  have n59 : (zuA w 63 (upd (w.1 63) 1 e)).1 59 = w.1 59 := zA_n _ _ (by decide)
  have n60 : (zuA w 63 (upd (w.1 63) 1 e)).1 60 = w.1 60 := zA_n _ _ (by decide)
  have n61 : (zuA w 63 (upd (w.1 63) 1 e)).1 61 = w.1 61 := zA_n _ _ (by decide)
  have n62 : (zuA w 63 (upd (w.1 63) 1 e)).1 62 = w.1 62 := zA_n _ _ (by decide)
  have n50 : (zuA w 63 (upd (w.1 63) 1 e)).1 50 = w.1 50 := zA_n _ _ (by decide)
  have n63 : (zuA w 63 (upd (w.1 63) 1 e)).1 63 = (upd (w.1 63) 1 e) := zA_s _ _ _
  obtain ⟨a, b, g0, g1, g2, g3, g4⟩ := A
  refine ⟨fun t ht => ?_, fun x hx => ?_, ?_, ?_, ?_, ?_, ?_⟩
  · rw [n52, n53, n54, n55, n56]; exact a t ht
  · rw [n57, n58, n59, n60, n61, n62]; exact b x hx
  · rw [n50, u_ne (by decide)]; exact g0
  · rw [n50, u_ne (by decide)]; exact g1
  · rw [n63, u_ne (by decide), u_ne (by decide)]; exact g2
  · rw [n63, u_eq, u_eq]
  · rw [n63, u_ne (by decide), u_ne (by decide)]; exact g4
theorem zMs_G4 {e : Int32} (A : zMs w T V G) : zMs (zuA w 63 (upd (w.1 63) 2 e)) T V (upd G 4 e) := by
  have n52 : (zuA w 63 (upd (w.1 63) 2 e)).1 52 = w.1 52 := zA_n _ _ (by decide)
  have n53 : (zuA w 63 (upd (w.1 63) 2 e)).1 53 = w.1 53 := zA_n _ _ (by decide)
  have n54 : (zuA w 63 (upd (w.1 63) 2 e)).1 54 = w.1 54 := zA_n _ _ (by decide)
  have n55 : (zuA w 63 (upd (w.1 63) 2 e)).1 55 = w.1 55 := zA_n _ _ (by decide)
  have n56 : (zuA w 63 (upd (w.1 63) 2 e)).1 56 = w.1 56 := zA_n _ _ (by decide)
  have n57 : (zuA w 63 (upd (w.1 63) 2 e)).1 57 = w.1 57 := zA_n _ _ (by decide)
  have n58 : (zuA w 63 (upd (w.1 63) 2 e)).1 58 = w.1 58 := zA_n _ _ (by decide)
  have n59 : (zuA w 63 (upd (w.1 63) 2 e)).1 59 = w.1 59 := zA_n _ _ (by decide)
  have n60 : (zuA w 63 (upd (w.1 63) 2 e)).1 60 = w.1 60 := zA_n _ _ (by decide)
  have n61 : (zuA w 63 (upd (w.1 63) 2 e)).1 61 = w.1 61 := zA_n _ _ (by decide)
  have n62 : (zuA w 63 (upd (w.1 63) 2 e)).1 62 = w.1 62 := zA_n _ _ (by decide)
  have n50 : (zuA w 63 (upd (w.1 63) 2 e)).1 50 = w.1 50 := zA_n _ _ (by decide)
  have n63 : (zuA w 63 (upd (w.1 63) 2 e)).1 63 = (upd (w.1 63) 2 e) := zA_s _ _ _
  obtain ⟨a, b, g0, g1, g2, g3, g4⟩ := A
  refine ⟨fun t ht => ?_, fun x hx => ?_, ?_, ?_, ?_, ?_, ?_⟩
  · rw [n52, n53, n54, n55, n56]; exact a t ht
  · rw [n57, n58, n59, n60, n61, n62]; exact b x hx
  · rw [n50, u_ne (by decide)]; exact g0
  · rw [n50, u_ne (by decide)]; exact g1
  · rw [n63, u_ne (by decide), u_ne (by decide)]; exact g2
  · rw [n63, u_ne (by decide), u_ne (by decide)]; exact g3
  · rw [n63, u_eq, u_eq]
theorem m_ask_6 {k v : Int32} (h : ¬ ((k = 0 ∧ 0 ≤ v ∧ v ≤ 3) ∨ (k = 1 ∧ 0 ≤ v ∧ v ≤ 30) ∨ (2 ≤ k ∧ k ≤ 4 ∧ 0 ≤ v ∧ v ≤ 99))) : cal (d + 1) 6026 [.ref 50, .int k, .int v] w = some (some (.int (-6)), mRf w 6) := by
  have r := m_no (d := d) (w := w) (j := 6) (c := -6) (by decide) (by decide)
  have l1 : ((0 : Int32) < 2) = True := eq_true (by decide)
  have l2 : ((1 : Int32) < 2) = True := eq_true (by decide)
  by_cases k0 : k = 0
  · subst k0
    by_cases v0 : v < 0
    · simp only [c_6026, e_6026_0, e_6026_1, e_6026_4, e_6026_5, e_6026_8, e_6026_9, e_6026_10, e_6026_13, e_6026_14, e_6026_17, e_6026_18, e_6026_19, e_6026_20, e_6026_23, e_6026_26, e_6026_27, e_6026_28, e_6026_31, e_6026_32, e_6026_35, e_6026_36, e_6026_38, e_6026_41, e_6026_42, e_6026_45, e_6026_46, e_6026_47, e_6026_48, e_6026_51, e_6026_54, e_6026_55, e_6026_56, e_6026_59, e_6026_60, e_6026_61, e_6026_64, e_6026_65, e_6026_68, e_6026_69, e_6026_71, e_6026_74, e_6026_75, e_6026_78, e_6026_79, e_6026_80, e_6026_81, e_6026_82, e_6026_83, e_6026_84, e_6026_87, e_6026_88, e_6026_89, e_6026_90, e_6026_91, e_6026_92, e_6026_95, e_6026_96, e_6026_98, e_6026_101, e_6026_102, e_6026_103, zk_int, zk_ref, zk_null, zk_none, zk_long, zisR_r, zisR_n, zcl_int, zcl_ref, zcl_null, zpush_s, zpush_n, zbs, zbn, true_or, or_true, not_false_eq_true, not_true_eq_false, ↓reduceIte, and_self, and_true, true_and, ie_0_1, ie_0_2, ie_0_3, ie_0_4, ie_0_5, ie_0_6, ie_0_7, ie_1_0, ie_1_2, ie_1_3, ie_1_4, ie_1_5, ie_1_6, ie_1_7, ie_2_0, ie_2_1, ie_2_3, ie_2_4, ie_2_5, ie_2_6, ie_2_7, ie_3_0, ie_3_1, ie_3_2, ie_3_4, ie_3_5, ie_3_6, ie_3_7, ie_4_0, ie_4_1, ie_4_2, ie_4_3, ie_4_5, ie_4_6, ie_4_7, ie_5_0, ie_5_1, ie_5_2, ie_5_3, ie_5_4, ie_5_6, ie_5_7, ie_6_0, ie_6_1, ie_6_2, ie_6_3, ie_6_4, ie_6_5, ie_6_7, ie_7_0, ie_7_1, ie_7_2, ie_7_3, ie_7_4, ie_7_5, ie_7_6, zt_50, v0, l1, r]
    · by_cases v3 : v ≤ 3
      · exact absurd (Or.inl ⟨rfl, Int32.not_lt.mp v0, v3⟩) h
      · simp only [c_6026, e_6026_0, e_6026_1, e_6026_4, e_6026_5, e_6026_8, e_6026_9, e_6026_10, e_6026_13, e_6026_14, e_6026_17, e_6026_18, e_6026_19, e_6026_20, e_6026_23, e_6026_26, e_6026_27, e_6026_28, e_6026_31, e_6026_32, e_6026_35, e_6026_36, e_6026_38, e_6026_41, e_6026_42, e_6026_45, e_6026_46, e_6026_47, e_6026_48, e_6026_51, e_6026_54, e_6026_55, e_6026_56, e_6026_59, e_6026_60, e_6026_61, e_6026_64, e_6026_65, e_6026_68, e_6026_69, e_6026_71, e_6026_74, e_6026_75, e_6026_78, e_6026_79, e_6026_80, e_6026_81, e_6026_82, e_6026_83, e_6026_84, e_6026_87, e_6026_88, e_6026_89, e_6026_90, e_6026_91, e_6026_92, e_6026_95, e_6026_96, e_6026_98, e_6026_101, e_6026_102, e_6026_103, zk_int, zk_ref, zk_null, zk_none, zk_long, zisR_r, zisR_n, zcl_int, zcl_ref, zcl_null, zpush_s, zpush_n, zbs, zbn, true_or, or_true, not_false_eq_true, not_true_eq_false, ↓reduceIte, and_self, and_true, true_and, ie_0_1, ie_0_2, ie_0_3, ie_0_4, ie_0_5, ie_0_6, ie_0_7, ie_1_0, ie_1_2, ie_1_3, ie_1_4, ie_1_5, ie_1_6, ie_1_7, ie_2_0, ie_2_1, ie_2_3, ie_2_4, ie_2_5, ie_2_6, ie_2_7, ie_3_0, ie_3_1, ie_3_2, ie_3_4, ie_3_5, ie_3_6, ie_3_7, ie_4_0, ie_4_1, ie_4_2, ie_4_3, ie_4_5, ie_4_6, ie_4_7, ie_5_0, ie_5_1, ie_5_2, ie_5_3, ie_5_4, ie_5_6, ie_5_7, ie_6_0, ie_6_1, ie_6_2, ie_6_3, ie_6_4, ie_6_5, ie_6_7, ie_7_0, ie_7_1, ie_7_2, ie_7_3, ie_7_4, ie_7_5, ie_7_6, zt_50, v0, Int32.not_le.mp v3, l1, r]
  · by_cases k1 : k = 1
    · subst k1
      by_cases v0 : v < 0
      · simp only [c_6026, e_6026_0, e_6026_1, e_6026_4, e_6026_5, e_6026_8, e_6026_9, e_6026_10, e_6026_13, e_6026_14, e_6026_17, e_6026_18, e_6026_19, e_6026_20, e_6026_23, e_6026_26, e_6026_27, e_6026_28, e_6026_31, e_6026_32, e_6026_35, e_6026_36, e_6026_38, e_6026_41, e_6026_42, e_6026_45, e_6026_46, e_6026_47, e_6026_48, e_6026_51, e_6026_54, e_6026_55, e_6026_56, e_6026_59, e_6026_60, e_6026_61, e_6026_64, e_6026_65, e_6026_68, e_6026_69, e_6026_71, e_6026_74, e_6026_75, e_6026_78, e_6026_79, e_6026_80, e_6026_81, e_6026_82, e_6026_83, e_6026_84, e_6026_87, e_6026_88, e_6026_89, e_6026_90, e_6026_91, e_6026_92, e_6026_95, e_6026_96, e_6026_98, e_6026_101, e_6026_102, e_6026_103, zk_int, zk_ref, zk_null, zk_none, zk_long, zisR_r, zisR_n, zcl_int, zcl_ref, zcl_null, zpush_s, zpush_n, zbs, zbn, true_or, or_true, not_false_eq_true, not_true_eq_false, ↓reduceIte, and_self, and_true, true_and, ie_0_1, ie_0_2, ie_0_3, ie_0_4, ie_0_5, ie_0_6, ie_0_7, ie_1_0, ie_1_2, ie_1_3, ie_1_4, ie_1_5, ie_1_6, ie_1_7, ie_2_0, ie_2_1, ie_2_3, ie_2_4, ie_2_5, ie_2_6, ie_2_7, ie_3_0, ie_3_1, ie_3_2, ie_3_4, ie_3_5, ie_3_6, ie_3_7, ie_4_0, ie_4_1, ie_4_2, ie_4_3, ie_4_5, ie_4_6, ie_4_7, ie_5_0, ie_5_1, ie_5_2, ie_5_3, ie_5_4, ie_5_6, ie_5_7, ie_6_0, ie_6_1, ie_6_2, ie_6_3, ie_6_4, ie_6_5, ie_6_7, ie_7_0, ie_7_1, ie_7_2, ie_7_3, ie_7_4, ie_7_5, ie_7_6, zt_50, v0, l2, r]
      · by_cases v3 : v ≤ 30
        · exact absurd (Or.inr (Or.inl ⟨rfl, Int32.not_lt.mp v0, v3⟩)) h
        · simp only [c_6026, e_6026_0, e_6026_1, e_6026_4, e_6026_5, e_6026_8, e_6026_9, e_6026_10, e_6026_13, e_6026_14, e_6026_17, e_6026_18, e_6026_19, e_6026_20, e_6026_23, e_6026_26, e_6026_27, e_6026_28, e_6026_31, e_6026_32, e_6026_35, e_6026_36, e_6026_38, e_6026_41, e_6026_42, e_6026_45, e_6026_46, e_6026_47, e_6026_48, e_6026_51, e_6026_54, e_6026_55, e_6026_56, e_6026_59, e_6026_60, e_6026_61, e_6026_64, e_6026_65, e_6026_68, e_6026_69, e_6026_71, e_6026_74, e_6026_75, e_6026_78, e_6026_79, e_6026_80, e_6026_81, e_6026_82, e_6026_83, e_6026_84, e_6026_87, e_6026_88, e_6026_89, e_6026_90, e_6026_91, e_6026_92, e_6026_95, e_6026_96, e_6026_98, e_6026_101, e_6026_102, e_6026_103, zk_int, zk_ref, zk_null, zk_none, zk_long, zisR_r, zisR_n, zcl_int, zcl_ref, zcl_null, zpush_s, zpush_n, zbs, zbn, true_or, or_true, not_false_eq_true, not_true_eq_false, ↓reduceIte, and_self, and_true, true_and, ie_0_1, ie_0_2, ie_0_3, ie_0_4, ie_0_5, ie_0_6, ie_0_7, ie_1_0, ie_1_2, ie_1_3, ie_1_4, ie_1_5, ie_1_6, ie_1_7, ie_2_0, ie_2_1, ie_2_3, ie_2_4, ie_2_5, ie_2_6, ie_2_7, ie_3_0, ie_3_1, ie_3_2, ie_3_4, ie_3_5, ie_3_6, ie_3_7, ie_4_0, ie_4_1, ie_4_2, ie_4_3, ie_4_5, ie_4_6, ie_4_7, ie_5_0, ie_5_1, ie_5_2, ie_5_3, ie_5_4, ie_5_6, ie_5_7, ie_6_0, ie_6_1, ie_6_2, ie_6_3, ie_6_4, ie_6_5, ie_6_7, ie_7_0, ie_7_1, ie_7_2, ie_7_3, ie_7_4, ie_7_5, ie_7_6, zt_50, v0, Int32.not_le.mp v3, l2, r]
    · by_cases k2 : k < 2
      · simp only [c_6026, e_6026_0, e_6026_1, e_6026_4, e_6026_5, e_6026_8, e_6026_9, e_6026_10, e_6026_13, e_6026_14, e_6026_17, e_6026_18, e_6026_19, e_6026_20, e_6026_23, e_6026_26, e_6026_27, e_6026_28, e_6026_31, e_6026_32, e_6026_35, e_6026_36, e_6026_38, e_6026_41, e_6026_42, e_6026_45, e_6026_46, e_6026_47, e_6026_48, e_6026_51, e_6026_54, e_6026_55, e_6026_56, e_6026_59, e_6026_60, e_6026_61, e_6026_64, e_6026_65, e_6026_68, e_6026_69, e_6026_71, e_6026_74, e_6026_75, e_6026_78, e_6026_79, e_6026_80, e_6026_81, e_6026_82, e_6026_83, e_6026_84, e_6026_87, e_6026_88, e_6026_89, e_6026_90, e_6026_91, e_6026_92, e_6026_95, e_6026_96, e_6026_98, e_6026_101, e_6026_102, e_6026_103, zk_int, zk_ref, zk_null, zk_none, zk_long, zisR_r, zisR_n, zcl_int, zcl_ref, zcl_null, zpush_s, zpush_n, zbs, zbn, true_or, or_true, not_false_eq_true, not_true_eq_false, ↓reduceIte, and_self, and_true, true_and, ie_0_1, ie_0_2, ie_0_3, ie_0_4, ie_0_5, ie_0_6, ie_0_7, ie_1_0, ie_1_2, ie_1_3, ie_1_4, ie_1_5, ie_1_6, ie_1_7, ie_2_0, ie_2_1, ie_2_3, ie_2_4, ie_2_5, ie_2_6, ie_2_7, ie_3_0, ie_3_1, ie_3_2, ie_3_4, ie_3_5, ie_3_6, ie_3_7, ie_4_0, ie_4_1, ie_4_2, ie_4_3, ie_4_5, ie_4_6, ie_4_7, ie_5_0, ie_5_1, ie_5_2, ie_5_3, ie_5_4, ie_5_6, ie_5_7, ie_6_0, ie_6_1, ie_6_2, ie_6_3, ie_6_4, ie_6_5, ie_6_7, ie_7_0, ie_7_1, ie_7_2, ie_7_3, ie_7_4, ie_7_5, ie_7_6, zt_50, k0, k1, k2, r]
      · by_cases k4 : k ≤ 4
        · by_cases v0 : v < 0
          · simp only [c_6026, e_6026_0, e_6026_1, e_6026_4, e_6026_5, e_6026_8, e_6026_9, e_6026_10, e_6026_13, e_6026_14, e_6026_17, e_6026_18, e_6026_19, e_6026_20, e_6026_23, e_6026_26, e_6026_27, e_6026_28, e_6026_31, e_6026_32, e_6026_35, e_6026_36, e_6026_38, e_6026_41, e_6026_42, e_6026_45, e_6026_46, e_6026_47, e_6026_48, e_6026_51, e_6026_54, e_6026_55, e_6026_56, e_6026_59, e_6026_60, e_6026_61, e_6026_64, e_6026_65, e_6026_68, e_6026_69, e_6026_71, e_6026_74, e_6026_75, e_6026_78, e_6026_79, e_6026_80, e_6026_81, e_6026_82, e_6026_83, e_6026_84, e_6026_87, e_6026_88, e_6026_89, e_6026_90, e_6026_91, e_6026_92, e_6026_95, e_6026_96, e_6026_98, e_6026_101, e_6026_102, e_6026_103, zk_int, zk_ref, zk_null, zk_none, zk_long, zisR_r, zisR_n, zcl_int, zcl_ref, zcl_null, zpush_s, zpush_n, zbs, zbn, true_or, or_true, not_false_eq_true, not_true_eq_false, ↓reduceIte, and_self, and_true, true_and, ie_0_1, ie_0_2, ie_0_3, ie_0_4, ie_0_5, ie_0_6, ie_0_7, ie_1_0, ie_1_2, ie_1_3, ie_1_4, ie_1_5, ie_1_6, ie_1_7, ie_2_0, ie_2_1, ie_2_3, ie_2_4, ie_2_5, ie_2_6, ie_2_7, ie_3_0, ie_3_1, ie_3_2, ie_3_4, ie_3_5, ie_3_6, ie_3_7, ie_4_0, ie_4_1, ie_4_2, ie_4_3, ie_4_5, ie_4_6, ie_4_7, ie_5_0, ie_5_1, ie_5_2, ie_5_3, ie_5_4, ie_5_6, ie_5_7, ie_6_0, ie_6_1, ie_6_2, ie_6_3, ie_6_4, ie_6_5, ie_6_7, ie_7_0, ie_7_1, ie_7_2, ie_7_3, ie_7_4, ie_7_5, ie_7_6, zt_50, k0, k1, k2, Int32.not_lt.mpr k4, v0, r]
          · by_cases v9 : v ≤ 99
            · exact absurd (Or.inr (Or.inr ⟨Int32.not_lt.mp k2, k4, Int32.not_lt.mp v0, v9⟩)) h
            · simp only [c_6026, e_6026_0, e_6026_1, e_6026_4, e_6026_5, e_6026_8, e_6026_9, e_6026_10, e_6026_13, e_6026_14, e_6026_17, e_6026_18, e_6026_19, e_6026_20, e_6026_23, e_6026_26, e_6026_27, e_6026_28, e_6026_31, e_6026_32, e_6026_35, e_6026_36, e_6026_38, e_6026_41, e_6026_42, e_6026_45, e_6026_46, e_6026_47, e_6026_48, e_6026_51, e_6026_54, e_6026_55, e_6026_56, e_6026_59, e_6026_60, e_6026_61, e_6026_64, e_6026_65, e_6026_68, e_6026_69, e_6026_71, e_6026_74, e_6026_75, e_6026_78, e_6026_79, e_6026_80, e_6026_81, e_6026_82, e_6026_83, e_6026_84, e_6026_87, e_6026_88, e_6026_89, e_6026_90, e_6026_91, e_6026_92, e_6026_95, e_6026_96, e_6026_98, e_6026_101, e_6026_102, e_6026_103, zk_int, zk_ref, zk_null, zk_none, zk_long, zisR_r, zisR_n, zcl_int, zcl_ref, zcl_null, zpush_s, zpush_n, zbs, zbn, true_or, or_true, not_false_eq_true, not_true_eq_false, ↓reduceIte, and_self, and_true, true_and, ie_0_1, ie_0_2, ie_0_3, ie_0_4, ie_0_5, ie_0_6, ie_0_7, ie_1_0, ie_1_2, ie_1_3, ie_1_4, ie_1_5, ie_1_6, ie_1_7, ie_2_0, ie_2_1, ie_2_3, ie_2_4, ie_2_5, ie_2_6, ie_2_7, ie_3_0, ie_3_1, ie_3_2, ie_3_4, ie_3_5, ie_3_6, ie_3_7, ie_4_0, ie_4_1, ie_4_2, ie_4_3, ie_4_5, ie_4_6, ie_4_7, ie_5_0, ie_5_1, ie_5_2, ie_5_3, ie_5_4, ie_5_6, ie_5_7, ie_6_0, ie_6_1, ie_6_2, ie_6_3, ie_6_4, ie_6_5, ie_6_7, ie_7_0, ie_7_1, ie_7_2, ie_7_3, ie_7_4, ie_7_5, ie_7_6, zt_50, k0, k1, k2, Int32.not_lt.mpr k4, v0, Int32.not_le.mp v9, r]
        · simp only [c_6026, e_6026_0, e_6026_1, e_6026_4, e_6026_5, e_6026_8, e_6026_9, e_6026_10, e_6026_13, e_6026_14, e_6026_17, e_6026_18, e_6026_19, e_6026_20, e_6026_23, e_6026_26, e_6026_27, e_6026_28, e_6026_31, e_6026_32, e_6026_35, e_6026_36, e_6026_38, e_6026_41, e_6026_42, e_6026_45, e_6026_46, e_6026_47, e_6026_48, e_6026_51, e_6026_54, e_6026_55, e_6026_56, e_6026_59, e_6026_60, e_6026_61, e_6026_64, e_6026_65, e_6026_68, e_6026_69, e_6026_71, e_6026_74, e_6026_75, e_6026_78, e_6026_79, e_6026_80, e_6026_81, e_6026_82, e_6026_83, e_6026_84, e_6026_87, e_6026_88, e_6026_89, e_6026_90, e_6026_91, e_6026_92, e_6026_95, e_6026_96, e_6026_98, e_6026_101, e_6026_102, e_6026_103, zk_int, zk_ref, zk_null, zk_none, zk_long, zisR_r, zisR_n, zcl_int, zcl_ref, zcl_null, zpush_s, zpush_n, zbs, zbn, true_or, or_true, not_false_eq_true, not_true_eq_false, ↓reduceIte, and_self, and_true, true_and, ie_0_1, ie_0_2, ie_0_3, ie_0_4, ie_0_5, ie_0_6, ie_0_7, ie_1_0, ie_1_2, ie_1_3, ie_1_4, ie_1_5, ie_1_6, ie_1_7, ie_2_0, ie_2_1, ie_2_3, ie_2_4, ie_2_5, ie_2_6, ie_2_7, ie_3_0, ie_3_1, ie_3_2, ie_3_4, ie_3_5, ie_3_6, ie_3_7, ie_4_0, ie_4_1, ie_4_2, ie_4_3, ie_4_5, ie_4_6, ie_4_7, ie_5_0, ie_5_1, ie_5_2, ie_5_3, ie_5_4, ie_5_6, ie_5_7, ie_6_0, ie_6_1, ie_6_2, ie_6_3, ie_6_4, ie_6_5, ie_6_7, ie_7_0, ie_7_1, ie_7_2, ie_7_3, ie_7_4, ie_7_5, ie_7_6, zt_50, k0, k1, k2, Int32.not_le.mp k4, r]
theorem p_ask {k v : Int32} (A : zRl w S L n m) : zPr d 5013 6026 [.int k, .int v] w S L := by
  have M := rl_M A
  have e2 : (2 : Int32).toInt = 2 := by decide
  have e3 : (3 : Int32).toInt = 3 := by decide
  have e4 : (4 : Int32).toInt = 4 := by decide
  have kc : (k < 0 ∨ 5 ≤ k) ∨ (k = 0 ∨ k = 1 ∨ k = 2 ∨ k = 3 ∨ k = 4) := by
    rw [ti_lt, ti_le, ti_eq, ti_eq, ti_eq, ti_eq, ti_eq, ti_0, ti_1, e2, e3, e4, ti_5]
    omega
  rcases kc with hk | rfl | rfl | rfl | rfl | rfl
  · refine pr_f A (by decide) (f_ask_o (d := d + 37) hk) (zKp_r _) (m_ask_6 (d := d + 39) (fun c => ?_)) (zKp_r _)
    rw [ti_lt, ti_le, ti_0, ti_5] at hk
    rcases c with ⟨c0, _⟩ | ⟨c0, _⟩ | ⟨c1, c2, _⟩
    · rw [c0, ti_0] at hk; omega
    · rw [c0, ti_1] at hk; omega
    · rw [ti_le, e2] at c1
      rw [ti_le, e4] at c2
      omega
  · by_cases hv : 0 ≤ v ∧ v ≤ 3
    · have hb : zBt v 0 3 := bt_c (by decide) (by decide) hv
      have v0 := Int32.not_lt.mpr hv.1
      have v1 := Int32.not_lt.mpr hv.2
      have v2 := hv.2
      have Ms := zMs_u (a := 4) (k := 0) (v := v) M.1 (by decide)
      have vv : (zuA w 4 (upd (w.1 4) 0 v)).1 50 2 = w.1 4 0 := by
        rw [zA_n _ _ (by decide)]
        exact M.1.2.2.1
      have R := zRl_c (kc := 0) (km := 2) (v := v) A (ac := 4) (am := 50) (by omega) (by omega) (zA_n _ _ (by decide)) (zA_n _ _ (by decide)) (zA_s _ _ _) (zMs_G0 Ms) (zRg_G0 M.2.2 hb) A.1.2.2.1 (by omega)
      refine ⟨_, _, _, n, m, f_asks_0 (d := d + 37) hv, ?_, R⟩
      simp only [c_6026, e_6026_0, e_6026_1, e_6026_4, e_6026_5, e_6026_8, e_6026_9, e_6026_10, e_6026_13, e_6026_14, e_6026_17, e_6026_18, e_6026_19, e_6026_20, e_6026_23, e_6026_26, e_6026_27, e_6026_28, e_6026_31, e_6026_32, e_6026_35, e_6026_36, e_6026_38, e_6026_41, e_6026_42, e_6026_45, e_6026_46, e_6026_47, e_6026_48, e_6026_51, e_6026_54, e_6026_55, e_6026_56, e_6026_59, e_6026_60, e_6026_61, e_6026_64, e_6026_65, e_6026_68, e_6026_69, e_6026_71, e_6026_74, e_6026_75, e_6026_78, e_6026_79, e_6026_80, e_6026_81, e_6026_82, e_6026_83, e_6026_84, e_6026_87, e_6026_88, e_6026_89, e_6026_90, e_6026_91, e_6026_92, e_6026_95, e_6026_96, e_6026_98, e_6026_101, e_6026_102, e_6026_103, zk_int, zk_ref, zk_null, zk_none, zk_long, zisR_r, zisR_n, zcl_int, zcl_ref, zcl_null, zpush_s, zpush_n, zbs, zbn, true_or, or_true, not_false_eq_true, not_true_eq_false, ↓reduceIte, and_self, and_true, true_and, ie_0_1, ie_0_2, ie_0_3, ie_0_4, ie_0_5, ie_0_6, ie_0_7, ie_1_0, ie_1_2, ie_1_3, ie_1_4, ie_1_5, ie_1_6, ie_1_7, ie_2_0, ie_2_1, ie_2_3, ie_2_4, ie_2_5, ie_2_6, ie_2_7, ie_3_0, ie_3_1, ie_3_2, ie_3_4, ie_3_5, ie_3_6, ie_3_7, ie_4_0, ie_4_1, ie_4_2, ie_4_3, ie_4_5, ie_4_6, ie_4_7, ie_5_0, ie_5_1, ie_5_2, ie_5_3, ie_5_4, ie_5_6, ie_5_7, ie_6_0, ie_6_1, ie_6_2, ie_6_3, ie_6_4, ie_6_5, ie_6_7, ie_7_0, ie_7_1, ie_7_2, ie_7_3, ie_7_4, ie_7_5, ie_7_6, zt_50, v0, v1, zui_A, vv]
    · refine pr_f A (by decide) (f_ask_60 (d := d + 37) hv) (zKp_r _) (m_ask_6 (d := d + 39) (fun c => ?_)) (zKp_r _)
      rcases c with ⟨c0, c1⟩ | ⟨c0, c1⟩ | ⟨c0, c2, c1⟩
      · exact hv c1
      · exact absurd c0 (by decide)
      · exact absurd c0 (by decide)
  · by_cases hv : 0 ≤ v ∧ v ≤ 30
    · have hb : zBt v 0 30 := bt_c (by decide) (by decide) hv
      have v0 := Int32.not_lt.mpr hv.1
      have v1 := Int32.not_lt.mpr hv.2
      have v2 := hv.2
      have Ms := zMs_u (a := 4) (k := 1) (v := v) M.1 (by decide)
      have vv : (zuA w 4 (upd (w.1 4) 1 v)).1 50 3 = w.1 4 1 := by
        rw [zA_n _ _ (by decide)]
        exact M.1.2.2.2.1
      have R := zRl_c (kc := 1) (km := 3) (v := v) A (ac := 4) (am := 50) (by omega) (by omega) (zA_n _ _ (by decide)) (zA_n _ _ (by decide)) (zA_s _ _ _) (zMs_G1 Ms) (zRg_G1 M.2.2 hb) A.1.2.2.1 (by omega)
      refine ⟨_, _, _, n, m, f_asks_1 (d := d + 37) hv, ?_, R⟩
      simp only [c_6026, e_6026_0, e_6026_1, e_6026_4, e_6026_5, e_6026_8, e_6026_9, e_6026_10, e_6026_13, e_6026_14, e_6026_17, e_6026_18, e_6026_19, e_6026_20, e_6026_23, e_6026_26, e_6026_27, e_6026_28, e_6026_31, e_6026_32, e_6026_35, e_6026_36, e_6026_38, e_6026_41, e_6026_42, e_6026_45, e_6026_46, e_6026_47, e_6026_48, e_6026_51, e_6026_54, e_6026_55, e_6026_56, e_6026_59, e_6026_60, e_6026_61, e_6026_64, e_6026_65, e_6026_68, e_6026_69, e_6026_71, e_6026_74, e_6026_75, e_6026_78, e_6026_79, e_6026_80, e_6026_81, e_6026_82, e_6026_83, e_6026_84, e_6026_87, e_6026_88, e_6026_89, e_6026_90, e_6026_91, e_6026_92, e_6026_95, e_6026_96, e_6026_98, e_6026_101, e_6026_102, e_6026_103, zk_int, zk_ref, zk_null, zk_none, zk_long, zisR_r, zisR_n, zcl_int, zcl_ref, zcl_null, zpush_s, zpush_n, zbs, zbn, true_or, or_true, not_false_eq_true, not_true_eq_false, ↓reduceIte, and_self, and_true, true_and, ie_0_1, ie_0_2, ie_0_3, ie_0_4, ie_0_5, ie_0_6, ie_0_7, ie_1_0, ie_1_2, ie_1_3, ie_1_4, ie_1_5, ie_1_6, ie_1_7, ie_2_0, ie_2_1, ie_2_3, ie_2_4, ie_2_5, ie_2_6, ie_2_7, ie_3_0, ie_3_1, ie_3_2, ie_3_4, ie_3_5, ie_3_6, ie_3_7, ie_4_0, ie_4_1, ie_4_2, ie_4_3, ie_4_5, ie_4_6, ie_4_7, ie_5_0, ie_5_1, ie_5_2, ie_5_3, ie_5_4, ie_5_6, ie_5_7, ie_6_0, ie_6_1, ie_6_2, ie_6_3, ie_6_4, ie_6_5, ie_6_7, ie_7_0, ie_7_1, ie_7_2, ie_7_3, ie_7_4, ie_7_5, ie_7_6, zt_50, v0, v1, zui_A, vv]
    · refine pr_f A (by decide) (f_ask_61 (d := d + 37) hv) (zKp_r _) (m_ask_6 (d := d + 39) (fun c => ?_)) (zKp_r _)
      rcases c with ⟨c0, c1⟩ | ⟨c0, c1⟩ | ⟨c0, c2, c1⟩
      · exact absurd c0 (by decide)
      · exact hv c1
      · exact absurd c0 (by decide)
  · by_cases hv : 0 ≤ v ∧ v ≤ 99
    · have hb : zBt v 0 99 := bt_c (by decide) (by decide) hv
      have v0 := Int32.not_lt.mpr hv.1
      have v1 := Int32.not_lt.mpr hv.2
      have v2 := hv.2
      have Ms := zMs_u (a := 4) (k := 2) (v := v) M.1 (by decide)
      have vv : (zuA w 4 (upd (w.1 4) 2 v)).1 63 0 = w.1 4 2 := by
        rw [zA_n _ _ (by decide)]
        exact M.1.2.2.2.2.1
      have R := zRl_c (kc := 2) (km := 0) (v := v) A (ac := 4) (am := 63) (by omega) (by omega) (zA_n _ _ (by decide)) (zA_n _ _ (by decide)) (zA_s _ _ _) (zMs_G2 Ms) (zRg_Gn M.2.2 (by omega) hb) A.1.2.2.1 (by omega)
      refine ⟨_, _, _, n, m, f_asks_2 (d := d + 37) hv, ?_, R⟩
      have l1 : ((2 : Int32) < 2) = False := eq_false (by decide)
      have l2 : ((4 : Int32) < 2) = False := eq_false (by decide)
      have es : (2 : Int32) - 2 = nI 0 := by decide
      have hz := zis3 (k := 0) (by decide)
      have hc := nI_clamp (n := 0) (by decide)
      simp only [c_6026, e_6026_0, e_6026_1, e_6026_4, e_6026_5, e_6026_8, e_6026_9, e_6026_10, e_6026_13, e_6026_14, e_6026_17, e_6026_18, e_6026_19, e_6026_20, e_6026_23, e_6026_26, e_6026_27, e_6026_28, e_6026_31, e_6026_32, e_6026_35, e_6026_36, e_6026_38, e_6026_41, e_6026_42, e_6026_45, e_6026_46, e_6026_47, e_6026_48, e_6026_51, e_6026_54, e_6026_55, e_6026_56, e_6026_59, e_6026_60, e_6026_61, e_6026_64, e_6026_65, e_6026_68, e_6026_69, e_6026_71, e_6026_74, e_6026_75, e_6026_78, e_6026_79, e_6026_80, e_6026_81, e_6026_82, e_6026_83, e_6026_84, e_6026_87, e_6026_88, e_6026_89, e_6026_90, e_6026_91, e_6026_92, e_6026_95, e_6026_96, e_6026_98, e_6026_101, e_6026_102, e_6026_103, zk_int, zk_ref, zk_null, zk_none, zk_long, zisR_r, zisR_n, zcl_int, zcl_ref, zcl_null, zpush_s, zpush_n, zbs, zbn, true_or, or_true, not_false_eq_true, not_true_eq_false, ↓reduceIte, and_self, and_true, true_and, ie_0_1, ie_0_2, ie_0_3, ie_0_4, ie_0_5, ie_0_6, ie_0_7, ie_1_0, ie_1_2, ie_1_3, ie_1_4, ie_1_5, ie_1_6, ie_1_7, ie_2_0, ie_2_1, ie_2_3, ie_2_4, ie_2_5, ie_2_6, ie_2_7, ie_3_0, ie_3_1, ie_3_2, ie_3_4, ie_3_5, ie_3_6, ie_3_7, ie_4_0, ie_4_1, ie_4_2, ie_4_3, ie_4_5, ie_4_6, ie_4_7, ie_5_0, ie_5_1, ie_5_2, ie_5_3, ie_5_4, ie_5_6, ie_5_7, ie_6_0, ie_6_1, ie_6_2, ie_6_3, ie_6_4, ie_6_5, ie_6_7, ie_7_0, ie_7_1, ie_7_2, ie_7_3, ie_7_4, ie_7_5, ie_7_6, zt_50, zt_50, zr_50_20, zt_63, zn_63, zo_63, zl_63, zq_63, v0, v1, l1, l2, es, hz, hc, zui_A, vv]
    · refine pr_f A (by decide) (f_ask_62 (d := d + 37) hv) (zKp_r _) (m_ask_6 (d := d + 39) (fun c => ?_)) (zKp_r _)
      rcases c with ⟨c0, c1⟩ | ⟨c0, c1⟩ | ⟨c0, c2, c1⟩
      · exact absurd c0 (by decide)
      · exact absurd c0 (by decide)
      · exact hv c1
  · by_cases hv : 0 ≤ v ∧ v ≤ 99
    · have hb : zBt v 0 99 := bt_c (by decide) (by decide) hv
      have v0 := Int32.not_lt.mpr hv.1
      have v1 := Int32.not_lt.mpr hv.2
      have v2 := hv.2
      have Ms := zMs_u (a := 4) (k := 3) (v := v) M.1 (by decide)
      have vv : (zuA w 4 (upd (w.1 4) 3 v)).1 63 1 = w.1 4 3 := by
        rw [zA_n _ _ (by decide)]
        exact M.1.2.2.2.2.2.1
      have R := zRl_c (kc := 3) (km := 1) (v := v) A (ac := 4) (am := 63) (by omega) (by omega) (zA_n _ _ (by decide)) (zA_n _ _ (by decide)) (zA_s _ _ _) (zMs_G3 Ms) (zRg_Gn M.2.2 (by omega) hb) A.1.2.2.1 (by omega)
      refine ⟨_, _, _, n, m, f_asks_3 (d := d + 37) hv, ?_, R⟩
      have l1 : ((3 : Int32) < 2) = False := eq_false (by decide)
      have l2 : ((4 : Int32) < 3) = False := eq_false (by decide)
      have es : (3 : Int32) - 2 = nI 1 := by decide
      have hz := zis3 (k := 1) (by decide)
      have hc := nI_clamp (n := 1) (by decide)
      simp only [c_6026, e_6026_0, e_6026_1, e_6026_4, e_6026_5, e_6026_8, e_6026_9, e_6026_10, e_6026_13, e_6026_14, e_6026_17, e_6026_18, e_6026_19, e_6026_20, e_6026_23, e_6026_26, e_6026_27, e_6026_28, e_6026_31, e_6026_32, e_6026_35, e_6026_36, e_6026_38, e_6026_41, e_6026_42, e_6026_45, e_6026_46, e_6026_47, e_6026_48, e_6026_51, e_6026_54, e_6026_55, e_6026_56, e_6026_59, e_6026_60, e_6026_61, e_6026_64, e_6026_65, e_6026_68, e_6026_69, e_6026_71, e_6026_74, e_6026_75, e_6026_78, e_6026_79, e_6026_80, e_6026_81, e_6026_82, e_6026_83, e_6026_84, e_6026_87, e_6026_88, e_6026_89, e_6026_90, e_6026_91, e_6026_92, e_6026_95, e_6026_96, e_6026_98, e_6026_101, e_6026_102, e_6026_103, zk_int, zk_ref, zk_null, zk_none, zk_long, zisR_r, zisR_n, zcl_int, zcl_ref, zcl_null, zpush_s, zpush_n, zbs, zbn, true_or, or_true, not_false_eq_true, not_true_eq_false, ↓reduceIte, and_self, and_true, true_and, ie_0_1, ie_0_2, ie_0_3, ie_0_4, ie_0_5, ie_0_6, ie_0_7, ie_1_0, ie_1_2, ie_1_3, ie_1_4, ie_1_5, ie_1_6, ie_1_7, ie_2_0, ie_2_1, ie_2_3, ie_2_4, ie_2_5, ie_2_6, ie_2_7, ie_3_0, ie_3_1, ie_3_2, ie_3_4, ie_3_5, ie_3_6, ie_3_7, ie_4_0, ie_4_1, ie_4_2, ie_4_3, ie_4_5, ie_4_6, ie_4_7, ie_5_0, ie_5_1, ie_5_2, ie_5_3, ie_5_4, ie_5_6, ie_5_7, ie_6_0, ie_6_1, ie_6_2, ie_6_3, ie_6_4, ie_6_5, ie_6_7, ie_7_0, ie_7_1, ie_7_2, ie_7_3, ie_7_4, ie_7_5, ie_7_6, zt_50, zt_50, zr_50_20, zt_63, zn_63, zo_63, zl_63, zq_63, v0, v1, l1, l2, es, hz, hc, zui_A, vv]
    · refine pr_f A (by decide) (f_ask_63 (d := d + 37) hv) (zKp_r _) (m_ask_6 (d := d + 39) (fun c => ?_)) (zKp_r _)
      rcases c with ⟨c0, c1⟩ | ⟨c0, c1⟩ | ⟨c0, c2, c1⟩
      · exact absurd c0 (by decide)
      · exact absurd c0 (by decide)
      · exact hv c1
  · by_cases hv : 0 ≤ v ∧ v ≤ 99
    · have hb : zBt v 0 99 := bt_c (by decide) (by decide) hv
      have v0 := Int32.not_lt.mpr hv.1
      have v1 := Int32.not_lt.mpr hv.2
      have v2 := hv.2
      have Ms := zMs_u (a := 4) (k := 4) (v := v) M.1 (by decide)
      have vv : (zuA w 4 (upd (w.1 4) 4 v)).1 63 2 = w.1 4 4 := by
        rw [zA_n _ _ (by decide)]
        exact M.1.2.2.2.2.2.2
      have R := zRl_c (kc := 4) (km := 2) (v := v) A (ac := 4) (am := 63) (by omega) (by omega) (zA_n _ _ (by decide)) (zA_n _ _ (by decide)) (zA_s _ _ _) (zMs_G4 Ms) (zRg_Gn M.2.2 (by omega) hb) A.1.2.2.1 (by omega)
      refine ⟨_, _, _, n, m, f_asks_4 (d := d + 37) hv, ?_, R⟩
      have l1 : ((4 : Int32) < 2) = False := eq_false (by decide)
      have l2 : ((4 : Int32) < 4) = False := eq_false (by decide)
      have es : (4 : Int32) - 2 = nI 2 := by decide
      have hz := zis3 (k := 2) (by decide)
      have hc := nI_clamp (n := 2) (by decide)
      simp only [c_6026, e_6026_0, e_6026_1, e_6026_4, e_6026_5, e_6026_8, e_6026_9, e_6026_10, e_6026_13, e_6026_14, e_6026_17, e_6026_18, e_6026_19, e_6026_20, e_6026_23, e_6026_26, e_6026_27, e_6026_28, e_6026_31, e_6026_32, e_6026_35, e_6026_36, e_6026_38, e_6026_41, e_6026_42, e_6026_45, e_6026_46, e_6026_47, e_6026_48, e_6026_51, e_6026_54, e_6026_55, e_6026_56, e_6026_59, e_6026_60, e_6026_61, e_6026_64, e_6026_65, e_6026_68, e_6026_69, e_6026_71, e_6026_74, e_6026_75, e_6026_78, e_6026_79, e_6026_80, e_6026_81, e_6026_82, e_6026_83, e_6026_84, e_6026_87, e_6026_88, e_6026_89, e_6026_90, e_6026_91, e_6026_92, e_6026_95, e_6026_96, e_6026_98, e_6026_101, e_6026_102, e_6026_103, zk_int, zk_ref, zk_null, zk_none, zk_long, zisR_r, zisR_n, zcl_int, zcl_ref, zcl_null, zpush_s, zpush_n, zbs, zbn, true_or, or_true, not_false_eq_true, not_true_eq_false, ↓reduceIte, and_self, and_true, true_and, ie_0_1, ie_0_2, ie_0_3, ie_0_4, ie_0_5, ie_0_6, ie_0_7, ie_1_0, ie_1_2, ie_1_3, ie_1_4, ie_1_5, ie_1_6, ie_1_7, ie_2_0, ie_2_1, ie_2_3, ie_2_4, ie_2_5, ie_2_6, ie_2_7, ie_3_0, ie_3_1, ie_3_2, ie_3_4, ie_3_5, ie_3_6, ie_3_7, ie_4_0, ie_4_1, ie_4_2, ie_4_3, ie_4_5, ie_4_6, ie_4_7, ie_5_0, ie_5_1, ie_5_2, ie_5_3, ie_5_4, ie_5_6, ie_5_7, ie_6_0, ie_6_1, ie_6_2, ie_6_3, ie_6_4, ie_6_5, ie_6_7, ie_7_0, ie_7_1, ie_7_2, ie_7_3, ie_7_4, ie_7_5, ie_7_6, zt_50, zt_50, zr_50_20, zt_63, zn_63, zo_63, zl_63, zq_63, v0, v1, l1, l2, es, hz, hc, zui_A, vv]
    · refine pr_f A (by decide) (f_ask_64 (d := d + 37) hv) (zKp_r _) (m_ask_6 (d := d + 39) (fun c => ?_)) (zKp_r _)
      rcases c with ⟨c0, c1⟩ | ⟨c0, c1⟩ | ⟨c0, c2, c1⟩
      · exact absurd c0 (by decide)
      · exact absurd c0 (by decide)
      · exact hv c1
theorem p_fault (A : zRl w S L n m) : zPr d 5017 6041 [] w S L := by
  have t := A.2.2.2.2.1
  have hc := f_faultT (d := d + 39) (w := w)
  refine pr_k A hc (zKp_r _) ?_ (zKp_r _)
  simp only [c_6041, e_6041_0, e_6041_1, e_6041_4, zk_int, zk_ref, zk_null, zk_none, zk_long, zisR_r, zisR_n, zcl_int, zcl_ref, zcl_null, zpush_s, zpush_n, zbs, zbn, true_or, or_true, not_false_eq_true, not_true_eq_false, ↓reduceIte, and_self, and_true, true_and, zt_50, t]
theorem p_seed {x : Int32} (A : zRl w S L n m) : zPr d 5039 6087 [.int x] w S L := by
  have C := rl_C A
  have M := rl_M A
  have hz := rl_z1 A
  obtain ⟨-, -, a6, e4, e5, e6⟩ := A.1
  have vv : (zuA w 1 (upd (w.1 1) 7 x)).1 50 6 = w.1 1 7 := by rw [zA_n _ _ (by decide)]; exact e6
  have e50 : (zuA w 1 (upd (w.1 1) 7 x)).1 50 = w.1 50 := zA_n _ _ (by decide)
  refine ⟨_, zuA w 1 (upd (w.1 1) 7 x), zui (zuA w 1 (upd (w.1 1) 7 x)) 50 6 x, n, m, f_seed (d := d + 39), ?_, zRl_h A (zKh_t (zKh_A (by omega)) (zKh_50 (by omega))) ?_ (Nat.le_refl _) ?_⟩
  · simp only [c_6087, e_6087_0, e_6087_1, e_6087_4, e_6087_5, e_6087_6, e_6087_7, e_6087_10, e_6087_11, zk_int, zk_ref, zk_null, zk_none, zk_long, zisR_r, zisR_n, zcl_int, zcl_ref, zcl_null, zpush_s, zpush_n, zbs, zbn, true_or, or_true, not_false_eq_true, not_true_eq_false, ↓reduceIte, and_self, and_true, true_and, zt_50, vv]
  · have d1 : (zui (zuA w 1 (upd (w.1 1) 7 x)) 50 6 x).1 1 = upd (w.1 1) 7 x := by rw [zi_n _ (by decide), zA_s]
    have dn : ∀ a, a ≠ 1 → a ≠ 50 → (zui (zuA w 1 (upd (w.1 1) 7 x)) 50 6 x).1 a = w.1 a := fun a h1 h2 => by rw [zi_n _ h2, zA_n _ _ h1]
    have d50 : (zui (zuA w 1 (upd (w.1 1) 7 x)) 50 6 x).1 50 = upd (w.1 50) 6 x := by rw [zi_s, e50]
    unfold rA zHc
    rw [d1, dn 2 (by decide) (by decide), dn 3 (by decide) (by decide), dn 4 (by decide) (by decide), d50, u_ne (by decide), u_ne (by decide), u_ne (by decide), u_ne (by decide), u_ne (by decide), u_ne (by decide), u_eq, u_eq]
    refine ⟨C, ⟨zMs_k M.1 ⟨?_, ?_⟩ (fun a h1 h2 => dn a (by omega) (by omega)), zMn_k M.2.1 ?_ ?_, M.2.2⟩, a6, e4, e5, rfl⟩
    · rw [d50, u_ne (by decide)]
    · rw [d50, u_ne (by decide)]
    · rw [d50, u_ne (by decide)]
    · rw [d50, u_ne (by decide)]
  · refine ⟨?_, ?_, ?_, fun k hk => ?_⟩
    · rw [zi_n _ (by decide), zA_n _ _ (by decide)]; exact hz.1
    · rw [zi_n _ (by decide), zA_n _ _ (by decide)]; exact hz.2.1
    · rw [zi_n _ (by decide), zA_n _ _ (by decide)]; exact hz.2.2.1
    · rw [zi_n _ (by decide), zA_s, u_ne (by omega)]; exact hz.2.2.2 k hk
end PG
