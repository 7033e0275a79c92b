def mAc (w : zM) (q : Nat × (Nat → Int32)) : zM := zuA (zuA w 50 (upd (w.1 50) 46 (nI q.1))) 79 q.2
section PI
variable {d n m : Nat} {w w1 w2 : zM} {S : Nat → Int32} {L : Int32} {T V G : Nat → Int32} {q : Nat × (Nat → Int32)}
theorem mAc_46 (q : Nat × (Nat → Int32)) : (mAc w q).1 50 46 = nI q.1 := by unfold mAc; rw [zA_n _ _ (by decide), zA_s, u_eq]
theorem mAc_79 (q : Nat × (Nat → Int32)) : (mAc w q).1 79 = q.2 := zA_s _ _ _
theorem mAc_n (q : Nat × (Nat → Int32)) {a : Nat} (h1 : a ≠ 50) (h2 : a ≠ 79) : (mAc w q).1 a = w.1 a := by unfold mAc; rw [zA_n _ _ h2, zA_n _ _ h1]
theorem mAc_u (q : Nat × (Nat → Int32)) (x : Nat) (f : Nat → Int32) : zui (zuA (mAc w q) 79 f) 50 46 (nI x) = mAc w (x, f) := by
  rw [zui_A]
  have e : (zuA (mAc w q) 79 f).1 50 = upd (w.1 50) 46 (nI q.1) := by unfold mAc; rw [zA_n _ _ (by decide), zA_n _ _ (by decide), zA_s]
  rw [e, upd_u]
  unfold mAc
  rw [zA_A, zA_c _ _ _ (by decide : (79 : Nat) ≠ 50), zA_A]
theorem mAc_u2 (q : Nat × (Nat → Int32)) (x : Nat) : zui (mAc w q) 50 46 (nI x) = mAc w (x, q.2) := by
  have h := mAc_u (w := w) q x q.2
  have e : zuA (mAc w q) 79 q.2 = mAc w q := by
    have e2 : (mAc w q).1 79 = q.2 := mAc_79 q
    rw [← e2, zA_id]
  rw [e] at h
  exact h
theorem m_body {b : Int32} (hq : q.1 < 1000) : cal d 6088 [.ref 50, .int b] (mAc w q) = some (none, mAc w (sPu q b)) := by
  unfold sPu
  by_cases h : q.1 < 20
  · have g : ((20 : Int32) ≤ nI q.1) = False := nI_ge_f (b := 20) h (by decide)
    have hz := zis_nI (j := q.1) (n := 20) h (by decide)
    have hc := nI_clamp (n := q.1) (by omega)
    have e := mAc_u (w := w) q (q.1 + 1) (upd q.2 q.1 b)
    have e3 : zui (mAc w q) 79 q.1 b = zuA (mAc w q) 79 (upd q.2 q.1 b) := by rw [zui_A, mAc_79]
    have e46 : (zuA (mAc w q) 79 (upd q.2 q.1 b)).1 50 46 = nI q.1 := by rw [zA_n _ _ (by decide), mAc_46]
    rw [if_pos h]
    simp only [c_6088, e_6088_0, e_6088_1, e_6088_4, e_6088_6, e_6088_9, e_6088_10, e_6088_13, e_6088_14, e_6088_17, e_6088_18, e_6088_19, e_6088_20, e_6088_21, e_6088_24, e_6088_25, e_6088_26, e_6088_29, zk_int, zk_ref, zk_null, zk_none, zk_long, zisR_r, zisR_n, zcl_int, zcl_ref, zcl_null, zpush_s, zpush_n, zbs, zbn, true_or, or_true, not_false_eq_true, not_true_eq_false, ↓reduceIte, and_self, and_true, true_and, zt_50, zr_50_45, zt_79, zn_79, zo_79, zl_79, zq_79, mAc_46, g, hz, hc, e3, e46, nI_1, e]
  · have g : ((20 : Int32) ≤ nI q.1) = True := nI_le_n (a := 20) (by omega) (by omega)
    have e := mAc_u2 (w := w) q (q.1 + 1)
    rw [if_neg h]
    simp only [c_6088, e_6088_0, e_6088_1, e_6088_4, e_6088_6, e_6088_9, e_6088_10, e_6088_13, e_6088_14, e_6088_17, e_6088_18, e_6088_19, e_6088_20, e_6088_21, e_6088_24, e_6088_25, e_6088_26, e_6088_29, zk_int, zk_ref, zk_null, zk_none, zk_long, zisR_r, zisR_n, zcl_int, zcl_ref, zcl_null, zpush_s, zpush_n, zbs, zbn, true_or, or_true, not_false_eq_true, not_true_eq_false, ↓reduceIte, and_self, and_true, true_and, zt_50, mAc_46, g, nI_1, e]
def qRe (q q' : Nat × (Nat → Int32)) : Prop := q.1 = q'.1 ∧ ∀ i, i < q.1 → i < 20 → q.2 i = q'.2 i
theorem sPu_r {q q' : Nat × (Nat → Int32)} (b : Int32) (h : qRe q q') : qRe (sPu q b) (sPu q' b) := by
  obtain ⟨h1, h2⟩ := h
  refine ⟨by show q.1 + 1 = q'.1 + 1; rw [h1], fun i hi h20 => ?_⟩
  have hi2 : i < q.1 + 1 := hi
  show (if q.1 < 20 then upd q.2 q.1 b else q.2) i = (if q'.1 < 20 then upd q'.2 q'.1 b else q'.2) i
  rw [← h1]
  by_cases h : q.1 < 20
  · rw [if_pos h, if_pos h]
    by_cases e : i = q.1
    · rw [e, u_eq, u_eq]
    · rw [u_ne e, u_ne e]; exact h2 i (by omega) h20
  · rw [if_neg h, if_neg h]
    exact h2 i (by omega) h20
theorem m_serving_0 {t : Nat} {y : Int32} (A : zMs w T V G) (ht : t < 8) (hk : T (5 * t + 0) = 0) (hq : q.1 < 900) : cal (d + 1) 6089 [.ref 50, .int (nI t), .int y] (mAc w q) = some (some (.int (sVS 0 y (nI t) (T (5 * t + 3)))), mAc w (sTS 0 q)) := by
  obtain ⟨a0, a1, a2, a3, a4⟩ := A.1 t ht
  have b0 : ∀ q, (mAc w q).1 52 t = T (5 * t + 0) := fun q => by rw [mAc_n _ (by decide) (by decide)]; exact a0
  have b3 : ∀ q, (mAc w q).1 55 t = T (5 * t + 3) := fun q => by rw [mAc_n _ (by decide) (by decide)]; exact a3
  have hz := zis_nI (j := t) (n := 8) ht (by decide)
  have hc := nI_clamp (n := t) (by omega)
  have p0 := m_body (d := d) (w := w) (q := q) (b := 10) (by show q.1 < 1000; omega)
  have ev : sVS 0 y (nI t) (T (5 * t + 3)) = y + nI t := Int32.add_zero _
  have et : sTS 0 q = (sPu q 10) := rfl
  rw [ev, et]
  simp only [c_6089, e_6089_0, e_6089_1, e_6089_4, e_6089_5, e_6089_6, e_6089_7, e_6089_8, e_6089_11, e_6089_12, e_6089_13, e_6089_16, e_6089_17, e_6089_20, e_6089_21, e_6089_23, e_6089_24, e_6089_26, e_6089_29, e_6089_30, e_6089_32, e_6089_35, e_6089_36, e_6089_37, e_6089_40, e_6089_41, e_6089_43, e_6089_46, e_6089_48, e_6089_51, e_6089_52, e_6089_54, e_6089_57, e_6089_58, e_6089_60, e_6089_63, e_6089_65, e_6089_68, e_6089_69, e_6089_70, e_6089_71, e_6089_72, e_6089_75, e_6089_76, e_6089_77, e_6089_78, e_6089_81, e_6089_82, e_6089_83, e_6089_84, e_6089_86, e_6089_87, e_6089_89, e_6089_92, e_6089_94, e_6089_95, e_6089_96, e_6089_99, e_6089_100, e_6089_101, e_6089_104, e_6089_106, e_6089_107, e_6089_108, e_6089_111, e_6089_113, zk_int, zk_ref, zk_null, zk_none, zk_long, zisR_r, zisR_n, zcl_int, zcl_ref, zcl_null, zpush_s, zpush_n, zbs, zbn, true_or, or_true, not_false_eq_true, not_true_eq_false, ↓reduceIte, and_self, and_true, true_and, ie_0_1, ie_0_2, ie_0_3, ie_0_4, ie_0_5, ie_0_6, ie_0_7, ie_1_0, ie_1_2, ie_1_3, ie_1_4, ie_1_5, ie_1_6, ie_1_7, ie_2_0, ie_2_1, ie_2_3, ie_2_4, ie_2_5, ie_2_6, ie_2_7, ie_3_0, ie_3_1, ie_3_2, ie_3_4, ie_3_5, ie_3_6, ie_3_7, ie_4_0, ie_4_1, ie_4_2, ie_4_3, ie_4_5, ie_4_6, ie_4_7, ie_5_0, ie_5_1, ie_5_2, ie_5_3, ie_5_4, ie_5_6, ie_5_7, ie_6_0, ie_6_1, ie_6_2, ie_6_3, ie_6_4, ie_6_5, ie_6_7, ie_7_0, ie_7_1, ie_7_2, ie_7_3, ie_7_4, ie_7_5, ie_7_6, zt_50, zr_50_9, zt_52, zn_52, zo_52, zl_52, zq_52, zr_50_12, zt_55, zn_55, zo_55, zl_55, zq_55, b0, b3, hk, hz, hc, p0]
theorem m_serving_1 {t : Nat} {y : Int32} (A : zMs w T V G) (ht : t < 8) (hk : T (5 * t + 0) = 1) (hq : q.1 < 900) : cal (d + 1) 6089 [.ref 50, .int (nI t), .int y] (mAc w q) = some (some (.int (sVS 1 y (nI t) (T (5 * t + 3)))), mAc w (sTS 1 q)) := by
  obtain ⟨a0, a1, a2, a3, a4⟩ := A.1 t ht
  have b0 : ∀ q, (mAc w q).1 52 t = T (5 * t + 0) := fun q => by rw [mAc_n _ (by decide) (by decide)]; exact a0
  have b3 : ∀ q, (mAc w q).1 55 t = T (5 * t + 3) := fun q => by rw [mAc_n _ (by decide) (by decide)]; exact a3
  have hz := zis_nI (j := t) (n := 8) ht (by decide)
  have hc := nI_clamp (n := t) (by omega)
  have p0 := m_body (d := d) (w := w) (q := q) (b := 20) (by show q.1 < 1000; omega)
  have p1 := m_body (d := d) (w := w) (q := (sPu q 20)) (b := 10) (by show q.1 + 1 < 1000; omega)
  have ev : sVS 1 y (nI t) (T (5 * t + 3)) = y + nI t + T (5 * t + 3) := rfl
  have et : sTS 1 q = (sPu (sPu q 20) 10) := rfl
  rw [ev, et]
  simp only [c_6089, e_6089_0, e_6089_1, e_6089_4, e_6089_5, e_6089_6, e_6089_7, e_6089_8, e_6089_11, e_6089_12, e_6089_13, e_6089_16, e_6089_17, e_6089_20, e_6089_21, e_6089_23, e_6089_24, e_6089_26, e_6089_29, e_6089_30, e_6089_32, e_6089_35, e_6089_36, e_6089_37, e_6089_40, e_6089_41, e_6089_43, e_6089_46, e_6089_48, e_6089_51, e_6089_52, e_6089_54, e_6089_57, e_6089_58, e_6089_60, e_6089_63, e_6089_65, e_6089_68, e_6089_69, e_6089_70, e_6089_71, e_6089_72, e_6089_75, e_6089_76, e_6089_77, e_6089_78, e_6089_81, e_6089_82, e_6089_83, e_6089_84, e_6089_86, e_6089_87, e_6089_89, e_6089_92, e_6089_94, e_6089_95, e_6089_96, e_6089_99, e_6089_100, e_6089_101, e_6089_104, e_6089_106, e_6089_107, e_6089_108, e_6089_111, e_6089_113, zk_int, zk_ref, zk_null, zk_none, zk_long, zisR_r, zisR_n, zcl_int, zcl_ref, zcl_null, zpush_s, zpush_n, zbs, zbn, true_or, or_true, not_false_eq_true, not_true_eq_false, ↓reduceIte, and_self, and_true, true_and, ie_0_1, ie_0_2, ie_0_3, ie_0_4, ie_0_5, ie_0_6, ie_0_7, ie_1_0, ie_1_2, ie_1_3, ie_1_4, ie_1_5, ie_1_6, ie_1_7, ie_2_0, ie_2_1, ie_2_3, ie_2_4, ie_2_5, ie_2_6, ie_2_7, ie_3_0, ie_3_1, ie_3_2, ie_3_4, ie_3_5, ie_3_6, ie_3_7, ie_4_0, ie_4_1, ie_4_2, ie_4_3, ie_4_5, ie_4_6, ie_4_7, ie_5_0, ie_5_1, ie_5_2, ie_5_3, ie_5_4, ie_5_6, ie_5_7, ie_6_0, ie_6_1, ie_6_2, ie_6_3, ie_6_4, ie_6_5, ie_6_7, ie_7_0, ie_7_1, ie_7_2, ie_7_3, ie_7_4, ie_7_5, ie_7_6, zt_50, zr_50_9, zt_52, zn_52, zo_52, zl_52, zq_52, zr_50_12, zt_55, zn_55, zo_55, zl_55, zq_55, b0, b3, hk, hz, hc, p0, p1]
theorem m_serving_2 {t : Nat} {y : Int32} (A : zMs w T V G) (ht : t < 8) (hk : T (5 * t + 0) = 2) (hq : q.1 < 900) : cal (d + 1) 6089 [.ref 50, .int (nI t), .int y] (mAc w q) = some (some (.int (sVS 2 y (nI t) (T (5 * t + 3)))), mAc w (sTS 2 q)) := by
  obtain ⟨a0, a1, a2, a3, a4⟩ := A.1 t ht
  have b0 : ∀ q, (mAc w q).1 52 t = T (5 * t + 0) := fun q => by rw [mAc_n _ (by decide) (by decide)]; exact a0
  have b3 : ∀ q, (mAc w q).1 55 t = T (5 * t + 3) := fun q => by rw [mAc_n _ (by decide) (by decide)]; exact a3
  have hz := zis_nI (j := t) (n := 8) ht (by decide)
  have hc := nI_clamp (n := t) (by omega)
  have p0 := m_body (d := d) (w := w) (q := q) (b := 20) (by show q.1 < 1000; omega)
  have p1 := m_body (d := d) (w := w) (q := (sPu q 20)) (b := 10) (by show q.1 + 1 < 1000; omega)
  have ev : sVS 2 y (nI t) (T (5 * t + 3)) = y + nI t + T (5 * t + 3) := rfl
  have et : sTS 2 q = (sPu (sPu q 20) 10) := rfl
  rw [ev, et]
  simp only [c_6089, e_6089_0, e_6089_1, e_6089_4, e_6089_5, e_6089_6, e_6089_7, e_6089_8, e_6089_11, e_6089_12, e_6089_13, e_6089_16, e_6089_17, e_6089_20, e_6089_21, e_6089_23, e_6089_24, e_6089_26, e_6089_29, e_6089_30, e_6089_32, e_6089_35, e_6089_36, e_6089_37, e_6089_40, e_6089_41, e_6089_43, e_6089_46, e_6089_48, e_6089_51, e_6089_52, e_6089_54, e_6089_57, e_6089_58, e_6089_60, e_6089_63, e_6089_65, e_6089_68, e_6089_69, e_6089_70, e_6089_71, e_6089_72, e_6089_75, e_6089_76, e_6089_77, e_6089_78, e_6089_81, e_6089_82, e_6089_83, e_6089_84, e_6089_86, e_6089_87, e_6089_89, e_6089_92, e_6089_94, e_6089_95, e_6089_96, e_6089_99, e_6089_100, e_6089_101, e_6089_104, e_6089_106, e_6089_107, e_6089_108, e_6089_111, e_6089_113, zk_int, zk_ref, zk_null, zk_none, zk_long, zisR_r, zisR_n, zcl_int, zcl_ref, zcl_null, zpush_s, zpush_n, zbs, zbn, true_or, or_true, not_false_eq_true, not_true_eq_false, ↓reduceIte, and_self, and_true, true_and, ie_0_1, ie_0_2, ie_0_3, ie_0_4, ie_0_5, ie_0_6, ie_0_7, ie_1_0, ie_1_2, ie_1_3, ie_1_4, ie_1_5, ie_1_6, ie_1_7, ie_2_0, ie_2_1, ie_2_3, ie_2_4, ie_2_5, ie_2_6, ie_2_7, ie_3_0, ie_3_1, ie_3_2, ie_3_4, ie_3_5, ie_3_6, ie_3_7, ie_4_0, ie_4_1, ie_4_2, ie_4_3, ie_4_5, ie_4_6, ie_4_7, ie_5_0, ie_5_1, ie_5_2, ie_5_3, ie_5_4, ie_5_6, ie_5_7, ie_6_0, ie_6_1, ie_6_2, ie_6_3, ie_6_4, ie_6_5, ie_6_7, ie_7_0, ie_7_1, ie_7_2, ie_7_3, ie_7_4, ie_7_5, ie_7_6, zt_50, zr_50_9, zt_52, zn_52, zo_52, zl_52, zq_52, zr_50_12, zt_55, zn_55, zo_55, zl_55, zq_55, b0, b3, hk, hz, hc, p0, p1]
theorem m_serving_3 {t : Nat} {y : Int32} (A : zMs w T V G) (ht : t < 8) (hk : T (5 * t + 0) = 3) (hq : q.1 < 900) : cal (d + 1) 6089 [.ref 50, .int (nI t), .int y] (mAc w q) = some (some (.int (sVS 3 y (nI t) (T (5 * t + 3)))), mAc w (sTS 3 q)) := by
  obtain ⟨a0, a1, a2, a3, a4⟩ := A.1 t ht
  have b0 : ∀ q, (mAc w q).1 52 t = T (5 * t + 0) := fun q => by rw [mAc_n _ (by decide) (by decide)]; exact a0
  have b3 : ∀ q, (mAc w q).1 55 t = T (5 * t + 3) := fun q => by rw [mAc_n _ (by decide) (by decide)]; exact a3
  have hz := zis_nI (j := t) (n := 8) ht (by decide)
  have hc := nI_clamp (n := t) (by omega)
  have p0 := m_body (d := d) (w := w) (q := q) (b := 20) (by show q.1 < 1000; omega)
  have p1 := m_body (d := d) (w := w) (q := (sPu q 20)) (b := 10) (by show q.1 + 1 < 1000; omega)
  have ev : sVS 3 y (nI t) (T (5 * t + 3)) = y + nI t + T (5 * t + 3) := rfl
  have et : sTS 3 q = (sPu (sPu q 20) 10) := rfl
  rw [ev, et]
  simp only [c_6089, e_6089_0, e_6089_1, e_6089_4, e_6089_5, e_6089_6, e_6089_7, e_6089_8, e_6089_11, e_6089_12, e_6089_13, e_6089_16, e_6089_17, e_6089_20, e_6089_21, e_6089_23, e_6089_24, e_6089_26, e_6089_29, e_6089_30, e_6089_32, e_6089_35, e_6089_36, e_6089_37, e_6089_40, e_6089_41, e_6089_43, e_6089_46, e_6089_48, e_6089_51, e_6089_52, e_6089_54, e_6089_57, e_6089_58, e_6089_60, e_6089_63, e_6089_65, e_6089_68, e_6089_69, e_6089_70, e_6089_71, e_6089_72, e_6089_75, e_6089_76, e_6089_77, e_6089_78, e_6089_81, e_6089_82, e_6089_83, e_6089_84, e_6089_86, e_6089_87, e_6089_89, e_6089_92, e_6089_94, e_6089_95, e_6089_96, e_6089_99, e_6089_100, e_6089_101, e_6089_104, e_6089_106, e_6089_107, e_6089_108, e_6089_111, e_6089_113, zk_int, zk_ref, zk_null, zk_none, zk_long, zisR_r, zisR_n, zcl_int, zcl_ref, zcl_null, zpush_s, zpush_n, zbs, zbn, true_or, or_true, not_false_eq_true, not_true_eq_false, ↓reduceIte, and_self, and_true, true_and, ie_0_1, ie_0_2, ie_0_3, ie_0_4, ie_0_5, ie_0_6, ie_0_7, ie_1_0, ie_1_2, ie_1_3, ie_1_4, ie_1_5, ie_1_6, ie_1_7, ie_2_0, ie_2_1, ie_2_3, ie_2_4, ie_2_5, ie_2_6, ie_2_7, ie_3_0, ie_3_1, ie_3_2, ie_3_4, ie_3_5, ie_3_6, ie_3_7, ie_4_0, ie_4_1, ie_4_2, ie_4_3, ie_4_5, ie_4_6, ie_4_7, ie_5_0, ie_5_1, ie_5_2, ie_5_3, ie_5_4, ie_5_6, ie_5_7, ie_6_0, ie_6_1, ie_6_2, ie_6_3, ie_6_4, ie_6_5, ie_6_7, ie_7_0, ie_7_1, ie_7_2, ie_7_3, ie_7_4, ie_7_5, ie_7_6, zt_50, zr_50_9, zt_52, zn_52, zo_52, zl_52, zq_52, zr_50_12, zt_55, zn_55, zo_55, zl_55, zq_55, b0, b3, hk, hz, hc, p0, p1]
theorem m_serving_4 {t : Nat} {y : Int32} (A : zMs w T V G) (ht : t < 8) (hk : T (5 * t + 0) = 4) (hq : q.1 < 900) : cal (d + 1) 6089 [.ref 50, .int (nI t), .int y] (mAc w q) = some (some (.int (sVS 4 y (nI t) (T (5 * t + 3)))), mAc w (sTS 4 q)) := by
  obtain ⟨a0, a1, a2, a3, a4⟩ := A.1 t ht
  have b0 : ∀ q, (mAc w q).1 52 t = T (5 * t + 0) := fun q => by rw [mAc_n _ (by decide) (by decide)]; exact a0
  have b3 : ∀ q, (mAc w q).1 55 t = T (5 * t + 3) := fun q => by rw [mAc_n _ (by decide) (by decide)]; exact a3
  have hz := zis_nI (j := t) (n := 8) ht (by decide)
  have hc := nI_clamp (n := t) (by omega)
  have p0 := m_body (d := d) (w := w) (q := q) (b := 10) (by show q.1 < 1000; omega)
  have ev : sVS 4 y (nI t) (T (5 * t + 3)) = y + nI t := Int32.add_zero _
  have et : sTS 4 q = (sPu q 10) := rfl
  rw [ev, et]
  simp only [c_6089, e_6089_0, e_6089_1, e_6089_4, e_6089_5, e_6089_6, e_6089_7, e_6089_8, e_6089_11, e_6089_12, e_6089_13, e_6089_16, e_6089_17, e_6089_20, e_6089_21, e_6089_23, e_6089_24, e_6089_26, e_6089_29, e_6089_30, e_6089_32, e_6089_35, e_6089_36, e_6089_37, e_6089_40, e_6089_41, e_6089_43, e_6089_46, e_6089_48, e_6089_51, e_6089_52, e_6089_54, e_6089_57, e_6089_58, e_6089_60, e_6089_63, e_6089_65, e_6089_68, e_6089_69, e_6089_70, e_6089_71, e_6089_72, e_6089_75, e_6089_76, e_6089_77, e_6089_78, e_6089_81, e_6089_82, e_6089_83, e_6089_84, e_6089_86, e_6089_87, e_6089_89, e_6089_92, e_6089_94, e_6089_95, e_6089_96, e_6089_99, e_6089_100, e_6089_101, e_6089_104, e_6089_106, e_6089_107, e_6089_108, e_6089_111, e_6089_113, zk_int, zk_ref, zk_null, zk_none, zk_long, zisR_r, zisR_n, zcl_int, zcl_ref, zcl_null, zpush_s, zpush_n, zbs, zbn, true_or, or_true, not_false_eq_true, not_true_eq_false, ↓reduceIte, and_self, and_true, true_and, ie_0_1, ie_0_2, ie_0_3, ie_0_4, ie_0_5, ie_0_6, ie_0_7, ie_1_0, ie_1_2, ie_1_3, ie_1_4, ie_1_5, ie_1_6, ie_1_7, ie_2_0, ie_2_1, ie_2_3, ie_2_4, ie_2_5, ie_2_6, ie_2_7, ie_3_0, ie_3_1, ie_3_2, ie_3_4, ie_3_5, ie_3_6, ie_3_7, ie_4_0, ie_4_1, ie_4_2, ie_4_3, ie_4_5, ie_4_6, ie_4_7, ie_5_0, ie_5_1, ie_5_2, ie_5_3, ie_5_4, ie_5_6, ie_5_7, ie_6_0, ie_6_1, ie_6_2, ie_6_3, ie_6_4, ie_6_5, ie_6_7, ie_7_0, ie_7_1, ie_7_2, ie_7_3, ie_7_4, ie_7_5, ie_7_6, zt_50, zr_50_9, zt_52, zn_52, zo_52, zl_52, zq_52, zr_50_12, zt_55, zn_55, zo_55, zl_55, zq_55, b0, b3, hk, hz, hc, p0]
theorem m_serving_5 {t : Nat} {y : Int32} (A : zMs w T V G) (ht : t < 8) (hk : T (5 * t + 0) = 5) (hq : q.1 < 900) : cal (d + 1) 6089 [.ref 50, .int (nI t), .int y] (mAc w q) = some (some (.int (sVS 5 y (nI t) (T (5 * t + 3)))), mAc w (sTS 5 q)) := by
  obtain ⟨a0, a1, a2, a3, a4⟩ := A.1 t ht
  have b0 : ∀ q, (mAc w q).1 52 t = T (5 * t + 0) := fun q => by rw [mAc_n _ (by decide) (by decide)]; exact a0
  have b3 : ∀ q, (mAc w q).1 55 t = T (5 * t + 3) := fun q => by rw [mAc_n _ (by decide) (by decide)]; exact a3
  have hz := zis_nI (j := t) (n := 8) ht (by decide)
  have hc := nI_clamp (n := t) (by omega)
  have p0 := m_body (d := d) (w := w) (q := q) (b := 70) (by show q.1 < 1000; omega)
  have p1 := m_body (d := d) (w := w) (q := (sPu q 70)) (b := 20) (by show q.1 + 1 < 1000; omega)
  have p2 := m_body (d := d) (w := w) (q := (sPu (sPu q 70) 20)) (b := 10) (by show q.1 + 1 + 1 < 1000; omega)
  have ev : sVS 5 y (nI t) (T (5 * t + 3)) = (y + nI t + T (5 * t + 3)) * 2 := rfl
  have et : sTS 5 q = (sPu (sPu (sPu q 70) 20) 10) := rfl
  rw [ev, et]
  simp only [c_6089, e_6089_0, e_6089_1, e_6089_4, e_6089_5, e_6089_6, e_6089_7, e_6089_8, e_6089_11, e_6089_12, e_6089_13, e_6089_16, e_6089_17, e_6089_20, e_6089_21, e_6089_23, e_6089_24, e_6089_26, e_6089_29, e_6089_30, e_6089_32, e_6089_35, e_6089_36, e_6089_37, e_6089_40, e_6089_41, e_6089_43, e_6089_46, e_6089_48, e_6089_51, e_6089_52, e_6089_54, e_6089_57, e_6089_58, e_6089_60, e_6089_63, e_6089_65, e_6089_68, e_6089_69, e_6089_70, e_6089_71, e_6089_72, e_6089_75, e_6089_76, e_6089_77, e_6089_78, e_6089_81, e_6089_82, e_6089_83, e_6089_84, e_6089_86, e_6089_87, e_6089_89, e_6089_92, e_6089_94, e_6089_95, e_6089_96, e_6089_99, e_6089_100, e_6089_101, e_6089_104, e_6089_106, e_6089_107, e_6089_108, e_6089_111, e_6089_113, zk_int, zk_ref, zk_null, zk_none, zk_long, zisR_r, zisR_n, zcl_int, zcl_ref, zcl_null, zpush_s, zpush_n, zbs, zbn, true_or, or_true, not_false_eq_true, not_true_eq_false, ↓reduceIte, and_self, and_true, true_and, ie_0_1, ie_0_2, ie_0_3, ie_0_4, ie_0_5, ie_0_6, ie_0_7, ie_1_0, ie_1_2, ie_1_3, ie_1_4, ie_1_5, ie_1_6, ie_1_7, ie_2_0, ie_2_1, ie_2_3, ie_2_4, ie_2_5, ie_2_6, ie_2_7, ie_3_0, ie_3_1, ie_3_2, ie_3_4, ie_3_5, ie_3_6, ie_3_7, ie_4_0, ie_4_1, ie_4_2, ie_4_3, ie_4_5, ie_4_6, ie_4_7, ie_5_0, ie_5_1, ie_5_2, ie_5_3, ie_5_4, ie_5_6, ie_5_7, ie_6_0, ie_6_1, ie_6_2, ie_6_3, ie_6_4, ie_6_5, ie_6_7, ie_7_0, ie_7_1, ie_7_2, ie_7_3, ie_7_4, ie_7_5, ie_7_6, zt_50, zr_50_9, zt_52, zn_52, zo_52, zl_52, zq_52, zr_50_12, zt_55, zn_55, zo_55, zl_55, zq_55, b0, b3, hk, hz, hc, p0, p1, p2]
theorem m_serving_6 {t : Nat} {y : Int32} (A : zMs w T V G) (ht : t < 8) (hk : T (5 * t + 0) = 6) (hq : q.1 < 900) : cal (d + 1) 6089 [.ref 50, .int (nI t), .int y] (mAc w q) = some (some (.int (sVS 6 y (nI t) (T (5 * t + 3)))), mAc w (sTS 6 q)) := by
  obtain ⟨a0, a1, a2, a3, a4⟩ := A.1 t ht
  have b0 : ∀ q, (mAc w q).1 52 t = T (5 * t + 0) := fun q => by rw [mAc_n _ (by decide) (by decide)]; exact a0
  have b3 : ∀ q, (mAc w q).1 55 t = T (5 * t + 3) := fun q => by rw [mAc_n _ (by decide) (by decide)]; exact a3
  have hz := zis_nI (j := t) (n := 8) ht (by decide)
  have hc := nI_clamp (n := t) (by omega)
  have p0 := m_body (d := d) (w := w) (q := q) (b := 51) (by show q.1 < 1000; omega)
  have p1 := m_body (d := d) (w := w) (q := (sPu q 51)) (b := 20) (by show q.1 + 1 < 1000; omega)
  have p2 := m_body (d := d) (w := w) (q := (sPu (sPu q 51) 20)) (b := 10) (by show q.1 + 1 + 1 < 1000; omega)
  have ev : sVS 6 y (nI t) (T (5 * t + 3)) = y + nI t + T (5 * t + 3) - nI t := rfl
  have et : sTS 6 q = (sPu (sPu (sPu q 51) 20) 10) := rfl
  rw [ev, et]
  simp only [c_6089, e_6089_0, e_6089_1, e_6089_4, e_6089_5, e_6089_6, e_6089_7, e_6089_8, e_6089_11, e_6089_12, e_6089_13, e_6089_16, e_6089_17, e_6089_20, e_6089_21, e_6089_23, e_6089_24, e_6089_26, e_6089_29, e_6089_30, e_6089_32, e_6089_35, e_6089_36, e_6089_37, e_6089_40, e_6089_41, e_6089_43, e_6089_46, e_6089_48, e_6089_51, e_6089_52, e_6089_54, e_6089_57, e_6089_58, e_6089_60, e_6089_63, e_6089_65, e_6089_68, e_6089_69, e_6089_70, e_6089_71, e_6089_72, e_6089_75, e_6089_76, e_6089_77, e_6089_78, e_6089_81, e_6089_82, e_6089_83, e_6089_84, e_6089_86, e_6089_87, e_6089_89, e_6089_92, e_6089_94, e_6089_95, e_6089_96, e_6089_99, e_6089_100, e_6089_101, e_6089_104, e_6089_106, e_6089_107, e_6089_108, e_6089_111, e_6089_113, zk_int, zk_ref, zk_null, zk_none, zk_long, zisR_r, zisR_n, zcl_int, zcl_ref, zcl_null, zpush_s, zpush_n, zbs, zbn, true_or, or_true, not_false_eq_true, not_true_eq_false, ↓reduceIte, and_self, and_true, true_and, ie_0_1, ie_0_2, ie_0_3, ie_0_4, ie_0_5, ie_0_6, ie_0_7, ie_1_0, ie_1_2, ie_1_3, ie_1_4, ie_1_5, ie_1_6, ie_1_7, ie_2_0, ie_2_1, ie_2_3, ie_2_4, ie_2_5, ie_2_6, ie_2_7, ie_3_0, ie_3_1, ie_3_2, ie_3_4, ie_3_5, ie_3_6, ie_3_7, ie_4_0, ie_4_1, ie_4_2, ie_4_3, ie_4_5, ie_4_6, ie_4_7, ie_5_0, ie_5_1, ie_5_2, ie_5_3, ie_5_4, ie_5_6, ie_5_7, ie_6_0, ie_6_1, ie_6_2, ie_6_3, ie_6_4, ie_6_5, ie_6_7, ie_7_0, ie_7_1, ie_7_2, ie_7_3, ie_7_4, ie_7_5, ie_7_6, zt_50, zr_50_9, zt_52, zn_52, zo_52, zl_52, zq_52, zr_50_12, zt_55, zn_55, zo_55, zl_55, zq_55, b0, b3, hk, hz, hc, p0, p1, p2]
theorem m_giving_0 {t : Nat} {y : Int32} (A : zMs w T V G) (ht : t < 8) (hk : T (5 * t + 0) = 0) (hq : q.1 < 800) : cal (d + 2) 6090 [.ref 50, .int (nI t), .int y] (mAc w q) = some (some (.int (sVG 0 y (nI t) (T (5 * t + 3)))), mAc w (sTG 0 q)) := by
  obtain ⟨a0, a1, a2, a3, a4⟩ := A.1 t ht
  have b0 : ∀ q, (mAc w q).1 52 t = T (5 * t + 0) := fun q => by rw [mAc_n _ (by decide) (by decide)]; exact a0
  have b3 : ∀ q, (mAc w q).1 55 t = T (5 * t + 3) := fun q => by rw [mAc_n _ (by decide) (by decide)]; exact a3
  have hz := zis_nI (j := t) (n := 8) ht (by decide)
  have hc := nI_clamp (n := t) (by omega)
  have p0 := m_body (d := d + 1) (w := w) (q := q) (b := 11) (by show q.1 < 1000; omega)
  have sv := m_serving_0 (d := d) (q := (sPu q 11)) (y := y) A ht hk (by show q.1 + 1 < 900; omega)
  have ev : sVG 0 y (nI t) (T (5 * t + 3)) = sVS 0 y (nI t) (T (5 * t + 3)) * 2 := rfl
  have et : sTG 0 q = sTS 0 (sPu q 11) := rfl
  rw [ev, et]
  simp only [c_6090, e_6090_0, e_6090_1, e_6090_4, e_6090_5, e_6090_6, e_6090_7, e_6090_8, e_6090_10, e_6090_11, e_6090_12, e_6090_15, e_6090_16, e_6090_18, e_6090_21, e_6090_22, e_6090_23, e_6090_26, e_6090_27, e_6090_29, e_6090_32, e_6090_33, e_6090_35, e_6090_38, e_6090_39, e_6090_40, e_6090_41, e_6090_43, e_6090_44, e_6090_45, e_6090_48, e_6090_49, e_6090_51, e_6090_54, e_6090_55, e_6090_56, e_6090_59, e_6090_60, e_6090_61, e_6090_62, e_6090_64, e_6090_65, e_6090_67, e_6090_70, e_6090_71, e_6090_72, e_6090_74, e_6090_77, e_6090_78, e_6090_79, e_6090_81, e_6090_82, e_6090_83, e_6090_86, e_6090_88, e_6090_89, e_6090_90, e_6090_93, e_6090_95, zk_int, zk_ref, zk_null, zk_none, zk_long, zisR_r, zisR_n, zcl_int, zcl_ref, zcl_null, zpush_s, zpush_n, zbs, zbn, true_or, or_true, not_false_eq_true, not_true_eq_false, ↓reduceIte, and_self, and_true, true_and, ie_0_1, ie_0_2, ie_0_3, ie_0_4, ie_0_5, ie_0_6, ie_0_7, ie_1_0, ie_1_2, ie_1_3, ie_1_4, ie_1_5, ie_1_6, ie_1_7, ie_2_0, ie_2_1, ie_2_3, ie_2_4, ie_2_5, ie_2_6, ie_2_7, ie_3_0, ie_3_1, ie_3_2, ie_3_4, ie_3_5, ie_3_6, ie_3_7, ie_4_0, ie_4_1, ie_4_2, ie_4_3, ie_4_5, ie_4_6, ie_4_7, ie_5_0, ie_5_1, ie_5_2, ie_5_3, ie_5_4, ie_5_6, ie_5_7, ie_6_0, ie_6_1, ie_6_2, ie_6_3, ie_6_4, ie_6_5, ie_6_7, ie_7_0, ie_7_1, ie_7_2, ie_7_3, ie_7_4, ie_7_5, ie_7_6, zt_50, zr_50_9, zt_52, zn_52, zo_52, zl_52, zq_52, zr_50_12, zt_55, zn_55, zo_55, zl_55, zq_55, b0, b3, hk, hz, hc, p0, sv]
theorem m_giving_1 {t : Nat} {y : Int32} (A : zMs w T V G) (ht : t < 8) (hk : T (5 * t + 0) = 1) (hq : q.1 < 800) : cal (d + 2) 6090 [.ref 50, .int (nI t), .int y] (mAc w q) = some (some (.int (sVG 1 y (nI t) (T (5 * t + 3)))), mAc w (sTG 1 q)) := by
  obtain ⟨a0, a1, a2, a3, a4⟩ := A.1 t ht
  have b0 : ∀ q, (mAc w q).1 52 t = T (5 * t + 0) := fun q => by rw [mAc_n _ (by decide) (by decide)]; exact a0
  have b3 : ∀ q, (mAc w q).1 55 t = T (5 * t + 3) := fun q => by rw [mAc_n _ (by decide) (by decide)]; exact a3
  have hz := zis_nI (j := t) (n := 8) ht (by decide)
  have hc := nI_clamp (n := t) (by omega)
  have p0 := m_body (d := d + 1) (w := w) (q := q) (b := 11) (by show q.1 < 1000; omega)
  have sv := m_serving_1 (d := d) (q := (sPu q 11)) (y := y) A ht hk (by show q.1 + 1 < 900; omega)
  have ev : sVG 1 y (nI t) (T (5 * t + 3)) = sVS 1 y (nI t) (T (5 * t + 3)) * 2 := rfl
  have et : sTG 1 q = sTS 1 (sPu q 11) := rfl
  rw [ev, et]
  simp only [c_6090, e_6090_0, e_6090_1, e_6090_4, e_6090_5, e_6090_6, e_6090_7, e_6090_8, e_6090_10, e_6090_11, e_6090_12, e_6090_15, e_6090_16, e_6090_18, e_6090_21, e_6090_22, e_6090_23, e_6090_26, e_6090_27, e_6090_29, e_6090_32, e_6090_33, e_6090_35, e_6090_38, e_6090_39, e_6090_40, e_6090_41, e_6090_43, e_6090_44, e_6090_45, e_6090_48, e_6090_49, e_6090_51, e_6090_54, e_6090_55, e_6090_56, e_6090_59, e_6090_60, e_6090_61, e_6090_62, e_6090_64, e_6090_65, e_6090_67, e_6090_70, e_6090_71, e_6090_72, e_6090_74, e_6090_77, e_6090_78, e_6090_79, e_6090_81, e_6090_82, e_6090_83, e_6090_86, e_6090_88, e_6090_89, e_6090_90, e_6090_93, e_6090_95, zk_int, zk_ref, zk_null, zk_none, zk_long, zisR_r, zisR_n, zcl_int, zcl_ref, zcl_null, zpush_s, zpush_n, zbs, zbn, true_or, or_true, not_false_eq_true, not_true_eq_false, ↓reduceIte, and_self, and_true, true_and, ie_0_1, ie_0_2, ie_0_3, ie_0_4, ie_0_5, ie_0_6, ie_0_7, ie_1_0, ie_1_2, ie_1_3, ie_1_4, ie_1_5, ie_1_6, ie_1_7, ie_2_0, ie_2_1, ie_2_3, ie_2_4, ie_2_5, ie_2_6, ie_2_7, ie_3_0, ie_3_1, ie_3_2, ie_3_4, ie_3_5, ie_3_6, ie_3_7, ie_4_0, ie_4_1, ie_4_2, ie_4_3, ie_4_5, ie_4_6, ie_4_7, ie_5_0, ie_5_1, ie_5_2, ie_5_3, ie_5_4, ie_5_6, ie_5_7, ie_6_0, ie_6_1, ie_6_2, ie_6_3, ie_6_4, ie_6_5, ie_6_7, ie_7_0, ie_7_1, ie_7_2, ie_7_3, ie_7_4, ie_7_5, ie_7_6, zt_50, zr_50_9, zt_52, zn_52, zo_52, zl_52, zq_52, zr_50_12, zt_55, zn_55, zo_55, zl_55, zq_55, b0, b3, hk, hz, hc, p0, sv]
theorem m_giving_2 {t : Nat} {y : Int32} (A : zMs w T V G) (ht : t < 8) (hk : T (5 * t + 0) = 2) (hq : q.1 < 800) : cal (d + 2) 6090 [.ref 50, .int (nI t), .int y] (mAc w q) = some (some (.int (sVG 2 y (nI t) (T (5 * t + 3)))), mAc w (sTG 2 q)) := by
  obtain ⟨a0, a1, a2, a3, a4⟩ := A.1 t ht
  have b0 : ∀ q, (mAc w q).1 52 t = T (5 * t + 0) := fun q => by rw [mAc_n _ (by decide) (by decide)]; exact a0
  have b3 : ∀ q, (mAc w q).1 55 t = T (5 * t + 3) := fun q => by rw [mAc_n _ (by decide) (by decide)]; exact a3
  have hz := zis_nI (j := t) (n := 8) ht (by decide)
  have hc := nI_clamp (n := t) (by omega)
  have p0 := m_body (d := d + 1) (w := w) (q := q) (b := 30) (by show q.1 < 1000; omega)
  have p1 := m_body (d := d + 1) (w := w) (q := (sPu q 30)) (b := 11) (by show q.1 + 1 < 1000; omega)
  have sv := m_serving_2 (d := d) (q := (sPu (sPu q 30) 11)) (y := y) A ht hk (by show q.1 + 1 + 1 < 900; omega)
  have ev : sVG 2 y (nI t) (T (5 * t + 3)) = sVS 2 y (nI t) (T (5 * t + 3)) * 2 * 3 := rfl
  have et : sTG 2 q = sTS 2 (sPu (sPu q 30) 11) := rfl
  rw [ev, et]
  simp only [c_6090, e_6090_0, e_6090_1, e_6090_4, e_6090_5, e_6090_6, e_6090_7, e_6090_8, e_6090_10, e_6090_11, e_6090_12, e_6090_15, e_6090_16, e_6090_18, e_6090_21, e_6090_22, e_6090_23, e_6090_26, e_6090_27, e_6090_29, e_6090_32, e_6090_33, e_6090_35, e_6090_38, e_6090_39, e_6090_40, e_6090_41, e_6090_43, e_6090_44, e_6090_45, e_6090_48, e_6090_49, e_6090_51, e_6090_54, e_6090_55, e_6090_56, e_6090_59, e_6090_60, e_6090_61, e_6090_62, e_6090_64, e_6090_65, e_6090_67, e_6090_70, e_6090_71, e_6090_72, e_6090_74, e_6090_77, e_6090_78, e_6090_79, e_6090_81, e_6090_82, e_6090_83, e_6090_86, e_6090_88, e_6090_89, e_6090_90, e_6090_93, e_6090_95, zk_int, zk_ref, zk_null, zk_none, zk_long, zisR_r, zisR_n, zcl_int, zcl_ref, zcl_null, zpush_s, zpush_n, zbs, zbn, true_or, or_true, not_false_eq_true, not_true_eq_false, ↓reduceIte, and_self, and_true, true_and, ie_0_1, ie_0_2, ie_0_3, ie_0_4, ie_0_5, ie_0_6, ie_0_7, ie_1_0, ie_1_2, ie_1_3, ie_1_4, ie_1_5, ie_1_6, ie_1_7, ie_2_0, ie_2_1, ie_2_3, ie_2_4, ie_2_5, ie_2_6, ie_2_7, ie_3_0, ie_3_1, ie_3_2, ie_3_4, ie_3_5, ie_3_6, ie_3_7, ie_4_0, ie_4_1, ie_4_2, ie_4_3, ie_4_5, ie_4_6, ie_4_7, ie_5_0, ie_5_1, ie_5_2, ie_5_3, ie_5_4, ie_5_6, ie_5_7, ie_6_0, ie_6_1, ie_6_2, ie_6_3, ie_6_4, ie_6_5, ie_6_7, ie_7_0, ie_7_1, ie_7_2, ie_7_3, ie_7_4, ie_7_5, ie_7_6, zt_50, zr_50_9, zt_52, zn_52, zo_52, zl_52, zq_52, zr_50_12, zt_55, zn_55, zo_55, zl_55, zq_55, b0, b3, hk, hz, hc, p0, p1, sv]
theorem m_giving_3 {t : Nat} {y : Int32} (A : zMs w T V G) (ht : t < 8) (hk : T (5 * t + 0) = 3) (hq : q.1 < 800) : cal (d + 2) 6090 [.ref 50, .int (nI t), .int y] (mAc w q) = some (some (.int (sVG 3 y (nI t) (T (5 * t + 3)))), mAc w (sTG 3 q)) := by
  obtain ⟨a0, a1, a2, a3, a4⟩ := A.1 t ht
  have b0 : ∀ q, (mAc w q).1 52 t = T (5 * t + 0) := fun q => by rw [mAc_n _ (by decide) (by decide)]; exact a0
  have b3 : ∀ q, (mAc w q).1 55 t = T (5 * t + 3) := fun q => by rw [mAc_n _ (by decide) (by decide)]; exact a3
  have hz := zis_nI (j := t) (n := 8) ht (by decide)
  have hc := nI_clamp (n := t) (by omega)
  have p0 := m_body (d := d + 1) (w := w) (q := q) (b := 40) (by show q.1 < 1000; omega)
  have p1 := m_body (d := d + 1) (w := w) (q := (sPu q 40)) (b := 11) (by show q.1 + 1 < 1000; omega)
  have sv := m_serving_3 (d := d) (q := (sPu (sPu q 40) 11)) (y := (y + 1)) A ht hk (by show q.1 + 1 + 1 < 900; omega)
  have ev : sVG 3 y (nI t) (T (5 * t + 3)) = sVS 3 (y + 1) (nI t) (T (5 * t + 3)) * 2 := rfl
  have et : sTG 3 q = sTS 3 (sPu (sPu q 40) 11) := rfl
  rw [ev, et]
  simp only [c_6090, e_6090_0, e_6090_1, e_6090_4, e_6090_5, e_6090_6, e_6090_7, e_6090_8, e_6090_10, e_6090_11, e_6090_12, e_6090_15, e_6090_16, e_6090_18, e_6090_21, e_6090_22, e_6090_23, e_6090_26, e_6090_27, e_6090_29, e_6090_32, e_6090_33, e_6090_35, e_6090_38, e_6090_39, e_6090_40, e_6090_41, e_6090_43, e_6090_44, e_6090_45, e_6090_48, e_6090_49, e_6090_51, e_6090_54, e_6090_55, e_6090_56, e_6090_59, e_6090_60, e_6090_61, e_6090_62, e_6090_64, e_6090_65, e_6090_67, e_6090_70, e_6090_71, e_6090_72, e_6090_74, e_6090_77, e_6090_78, e_6090_79, e_6090_81, e_6090_82, e_6090_83, e_6090_86, e_6090_88, e_6090_89, e_6090_90, e_6090_93, e_6090_95, zk_int, zk_ref, zk_null, zk_none, zk_long, zisR_r, zisR_n, zcl_int, zcl_ref, zcl_null, zpush_s, zpush_n, zbs, zbn, true_or, or_true, not_false_eq_true, not_true_eq_false, ↓reduceIte, and_self, and_true, true_and, ie_0_1, ie_0_2, ie_0_3, ie_0_4, ie_0_5, ie_0_6, ie_0_7, ie_1_0, ie_1_2, ie_1_3, ie_1_4, ie_1_5, ie_1_6, ie_1_7, ie_2_0, ie_2_1, ie_2_3, ie_2_4, ie_2_5, ie_2_6, ie_2_7, ie_3_0, ie_3_1, ie_3_2, ie_3_4, ie_3_5, ie_3_6, ie_3_7, ie_4_0, ie_4_1, ie_4_2, ie_4_3, ie_4_5, ie_4_6, ie_4_7, ie_5_0, ie_5_1, ie_5_2, ie_5_3, ie_5_4, ie_5_6, ie_5_7, ie_6_0, ie_6_1, ie_6_2, ie_6_3, ie_6_4, ie_6_5, ie_6_7, ie_7_0, ie_7_1, ie_7_2, ie_7_3, ie_7_4, ie_7_5, ie_7_6, zt_50, zr_50_9, zt_52, zn_52, zo_52, zl_52, zq_52, zr_50_12, zt_55, zn_55, zo_55, zl_55, zq_55, b0, b3, hk, hz, hc, p0, p1, sv]
theorem m_giving_4 {t : Nat} {y : Int32} (A : zMs w T V G) (ht : t < 8) (hk : T (5 * t + 0) = 4) (hq : q.1 < 800) : cal (d + 2) 6090 [.ref 50, .int (nI t), .int y] (mAc w q) = some (some (.int (sVG 4 y (nI t) (T (5 * t + 3)))), mAc w (sTG 4 q)) := by
  obtain ⟨a0, a1, a2, a3, a4⟩ := A.1 t ht
  have b0 : ∀ q, (mAc w q).1 52 t = T (5 * t + 0) := fun q => by rw [mAc_n _ (by decide) (by decide)]; exact a0
  have b3 : ∀ q, (mAc w q).1 55 t = T (5 * t + 3) := fun q => by rw [mAc_n _ (by decide) (by decide)]; exact a3
  have hz := zis_nI (j := t) (n := 8) ht (by decide)
  have hc := nI_clamp (n := t) (by omega)
  have p0 := m_body (d := d + 1) (w := w) (q := q) (b := 11) (by show q.1 < 1000; omega)
  have sv := m_serving_4 (d := d) (q := (sPu q 11)) (y := y) A ht hk (by show q.1 + 1 < 900; omega)
  have ev : sVG 4 y (nI t) (T (5 * t + 3)) = sVS 4 y (nI t) (T (5 * t + 3)) * 2 := rfl
  have et : sTG 4 q = sTS 4 (sPu q 11) := rfl
  rw [ev, et]
  simp only [c_6090, e_6090_0, e_6090_1, e_6090_4, e_6090_5, e_6090_6, e_6090_7, e_6090_8, e_6090_10, e_6090_11, e_6090_12, e_6090_15, e_6090_16, e_6090_18, e_6090_21, e_6090_22, e_6090_23, e_6090_26, e_6090_27, e_6090_29, e_6090_32, e_6090_33, e_6090_35, e_6090_38, e_6090_39, e_6090_40, e_6090_41, e_6090_43, e_6090_44, e_6090_45, e_6090_48, e_6090_49, e_6090_51, e_6090_54, e_6090_55, e_6090_56, e_6090_59, e_6090_60, e_6090_61, e_6090_62, e_6090_64, e_6090_65, e_6090_67, e_6090_70, e_6090_71, e_6090_72, e_6090_74, e_6090_77, e_6090_78, e_6090_79, e_6090_81, e_6090_82, e_6090_83, e_6090_86, e_6090_88, e_6090_89, e_6090_90, e_6090_93, e_6090_95, zk_int, zk_ref, zk_null, zk_none, zk_long, zisR_r, zisR_n, zcl_int, zcl_ref, zcl_null, zpush_s, zpush_n, zbs, zbn, true_or, or_true, not_false_eq_true, not_true_eq_false, ↓reduceIte, and_self, and_true, true_and, ie_0_1, ie_0_2, ie_0_3, ie_0_4, ie_0_5, ie_0_6, ie_0_7, ie_1_0, ie_1_2, ie_1_3, ie_1_4, ie_1_5, ie_1_6, ie_1_7, ie_2_0, ie_2_1, ie_2_3, ie_2_4, ie_2_5, ie_2_6, ie_2_7, ie_3_0, ie_3_1, ie_3_2, ie_3_4, ie_3_5, ie_3_6, ie_3_7, ie_4_0, ie_4_1, ie_4_2, ie_4_3, ie_4_5, ie_4_6, ie_4_7, ie_5_0, ie_5_1, ie_5_2, ie_5_3, ie_5_4, ie_5_6, ie_5_7, ie_6_0, ie_6_1, ie_6_2, ie_6_3, ie_6_4, ie_6_5, ie_6_7, ie_7_0, ie_7_1, ie_7_2, ie_7_3, ie_7_4, ie_7_5, ie_7_6, zt_50, zr_50_9, zt_52, zn_52, zo_52, zl_52, zq_52, zr_50_12, zt_55, zn_55, zo_55, zl_55, zq_55, b0, b3, hk, hz, hc, p0, sv]
theorem m_giving_5 {t : Nat} {y : Int32} (A : zMs w T V G) (ht : t < 8) (hk : T (5 * t + 0) = 5) (hq : q.1 < 800) : cal (d + 2) 6090 [.ref 50, .int (nI t), .int y] (mAc w q) = some (some (.int (sVG 5 y (nI t) (T (5 * t + 3)))), mAc w (sTG 5 q)) := by
  obtain ⟨a0, a1, a2, a3, a4⟩ := A.1 t ht
  have b0 : ∀ q, (mAc w q).1 52 t = T (5 * t + 0) := fun q => by rw [mAc_n _ (by decide) (by decide)]; exact a0
  have b3 : ∀ q, (mAc w q).1 55 t = T (5 * t + 3) := fun q => by rw [mAc_n _ (by decide) (by decide)]; exact a3
  have hz := zis_nI (j := t) (n := 8) ht (by decide)
  have hc := nI_clamp (n := t) (by omega)
  have p0 := m_body (d := d + 1) (w := w) (q := q) (b := 71) (by show q.1 < 1000; omega)
  have p1 := m_body (d := d + 1) (w := w) (q := (sPu q 71)) (b := 11) (by show q.1 + 1 < 1000; omega)
  have sv := m_serving_5 (d := d) (q := (sPu (sPu q 71) 11)) (y := (y - T (5 * t + 3))) A ht hk (by show q.1 + 1 + 1 < 900; omega)
  have ev : sVG 5 y (nI t) (T (5 * t + 3)) = sVS 5 (y - T (5 * t + 3)) (nI t) (T (5 * t + 3)) * 2 := rfl
  have et : sTG 5 q = sTS 5 (sPu (sPu q 71) 11) := rfl
  rw [ev, et]
  simp only [c_6090, e_6090_0, e_6090_1, e_6090_4, e_6090_5, e_6090_6, e_6090_7, e_6090_8, e_6090_10, e_6090_11, e_6090_12, e_6090_15, e_6090_16, e_6090_18, e_6090_21, e_6090_22, e_6090_23, e_6090_26, e_6090_27, e_6090_29, e_6090_32, e_6090_33, e_6090_35, e_6090_38, e_6090_39, e_6090_40, e_6090_41, e_6090_43, e_6090_44, e_6090_45, e_6090_48, e_6090_49, e_6090_51, e_6090_54, e_6090_55, e_6090_56, e_6090_59, e_6090_60, e_6090_61, e_6090_62, e_6090_64, e_6090_65, e_6090_67, e_6090_70, e_6090_71, e_6090_72, e_6090_74, e_6090_77, e_6090_78, e_6090_79, e_6090_81, e_6090_82, e_6090_83, e_6090_86, e_6090_88, e_6090_89, e_6090_90, e_6090_93, e_6090_95, zk_int, zk_ref, zk_null, zk_none, zk_long, zisR_r, zisR_n, zcl_int, zcl_ref, zcl_null, zpush_s, zpush_n, zbs, zbn, true_or, or_true, not_false_eq_true, not_true_eq_false, ↓reduceIte, and_self, and_true, true_and, ie_0_1, ie_0_2, ie_0_3, ie_0_4, ie_0_5, ie_0_6, ie_0_7, ie_1_0, ie_1_2, ie_1_3, ie_1_4, ie_1_5, ie_1_6, ie_1_7, ie_2_0, ie_2_1, ie_2_3, ie_2_4, ie_2_5, ie_2_6, ie_2_7, ie_3_0, ie_3_1, ie_3_2, ie_3_4, ie_3_5, ie_3_6, ie_3_7, ie_4_0, ie_4_1, ie_4_2, ie_4_3, ie_4_5, ie_4_6, ie_4_7, ie_5_0, ie_5_1, ie_5_2, ie_5_3, ie_5_4, ie_5_6, ie_5_7, ie_6_0, ie_6_1, ie_6_2, ie_6_3, ie_6_4, ie_6_5, ie_6_7, ie_7_0, ie_7_1, ie_7_2, ie_7_3, ie_7_4, ie_7_5, ie_7_6, zt_50, zr_50_9, zt_52, zn_52, zo_52, zl_52, zq_52, zr_50_12, zt_55, zn_55, zo_55, zl_55, zq_55, b0, b3, hk, hz, hc, p0, p1, sv]
theorem m_giving_6 {t : Nat} {y : Int32} (A : zMs w T V G) (ht : t < 8) (hk : T (5 * t + 0) = 6) (hq : q.1 < 800) : cal (d + 2) 6090 [.ref 50, .int (nI t), .int y] (mAc w q) = some (some (.int (sVG 6 y (nI t) (T (5 * t + 3)))), mAc w (sTG 6 q)) := by
  obtain ⟨a0, a1, a2, a3, a4⟩ := A.1 t ht
  have b0 : ∀ q, (mAc w q).1 52 t = T (5 * t + 0) := fun q => by rw [mAc_n _ (by decide) (by decide)]; exact a0
  have b3 : ∀ q, (mAc w q).1 55 t = T (5 * t + 3) := fun q => by rw [mAc_n _ (by decide) (by decide)]; exact a3
  have hz := zis_nI (j := t) (n := 8) ht (by decide)
  have hc := nI_clamp (n := t) (by omega)
  have p0 := m_body (d := d + 1) (w := w) (q := q) (b := 40) (by show q.1 < 1000; omega)
  have p1 := m_body (d := d + 1) (w := w) (q := (sPu q 40)) (b := 11) (by show q.1 + 1 < 1000; omega)
  have sv := m_serving_6 (d := d) (q := (sPu (sPu q 40) 11)) (y := (y + 1)) A ht hk (by show q.1 + 1 + 1 < 900; omega)
  have ev : sVG 6 y (nI t) (T (5 * t + 3)) = sVS 6 (y + 1) (nI t) (T (5 * t + 3)) * 2 := rfl
  have et : sTG 6 q = sTS 6 (sPu (sPu q 40) 11) := rfl
  rw [ev, et]
  simp only [c_6090, e_6090_0, e_6090_1, e_6090_4, e_6090_5, e_6090_6, e_6090_7, e_6090_8, e_6090_10, e_6090_11, e_6090_12, e_6090_15, e_6090_16, e_6090_18, e_6090_21, e_6090_22, e_6090_23, e_6090_26, e_6090_27, e_6090_29, e_6090_32, e_6090_33, e_6090_35, e_6090_38, e_6090_39, e_6090_40, e_6090_41, e_6090_43, e_6090_44, e_6090_45, e_6090_48, e_6090_49, e_6090_51, e_6090_54, e_6090_55, e_6090_56, e_6090_59, e_6090_60, e_6090_61, e_6090_62, e_6090_64, e_6090_65, e_6090_67, e_6090_70, e_6090_71, e_6090_72, e_6090_74, e_6090_77, e_6090_78, e_6090_79, e_6090_81, e_6090_82, e_6090_83, e_6090_86, e_6090_88, e_6090_89, e_6090_90, e_6090_93, e_6090_95, zk_int, zk_ref, zk_null, zk_none, zk_long, zisR_r, zisR_n, zcl_int, zcl_ref, zcl_null, zpush_s, zpush_n, zbs, zbn, true_or, or_true, not_false_eq_true, not_true_eq_false, ↓reduceIte, and_self, and_true, true_and, ie_0_1, ie_0_2, ie_0_3, ie_0_4, ie_0_5, ie_0_6, ie_0_7, ie_1_0, ie_1_2, ie_1_3, ie_1_4, ie_1_5, ie_1_6, ie_1_7, ie_2_0, ie_2_1, ie_2_3, ie_2_4, ie_2_5, ie_2_6, ie_2_7, ie_3_0, ie_3_1, ie_3_2, ie_3_4, ie_3_5, ie_3_6, ie_3_7, ie_4_0, ie_4_1, ie_4_2, ie_4_3, ie_4_5, ie_4_6, ie_4_7, ie_5_0, ie_5_1, ie_5_2, ie_5_3, ie_5_4, ie_5_6, ie_5_7, ie_6_0, ie_6_1, ie_6_2, ie_6_3, ie_6_4, ie_6_5, ie_6_7, ie_7_0, ie_7_1, ie_7_2, ie_7_3, ie_7_4, ie_7_5, ie_7_6, zt_50, zr_50_9, zt_52, zn_52, zo_52, zl_52, zq_52, zr_50_12, zt_55, zn_55, zo_55, zl_55, zq_55, b0, b3, hk, hz, hc, p0, p1, sv]
theorem m_staying_0 {t : Nat} {y : Int32} (A : zMs w T V G) (ht : t < 8) (hk : T (5 * t + 0) = 0) (hq : q.1 < 700) : cal (d + 3) 6091 [.ref 50, .int (nI t), .int y] (mAc w q) = some (some (.int (sVY 0 y (nI t) (T (5 * t + 3)))), mAc w (sTY 0 q)) := by
  obtain ⟨a0, a1, a2, a3, a4⟩ := A.1 t ht
  have b0 : ∀ q, (mAc w q).1 52 t = T (5 * t + 0) := fun q => by rw [mAc_n _ (by decide) (by decide)]; exact a0
  have b3 : ∀ q, (mAc w q).1 55 t = T (5 * t + 3) := fun q => by rw [mAc_n _ (by decide) (by decide)]; exact a3
  have hz := zis_nI (j := t) (n := 8) ht (by decide)
  have hc := nI_clamp (n := t) (by omega)
  have p0 := m_body (d := d + 2) (w := w) (q := q) (b := 12) (by show q.1 < 1000; omega)
  have gl := sTG_le 0 (sPu q 12)
  have gl2 : (sTG 0 (sPu q 12)).1 ≤ q.1 + 1 + 5 := gl
  have gv := m_giving_0 (d := d) (q := (sPu q 12)) (y := y) A ht hk (by show q.1 + 1 < 800; omega)
  have sv := m_serving_0 (d := d + 1) (q := sTG 0 (sPu q 12)) (y := y - T (5 * t + 3)) A ht hk (by omega)
  have ev : sVY 0 y (nI t) (T (5 * t + 3)) = sVG 0 y (nI t) (T (5 * t + 3)) ^^^ sVS 0 (y - T (5 * t + 3)) (nI t) (T (5 * t + 3)) := rfl
  have et : sTY 0 q = sTS 0 (sTG 0 (sPu q 12)) := rfl
  rw [ev, et]
  simp only [c_6091, e_6091_0, e_6091_1, e_6091_4, e_6091_5, e_6091_6, e_6091_7, e_6091_8, e_6091_10, e_6091_13, e_6091_14, e_6091_16, e_6091_19, e_6091_20, e_6091_21, e_6091_24, e_6091_25, e_6091_27, e_6091_30, e_6091_31, e_6091_33, e_6091_36, e_6091_37, e_6091_38, e_6091_39, e_6091_42, e_6091_44, e_6091_46, e_6091_47, e_6091_48, e_6091_49, e_6091_50, e_6091_53, e_6091_54, e_6091_55, e_6091_56, e_6091_59, e_6091_60, e_6091_62, e_6091_63, e_6091_65, e_6091_68, e_6091_70, e_6091_71, e_6091_74, e_6091_75, e_6091_76, e_6091_79, e_6091_81, e_6091_82, e_6091_83, e_6091_86, e_6091_88, zk_int, zk_ref, zk_null, zk_none, zk_long, zisR_r, zisR_n, zcl_int, zcl_ref, zcl_null, zpush_s, zpush_n, zbs, zbn, true_or, or_true, not_false_eq_true, not_true_eq_false, ↓reduceIte, and_self, and_true, true_and, ie_0_1, ie_0_2, ie_0_3, ie_0_4, ie_0_5, ie_0_6, ie_0_7, ie_1_0, ie_1_2, ie_1_3, ie_1_4, ie_1_5, ie_1_6, ie_1_7, ie_2_0, ie_2_1, ie_2_3, ie_2_4, ie_2_5, ie_2_6, ie_2_7, ie_3_0, ie_3_1, ie_3_2, ie_3_4, ie_3_5, ie_3_6, ie_3_7, ie_4_0, ie_4_1, ie_4_2, ie_4_3, ie_4_5, ie_4_6, ie_4_7, ie_5_0, ie_5_1, ie_5_2, ie_5_3, ie_5_4, ie_5_6, ie_5_7, ie_6_0, ie_6_1, ie_6_2, ie_6_3, ie_6_4, ie_6_5, ie_6_7, ie_7_0, ie_7_1, ie_7_2, ie_7_3, ie_7_4, ie_7_5, ie_7_6, zt_50, zr_50_9, zt_52, zn_52, zo_52, zl_52, zq_52, zr_50_12, zt_55, zn_55, zo_55, zl_55, zq_55, b0, b3, hk, hz, hc, p0, gv, sv]
theorem m_staying_1 {t : Nat} {y : Int32} (A : zMs w T V G) (ht : t < 8) (hk : T (5 * t + 0) = 1) (hq : q.1 < 700) : cal (d + 3) 6091 [.ref 50, .int (nI t), .int y] (mAc w q) = some (some (.int (sVY 1 y (nI t) (T (5 * t + 3)))), mAc w (sTY 1 q)) := by
  obtain ⟨a0, a1, a2, a3, a4⟩ := A.1 t ht
  have b0 : ∀ q, (mAc w q).1 52 t = T (5 * t + 0) := fun q => by rw [mAc_n _ (by decide) (by decide)]; exact a0
  have b3 : ∀ q, (mAc w q).1 55 t = T (5 * t + 3) := fun q => by rw [mAc_n _ (by decide) (by decide)]; exact a3
  have hz := zis_nI (j := t) (n := 8) ht (by decide)
  have hc := nI_clamp (n := t) (by omega)
  have p0 := m_body (d := d + 2) (w := w) (q := q) (b := 12) (by show q.1 < 1000; omega)
  have gl := sTG_le 1 (sPu q 12)
  have gl2 : (sTG 1 (sPu q 12)).1 ≤ q.1 + 1 + 5 := gl
  have gv := m_giving_1 (d := d) (q := (sPu q 12)) (y := y) A ht hk (by show q.1 + 1 < 800; omega)
  have sv := m_serving_1 (d := d + 1) (q := sTG 1 (sPu q 12)) (y := y - T (5 * t + 3)) A ht hk (by omega)
  have ev : sVY 1 y (nI t) (T (5 * t + 3)) = sVG 1 y (nI t) (T (5 * t + 3)) ^^^ sVS 1 (y - T (5 * t + 3)) (nI t) (T (5 * t + 3)) := rfl
  have et : sTY 1 q = sTS 1 (sTG 1 (sPu q 12)) := rfl
  rw [ev, et]
  simp only [c_6091, e_6091_0, e_6091_1, e_6091_4, e_6091_5, e_6091_6, e_6091_7, e_6091_8, e_6091_10, e_6091_13, e_6091_14, e_6091_16, e_6091_19, e_6091_20, e_6091_21, e_6091_24, e_6091_25, e_6091_27, e_6091_30, e_6091_31, e_6091_33, e_6091_36, e_6091_37, e_6091_38, e_6091_39, e_6091_42, e_6091_44, e_6091_46, e_6091_47, e_6091_48, e_6091_49, e_6091_50, e_6091_53, e_6091_54, e_6091_55, e_6091_56, e_6091_59, e_6091_60, e_6091_62, e_6091_63, e_6091_65, e_6091_68, e_6091_70, e_6091_71, e_6091_74, e_6091_75, e_6091_76, e_6091_79, e_6091_81, e_6091_82, e_6091_83, e_6091_86, e_6091_88, zk_int, zk_ref, zk_null, zk_none, zk_long, zisR_r, zisR_n, zcl_int, zcl_ref, zcl_null, zpush_s, zpush_n, zbs, zbn, true_or, or_true, not_false_eq_true, not_true_eq_false, ↓reduceIte, and_self, and_true, true_and, ie_0_1, ie_0_2, ie_0_3, ie_0_4, ie_0_5, ie_0_6, ie_0_7, ie_1_0, ie_1_2, ie_1_3, ie_1_4, ie_1_5, ie_1_6, ie_1_7, ie_2_0, ie_2_1, ie_2_3, ie_2_4, ie_2_5, ie_2_6, ie_2_7, ie_3_0, ie_3_1, ie_3_2, ie_3_4, ie_3_5, ie_3_6, ie_3_7, ie_4_0, ie_4_1, ie_4_2, ie_4_3, ie_4_5, ie_4_6, ie_4_7, ie_5_0, ie_5_1, ie_5_2, ie_5_3, ie_5_4, ie_5_6, ie_5_7, ie_6_0, ie_6_1, ie_6_2, ie_6_3, ie_6_4, ie_6_5, ie_6_7, ie_7_0, ie_7_1, ie_7_2, ie_7_3, ie_7_4, ie_7_5, ie_7_6, zt_50, zr_50_9, zt_52, zn_52, zo_52, zl_52, zq_52, zr_50_12, zt_55, zn_55, zo_55, zl_55, zq_55, b0, b3, hk, hz, hc, p0, gv, sv]
theorem m_staying_2 {t : Nat} {y : Int32} (A : zMs w T V G) (ht : t < 8) (hk : T (5 * t + 0) = 2) (hq : q.1 < 700) : cal (d + 3) 6091 [.ref 50, .int (nI t), .int y] (mAc w q) = some (some (.int (sVY 2 y (nI t) (T (5 * t + 3)))), mAc w (sTY 2 q)) := by
  obtain ⟨a0, a1, a2, a3, a4⟩ := A.1 t ht
  have b0 : ∀ q, (mAc w q).1 52 t = T (5 * t + 0) := fun q => by rw [mAc_n _ (by decide) (by decide)]; exact a0
  have b3 : ∀ q, (mAc w q).1 55 t = T (5 * t + 3) := fun q => by rw [mAc_n _ (by decide) (by decide)]; exact a3
  have hz := zis_nI (j := t) (n := 8) ht (by decide)
  have hc := nI_clamp (n := t) (by omega)
  have p0 := m_body (d := d + 2) (w := w) (q := q) (b := 12) (by show q.1 < 1000; omega)
  have gl := sTG_le 2 (sPu q 12)
  have gl2 : (sTG 2 (sPu q 12)).1 ≤ q.1 + 1 + 5 := gl
  have gv := m_giving_2 (d := d) (q := (sPu q 12)) (y := y) A ht hk (by show q.1 + 1 < 800; omega)
  have sv := m_serving_2 (d := d + 1) (q := sTG 2 (sPu q 12)) (y := y - T (5 * t + 3)) A ht hk (by omega)
  have ev : sVY 2 y (nI t) (T (5 * t + 3)) = sVG 2 y (nI t) (T (5 * t + 3)) ^^^ sVS 2 (y - T (5 * t + 3)) (nI t) (T (5 * t + 3)) := rfl
  have et : sTY 2 q = sTS 2 (sTG 2 (sPu q 12)) := rfl
  rw [ev, et]
  simp only [c_6091, e_6091_0, e_6091_1, e_6091_4, e_6091_5, e_6091_6, e_6091_7, e_6091_8, e_6091_10, e_6091_13, e_6091_14, e_6091_16, e_6091_19, e_6091_20, e_6091_21, e_6091_24, e_6091_25, e_6091_27, e_6091_30, e_6091_31, e_6091_33, e_6091_36, e_6091_37, e_6091_38, e_6091_39, e_6091_42, e_6091_44, e_6091_46, e_6091_47, e_6091_48, e_6091_49, e_6091_50, e_6091_53, e_6091_54, e_6091_55, e_6091_56, e_6091_59, e_6091_60, e_6091_62, e_6091_63, e_6091_65, e_6091_68, e_6091_70, e_6091_71, e_6091_74, e_6091_75, e_6091_76, e_6091_79, e_6091_81, e_6091_82, e_6091_83, e_6091_86, e_6091_88, zk_int, zk_ref, zk_null, zk_none, zk_long, zisR_r, zisR_n, zcl_int, zcl_ref, zcl_null, zpush_s, zpush_n, zbs, zbn, true_or, or_true, not_false_eq_true, not_true_eq_false, ↓reduceIte, and_self, and_true, true_and, ie_0_1, ie_0_2, ie_0_3, ie_0_4, ie_0_5, ie_0_6, ie_0_7, ie_1_0, ie_1_2, ie_1_3, ie_1_4, ie_1_5, ie_1_6, ie_1_7, ie_2_0, ie_2_1, ie_2_3, ie_2_4, ie_2_5, ie_2_6, ie_2_7, ie_3_0, ie_3_1, ie_3_2, ie_3_4, ie_3_5, ie_3_6, ie_3_7, ie_4_0, ie_4_1, ie_4_2, ie_4_3, ie_4_5, ie_4_6, ie_4_7, ie_5_0, ie_5_1, ie_5_2, ie_5_3, ie_5_4, ie_5_6, ie_5_7, ie_6_0, ie_6_1, ie_6_2, ie_6_3, ie_6_4, ie_6_5, ie_6_7, ie_7_0, ie_7_1, ie_7_2, ie_7_3, ie_7_4, ie_7_5, ie_7_6, zt_50, zr_50_9, zt_52, zn_52, zo_52, zl_52, zq_52, zr_50_12, zt_55, zn_55, zo_55, zl_55, zq_55, b0, b3, hk, hz, hc, p0, gv, sv]
theorem m_staying_3 {t : Nat} {y : Int32} (A : zMs w T V G) (ht : t < 8) (hk : T (5 * t + 0) = 3) (hq : q.1 < 700) : cal (d + 3) 6091 [.ref 50, .int (nI t), .int y] (mAc w q) = some (some (.int (sVY 3 y (nI t) (T (5 * t + 3)))), mAc w (sTY 3 q)) := by
  obtain ⟨a0, a1, a2, a3, a4⟩ := A.1 t ht
  have b0 : ∀ q, (mAc w q).1 52 t = T (5 * t + 0) := fun q => by rw [mAc_n _ (by decide) (by decide)]; exact a0
  have b3 : ∀ q, (mAc w q).1 55 t = T (5 * t + 3) := fun q => by rw [mAc_n _ (by decide) (by decide)]; exact a3
  have hz := zis_nI (j := t) (n := 8) ht (by decide)
  have hc := nI_clamp (n := t) (by omega)
  have p0 := m_body (d := d + 2) (w := w) (q := q) (b := 12) (by show q.1 < 1000; omega)
  have gl := sTG_le 3 (sPu q 12)
  have gl2 : (sTG 3 (sPu q 12)).1 ≤ q.1 + 1 + 5 := gl
  have gv := m_giving_3 (d := d) (q := (sPu q 12)) (y := y) A ht hk (by show q.1 + 1 < 800; omega)
  have sv := m_serving_3 (d := d + 1) (q := sTG 3 (sPu q 12)) (y := y - T (5 * t + 3)) A ht hk (by omega)
  have ev : sVY 3 y (nI t) (T (5 * t + 3)) = sVG 3 y (nI t) (T (5 * t + 3)) ^^^ sVS 3 (y - T (5 * t + 3)) (nI t) (T (5 * t + 3)) := rfl
  have et : sTY 3 q = sTS 3 (sTG 3 (sPu q 12)) := rfl
  rw [ev, et]
  simp only [c_6091, e_6091_0, e_6091_1, e_6091_4, e_6091_5, e_6091_6, e_6091_7, e_6091_8, e_6091_10, e_6091_13, e_6091_14, e_6091_16, e_6091_19, e_6091_20, e_6091_21, e_6091_24, e_6091_25, e_6091_27, e_6091_30, e_6091_31, e_6091_33, e_6091_36, e_6091_37, e_6091_38, e_6091_39, e_6091_42, e_6091_44, e_6091_46, e_6091_47, e_6091_48, e_6091_49, e_6091_50, e_6091_53, e_6091_54, e_6091_55, e_6091_56, e_6091_59, e_6091_60, e_6091_62, e_6091_63, e_6091_65, e_6091_68, e_6091_70, e_6091_71, e_6091_74, e_6091_75, e_6091_76, e_6091_79, e_6091_81, e_6091_82, e_6091_83, e_6091_86, e_6091_88, zk_int, zk_ref, zk_null, zk_none, zk_long, zisR_r, zisR_n, zcl_int, zcl_ref, zcl_null, zpush_s, zpush_n, zbs, zbn, true_or, or_true, not_false_eq_true, not_true_eq_false, ↓reduceIte, and_self, and_true, true_and, ie_0_1, ie_0_2, ie_0_3, ie_0_4, ie_0_5, ie_0_6, ie_0_7, ie_1_0, ie_1_2, ie_1_3, ie_1_4, ie_1_5, ie_1_6, ie_1_7, ie_2_0, ie_2_1, ie_2_3, ie_2_4, ie_2_5, ie_2_6, ie_2_7, ie_3_0, ie_3_1, ie_3_2, ie_3_4, ie_3_5, ie_3_6, ie_3_7, ie_4_0, ie_4_1, ie_4_2, ie_4_3, ie_4_5, ie_4_6, ie_4_7, ie_5_0, ie_5_1, ie_5_2, ie_5_3, ie_5_4, ie_5_6, ie_5_7, ie_6_0, ie_6_1, ie_6_2, ie_6_3, ie_6_4, ie_6_5, ie_6_7, ie_7_0, ie_7_1, ie_7_2, ie_7_3, ie_7_4, ie_7_5, ie_7_6, zt_50, zr_50_9, zt_52, zn_52, zo_52, zl_52, zq_52, zr_50_12, zt_55, zn_55, zo_55, zl_55, zq_55, b0, b3, hk, hz, hc, p0, gv, sv]
theorem m_staying_4 {t : Nat} {y : Int32} (A : zMs w T V G) (ht : t < 8) (hk : T (5 * t + 0) = 4) (hq : q.1 < 700) : cal (d + 3) 6091 [.ref 50, .int (nI t), .int y] (mAc w q) = some (some (.int (sVY 4 y (nI t) (T (5 * t + 3)))), mAc w (sTY 4 q)) := by
  obtain ⟨a0, a1, a2, a3, a4⟩ := A.1 t ht
  have b0 : ∀ q, (mAc w q).1 52 t = T (5 * t + 0) := fun q => by rw [mAc_n _ (by decide) (by decide)]; exact a0
  have b3 : ∀ q, (mAc w q).1 55 t = T (5 * t + 3) := fun q => by rw [mAc_n _ (by decide) (by decide)]; exact a3
  have hz := zis_nI (j := t) (n := 8) ht (by decide)
  have hc := nI_clamp (n := t) (by omega)
  have p0 := m_body (d := d + 2) (w := w) (q := q) (b := 60) (by show q.1 < 1000; omega)
  have p1 := m_body (d := d + 2) (w := w) (q := (sPu q 60)) (b := 12) (by show q.1 + 1 < 1000; omega)
  have gl := sTG_le 4 (sPu (sPu q 60) 12)
  have gl2 : (sTG 4 (sPu (sPu q 60) 12)).1 ≤ q.1 + 1 + 1 + 5 := gl
  have gv := m_giving_4 (d := d) (q := (sPu (sPu q 60) 12)) (y := y) A ht hk (by show q.1 + 1 + 1 < 800; omega)
  have sv := m_serving_4 (d := d + 1) (q := sTG 4 (sPu (sPu q 60) 12)) (y := y - T (5 * t + 3)) A ht hk (by omega)
  have ev : sVY 4 y (nI t) (T (5 * t + 3)) = (sVG 4 y (nI t) (T (5 * t + 3)) ^^^ sVS 4 (y - T (5 * t + 3)) (nI t) (T (5 * t + 3))) ^^^ 5 := rfl
  have et : sTY 4 q = sTS 4 (sTG 4 (sPu (sPu q 60) 12)) := rfl
  rw [ev, et]
  simp only [c_6091, e_6091_0, e_6091_1, e_6091_4, e_6091_5, e_6091_6, e_6091_7, e_6091_8, e_6091_10, e_6091_13, e_6091_14, e_6091_16, e_6091_19, e_6091_20, e_6091_21, e_6091_24, e_6091_25, e_6091_27, e_6091_30, e_6091_31, e_6091_33, e_6091_36, e_6091_37, e_6091_38, e_6091_39, e_6091_42, e_6091_44, e_6091_46, e_6091_47, e_6091_48, e_6091_49, e_6091_50, e_6091_53, e_6091_54, e_6091_55, e_6091_56, e_6091_59, e_6091_60, e_6091_62, e_6091_63, e_6091_65, e_6091_68, e_6091_70, e_6091_71, e_6091_74, e_6091_75, e_6091_76, e_6091_79, e_6091_81, e_6091_82, e_6091_83, e_6091_86, e_6091_88, zk_int, zk_ref, zk_null, zk_none, zk_long, zisR_r, zisR_n, zcl_int, zcl_ref, zcl_null, zpush_s, zpush_n, zbs, zbn, true_or, or_true, not_false_eq_true, not_true_eq_false, ↓reduceIte, and_self, and_true, true_and, ie_0_1, ie_0_2, ie_0_3, ie_0_4, ie_0_5, ie_0_6, ie_0_7, ie_1_0, ie_1_2, ie_1_3, ie_1_4, ie_1_5, ie_1_6, ie_1_7, ie_2_0, ie_2_1, ie_2_3, ie_2_4, ie_2_5, ie_2_6, ie_2_7, ie_3_0, ie_3_1, ie_3_2, ie_3_4, ie_3_5, ie_3_6, ie_3_7, ie_4_0, ie_4_1, ie_4_2, ie_4_3, ie_4_5, ie_4_6, ie_4_7, ie_5_0, ie_5_1, ie_5_2, ie_5_3, ie_5_4, ie_5_6, ie_5_7, ie_6_0, ie_6_1, ie_6_2, ie_6_3, ie_6_4, ie_6_5, ie_6_7, ie_7_0, ie_7_1, ie_7_2, ie_7_3, ie_7_4, ie_7_5, ie_7_6, zt_50, zr_50_9, zt_52, zn_52, zo_52, zl_52, zq_52, zr_50_12, zt_55, zn_55, zo_55, zl_55, zq_55, b0, b3, hk, hz, hc, p0, p1, gv, sv]
theorem m_staying_5 {t : Nat} {y : Int32} (A : zMs w T V G) (ht : t < 8) (hk : T (5 * t + 0) = 5) (hq : q.1 < 700) : cal (d + 3) 6091 [.ref 50, .int (nI t), .int y] (mAc w q) = some (some (.int (sVY 5 y (nI t) (T (5 * t + 3)))), mAc w (sTY 5 q)) := by
  obtain ⟨a0, a1, a2, a3, a4⟩ := A.1 t ht
  have b0 : ∀ q, (mAc w q).1 52 t = T (5 * t + 0) := fun q => by rw [mAc_n _ (by decide) (by decide)]; exact a0
  have b3 : ∀ q, (mAc w q).1 55 t = T (5 * t + 3) := fun q => by rw [mAc_n _ (by decide) (by decide)]; exact a3
  have hz := zis_nI (j := t) (n := 8) ht (by decide)
  have hc := nI_clamp (n := t) (by omega)
  have p0 := m_body (d := d + 2) (w := w) (q := q) (b := 12) (by show q.1 < 1000; omega)
  have gl := sTG_le 5 (sPu q 12)
  have gl2 : (sTG 5 (sPu q 12)).1 ≤ q.1 + 1 + 5 := gl
  have gv := m_giving_5 (d := d) (q := (sPu q 12)) (y := y) A ht hk (by show q.1 + 1 < 800; omega)
  have sv := m_serving_5 (d := d + 1) (q := sTG 5 (sPu q 12)) (y := y - T (5 * t + 3)) A ht hk (by omega)
  have ev : sVY 5 y (nI t) (T (5 * t + 3)) = sVG 5 y (nI t) (T (5 * t + 3)) ^^^ sVS 5 (y - T (5 * t + 3)) (nI t) (T (5 * t + 3)) := rfl
  have et : sTY 5 q = sTS 5 (sTG 5 (sPu q 12)) := rfl
  rw [ev, et]
  simp only [c_6091, e_6091_0, e_6091_1, e_6091_4, e_6091_5, e_6091_6, e_6091_7, e_6091_8, e_6091_10, e_6091_13, e_6091_14, e_6091_16, e_6091_19, e_6091_20, e_6091_21, e_6091_24, e_6091_25, e_6091_27, e_6091_30, e_6091_31, e_6091_33, e_6091_36, e_6091_37, e_6091_38, e_6091_39, e_6091_42, e_6091_44, e_6091_46, e_6091_47, e_6091_48, e_6091_49, e_6091_50, e_6091_53, e_6091_54, e_6091_55, e_6091_56, e_6091_59, e_6091_60, e_6091_62, e_6091_63, e_6091_65, e_6091_68, e_6091_70, e_6091_71, e_6091_74, e_6091_75, e_6091_76, e_6091_79, e_6091_81, e_6091_82, e_6091_83, e_6091_86, e_6091_88, zk_int, zk_ref, zk_null, zk_none, zk_long, zisR_r, zisR_n, zcl_int, zcl_ref, zcl_null, zpush_s, zpush_n, zbs, zbn, true_or, or_true, not_false_eq_true, not_true_eq_false, ↓reduceIte, and_self, and_true, true_and, ie_0_1, ie_0_2, ie_0_3, ie_0_4, ie_0_5, ie_0_6, ie_0_7, ie_1_0, ie_1_2, ie_1_3, ie_1_4, ie_1_5, ie_1_6, ie_1_7, ie_2_0, ie_2_1, ie_2_3, ie_2_4, ie_2_5, ie_2_6, ie_2_7, ie_3_0, ie_3_1, ie_3_2, ie_3_4, ie_3_5, ie_3_6, ie_3_7, ie_4_0, ie_4_1, ie_4_2, ie_4_3, ie_4_5, ie_4_6, ie_4_7, ie_5_0, ie_5_1, ie_5_2, ie_5_3, ie_5_4, ie_5_6, ie_5_7, ie_6_0, ie_6_1, ie_6_2, ie_6_3, ie_6_4, ie_6_5, ie_6_7, ie_7_0, ie_7_1, ie_7_2, ie_7_3, ie_7_4, ie_7_5, ie_7_6, zt_50, zr_50_9, zt_52, zn_52, zo_52, zl_52, zq_52, zr_50_12, zt_55, zn_55, zo_55, zl_55, zq_55, b0, b3, hk, hz, hc, p0, gv, sv]
theorem m_staying_6 {t : Nat} {y : Int32} (A : zMs w T V G) (ht : t < 8) (hk : T (5 * t + 0) = 6) (hq : q.1 < 700) : cal (d + 3) 6091 [.ref 50, .int (nI t), .int y] (mAc w q) = some (some (.int (sVY 6 y (nI t) (T (5 * t + 3)))), mAc w (sTY 6 q)) := by
  obtain ⟨a0, a1, a2, a3, a4⟩ := A.1 t ht
  have b0 : ∀ q, (mAc w q).1 52 t = T (5 * t + 0) := fun q => by rw [mAc_n _ (by decide) (by decide)]; exact a0
  have b3 : ∀ q, (mAc w q).1 55 t = T (5 * t + 3) := fun q => by rw [mAc_n _ (by decide) (by decide)]; exact a3
  have hz := zis_nI (j := t) (n := 8) ht (by decide)
  have hc := nI_clamp (n := t) (by omega)
  have p0 := m_body (d := d + 2) (w := w) (q := q) (b := 50) (by show q.1 < 1000; omega)
  have p1 := m_body (d := d + 2) (w := w) (q := (sPu q 50)) (b := 12) (by show q.1 + 1 < 1000; omega)
  have gl := sTG_le 6 (sPu (sPu q 50) 12)
  have gl2 : (sTG 6 (sPu (sPu q 50) 12)).1 ≤ q.1 + 1 + 1 + 5 := gl
  have gv := m_giving_6 (d := d) (q := (sPu (sPu q 50) 12)) (y := y) A ht hk (by show q.1 + 1 + 1 < 800; omega)
  have sv := m_serving_6 (d := d + 1) (q := sTG 6 (sPu (sPu q 50) 12)) (y := y - T (5 * t + 3)) A ht hk (by omega)
  have ev : sVY 6 y (nI t) (T (5 * t + 3)) = -(sVG 6 y (nI t) (T (5 * t + 3)) ^^^ sVS 6 (y - T (5 * t + 3)) (nI t) (T (5 * t + 3))) := rfl
  have et : sTY 6 q = sTS 6 (sTG 6 (sPu (sPu q 50) 12)) := rfl
  rw [ev, et]
  simp only [c_6091, e_6091_0, e_6091_1, e_6091_4, e_6091_5, e_6091_6, e_6091_7, e_6091_8, e_6091_10, e_6091_13, e_6091_14, e_6091_16, e_6091_19, e_6091_20, e_6091_21, e_6091_24, e_6091_25, e_6091_27, e_6091_30, e_6091_31, e_6091_33, e_6091_36, e_6091_37, e_6091_38, e_6091_39, e_6091_42, e_6091_44, e_6091_46, e_6091_47, e_6091_48, e_6091_49, e_6091_50, e_6091_53, e_6091_54, e_6091_55, e_6091_56, e_6091_59, e_6091_60, e_6091_62, e_6091_63, e_6091_65, e_6091_68, e_6091_70, e_6091_71, e_6091_74, e_6091_75, e_6091_76, e_6091_79, e_6091_81, e_6091_82, e_6091_83, e_6091_86, e_6091_88, zk_int, zk_ref, zk_null, zk_none, zk_long, zisR_r, zisR_n, zcl_int, zcl_ref, zcl_null, zpush_s, zpush_n, zbs, zbn, true_or, or_true, not_false_eq_true, not_true_eq_false, ↓reduceIte, and_self, and_true, true_and, ie_0_1, ie_0_2, ie_0_3, ie_0_4, ie_0_5, ie_0_6, ie_0_7, ie_1_0, ie_1_2, ie_1_3, ie_1_4, ie_1_5, ie_1_6, ie_1_7, ie_2_0, ie_2_1, ie_2_3, ie_2_4, ie_2_5, ie_2_6, ie_2_7, ie_3_0, ie_3_1, ie_3_2, ie_3_4, ie_3_5, ie_3_6, ie_3_7, ie_4_0, ie_4_1, ie_4_2, ie_4_3, ie_4_5, ie_4_6, ie_4_7, ie_5_0, ie_5_1, ie_5_2, ie_5_3, ie_5_4, ie_5_6, ie_5_7, ie_6_0, ie_6_1, ie_6_2, ie_6_3, ie_6_4, ie_6_5, ie_6_7, ie_7_0, ie_7_1, ie_7_2, ie_7_3, ie_7_4, ie_7_5, ie_7_6, zt_50, zr_50_9, zt_52, zn_52, zo_52, zl_52, zq_52, zr_50_12, zt_55, zn_55, zo_55, zl_55, zq_55, b0, b3, hk, hz, hc, p0, p1, gv, sv]
theorem zRl_ac {w' : zM} {q q' : Nat × (Nat → Int32)} (A : zRl w S L n m) (h11 : ∀ k, k ≠ 1 → True) (e11 : w'.1 11 1 = nI q.1) (e12 : w'.1 12 = q.2) (kn : ∀ a, a ≠ 11 → a ≠ 12 → w'.1 a = w.1 a) (k2 : w'.2 = w.2) (hq : qRe q q') (hl : q.1 < 100) : zRl (mAc w' q') S L n m := by
  obtain ⟨a, i, s, f, t, c, o, z⟩ := A
  have k : ∀ a, a ≠ 11 → a ≠ 12 → a ≠ 50 → a ≠ 79 → (mAc w' q').1 a = w.1 a := fun a h1 h2 h3 h4 => by rw [mAc_n _ h3 h4]; exact kn a h1 h2
  have k50 : ∀ j, j ≠ 46 → (mAc w' q').1 50 j = w.1 50 j := fun j hj => by
    unfold mAc
    rw [zA_n _ _ (by decide), zA_s, u_ne hj, kn 50 (by decide) (by decide)]
  have h2 : (mAc w' q').2 = w.2 := k2
  refine ⟨rA_k a (k 1 (by decide) (by decide) (by decide) (by decide)) (k 2 (by decide) (by decide) (by decide) (by decide)) (k 3 (by decide) (by decide) (by decide) (by decide)) (k 4 (by decide) (by decide) (by decide) (by decide)) (fun x h => k50 x (by omega)) (fun b h1 h2 => k b (by omega) (by omega) (by omega) (by omega)), rI_k i (k _ (by decide) (by decide) (by decide) (by decide)) (k _ (by decide) (by decide) (by decide) (by decide)) (k _ (by decide) (by decide) (by decide) (by decide)) (k _ (by decide) (by decide) (by decide) (by decide)) (k _ (by decide) (by decide) (by decide) (by decide)) (k50 _ (by decide)) (k _ (by decide) (by decide) (by decide) (by decide)), fun j2 hj2 => rSj_k (s j2 hj2) (by rw [k _ (by decide) (by decide) (by decide) (by decide)]) (by rw [k _ (by decide) (by decide) (by decide) (by decide)]) (by rw [k _ (by decide) (by decide) (by decide) (by decide)]) (by rw [k _ (by decide) (by decide) (by decide) (by decide)]) (k _ (by omega) (by omega) (by omega) (by omega)) (fun _ => by rw [h2]) (by rw [h2]), ?_, ?_, ?_, rW_k o (k _ (by decide) (by decide) (by decide) (by decide)) (k _ (by decide) (by decide) (by decide) (by decide)) (k _ (by decide) (by decide) (by decide) (by decide)), ?_⟩
  · unfold rF
    rw [k 33 (by decide) (by decide) (by decide) (by decide), k 51 (by decide) (by decide) (by decide) (by decide)]
    exact f
  · rw [k 25 (by decide) (by decide) (by decide) (by decide), k50 7 (by decide)]; exact t
  · unfold rC
    rw [mAc_46, mAc_79, mAc_n _ (by decide) (by decide), mAc_n _ (by decide) (by decide), e11, e12]
    refine ⟨by rw [hq.1], q.1, hl, rfl, fun i h1 h2 => hq.2 i h1 h2⟩
  · exact ⟨zHz_k (fun b h1 h2 => k b (by omega) (by omega) (by omega) (by omega)) z.1, zHz_k (fun b h1 h2 => k b (by omega) (by omega) (by omega) (by omega)) z.2.1, zHz_k (fun b h1 h2 => k b (by omega) (by omega) (by omega) (by omega)) z.2.2.1, zHz_k (fun b h1 h2 => k b (by omega) (by omega) (by omega) (by omega)) z.2.2.2⟩
def fAc (w : zM) (k m a : Int32) : zM := zuA w 11 (upd (upd (upd (upd (w.1 11) 1 0) 2 k) 3 m) 4 a)
theorem fAc_id (w : zM) (k m a : Int32) : fAc w k m a = sAcW (fAc w k m a) (0, w.1 12) := by
  have e11 : (fAc w k m a).1 11 = upd (upd (upd (upd (w.1 11) 1 0) 2 k) 3 m) 4 a := zA_s _ _ _
  have e12 : (fAc w k m a).1 12 = w.1 12 := zA_n _ _ (by decide)
  have e1 : upd ((fAc w k m a).1 11) 1 (nI 0) = (fAc w k m a).1 11 := by
    have h : (fAc w k m a).1 11 1 = nI 0 := by rw [e11, u_ne (by decide), u_ne (by decide), u_ne (by decide), u_eq]; exact nI_0.symm
    rw [← h, upd_id]
  unfold sAcW
  show _ = zuA (zuA (fAc w k m a) 11 (upd ((fAc w k m a).1 11) 1 (nI 0))) 12 (w.1 12)
  rw [e1, zA_id, ← e12, zA_id]
theorem mAc_id (h : w.1 50 46 = nI 0) : mAc w (0, w.1 79) = w := by
  unfold mAc
  show zuA (zuA w 50 (upd (w.1 50) 46 (nI 0))) 79 (w.1 79) = w
  rw [← h, upd_id, zA_id, zA_id]
theorem q_forget : cal d 1 [.ref 11] w = some (none, zuA w 11 (upd (w.1 11) 1 0)) := by
  simp only [c_1, e_1_0, e_1_1, e_1_2, e_1_5, zk_int, zk_ref, zk_null, zk_none, zk_long, zisR_r, zisR_n, zcl_int, zcl_ref, zcl_null, zpush_s, zpush_n, zbs, zbn, true_or, or_true, not_false_eq_true, not_true_eq_false, ↓reduceIte, and_self, and_true, true_and, zt_11, zui_A]
theorem q_actFor {k m a : Int32} : cal d 2 [.ref 11, .int k, .int m, .int a] (zuA w 11 (upd (w.1 11) 1 0)) = some (none, fAc w k m a) := by
  simp only [c_2, e_2_0, e_2_1, e_2_2, e_2_5, e_2_6, e_2_7, e_2_10, e_2_11, e_2_12, e_2_15, zk_int, zk_ref, zk_null, zk_none, zk_long, zisR_r, zisR_n, zcl_int, zcl_ref, zcl_null, zpush_s, zpush_n, zbs, zbn, true_or, or_true, not_false_eq_true, not_true_eq_false, ↓reduceIte, and_self, and_true, true_and, zt_11, zui_A, zA_s, zA_A]
  rfl
theorem sTY_le (c : Nat) (q : Nat × (Nat → Int32)) (hc : c < 7) : (sTY c q).1 ≤ q.1 + 10 := by
  rcases (by omega : c = 0 ∨ c = 1 ∨ c = 2 ∨ c = 3 ∨ c = 4 ∨ c = 5 ∨ c = 6) with rfl | rfl | rfl | rfl | rfl | rfl | rfl
  · have a := sTS_le 0 (sTG 0 (sPu q 12)); have b := sTG_le 0 (sPu q 12); have e := sPu_le q 12
    show (sTS 0 (sTG 0 (sPu q 12))).1 ≤ _; omega
  · have a := sTS_le 1 (sTG 1 (sPu q 12)); have b := sTG_le 1 (sPu q 12); have e := sPu_le q 12
    show (sTS 1 (sTG 1 (sPu q 12))).1 ≤ _; omega
  · have a := sTS_le 2 (sTG 2 (sPu q 12)); have b := sTG_le 2 (sPu q 12); have e := sPu_le q 12
    show (sTS 2 (sTG 2 (sPu q 12))).1 ≤ _; omega
  · have a := sTS_le 3 (sTG 3 (sPu q 12)); have b := sTG_le 3 (sPu q 12); have e := sPu_le q 12
    show (sTS 3 (sTG 3 (sPu q 12))).1 ≤ _; omega
  · have a := sTS_le 4 (sTG 4 (sPu (sPu q 60) 12)); have b := sTG_le 4 (sPu (sPu q 60) 12); have e := sPu_le (sPu q 60) 12; have e2 := sPu_le q 60
    show (sTS 4 (sTG 4 (sPu (sPu q 60) 12))).1 ≤ _; omega
  · have a := sTS_le 5 (sTG 5 (sPu q 12)); have b := sTG_le 5 (sPu q 12); have e := sPu_le q 12
    show (sTS 5 (sTG 5 (sPu q 12))).1 ≤ _; omega
  · have a := sTS_le 6 (sTG 6 (sPu (sPu q 50) 12)); have b := sTG_le 6 (sPu (sPu q 50) 12); have e := sPu_le (sPu q 50) 12; have e2 := sPu_le q 50
    show (sTS 6 (sTG 6 (sPu (sPu q 50) 12))).1 ≤ _; omega
theorem sTS_r {q q' : Nat × (Nat → Int32)} (c : Nat) (hc : c < 7) (h : qRe q q') : qRe (sTS c q) (sTS c q') := by
  rcases (by omega : c = 0 ∨ c = 1 ∨ c = 2 ∨ c = 3 ∨ c = 4 ∨ c = 5 ∨ c = 6) with rfl | rfl | rfl | rfl | rfl | rfl | rfl
  · exact sPu_r _ h
  · exact sPu_r _ (sPu_r _ h)
  · exact sPu_r _ (sPu_r _ h)
  · exact sPu_r _ (sPu_r _ h)
  · exact sPu_r _ h
  · exact sPu_r _ (sPu_r _ (sPu_r _ h))
  · exact sPu_r _ (sPu_r _ (sPu_r _ h))
theorem sTG_r {q q' : Nat × (Nat → Int32)} (c : Nat) (hc : c < 7) (h : qRe q q') : qRe (sTG c q) (sTG c q') := by
  rcases (by omega : c = 0 ∨ c = 1 ∨ c = 2 ∨ c = 3 ∨ c = 4 ∨ c = 5 ∨ c = 6) with rfl | rfl | rfl | rfl | rfl | rfl | rfl
  · exact sTS_r 0 (by decide) (sPu_r _ h)
  · exact sTS_r 1 (by decide) (sPu_r _ h)
  · exact sTS_r 2 (by decide) (sPu_r _ (sPu_r _ h))
  · exact sTS_r 3 (by decide) (sPu_r _ (sPu_r _ h))
  · exact sTS_r 4 (by decide) (sPu_r _ h)
  · exact sTS_r 5 (by decide) (sPu_r _ (sPu_r _ h))
  · exact sTS_r 6 (by decide) (sPu_r _ (sPu_r _ h))
theorem sTY_r {q q' : Nat × (Nat → Int32)} (c : Nat) (hc : c < 7) (h : qRe q q') : qRe (sTY c q) (sTY c q') := by
  rcases (by omega : c = 0 ∨ c = 1 ∨ c = 2 ∨ c = 3 ∨ c = 4 ∨ c = 5 ∨ c = 6) with rfl | rfl | rfl | rfl | rfl | rfl | rfl
  · exact sTS_r 0 (by decide) (sTG_r 0 (by decide) (sPu_r _ h))
  · exact sTS_r 1 (by decide) (sTG_r 1 (by decide) (sPu_r _ h))
  · exact sTS_r 2 (by decide) (sTG_r 2 (by decide) (sPu_r _ h))
  · exact sTS_r 3 (by decide) (sTG_r 3 (by decide) (sPu_r _ h))
  · exact sTS_r 4 (by decide) (sTG_r 4 (by decide) (sPu_r _ (sPu_r _ h)))
  · exact sTS_r 5 (by decide) (sTG_r 5 (by decide) (sPu_r _ h))
  · exact sTS_r 6 (by decide) (sTG_r 6 (by decide) (sPu_r _ (sPu_r _ h)))
theorem p_act {x a y : Int32} (A : zRl w S L n m) : zPr d 5040 6092 [.int x, .int a, .int y] w S L := by
  have C := rl_C A
  have M := rl_M A
  have hn8 := rl_n A
  have fg := q_forget (d := d + 39) (w := w)
  have C1 : zHc (zuA w 11 (upd (w.1 11) 1 0)) 1 n m := zHc_A C (by decide)
  have r0 : ∀ {f : Nat → Int32}, qRe (0, f) (0, w.1 79) := fun {f} => ⟨rfl, fun i hi => absurd hi (Nat.not_lt_zero i)⟩
  have zn : ∀ w1 : zM, w1.1 50 = w.1 50 → w1.1 79 = w.1 79 → zui w1 50 46 0 = mAc w1 (0, w.1 79) := fun w1 h1 h2 => by
    rw [zui_A]
    unfold mAc
    show _ = zuA (zuA w1 50 (upd (w1.1 50) 46 (nI 0))) 79 (w.1 79)
    have e : (zuA w1 50 (upd (w1.1 50) 46 (nI 0))).1 79 = w.1 79 := by rw [zA_n _ _ (by decide)]; exact h2
    rw [← e, zA_id, nI_0]
  rcases ix_c x (by omega : n < 1000) with hx | ⟨t, ht, rfl⟩
  · have b := q_hasTable_o (d := d + 39) C1 hx
    have hc : cal (d + 40) 5040 [.ref 0, .int x, .int a, .int y] w = some (some (.int 0), zuA w 11 (upd (w.1 11) 1 0)) := by
      simp only [c_5040, e_5040_0, e_5040_1, e_5040_4, e_5040_7, e_5040_8, e_5040_11, e_5040_12, e_5040_15, e_5040_18, e_5040_19, e_5040_20, e_5040_21, e_5040_24, e_5040_25, e_5040_28, e_5040_29, e_5040_30, e_5040_33, e_5040_34, e_5040_35, e_5040_38, e_5040_39, e_5040_40, e_5040_43, e_5040_46, e_5040_47, e_5040_72, e_5040_73, e_5040_76, e_5040_77, e_5040_80, e_5040_81, e_5040_82, e_5040_85, e_5040_86, e_5040_89, e_5040_90, e_5040_91, e_5040_94, e_5040_95, e_5040_98, e_5040_99, e_5040_100, zk_int, zk_ref, zk_null, zk_none, zk_long, zisR_r, zisR_n, zcl_int, zcl_ref, zcl_null, zpush_s, zpush_n, zbs, zbn, true_or, or_true, not_false_eq_true, not_true_eq_false, ↓reduceIte, and_self, and_true, true_and, zt_0, zr_0_0, zt_1, zr_0_2, zt_11, fg, b]
    have z := zn (zuA w 11 (upd (w.1 11) 1 0)) (zA_n _ _ (by decide)) (zA_n _ _ (by decide))
    have Mn : zMn (mAc (zuA w 11 (upd (w.1 11) 1 0)) (0, w.1 79)) n m := by
      rw [← z]
      exact zMn_k M.2.1 (by rw [zi_s, u_ne (by decide), zA_n _ _ (by decide)]) (by rw [zi_s, u_ne (by decide), zA_n _ _ (by decide)])
    have q1 := m_isTable_o (d := d + 39) Mn hx
    refine ⟨_, _, mAc (zuA w 11 (upd (w.1 11) 1 0)) (0, w.1 79), n, m, hc, ?_, zRl_ac (q := (0, w.1 12)) A (fun _ _ => trivial) (by rw [zA_s, u_eq]; exact nI_0.symm) (zA_n _ _ (by decide)) (fun a h1 h2 => zA_n _ _ h1) rfl r0 (Nat.le_of_ble_eq_true rfl)⟩
    simp only [c_6092, e_6092_0, e_6092_1, e_6092_2, e_6092_5, e_6092_6, e_6092_7, e_6092_10, e_6092_13, e_6092_14, e_6092_17, e_6092_18, e_6092_19, e_6092_22, e_6092_23, e_6092_24, e_6092_25, e_6092_28, e_6092_29, e_6092_30, e_6092_31, e_6092_34, e_6092_37, e_6092_38, e_6092_39, e_6092_42, e_6092_43, e_6092_44, e_6092_45, e_6092_48, e_6092_51, e_6092_52, e_6092_53, e_6092_54, e_6092_57, zk_int, zk_ref, zk_null, zk_none, zk_long, zisR_r, zisR_n, zcl_int, zcl_ref, zcl_null, zpush_s, zpush_n, zbs, zbn, true_or, or_true, not_false_eq_true, not_true_eq_false, ↓reduceIte, and_self, and_true, true_and, zt_50, z, q1]
  · have b := q_hasTable (d := d + 39) C1 ht
    have p0 := q_tablePart_0 (d := d + 38) C1 ht
    have p3 := q_tablePart_3 (d := d + 38) C1 ht
    have af := q_actFor (d := d + 39) (w := w) (k := w.1 2 (5 * t + 0)) (m := nI t) (a := w.1 2 (5 * t + 3))
    have e2 : (zuA w 11 (upd (w.1 11) 1 0)).1 (1 + 1) = w.1 2 := zA_n _ _ (by decide)
    rw [e2] at p0 p3
    have fid := fAc_id w (w.1 2 (5 * t + 0)) (nI t) (w.1 2 (5 * t + 3))
    generalize hX : fAc w (w.1 2 (5 * t + 0)) (nI t) (w.1 2 (5 * t + 3)) = X at af fid
    have x11 : X.1 11 = upd (upd (upd (upd (w.1 11) 1 0) 2 (w.1 2 (5 * t + 0))) 3 (nI t)) 4 (w.1 2 (5 * t + 3)) := by rw [← hX]; exact zA_s _ _ _
    have xn : ∀ a, a ≠ 11 → X.1 a = w.1 a := fun a h => by rw [← hX]; exact zA_n _ _ h
    have x2 : X.2 = w.2 := by rw [← hX]; rfl
    have k2 : X.1 11 2 = w.1 2 (5 * t + 0) := by rw [x11, u_ne (by decide), u_ne (by decide), u_eq]
    have k3 : X.1 11 3 = nI t := by rw [x11, u_ne (by decide), u_eq]
    have k4 : X.1 11 4 = w.1 2 (5 * t + 3) := by rw [x11, u_eq]
    have into : cal (d + 40) 5040 [.ref 0, .int (nI t), .int a, .int y] w = den (d + 40) 5040 46 [some (.ref 0), some (.int (nI t)), some (.int a), some (.int y)] [] X := by
      simp only [c_5040, e_5040_0, e_5040_1, e_5040_4, e_5040_7, e_5040_8, e_5040_11, e_5040_12, e_5040_15, e_5040_20, e_5040_21, e_5040_24, e_5040_25, e_5040_28, e_5040_29, e_5040_30, e_5040_33, e_5040_34, e_5040_35, e_5040_38, e_5040_39, e_5040_40, e_5040_43, zk_int, zk_ref, zk_null, zk_none, zk_long, zisR_r, zisR_n, zcl_int, zcl_ref, zcl_null, zpush_s, zpush_n, zbs, zbn, true_or, or_true, not_false_eq_true, not_true_eq_false, ↓reduceIte, and_self, and_true, true_and, ie_0_1, ie_0_2, ie_0_3, ie_0_4, ie_0_5, ie_0_6, ie_0_7, ie_1_0, ie_1_2, ie_1_3, ie_1_4, ie_1_5, ie_1_6, ie_1_7, ie_2_0, ie_2_1, ie_2_3, ie_2_4, ie_2_5, ie_2_6, ie_2_7, ie_3_0, ie_3_1, ie_3_2, ie_3_4, ie_3_5, ie_3_6, ie_3_7, ie_4_0, ie_4_1, ie_4_2, ie_4_3, ie_4_5, ie_4_6, ie_4_7, ie_5_0, ie_5_1, ie_5_2, ie_5_3, ie_5_4, ie_5_6, ie_5_7, ie_6_0, ie_6_1, ie_6_2, ie_6_3, ie_6_4, ie_6_5, ie_6_7, ie_7_0, ie_7_1, ie_7_2, ie_7_3, ie_7_4, ie_7_5, ie_7_6, zt_0, zr_0_0, zt_1, zr_0_2, zt_11, fg, b, p0, p3, af]
    have Rx : ∀ (q q' : Nat × (Nat → Int32)), qRe q q' → q.1 < 100 → zRl (mAc (sAcW X q) q') S L n m := fun q q' h1 h2 =>
      zRl_ac (q := q) A (fun _ _ => trivial) (sAcW_1 X q) (by unfold sAcW; exact zA_s _ _ _) (fun a h3 h4 => by unfold sAcW; rw [zA_n _ _ h4, zA_n _ _ h3]; exact xn a h3) x2 h1 h2
    have Ms : ∀ q, zMs (sAcW X q) (w.1 2) (w.1 3) (w.1 4) := fun q => zMs_k M.1 ⟨by unfold sAcW; rw [zA_n _ _ (by decide), zA_n _ _ (by decide), xn _ (by decide)], by unfold sAcW; rw [zA_n _ _ (by decide), zA_n _ _ (by decide), xn _ (by decide)]⟩ (fun a h1 h2 => by unfold sAcW; rw [zA_n _ _ (by omega), zA_n _ _ (by omega), xn _ (by omega)])
    have s50 : ∀ q, (sAcW X q).1 50 = w.1 50 := fun q => by unfold sAcW; rw [zA_n _ _ (by decide), zA_n _ _ (by decide), xn _ (by decide)]
    have s79 : ∀ q, (sAcW X q).1 79 = w.1 79 := fun q => by unfold sAcW; rw [zA_n _ _ (by decide), zA_n _ _ (by decide), xn _ (by decide)]
    have zq : ∀ q, zui (sAcW X q) 50 46 0 = mAc (sAcW X q) (0, w.1 79) := fun q => zn _ (s50 q) (s79 q)
    have Mn : ∀ q, zMn (mAc (sAcW X q) (0, w.1 79)) n m := fun q => by
      rw [← zq]
      exact zMn_k M.2.1 (by rw [zi_s, u_ne (by decide), s50]) (by rw [zi_s, u_ne (by decide), s50])
    have q1 := fun q => m_isTable (d := d + 39) (Mn q) ht
    have ac : (a = 0 ∨ a = 1 ∨ a = 2) ∨ (a < 0 ∨ 2 < a) := by
      have e2 : (2 : Int32).toInt = 2 := by decide
      rw [ti_eq, ti_eq, ti_eq, ti_lt, ti_lt, ti_0, ti_1, e2]
      omega
    have l00 : ((0 : Int32) < 0) = False := eq_false (by decide)
    have l02 : ((0 : Int32) ≤ 2) = True := eq_true (by decide)
    have l10 : ((1 : Int32) < 0) = False := eq_false (by decide)
    have l12 : ((1 : Int32) ≤ 2) = True := eq_true (by decide)
    have l20 : ((2 : Int32) < 0) = False := eq_false (by decide)
    have l22 : ((2 : Int32) ≤ 2) = True := eq_true (by decide)
    rcases ac with hact | ha
    · rcases kind_c (M.2.2.1 t ht).1 with hk | hk | hk | hk | hk | hk | hk
      · have hk2 : X.1 11 2 = 0 := k2.trans hk
        rcases hact with rfl | rfl | rfl
        · have qc := q_doServe_0 (d := d + 37) (w := X) (y := y) (q := (0, w.1 12)) hk2 (by show 0 < _; decide)
          rw [← fid, k3, k4] at qc
          have le := sTS_le 0 (0, w.1 12)
          have le2 : (sTS 0 (0, w.1 12)).1 ≤ 0 + 10 := by
            have e : ((0, w.1 12) : Nat × (Nat → Int32)).1 = 0 := rfl
            omega
          have qm := m_serving_0 (d := d + 38) (w := sAcW X (sTS 0 (0, w.1 12))) (q := (0, w.1 79)) (y := y) (Ms _) (by omega) hk (by show 0 < _; decide)
          have hc : cal (d + 40) 5040 [.ref 0, .int (nI t), .int 0, .int y] w = some (some (.int (sVS 0 y (nI t) (w.1 2 (5 * t + 3)))), sAcW X (sTS 0 (0, w.1 12))) := by
            rw [into]
            simp only [c_5040, e_5040_0, e_5040_1, e_5040_4, e_5040_7, e_5040_8, e_5040_11, e_5040_12, e_5040_15, e_5040_18, e_5040_19, e_5040_20, e_5040_21, e_5040_24, e_5040_25, e_5040_28, e_5040_29, e_5040_30, e_5040_33, e_5040_34, e_5040_35, e_5040_38, e_5040_39, e_5040_40, e_5040_43, e_5040_46, e_5040_47, e_5040_72, e_5040_73, e_5040_76, e_5040_77, e_5040_80, e_5040_81, e_5040_82, e_5040_85, e_5040_86, e_5040_89, e_5040_90, e_5040_91, e_5040_94, e_5040_95, e_5040_98, e_5040_99, e_5040_100, zk_int, zk_ref, zk_null, zk_none, zk_long, zisR_r, zisR_n, zcl_int, zcl_ref, zcl_null, zpush_s, zpush_n, zbs, zbn, true_or, or_true, not_false_eq_true, not_true_eq_false, ↓reduceIte, and_self, and_true, true_and, ie_0_1, ie_0_2, ie_0_3, ie_0_4, ie_0_5, ie_0_6, ie_0_7, ie_1_0, ie_1_2, ie_1_3, ie_1_4, ie_1_5, ie_1_6, ie_1_7, ie_2_0, ie_2_1, ie_2_3, ie_2_4, ie_2_5, ie_2_6, ie_2_7, ie_3_0, ie_3_1, ie_3_2, ie_3_4, ie_3_5, ie_3_6, ie_3_7, ie_4_0, ie_4_1, ie_4_2, ie_4_3, ie_4_5, ie_4_6, ie_4_7, ie_5_0, ie_5_1, ie_5_2, ie_5_3, ie_5_4, ie_5_6, ie_5_7, ie_6_0, ie_6_1, ie_6_2, ie_6_3, ie_6_4, ie_6_5, ie_6_7, ie_7_0, ie_7_1, ie_7_2, ie_7_3, ie_7_4, ie_7_5, ie_7_6, zt_0, zr_0_2, zt_11, qc]
          refine ⟨_, _, mAc (sAcW X (sTS 0 (0, w.1 12))) (sTS 0 (0, w.1 79)), n, m, hc, ?_, Rx _ _ (sTS_r 0 (by decide) r0) (by omega)⟩
          simp only [c_6092, e_6092_0, e_6092_1, e_6092_2, e_6092_5, e_6092_6, e_6092_7, e_6092_10, e_6092_13, e_6092_14, e_6092_17, e_6092_18, e_6092_19, e_6092_22, e_6092_23, e_6092_24, e_6092_25, e_6092_28, e_6092_29, e_6092_30, e_6092_31, e_6092_34, e_6092_37, e_6092_38, e_6092_39, e_6092_42, e_6092_43, e_6092_44, e_6092_45, e_6092_48, e_6092_51, e_6092_52, e_6092_53, e_6092_54, e_6092_57, zk_int, zk_ref, zk_null, zk_none, zk_long, zisR_r, zisR_n, zcl_int, zcl_ref, zcl_null, zpush_s, zpush_n, zbs, zbn, true_or, or_true, not_false_eq_true, not_true_eq_false, ↓reduceIte, and_self, and_true, true_and, ie_0_1, ie_0_2, ie_0_3, ie_0_4, ie_0_5, ie_0_6, ie_0_7, ie_1_0, ie_1_2, ie_1_3, ie_1_4, ie_1_5, ie_1_6, ie_1_7, ie_2_0, ie_2_1, ie_2_3, ie_2_4, ie_2_5, ie_2_6, ie_2_7, ie_3_0, ie_3_1, ie_3_2, ie_3_4, ie_3_5, ie_3_6, ie_3_7, ie_4_0, ie_4_1, ie_4_2, ie_4_3, ie_4_5, ie_4_6, ie_4_7, ie_5_0, ie_5_1, ie_5_2, ie_5_3, ie_5_4, ie_5_6, ie_5_7, ie_6_0, ie_6_1, ie_6_2, ie_6_3, ie_6_4, ie_6_5, ie_6_7, ie_7_0, ie_7_1, ie_7_2, ie_7_3, ie_7_4, ie_7_5, ie_7_6, zt_50, zq, q1, l00, l02, qm]
        · have qc := q_doGive_0 (d := d + 36) (w := X) (y := y) (q := (0, w.1 12)) hk2 (by show 0 < _; decide)
          rw [← fid, k3, k4] at qc
          have le := sTG_le 0 (0, w.1 12)
          have le2 : (sTG 0 (0, w.1 12)).1 ≤ 0 + 10 := by
            have e : ((0, w.1 12) : Nat × (Nat → Int32)).1 = 0 := rfl
            omega
          have qm := m_giving_0 (d := d + 37) (w := sAcW X (sTG 0 (0, w.1 12))) (q := (0, w.1 79)) (y := y) (Ms _) (by omega) hk (by show 0 < _; decide)
          have hc : cal (d + 40) 5040 [.ref 0, .int (nI t), .int 1, .int y] w = some (some (.int (sVG 0 y (nI t) (w.1 2 (5 * t + 3)))), sAcW X (sTG 0 (0, w.1 12))) := by
            rw [into]
            simp only [c_5040, e_5040_0, e_5040_1, e_5040_4, e_5040_7, e_5040_8, e_5040_11, e_5040_12, e_5040_15, e_5040_18, e_5040_19, e_5040_20, e_5040_21, e_5040_24, e_5040_25, e_5040_28, e_5040_29, e_5040_30, e_5040_33, e_5040_34, e_5040_35, e_5040_38, e_5040_39, e_5040_40, e_5040_43, e_5040_46, e_5040_47, e_5040_72, e_5040_73, e_5040_76, e_5040_77, e_5040_80, e_5040_81, e_5040_82, e_5040_85, e_5040_86, e_5040_89, e_5040_90, e_5040_91, e_5040_94, e_5040_95, e_5040_98, e_5040_99, e_5040_100, zk_int, zk_ref, zk_null, zk_none, zk_long, zisR_r, zisR_n, zcl_int, zcl_ref, zcl_null, zpush_s, zpush_n, zbs, zbn, true_or, or_true, not_false_eq_true, not_true_eq_false, ↓reduceIte, and_self, and_true, true_and, ie_0_1, ie_0_2, ie_0_3, ie_0_4, ie_0_5, ie_0_6, ie_0_7, ie_1_0, ie_1_2, ie_1_3, ie_1_4, ie_1_5, ie_1_6, ie_1_7, ie_2_0, ie_2_1, ie_2_3, ie_2_4, ie_2_5, ie_2_6, ie_2_7, ie_3_0, ie_3_1, ie_3_2, ie_3_4, ie_3_5, ie_3_6, ie_3_7, ie_4_0, ie_4_1, ie_4_2, ie_4_3, ie_4_5, ie_4_6, ie_4_7, ie_5_0, ie_5_1, ie_5_2, ie_5_3, ie_5_4, ie_5_6, ie_5_7, ie_6_0, ie_6_1, ie_6_2, ie_6_3, ie_6_4, ie_6_5, ie_6_7, ie_7_0, ie_7_1, ie_7_2, ie_7_3, ie_7_4, ie_7_5, ie_7_6, zt_0, zr_0_2, zt_11, qc]
          refine ⟨_, _, mAc (sAcW X (sTG 0 (0, w.1 12))) (sTG 0 (0, w.1 79)), n, m, hc, ?_, Rx _ _ (sTG_r 0 (by decide) r0) (by omega)⟩
          simp only [c_6092, e_6092_0, e_6092_1, e_6092_2, e_6092_5, e_6092_6, e_6092_7, e_6092_10, e_6092_13, e_6092_14, e_6092_17, e_6092_18, e_6092_19, e_6092_22, e_6092_23, e_6092_24, e_6092_25, e_6092_28, e_6092_29, e_6092_30, e_6092_31, e_6092_34, e_6092_37, e_6092_38, e_6092_39, e_6092_42, e_6092_43, e_6092_44, e_6092_45, e_6092_48, e_6092_51, e_6092_52, e_6092_53, e_6092_54, e_6092_57, zk_int, zk_ref, zk_null, zk_none, zk_long, zisR_r, zisR_n, zcl_int, zcl_ref, zcl_null, zpush_s, zpush_n, zbs, zbn, true_or, or_true, not_false_eq_true, not_true_eq_false, ↓reduceIte, and_self, and_true, true_and, ie_0_1, ie_0_2, ie_0_3, ie_0_4, ie_0_5, ie_0_6, ie_0_7, ie_1_0, ie_1_2, ie_1_3, ie_1_4, ie_1_5, ie_1_6, ie_1_7, ie_2_0, ie_2_1, ie_2_3, ie_2_4, ie_2_5, ie_2_6, ie_2_7, ie_3_0, ie_3_1, ie_3_2, ie_3_4, ie_3_5, ie_3_6, ie_3_7, ie_4_0, ie_4_1, ie_4_2, ie_4_3, ie_4_5, ie_4_6, ie_4_7, ie_5_0, ie_5_1, ie_5_2, ie_5_3, ie_5_4, ie_5_6, ie_5_7, ie_6_0, ie_6_1, ie_6_2, ie_6_3, ie_6_4, ie_6_5, ie_6_7, ie_7_0, ie_7_1, ie_7_2, ie_7_3, ie_7_4, ie_7_5, ie_7_6, zt_50, zq, q1, l10, l12, qm]
        · have qc := q_doStay_0 (d := d + 35) (w := X) (y := y) (q := (0, w.1 12)) hk2 (by show 0 < _; decide)
          rw [← fid, k3, k4] at qc
          have le := sTY_le 0 (0, w.1 12) (by decide)
          have le2 : (sTY 0 (0, w.1 12)).1 ≤ 0 + 10 := by
            have e : ((0, w.1 12) : Nat × (Nat → Int32)).1 = 0 := rfl
            omega
          have qm := m_staying_0 (d := d + 36) (w := sAcW X (sTY 0 (0, w.1 12))) (q := (0, w.1 79)) (y := y) (Ms _) (by omega) hk (by show 0 < _; decide)
          have hc : cal (d + 40) 5040 [.ref 0, .int (nI t), .int 2, .int y] w = some (some (.int (sVY 0 y (nI t) (w.1 2 (5 * t + 3)))), sAcW X (sTY 0 (0, w.1 12))) := by
            rw [into]
            simp only [c_5040, e_5040_0, e_5040_1, e_5040_4, e_5040_7, e_5040_8, e_5040_11, e_5040_12, e_5040_15, e_5040_18, e_5040_19, e_5040_20, e_5040_21, e_5040_24, e_5040_25, e_5040_28, e_5040_29, e_5040_30, e_5040_33, e_5040_34, e_5040_35, e_5040_38, e_5040_39, e_5040_40, e_5040_43, e_5040_46, e_5040_47, e_5040_72, e_5040_73, e_5040_76, e_5040_77, e_5040_80, e_5040_81, e_5040_82, e_5040_85, e_5040_86, e_5040_89, e_5040_90, e_5040_91, e_5040_94, e_5040_95, e_5040_98, e_5040_99, e_5040_100, zk_int, zk_ref, zk_null, zk_none, zk_long, zisR_r, zisR_n, zcl_int, zcl_ref, zcl_null, zpush_s, zpush_n, zbs, zbn, true_or, or_true, not_false_eq_true, not_true_eq_false, ↓reduceIte, and_self, and_true, true_and, ie_0_1, ie_0_2, ie_0_3, ie_0_4, ie_0_5, ie_0_6, ie_0_7, ie_1_0, ie_1_2, ie_1_3, ie_1_4, ie_1_5, ie_1_6, ie_1_7, ie_2_0, ie_2_1, ie_2_3, ie_2_4, ie_2_5, ie_2_6, ie_2_7, ie_3_0, ie_3_1, ie_3_2, ie_3_4, ie_3_5, ie_3_6, ie_3_7, ie_4_0, ie_4_1, ie_4_2, ie_4_3, ie_4_5, ie_4_6, ie_4_7, ie_5_0, ie_5_1, ie_5_2, ie_5_3, ie_5_4, ie_5_6, ie_5_7, ie_6_0, ie_6_1, ie_6_2, ie_6_3, ie_6_4, ie_6_5, ie_6_7, ie_7_0, ie_7_1, ie_7_2, ie_7_3, ie_7_4, ie_7_5, ie_7_6, zt_0, zr_0_2, zt_11, qc]
          refine ⟨_, _, mAc (sAcW X (sTY 0 (0, w.1 12))) (sTY 0 (0, w.1 79)), n, m, hc, ?_, Rx _ _ (sTY_r 0 (by decide) r0) (by omega)⟩
          simp only [c_6092, e_6092_0, e_6092_1, e_6092_2, e_6092_5, e_6092_6, e_6092_7, e_6092_10, e_6092_13, e_6092_14, e_6092_17, e_6092_18, e_6092_19, e_6092_22, e_6092_23, e_6092_24, e_6092_25, e_6092_28, e_6092_29, e_6092_30, e_6092_31, e_6092_34, e_6092_37, e_6092_38, e_6092_39, e_6092_42, e_6092_43, e_6092_44, e_6092_45, e_6092_48, e_6092_51, e_6092_52, e_6092_53, e_6092_54, e_6092_57, zk_int, zk_ref, zk_null, zk_none, zk_long, zisR_r, zisR_n, zcl_int, zcl_ref, zcl_null, zpush_s, zpush_n, zbs, zbn, true_or, or_true, not_false_eq_true, not_true_eq_false, ↓reduceIte, and_self, and_true, true_and, ie_0_1, ie_0_2, ie_0_3, ie_0_4, ie_0_5, ie_0_6, ie_0_7, ie_1_0, ie_1_2, ie_1_3, ie_1_4, ie_1_5, ie_1_6, ie_1_7, ie_2_0, ie_2_1, ie_2_3, ie_2_4, ie_2_5, ie_2_6, ie_2_7, ie_3_0, ie_3_1, ie_3_2, ie_3_4, ie_3_5, ie_3_6, ie_3_7, ie_4_0, ie_4_1, ie_4_2, ie_4_3, ie_4_5, ie_4_6, ie_4_7, ie_5_0, ie_5_1, ie_5_2, ie_5_3, ie_5_4, ie_5_6, ie_5_7, ie_6_0, ie_6_1, ie_6_2, ie_6_3, ie_6_4, ie_6_5, ie_6_7, ie_7_0, ie_7_1, ie_7_2, ie_7_3, ie_7_4, ie_7_5, ie_7_6, zt_50, zq, q1, l20, l22, qm]
      · have hk2 : X.1 11 2 = 1 := k2.trans hk
        rcases hact with rfl | rfl | rfl
        · have qc := q_doServe_1 (d := d + 37) (w := X) (y := y) (q := (0, w.1 12)) hk2 (by show 0 < _; decide)
          rw [← fid, k3, k4] at qc
          have le := sTS_le 1 (0, w.1 12)
          have le2 : (sTS 1 (0, w.1 12)).1 ≤ 0 + 10 := by
            have e : ((0, w.1 12) : Nat × (Nat → Int32)).1 = 0 := rfl
            omega
          have qm := m_serving_1 (d := d + 38) (w := sAcW X (sTS 1 (0, w.1 12))) (q := (0, w.1 79)) (y := y) (Ms _) (by omega) hk (by show 0 < _; decide)
          have hc : cal (d + 40) 5040 [.ref 0, .int (nI t), .int 0, .int y] w = some (some (.int (sVS 1 y (nI t) (w.1 2 (5 * t + 3)))), sAcW X (sTS 1 (0, w.1 12))) := by
            rw [into]
            simp only [c_5040, e_5040_0, e_5040_1, e_5040_4, e_5040_7, e_5040_8, e_5040_11, e_5040_12, e_5040_15, e_5040_18, e_5040_19, e_5040_20, e_5040_21, e_5040_24, e_5040_25, e_5040_28, e_5040_29, e_5040_30, e_5040_33, e_5040_34, e_5040_35, e_5040_38, e_5040_39, e_5040_40, e_5040_43, e_5040_46, e_5040_47, e_5040_72, e_5040_73, e_5040_76, e_5040_77, e_5040_80, e_5040_81, e_5040_82, e_5040_85, e_5040_86, e_5040_89, e_5040_90, e_5040_91, e_5040_94, e_5040_95, e_5040_98, e_5040_99, e_5040_100, zk_int, zk_ref, zk_null, zk_none, zk_long, zisR_r, zisR_n, zcl_int, zcl_ref, zcl_null, zpush_s, zpush_n, zbs, zbn, true_or, or_true, not_false_eq_true, not_true_eq_false, ↓reduceIte, and_self, and_true, true_and, ie_0_1, ie_0_2, ie_0_3, ie_0_4, ie_0_5, ie_0_6, ie_0_7, ie_1_0, ie_1_2, ie_1_3, ie_1_4, ie_1_5, ie_1_6, ie_1_7, ie_2_0, ie_2_1, ie_2_3, ie_2_4, ie_2_5, ie_2_6, ie_2_7, ie_3_0, ie_3_1, ie_3_2, ie_3_4, ie_3_5, ie_3_6, ie_3_7, ie_4_0, ie_4_1, ie_4_2, ie_4_3, ie_4_5, ie_4_6, ie_4_7, ie_5_0, ie_5_1, ie_5_2, ie_5_3, ie_5_4, ie_5_6, ie_5_7, ie_6_0, ie_6_1, ie_6_2, ie_6_3, ie_6_4, ie_6_5, ie_6_7, ie_7_0, ie_7_1, ie_7_2, ie_7_3, ie_7_4, ie_7_5, ie_7_6, zt_0, zr_0_2, zt_11, qc]
          refine ⟨_, _, mAc (sAcW X (sTS 1 (0, w.1 12))) (sTS 1 (0, w.1 79)), n, m, hc, ?_, Rx _ _ (sTS_r 1 (by decide) r0) (by omega)⟩
          simp only [c_6092, e_6092_0, e_6092_1, e_6092_2, e_6092_5, e_6092_6, e_6092_7, e_6092_10, e_6092_13, e_6092_14, e_6092_17, e_6092_18, e_6092_19, e_6092_22, e_6092_23, e_6092_24, e_6092_25, e_6092_28, e_6092_29, e_6092_30, e_6092_31, e_6092_34, e_6092_37, e_6092_38, e_6092_39, e_6092_42, e_6092_43, e_6092_44, e_6092_45, e_6092_48, e_6092_51, e_6092_52, e_6092_53, e_6092_54, e_6092_57, zk_int, zk_ref, zk_null, zk_none, zk_long, zisR_r, zisR_n, zcl_int, zcl_ref, zcl_null, zpush_s, zpush_n, zbs, zbn, true_or, or_true, not_false_eq_true, not_true_eq_false, ↓reduceIte, and_self, and_true, true_and, ie_0_1, ie_0_2, ie_0_3, ie_0_4, ie_0_5, ie_0_6, ie_0_7, ie_1_0, ie_1_2, ie_1_3, ie_1_4, ie_1_5, ie_1_6, ie_1_7, ie_2_0, ie_2_1, ie_2_3, ie_2_4, ie_2_5, ie_2_6, ie_2_7, ie_3_0, ie_3_1, ie_3_2, ie_3_4, ie_3_5, ie_3_6, ie_3_7, ie_4_0, ie_4_1, ie_4_2, ie_4_3, ie_4_5, ie_4_6, ie_4_7, ie_5_0, ie_5_1, ie_5_2, ie_5_3, ie_5_4, ie_5_6, ie_5_7, ie_6_0, ie_6_1, ie_6_2, ie_6_3, ie_6_4, ie_6_5, ie_6_7, ie_7_0, ie_7_1, ie_7_2, ie_7_3, ie_7_4, ie_7_5, ie_7_6, zt_50, zq, q1, l00, l02, qm]
        · have qc := q_doGive_1 (d := d + 36) (w := X) (y := y) (q := (0, w.1 12)) hk2 (by show 0 < _; decide)
          rw [← fid, k3, k4] at qc
          have le := sTG_le 1 (0, w.1 12)
          have le2 : (sTG 1 (0, w.1 12)).1 ≤ 0 + 10 := by
            have e : ((0, w.1 12) : Nat × (Nat → Int32)).1 = 0 := rfl
            omega
          have qm := m_giving_1 (d := d + 37) (w := sAcW X (sTG 1 (0, w.1 12))) (q := (0, w.1 79)) (y := y) (Ms _) (by omega) hk (by show 0 < _; decide)
          have hc : cal (d + 40) 5040 [.ref 0, .int (nI t), .int 1, .int y] w = some (some (.int (sVG 1 y (nI t) (w.1 2 (5 * t + 3)))), sAcW X (sTG 1 (0, w.1 12))) := by
            rw [into]
            simp only [c_5040, e_5040_0, e_5040_1, e_5040_4, e_5040_7, e_5040_8, e_5040_11, e_5040_12, e_5040_15, e_5040_18, e_5040_19, e_5040_20, e_5040_21, e_5040_24, e_5040_25, e_5040_28, e_5040_29, e_5040_30, e_5040_33, e_5040_34, e_5040_35, e_5040_38, e_5040_39, e_5040_40, e_5040_43, e_5040_46, e_5040_47, e_5040_72, e_5040_73, e_5040_76, e_5040_77, e_5040_80, e_5040_81, e_5040_82, e_5040_85, e_5040_86, e_5040_89, e_5040_90, e_5040_91, e_5040_94, e_5040_95, e_5040_98, e_5040_99, e_5040_100, zk_int, zk_ref, zk_null, zk_none, zk_long, zisR_r, zisR_n, zcl_int, zcl_ref, zcl_null, zpush_s, zpush_n, zbs, zbn, true_or, or_true, not_false_eq_true, not_true_eq_false, ↓reduceIte, and_self, and_true, true_and, ie_0_1, ie_0_2, ie_0_3, ie_0_4, ie_0_5, ie_0_6, ie_0_7, ie_1_0, ie_1_2, ie_1_3, ie_1_4, ie_1_5, ie_1_6, ie_1_7, ie_2_0, ie_2_1, ie_2_3, ie_2_4, ie_2_5, ie_2_6, ie_2_7, ie_3_0, ie_3_1, ie_3_2, ie_3_4, ie_3_5, ie_3_6, ie_3_7, ie_4_0, ie_4_1, ie_4_2, ie_4_3, ie_4_5, ie_4_6, ie_4_7, ie_5_0, ie_5_1, ie_5_2, ie_5_3, ie_5_4, ie_5_6, ie_5_7, ie_6_0, ie_6_1, ie_6_2, ie_6_3, ie_6_4, ie_6_5, ie_6_7, ie_7_0, ie_7_1, ie_7_2, ie_7_3, ie_7_4, ie_7_5, ie_7_6, zt_0, zr_0_2, zt_11, qc]
          refine ⟨_, _, mAc (sAcW X (sTG 1 (0, w.1 12))) (sTG 1 (0, w.1 79)), n, m, hc, ?_, Rx _ _ (sTG_r 1 (by decide) r0) (by omega)⟩
          simp only [c_6092, e_6092_0, e_6092_1, e_6092_2, e_6092_5, e_6092_6, e_6092_7, e_6092_10, e_6092_13, e_6092_14, e_6092_17, e_6092_18, e_6092_19, e_6092_22, e_6092_23, e_6092_24, e_6092_25, e_6092_28, e_6092_29, e_6092_30, e_6092_31, e_6092_34, e_6092_37, e_6092_38, e_6092_39, e_6092_42, e_6092_43, e_6092_44, e_6092_45, e_6092_48, e_6092_51, e_6092_52, e_6092_53, e_6092_54, e_6092_57, zk_int, zk_ref, zk_null, zk_none, zk_long, zisR_r, zisR_n, zcl_int, zcl_ref, zcl_null, zpush_s, zpush_n, zbs, zbn, true_or, or_true, not_false_eq_true, not_true_eq_false, ↓reduceIte, and_self, and_true, true_and, ie_0_1, ie_0_2, ie_0_3, ie_0_4, ie_0_5, ie_0_6, ie_0_7, ie_1_0, ie_1_2, ie_1_3, ie_1_4, ie_1_5, ie_1_6, ie_1_7, ie_2_0, ie_2_1, ie_2_3, ie_2_4, ie_2_5, ie_2_6, ie_2_7, ie_3_0, ie_3_1, ie_3_2, ie_3_4, ie_3_5, ie_3_6, ie_3_7, ie_4_0, ie_4_1, ie_4_2, ie_4_3, ie_4_5, ie_4_6, ie_4_7, ie_5_0, ie_5_1, ie_5_2, ie_5_3, ie_5_4, ie_5_6, ie_5_7, ie_6_0, ie_6_1, ie_6_2, ie_6_3, ie_6_4, ie_6_5, ie_6_7, ie_7_0, ie_7_1, ie_7_2, ie_7_3, ie_7_4, ie_7_5, ie_7_6, zt_50, zq, q1, l10, l12, qm]
        · have qc := q_doStay_1 (d := d + 35) (w := X) (y := y) (q := (0, w.1 12)) hk2 (by show 0 < _; decide)
          rw [← fid, k3, k4] at qc
          have le := sTY_le 1 (0, w.1 12) (by decide)
          have le2 : (sTY 1 (0, w.1 12)).1 ≤ 0 + 10 := by
            have e : ((0, w.1 12) : Nat × (Nat → Int32)).1 = 0 := rfl
            omega
          have qm := m_staying_1 (d := d + 36) (w := sAcW X (sTY 1 (0, w.1 12))) (q := (0, w.1 79)) (y := y) (Ms _) (by omega) hk (by show 0 < _; decide)
          have hc : cal (d + 40) 5040 [.ref 0, .int (nI t), .int 2, .int y] w = some (some (.int (sVY 1 y (nI t) (w.1 2 (5 * t + 3)))), sAcW X (sTY 1 (0, w.1 12))) := by
            rw [into]
            simp only [c_5040, e_5040_0, e_5040_1, e_5040_4, e_5040_7, e_5040_8, e_5040_11, e_5040_12, e_5040_15, e_5040_18, e_5040_19, e_5040_20, e_5040_21, e_5040_24, e_5040_25, e_5040_28, e_5040_29, e_5040_30, e_5040_33, e_5040_34, e_5040_35, e_5040_38, e_5040_39, e_5040_40, e_5040_43, e_5040_46, e_5040_47, e_5040_72, e_5040_73, e_5040_76, e_5040_77, e_5040_80, e_5040_81, e_5040_82, e_5040_85, e_5040_86, e_5040_89, e_5040_90, e_5040_91, e_5040_94, e_5040_95, e_5040_98, e_5040_99, e_5040_100, zk_int, zk_ref, zk_null, zk_none, zk_long, zisR_r, zisR_n, zcl_int, zcl_ref, zcl_null, zpush_s, zpush_n, zbs, zbn, true_or, or_true, not_false_eq_true, not_true_eq_false, ↓reduceIte, and_self, and_true, true_and, ie_0_1, ie_0_2, ie_0_3, ie_0_4, ie_0_5, ie_0_6, ie_0_7, ie_1_0, ie_1_2, ie_1_3, ie_1_4, ie_1_5, ie_1_6, ie_1_7, ie_2_0, ie_2_1, ie_2_3, ie_2_4, ie_2_5, ie_2_6, ie_2_7, ie_3_0, ie_3_1, ie_3_2, ie_3_4, ie_3_5, ie_3_6, ie_3_7, ie_4_0, ie_4_1, ie_4_2, ie_4_3, ie_4_5, ie_4_6, ie_4_7, ie_5_0, ie_5_1, ie_5_2, ie_5_3, ie_5_4, ie_5_6, ie_5_7, ie_6_0, ie_6_1, ie_6_2, ie_6_3, ie_6_4, ie_6_5, ie_6_7, ie_7_0, ie_7_1, ie_7_2, ie_7_3, ie_7_4, ie_7_5, ie_7_6, zt_0, zr_0_2, zt_11, qc]
          refine ⟨_, _, mAc (sAcW X (sTY 1 (0, w.1 12))) (sTY 1 (0, w.1 79)), n, m, hc, ?_, Rx _ _ (sTY_r 1 (by decide) r0) (by omega)⟩
          simp only [c_6092, e_6092_0, e_6092_1, e_6092_2, e_6092_5, e_6092_6, e_6092_7, e_6092_10, e_6092_13, e_6092_14, e_6092_17, e_6092_18, e_6092_19, e_6092_22, e_6092_23, e_6092_24, e_6092_25, e_6092_28, e_6092_29, e_6092_30, e_6092_31, e_6092_34, e_6092_37, e_6092_38, e_6092_39, e_6092_42, e_6092_43, e_6092_44, e_6092_45, e_6092_48, e_6092_51, e_6092_52, e_6092_53, e_6092_54, e_6092_57, zk_int, zk_ref, zk_null, zk_none, zk_long, zisR_r, zisR_n, zcl_int, zcl_ref, zcl_null, zpush_s, zpush_n, zbs, zbn, true_or, or_true, not_false_eq_true, not_true_eq_false, ↓reduceIte, and_self, and_true, true_and, ie_0_1, ie_0_2, ie_0_3, ie_0_4, ie_0_5, ie_0_6, ie_0_7, ie_1_0, ie_1_2, ie_1_3, ie_1_4, ie_1_5, ie_1_6, ie_1_7, ie_2_0, ie_2_1, ie_2_3, ie_2_4, ie_2_5, ie_2_6, ie_2_7, ie_3_0, ie_3_1, ie_3_2, ie_3_4, ie_3_5, ie_3_6, ie_3_7, ie_4_0, ie_4_1, ie_4_2, ie_4_3, ie_4_5, ie_4_6, ie_4_7, ie_5_0, ie_5_1, ie_5_2, ie_5_3, ie_5_4, ie_5_6, ie_5_7, ie_6_0, ie_6_1, ie_6_2, ie_6_3, ie_6_4, ie_6_5, ie_6_7, ie_7_0, ie_7_1, ie_7_2, ie_7_3, ie_7_4, ie_7_5, ie_7_6, zt_50, zq, q1, l20, l22, qm]
      · have hk2 : X.1 11 2 = 2 := k2.trans hk
        rcases hact with rfl | rfl | rfl
        · have qc := q_doServe_2 (d := d + 37) (w := X) (y := y) (q := (0, w.1 12)) hk2 (by show 0 < _; decide)
          rw [← fid, k3, k4] at qc
          have le := sTS_le 2 (0, w.1 12)
          have le2 : (sTS 2 (0, w.1 12)).1 ≤ 0 + 10 := by
            have e : ((0, w.1 12) : Nat × (Nat → Int32)).1 = 0 := rfl
            omega
          have qm := m_serving_2 (d := d + 38) (w := sAcW X (sTS 2 (0, w.1 12))) (q := (0, w.1 79)) (y := y) (Ms _) (by omega) hk (by show 0 < _; decide)
          have hc : cal (d + 40) 5040 [.ref 0, .int (nI t), .int 0, .int y] w = some (some (.int (sVS 2 y (nI t) (w.1 2 (5 * t + 3)))), sAcW X (sTS 2 (0, w.1 12))) := by
            rw [into]
            simp only [c_5040, e_5040_0, e_5040_1, e_5040_4, e_5040_7, e_5040_8, e_5040_11, e_5040_12, e_5040_15, e_5040_18, e_5040_19, e_5040_20, e_5040_21, e_5040_24, e_5040_25, e_5040_28, e_5040_29, e_5040_30, e_5040_33, e_5040_34, e_5040_35, e_5040_38, e_5040_39, e_5040_40, e_5040_43, e_5040_46, e_5040_47, e_5040_72, e_5040_73, e_5040_76, e_5040_77, e_5040_80, e_5040_81, e_5040_82, e_5040_85, e_5040_86, e_5040_89, e_5040_90, e_5040_91, e_5040_94, e_5040_95, e_5040_98, e_5040_99, e_5040_100, zk_int, zk_ref, zk_null, zk_none, zk_long, zisR_r, zisR_n, zcl_int, zcl_ref, zcl_null, zpush_s, zpush_n, zbs, zbn, true_or, or_true, not_false_eq_true, not_true_eq_false, ↓reduceIte, and_self, and_true, true_and, ie_0_1, ie_0_2, ie_0_3, ie_0_4, ie_0_5, ie_0_6, ie_0_7, ie_1_0, ie_1_2, ie_1_3, ie_1_4, ie_1_5, ie_1_6, ie_1_7, ie_2_0, ie_2_1, ie_2_3, ie_2_4, ie_2_5, ie_2_6, ie_2_7, ie_3_0, ie_3_1, ie_3_2, ie_3_4, ie_3_5, ie_3_6, ie_3_7, ie_4_0, ie_4_1, ie_4_2, ie_4_3, ie_4_5, ie_4_6, ie_4_7, ie_5_0, ie_5_1, ie_5_2, ie_5_3, ie_5_4, ie_5_6, ie_5_7, ie_6_0, ie_6_1, ie_6_2, ie_6_3, ie_6_4, ie_6_5, ie_6_7, ie_7_0, ie_7_1, ie_7_2, ie_7_3, ie_7_4, ie_7_5, ie_7_6, zt_0, zr_0_2, zt_11, qc]
          refine ⟨_, _, mAc (sAcW X (sTS 2 (0, w.1 12))) (sTS 2 (0, w.1 79)), n, m, hc, ?_, Rx _ _ (sTS_r 2 (by decide) r0) (by omega)⟩
          simp only [c_6092, e_6092_0, e_6092_1, e_6092_2, e_6092_5, e_6092_6, e_6092_7, e_6092_10, e_6092_13, e_6092_14, e_6092_17, e_6092_18, e_6092_19, e_6092_22, e_6092_23, e_6092_24, e_6092_25, e_6092_28, e_6092_29, e_6092_30, e_6092_31, e_6092_34, e_6092_37, e_6092_38, e_6092_39, e_6092_42, e_6092_43, e_6092_44, e_6092_45, e_6092_48, e_6092_51, e_6092_52, e_6092_53, e_6092_54, e_6092_57, zk_int, zk_ref, zk_null, zk_none, zk_long, zisR_r, zisR_n, zcl_int, zcl_ref, zcl_null, zpush_s, zpush_n, zbs, zbn, true_or, or_true, not_false_eq_true, not_true_eq_false, ↓reduceIte, and_self, and_true, true_and, ie_0_1, ie_0_2, ie_0_3, ie_0_4, ie_0_5, ie_0_6, ie_0_7, ie_1_0, ie_1_2, ie_1_3, ie_1_4, ie_1_5, ie_1_6, ie_1_7, ie_2_0, ie_2_1, ie_2_3, ie_2_4, ie_2_5, ie_2_6, ie_2_7, ie_3_0, ie_3_1, ie_3_2, ie_3_4, ie_3_5, ie_3_6, ie_3_7, ie_4_0, ie_4_1, ie_4_2, ie_4_3, ie_4_5, ie_4_6, ie_4_7, ie_5_0, ie_5_1, ie_5_2, ie_5_3, ie_5_4, ie_5_6, ie_5_7, ie_6_0, ie_6_1, ie_6_2, ie_6_3, ie_6_4, ie_6_5, ie_6_7, ie_7_0, ie_7_1, ie_7_2, ie_7_3, ie_7_4, ie_7_5, ie_7_6, zt_50, zq, q1, l00, l02, qm]
        · have qc := q_doGive_2 (d := d + 36) (w := X) (y := y) (q := (0, w.1 12)) hk2 (by show 0 < _; decide)
          rw [← fid, k3, k4] at qc
          have le := sTG_le 2 (0, w.1 12)
          have le2 : (sTG 2 (0, w.1 12)).1 ≤ 0 + 10 := by
            have e : ((0, w.1 12) : Nat × (Nat → Int32)).1 = 0 := rfl
            omega
          have qm := m_giving_2 (d := d + 37) (w := sAcW X (sTG 2 (0, w.1 12))) (q := (0, w.1 79)) (y := y) (Ms _) (by omega) hk (by show 0 < _; decide)
          have hc : cal (d + 40) 5040 [.ref 0, .int (nI t), .int 1, .int y] w = some (some (.int (sVG 2 y (nI t) (w.1 2 (5 * t + 3)))), sAcW X (sTG 2 (0, w.1 12))) := by
            rw [into]
            simp only [c_5040, e_5040_0, e_5040_1, e_5040_4, e_5040_7, e_5040_8, e_5040_11, e_5040_12, e_5040_15, e_5040_18, e_5040_19, e_5040_20, e_5040_21, e_5040_24, e_5040_25, e_5040_28, e_5040_29, e_5040_30, e_5040_33, e_5040_34, e_5040_35, e_5040_38, e_5040_39, e_5040_40, e_5040_43, e_5040_46, e_5040_47, e_5040_72, e_5040_73, e_5040_76, e_5040_77, e_5040_80, e_5040_81, e_5040_82, e_5040_85, e_5040_86, e_5040_89, e_5040_90, e_5040_91, e_5040_94, e_5040_95, e_5040_98, e_5040_99, e_5040_100, zk_int, zk_ref, zk_null, zk_none, zk_long, zisR_r, zisR_n, zcl_int, zcl_ref, zcl_null, zpush_s, zpush_n, zbs, zbn, true_or, or_true, not_false_eq_true, not_true_eq_false, ↓reduceIte, and_self, and_true, true_and, ie_0_1, ie_0_2, ie_0_3, ie_0_4, ie_0_5, ie_0_6, ie_0_7, ie_1_0, ie_1_2, ie_1_3, ie_1_4, ie_1_5, ie_1_6, ie_1_7, ie_2_0, ie_2_1, ie_2_3, ie_2_4, ie_2_5, ie_2_6, ie_2_7, ie_3_0, ie_3_1, ie_3_2, ie_3_4, ie_3_5, ie_3_6, ie_3_7, ie_4_0, ie_4_1, ie_4_2, ie_4_3, ie_4_5, ie_4_6, ie_4_7, ie_5_0, ie_5_1, ie_5_2, ie_5_3, ie_5_4, ie_5_6, ie_5_7, ie_6_0, ie_6_1, ie_6_2, ie_6_3, ie_6_4, ie_6_5, ie_6_7, ie_7_0, ie_7_1, ie_7_2, ie_7_3, ie_7_4, ie_7_5, ie_7_6, zt_0, zr_0_2, zt_11, qc]
          refine ⟨_, _, mAc (sAcW X (sTG 2 (0, w.1 12))) (sTG 2 (0, w.1 79)), n, m, hc, ?_, Rx _ _ (sTG_r 2 (by decide) r0) (by omega)⟩
          simp only [c_6092, e_6092_0, e_6092_1, e_6092_2, e_6092_5, e_6092_6, e_6092_7, e_6092_10, e_6092_13, e_6092_14, e_6092_17, e_6092_18, e_6092_19, e_6092_22, e_6092_23, e_6092_24, e_6092_25, e_6092_28, e_6092_29, e_6092_30, e_6092_31, e_6092_34, e_6092_37, e_6092_38, e_6092_39, e_6092_42, e_6092_43, e_6092_44, e_6092_45, e_6092_48, e_6092_51, e_6092_52, e_6092_53, e_6092_54, e_6092_57, zk_int, zk_ref, zk_null, zk_none, zk_long, zisR_r, zisR_n, zcl_int, zcl_ref, zcl_null, zpush_s, zpush_n, zbs, zbn, true_or, or_true, not_false_eq_true, not_true_eq_false, ↓reduceIte, and_self, and_true, true_and, ie_0_1, ie_0_2, ie_0_3, ie_0_4, ie_0_5, ie_0_6, ie_0_7, ie_1_0, ie_1_2, ie_1_3, ie_1_4, ie_1_5, ie_1_6, ie_1_7, ie_2_0, ie_2_1, ie_2_3, ie_2_4, ie_2_5, ie_2_6, ie_2_7, ie_3_0, ie_3_1, ie_3_2, ie_3_4, ie_3_5, ie_3_6, ie_3_7, ie_4_0, ie_4_1, ie_4_2, ie_4_3, ie_4_5, ie_4_6, ie_4_7, ie_5_0, ie_5_1, ie_5_2, ie_5_3, ie_5_4, ie_5_6, ie_5_7, ie_6_0, ie_6_1, ie_6_2, ie_6_3, ie_6_4, ie_6_5, ie_6_7, ie_7_0, ie_7_1, ie_7_2, ie_7_3, ie_7_4, ie_7_5, ie_7_6, zt_50, zq, q1, l10, l12, qm]
        · have qc := q_doStay_2 (d := d + 35) (w := X) (y := y) (q := (0, w.1 12)) hk2 (by show 0 < _; decide)
          rw [← fid, k3, k4] at qc
          have le := sTY_le 2 (0, w.1 12) (by decide)
          have le2 : (sTY 2 (0, w.1 12)).1 ≤ 0 + 10 := by
            have e : ((0, w.1 12) : Nat × (Nat → Int32)).1 = 0 := rfl
            omega
          have qm := m_staying_2 (d := d + 36) (w := sAcW X (sTY 2 (0, w.1 12))) (q := (0, w.1 79)) (y := y) (Ms _) (by omega) hk (by show 0 < _; decide)
          have hc : cal (d + 40) 5040 [.ref 0, .int (nI t), .int 2, .int y] w = some (some (.int (sVY 2 y (nI t) (w.1 2 (5 * t + 3)))), sAcW X (sTY 2 (0, w.1 12))) := by
            rw [into]
            simp only [c_5040, e_5040_0, e_5040_1, e_5040_4, e_5040_7, e_5040_8, e_5040_11, e_5040_12, e_5040_15, e_5040_18, e_5040_19, e_5040_20, e_5040_21, e_5040_24, e_5040_25, e_5040_28, e_5040_29, e_5040_30, e_5040_33, e_5040_34, e_5040_35, e_5040_38, e_5040_39, e_5040_40, e_5040_43, e_5040_46, e_5040_47, e_5040_72, e_5040_73, e_5040_76, e_5040_77, e_5040_80, e_5040_81, e_5040_82, e_5040_85, e_5040_86, e_5040_89, e_5040_90, e_5040_91, e_5040_94, e_5040_95, e_5040_98, e_5040_99, e_5040_100, zk_int, zk_ref, zk_null, zk_none, zk_long, zisR_r, zisR_n, zcl_int, zcl_ref, zcl_null, zpush_s, zpush_n, zbs, zbn, true_or, or_true, not_false_eq_true, not_true_eq_false, ↓reduceIte, and_self, and_true, true_and, ie_0_1, ie_0_2, ie_0_3, ie_0_4, ie_0_5, ie_0_6, ie_0_7, ie_1_0, ie_1_2, ie_1_3, ie_1_4, ie_1_5, ie_1_6, ie_1_7, ie_2_0, ie_2_1, ie_2_3, ie_2_4, ie_2_5, ie_2_6, ie_2_7, ie_3_0, ie_3_1, ie_3_2, ie_3_4, ie_3_5, ie_3_6, ie_3_7, ie_4_0, ie_4_1, ie_4_2, ie_4_3, ie_4_5, ie_4_6, ie_4_7, ie_5_0, ie_5_1, ie_5_2, ie_5_3, ie_5_4, ie_5_6, ie_5_7, ie_6_0, ie_6_1, ie_6_2, ie_6_3, ie_6_4, ie_6_5, ie_6_7, ie_7_0, ie_7_1, ie_7_2, ie_7_3, ie_7_4, ie_7_5, ie_7_6, zt_0, zr_0_2, zt_11, qc]
          refine ⟨_, _, mAc (sAcW X (sTY 2 (0, w.1 12))) (sTY 2 (0, w.1 79)), n, m, hc, ?_, Rx _ _ (sTY_r 2 (by decide) r0) (by omega)⟩
          simp only [c_6092, e_6092_0, e_6092_1, e_6092_2, e_6092_5, e_6092_6, e_6092_7, e_6092_10, e_6092_13, e_6092_14, e_6092_17, e_6092_18, e_6092_19, e_6092_22, e_6092_23, e_6092_24, e_6092_25, e_6092_28, e_6092_29, e_6092_30, e_6092_31, e_6092_34, e_6092_37, e_6092_38, e_6092_39, e_6092_42, e_6092_43, e_6092_44, e_6092_45, e_6092_48, e_6092_51, e_6092_52, e_6092_53, e_6092_54, e_6092_57, zk_int, zk_ref, zk_null, zk_none, zk_long, zisR_r, zisR_n, zcl_int, zcl_ref, zcl_null, zpush_s, zpush_n, zbs, zbn, true_or, or_true, not_false_eq_true, not_true_eq_false, ↓reduceIte, and_self, and_true, true_and, ie_0_1, ie_0_2, ie_0_3, ie_0_4, ie_0_5, ie_0_6, ie_0_7, ie_1_0, ie_1_2, ie_1_3, ie_1_4, ie_1_5, ie_1_6, ie_1_7, ie_2_0, ie_2_1, ie_2_3, ie_2_4, ie_2_5, ie_2_6, ie_2_7, ie_3_0, ie_3_1, ie_3_2, ie_3_4, ie_3_5, ie_3_6, ie_3_7, ie_4_0, ie_4_1, ie_4_2, ie_4_3, ie_4_5, ie_4_6, ie_4_7, ie_5_0, ie_5_1, ie_5_2, ie_5_3, ie_5_4, ie_5_6, ie_5_7, ie_6_0, ie_6_1, ie_6_2, ie_6_3, ie_6_4, ie_6_5, ie_6_7, ie_7_0, ie_7_1, ie_7_2, ie_7_3, ie_7_4, ie_7_5, ie_7_6, zt_50, zq, q1, l20, l22, qm]
      · have hk2 : X.1 11 2 = 3 := k2.trans hk
        rcases hact with rfl | rfl | rfl
        · have qc := q_doServe_3 (d := d + 37) (w := X) (y := y) (q := (0, w.1 12)) hk2 (by show 0 < _; decide)
          rw [← fid, k3, k4] at qc
          have le := sTS_le 3 (0, w.1 12)
          have le2 : (sTS 3 (0, w.1 12)).1 ≤ 0 + 10 := by
            have e : ((0, w.1 12) : Nat × (Nat → Int32)).1 = 0 := rfl
            omega
          have qm := m_serving_3 (d := d + 38) (w := sAcW X (sTS 3 (0, w.1 12))) (q := (0, w.1 79)) (y := y) (Ms _) (by omega) hk (by show 0 < _; decide)
          have hc : cal (d + 40) 5040 [.ref 0, .int (nI t), .int 0, .int y] w = some (some (.int (sVS 3 y (nI t) (w.1 2 (5 * t + 3)))), sAcW X (sTS 3 (0, w.1 12))) := by
            rw [into]
            simp only [c_5040, e_5040_0, e_5040_1, e_5040_4, e_5040_7, e_5040_8, e_5040_11, e_5040_12, e_5040_15, e_5040_18, e_5040_19, e_5040_20, e_5040_21, e_5040_24, e_5040_25, e_5040_28, e_5040_29, e_5040_30, e_5040_33, e_5040_34, e_5040_35, e_5040_38, e_5040_39, e_5040_40, e_5040_43, e_5040_46, e_5040_47, e_5040_72, e_5040_73, e_5040_76, e_5040_77, e_5040_80, e_5040_81, e_5040_82, e_5040_85, e_5040_86, e_5040_89, e_5040_90, e_5040_91, e_5040_94, e_5040_95, e_5040_98, e_5040_99, e_5040_100, zk_int, zk_ref, zk_null, zk_none, zk_long, zisR_r, zisR_n, zcl_int, zcl_ref, zcl_null, zpush_s, zpush_n, zbs, zbn, true_or, or_true, not_false_eq_true, not_true_eq_false, ↓reduceIte, and_self, and_true, true_and, ie_0_1, ie_0_2, ie_0_3, ie_0_4, ie_0_5, ie_0_6, ie_0_7, ie_1_0, ie_1_2, ie_1_3, ie_1_4, ie_1_5, ie_1_6, ie_1_7, ie_2_0, ie_2_1, ie_2_3, ie_2_4, ie_2_5, ie_2_6, ie_2_7, ie_3_0, ie_3_1, ie_3_2, ie_3_4, ie_3_5, ie_3_6, ie_3_7, ie_4_0, ie_4_1, ie_4_2, ie_4_3, ie_4_5, ie_4_6, ie_4_7, ie_5_0, ie_5_1, ie_5_2, ie_5_3, ie_5_4, ie_5_6, ie_5_7, ie_6_0, ie_6_1, ie_6_2, ie_6_3, ie_6_4, ie_6_5, ie_6_7, ie_7_0, ie_7_1, ie_7_2, ie_7_3, ie_7_4, ie_7_5, ie_7_6, zt_0, zr_0_2, zt_11, qc]
          refine ⟨_, _, mAc (sAcW X (sTS 3 (0, w.1 12))) (sTS 3 (0, w.1 79)), n, m, hc, ?_, Rx _ _ (sTS_r 3 (by decide) r0) (by omega)⟩
          simp only [c_6092, e_6092_0, e_6092_1, e_6092_2, e_6092_5, e_6092_6, e_6092_7, e_6092_10, e_6092_13, e_6092_14, e_6092_17, e_6092_18, e_6092_19, e_6092_22, e_6092_23, e_6092_24, e_6092_25, e_6092_28, e_6092_29, e_6092_30, e_6092_31, e_6092_34, e_6092_37, e_6092_38, e_6092_39, e_6092_42, e_6092_43, e_6092_44, e_6092_45, e_6092_48, e_6092_51, e_6092_52, e_6092_53, e_6092_54, e_6092_57, zk_int, zk_ref, zk_null, zk_none, zk_long, zisR_r, zisR_n, zcl_int, zcl_ref, zcl_null, zpush_s, zpush_n, zbs, zbn, true_or, or_true, not_false_eq_true, not_true_eq_false, ↓reduceIte, and_self, and_true, true_and, ie_0_1, ie_0_2, ie_0_3, ie_0_4, ie_0_5, ie_0_6, ie_0_7, ie_1_0, ie_1_2, ie_1_3, ie_1_4, ie_1_5, ie_1_6, ie_1_7, ie_2_0, ie_2_1, ie_2_3, ie_2_4, ie_2_5, ie_2_6, ie_2_7, ie_3_0, ie_3_1, ie_3_2, ie_3_4, ie_3_5, ie_3_6, ie_3_7, ie_4_0, ie_4_1, ie_4_2, ie_4_3, ie_4_5, ie_4_6, ie_4_7, ie_5_0, ie_5_1, ie_5_2, ie_5_3, ie_5_4, ie_5_6, ie_5_7, ie_6_0, ie_6_1, ie_6_2, ie_6_3, ie_6_4, ie_6_5, ie_6_7, ie_7_0, ie_7_1, ie_7_2, ie_7_3, ie_7_4, ie_7_5, ie_7_6, zt_50, zq, q1, l00, l02, qm]
        · have qc := q_doGive_3 (d := d + 36) (w := X) (y := y) (q := (0, w.1 12)) hk2 (by show 0 < _; decide)
          rw [← fid, k3, k4] at qc
          have le := sTG_le 3 (0, w.1 12)
          have le2 : (sTG 3 (0, w.1 12)).1 ≤ 0 + 10 := by
            have e : ((0, w.1 12) : Nat × (Nat → Int32)).1 = 0 := rfl
            omega
          have qm := m_giving_3 (d := d + 37) (w := sAcW X (sTG 3 (0, w.1 12))) (q := (0, w.1 79)) (y := y) (Ms _) (by omega) hk (by show 0 < _; decide)
          have hc : cal (d + 40) 5040 [.ref 0, .int (nI t), .int 1, .int y] w = some (some (.int (sVG 3 y (nI t) (w.1 2 (5 * t + 3)))), sAcW X (sTG 3 (0, w.1 12))) := by
            rw [into]
            simp only [c_5040, e_5040_0, e_5040_1, e_5040_4, e_5040_7, e_5040_8, e_5040_11, e_5040_12, e_5040_15, e_5040_18, e_5040_19, e_5040_20, e_5040_21, e_5040_24, e_5040_25, e_5040_28, e_5040_29, e_5040_30, e_5040_33, e_5040_34, e_5040_35, e_5040_38, e_5040_39, e_5040_40, e_5040_43, e_5040_46, e_5040_47, e_5040_72, e_5040_73, e_5040_76, e_5040_77, e_5040_80, e_5040_81, e_5040_82, e_5040_85, e_5040_86, e_5040_89, e_5040_90, e_5040_91, e_5040_94, e_5040_95, e_5040_98, e_5040_99, e_5040_100, zk_int, zk_ref, zk_null, zk_none, zk_long, zisR_r, zisR_n, zcl_int, zcl_ref, zcl_null, zpush_s, zpush_n, zbs, zbn, true_or, or_true, not_false_eq_true, not_true_eq_false, ↓reduceIte, and_self, and_true, true_and, ie_0_1, ie_0_2, ie_0_3, ie_0_4, ie_0_5, ie_0_6, ie_0_7, ie_1_0, ie_1_2, ie_1_3, ie_1_4, ie_1_5, ie_1_6, ie_1_7, ie_2_0, ie_2_1, ie_2_3, ie_2_4, ie_2_5, ie_2_6, ie_2_7, ie_3_0, ie_3_1, ie_3_2, ie_3_4, ie_3_5, ie_3_6, ie_3_7, ie_4_0, ie_4_1, ie_4_2, ie_4_3, ie_4_5, ie_4_6, ie_4_7, ie_5_0, ie_5_1, ie_5_2, ie_5_3, ie_5_4, ie_5_6, ie_5_7, ie_6_0, ie_6_1, ie_6_2, ie_6_3, ie_6_4, ie_6_5, ie_6_7, ie_7_0, ie_7_1, ie_7_2, ie_7_3, ie_7_4, ie_7_5, ie_7_6, zt_0, zr_0_2, zt_11, qc]
          refine ⟨_, _, mAc (sAcW X (sTG 3 (0, w.1 12))) (sTG 3 (0, w.1 79)), n, m, hc, ?_, Rx _ _ (sTG_r 3 (by decide) r0) (by omega)⟩
          simp only [c_6092, e_6092_0, e_6092_1, e_6092_2, e_6092_5, e_6092_6, e_6092_7, e_6092_10, e_6092_13, e_6092_14, e_6092_17, e_6092_18, e_6092_19, e_6092_22, e_6092_23, e_6092_24, e_6092_25, e_6092_28, e_6092_29, e_6092_30, e_6092_31, e_6092_34, e_6092_37, e_6092_38, e_6092_39, e_6092_42, e_6092_43, e_6092_44, e_6092_45, e_6092_48, e_6092_51, e_6092_52, e_6092_53, e_6092_54, e_6092_57, zk_int, zk_ref, zk_null, zk_none, zk_long, zisR_r, zisR_n, zcl_int, zcl_ref, zcl_null, zpush_s, zpush_n, zbs, zbn, true_or, or_true, not_false_eq_true, not_true_eq_false, ↓reduceIte, and_self, and_true, true_and, ie_0_1, ie_0_2, ie_0_3, ie_0_4, ie_0_5, ie_0_6, ie_0_7, ie_1_0, ie_1_2, ie_1_3, ie_1_4, ie_1_5, ie_1_6, ie_1_7, ie_2_0, ie_2_1, ie_2_3, ie_2_4, ie_2_5, ie_2_6, ie_2_7, ie_3_0, ie_3_1, ie_3_2, ie_3_4, ie_3_5, ie_3_6, ie_3_7, ie_4_0, ie_4_1, ie_4_2, ie_4_3, ie_4_5, ie_4_6, ie_4_7, ie_5_0, ie_5_1, ie_5_2, ie_5_3, ie_5_4, ie_5_6, ie_5_7, ie_6_0, ie_6_1, ie_6_2, ie_6_3, ie_6_4, ie_6_5, ie_6_7, ie_7_0, ie_7_1, ie_7_2, ie_7_3, ie_7_4, ie_7_5, ie_7_6, zt_50, zq, q1, l10, l12, qm]
        · have qc := q_doStay_3 (d := d + 35) (w := X) (y := y) (q := (0, w.1 12)) hk2 (by show 0 < _; decide)
          rw [← fid, k3, k4] at qc
          have le := sTY_le 3 (0, w.1 12) (by decide)
          have le2 : (sTY 3 (0, w.1 12)).1 ≤ 0 + 10 := by
            have e : ((0, w.1 12) : Nat × (Nat → Int32)).1 = 0 := rfl
            omega
          have qm := m_staying_3 (d := d + 36) (w := sAcW X (sTY 3 (0, w.1 12))) (q := (0, w.1 79)) (y := y) (Ms _) (by omega) hk (by show 0 < _; decide)
          have hc : cal (d + 40) 5040 [.ref 0, .int (nI t), .int 2, .int y] w = some (some (.int (sVY 3 y (nI t) (w.1 2 (5 * t + 3)))), sAcW X (sTY 3 (0, w.1 12))) := by
            rw [into]
            simp only [c_5040, e_5040_0, e_5040_1, e_5040_4, e_5040_7, e_5040_8, e_5040_11, e_5040_12, e_5040_15, e_5040_18, e_5040_19, e_5040_20, e_5040_21, e_5040_24, e_5040_25, e_5040_28, e_5040_29, e_5040_30, e_5040_33, e_5040_34, e_5040_35, e_5040_38, e_5040_39, e_5040_40, e_5040_43, e_5040_46, e_5040_47, e_5040_72, e_5040_73, e_5040_76, e_5040_77, e_5040_80, e_5040_81, e_5040_82, e_5040_85, e_5040_86, e_5040_89, e_5040_90, e_5040_91, e_5040_94, e_5040_95, e_5040_98, e_5040_99, e_5040_100, zk_int, zk_ref, zk_null, zk_none, zk_long, zisR_r, zisR_n, zcl_int, zcl_ref, zcl_null, zpush_s, zpush_n, zbs, zbn, true_or, or_true, not_false_eq_true, not_true_eq_false, ↓reduceIte, and_self, and_true, true_and, ie_0_1, ie_0_2, ie_0_3, ie_0_4, ie_0_5, ie_0_6, ie_0_7, ie_1_0, ie_1_2, ie_1_3, ie_1_4, ie_1_5, ie_1_6, ie_1_7, ie_2_0, ie_2_1, ie_2_3, ie_2_4, ie_2_5, ie_2_6, ie_2_7, ie_3_0, ie_3_1, ie_3_2, ie_3_4, ie_3_5, ie_3_6, ie_3_7, ie_4_0, ie_4_1, ie_4_2, ie_4_3, ie_4_5, ie_4_6, ie_4_7, ie_5_0, ie_5_1, ie_5_2, ie_5_3, ie_5_4, ie_5_6, ie_5_7, ie_6_0, ie_6_1, ie_6_2, ie_6_3, ie_6_4, ie_6_5, ie_6_7, ie_7_0, ie_7_1, ie_7_2, ie_7_3, ie_7_4, ie_7_5, ie_7_6, zt_0, zr_0_2, zt_11, qc]
          refine ⟨_, _, mAc (sAcW X (sTY 3 (0, w.1 12))) (sTY 3 (0, w.1 79)), n, m, hc, ?_, Rx _ _ (sTY_r 3 (by decide) r0) (by omega)⟩
          simp only [c_6092, e_6092_0, e_6092_1, e_6092_2, e_6092_5, e_6092_6, e_6092_7, e_6092_10, e_6092_13, e_6092_14, e_6092_17, e_6092_18, e_6092_19, e_6092_22, e_6092_23, e_6092_24, e_6092_25, e_6092_28, e_6092_29, e_6092_30, e_6092_31, e_6092_34, e_6092_37, e_6092_38, e_6092_39, e_6092_42, e_6092_43, e_6092_44, e_6092_45, e_6092_48, e_6092_51, e_6092_52, e_6092_53, e_6092_54, e_6092_57, zk_int, zk_ref, zk_null, zk_none, zk_long, zisR_r, zisR_n, zcl_int, zcl_ref, zcl_null, zpush_s, zpush_n, zbs, zbn, true_or, or_true, not_false_eq_true, not_true_eq_false, ↓reduceIte, and_self, and_true, true_and, ie_0_1, ie_0_2, ie_0_3, ie_0_4, ie_0_5, ie_0_6, ie_0_7, ie_1_0, ie_1_2, ie_1_3, ie_1_4, ie_1_5, ie_1_6, ie_1_7, ie_2_0, ie_2_1, ie_2_3, ie_2_4, ie_2_5, ie_2_6, ie_2_7, ie_3_0, ie_3_1, ie_3_2, ie_3_4, ie_3_5, ie_3_6, ie_3_7, ie_4_0, ie_4_1, ie_4_2, ie_4_3, ie_4_5, ie_4_6, ie_4_7, ie_5_0, ie_5_1, ie_5_2, ie_5_3, ie_5_4, ie_5_6, ie_5_7, ie_6_0, ie_6_1, ie_6_2, ie_6_3, ie_6_4, ie_6_5, ie_6_7, ie_7_0, ie_7_1, ie_7_2, ie_7_3, ie_7_4, ie_7_5, ie_7_6, zt_50, zq, q1, l20, l22, qm]
      · have hk2 : X.1 11 2 = 4 := k2.trans hk
        rcases hact with rfl | rfl | rfl
        · have qc := q_doServe_4 (d := d + 37) (w := X) (y := y) (q := (0, w.1 12)) hk2 (by show 0 < _; decide)
          rw [← fid, k3, k4] at qc
          have le := sTS_le 4 (0, w.1 12)
          have le2 : (sTS 4 (0, w.1 12)).1 ≤ 0 + 10 := by
            have e : ((0, w.1 12) : Nat × (Nat → Int32)).1 = 0 := rfl
            omega
          have qm := m_serving_4 (d := d + 38) (w := sAcW X (sTS 4 (0, w.1 12))) (q := (0, w.1 79)) (y := y) (Ms _) (by omega) hk (by show 0 < _; decide)
          have hc : cal (d + 40) 5040 [.ref 0, .int (nI t), .int 0, .int y] w = some (some (.int (sVS 4 y (nI t) (w.1 2 (5 * t + 3)))), sAcW X (sTS 4 (0, w.1 12))) := by
            rw [into]
            simp only [c_5040, e_5040_0, e_5040_1, e_5040_4, e_5040_7, e_5040_8, e_5040_11, e_5040_12, e_5040_15, e_5040_18, e_5040_19, e_5040_20, e_5040_21, e_5040_24, e_5040_25, e_5040_28, e_5040_29, e_5040_30, e_5040_33, e_5040_34, e_5040_35, e_5040_38, e_5040_39, e_5040_40, e_5040_43, e_5040_46, e_5040_47, e_5040_72, e_5040_73, e_5040_76, e_5040_77, e_5040_80, e_5040_81, e_5040_82, e_5040_85, e_5040_86, e_5040_89, e_5040_90, e_5040_91, e_5040_94, e_5040_95, e_5040_98, e_5040_99, e_5040_100, zk_int, zk_ref, zk_null, zk_none, zk_long, zisR_r, zisR_n, zcl_int, zcl_ref, zcl_null, zpush_s, zpush_n, zbs, zbn, true_or, or_true, not_false_eq_true, not_true_eq_false, ↓reduceIte, and_self, and_true, true_and, ie_0_1, ie_0_2, ie_0_3, ie_0_4, ie_0_5, ie_0_6, ie_0_7, ie_1_0, ie_1_2, ie_1_3, ie_1_4, ie_1_5, ie_1_6, ie_1_7, ie_2_0, ie_2_1, ie_2_3, ie_2_4, ie_2_5, ie_2_6, ie_2_7, ie_3_0, ie_3_1, ie_3_2, ie_3_4, ie_3_5, ie_3_6, ie_3_7, ie_4_0, ie_4_1, ie_4_2, ie_4_3, ie_4_5, ie_4_6, ie_4_7, ie_5_0, ie_5_1, ie_5_2, ie_5_3, ie_5_4, ie_5_6, ie_5_7, ie_6_0, ie_6_1, ie_6_2, ie_6_3, ie_6_4, ie_6_5, ie_6_7, ie_7_0, ie_7_1, ie_7_2, ie_7_3, ie_7_4, ie_7_5, ie_7_6, zt_0, zr_0_2, zt_11, qc]
          refine ⟨_, _, mAc (sAcW X (sTS 4 (0, w.1 12))) (sTS 4 (0, w.1 79)), n, m, hc, ?_, Rx _ _ (sTS_r 4 (by decide) r0) (by omega)⟩
          simp only [c_6092, e_6092_0, e_6092_1, e_6092_2, e_6092_5, e_6092_6, e_6092_7, e_6092_10, e_6092_13, e_6092_14, e_6092_17, e_6092_18, e_6092_19, e_6092_22, e_6092_23, e_6092_24, e_6092_25, e_6092_28, e_6092_29, e_6092_30, e_6092_31, e_6092_34, e_6092_37, e_6092_38, e_6092_39, e_6092_42, e_6092_43, e_6092_44, e_6092_45, e_6092_48, e_6092_51, e_6092_52, e_6092_53, e_6092_54, e_6092_57, zk_int, zk_ref, zk_null, zk_none, zk_long, zisR_r, zisR_n, zcl_int, zcl_ref, zcl_null, zpush_s, zpush_n, zbs, zbn, true_or, or_true, not_false_eq_true, not_true_eq_false, ↓reduceIte, and_self, and_true, true_and, ie_0_1, ie_0_2, ie_0_3, ie_0_4, ie_0_5, ie_0_6, ie_0_7, ie_1_0, ie_1_2, ie_1_3, ie_1_4, ie_1_5, ie_1_6, ie_1_7, ie_2_0, ie_2_1, ie_2_3, ie_2_4, ie_2_5, ie_2_6, ie_2_7, ie_3_0, ie_3_1, ie_3_2, ie_3_4, ie_3_5, ie_3_6, ie_3_7, ie_4_0, ie_4_1, ie_4_2, ie_4_3, ie_4_5, ie_4_6, ie_4_7, ie_5_0, ie_5_1, ie_5_2, ie_5_3, ie_5_4, ie_5_6, ie_5_7, ie_6_0, ie_6_1, ie_6_2, ie_6_3, ie_6_4, ie_6_5, ie_6_7, ie_7_0, ie_7_1, ie_7_2, ie_7_3, ie_7_4, ie_7_5, ie_7_6, zt_50, zq, q1, l00, l02, qm]
        · have qc := q_doGive_4 (d := d + 36) (w := X) (y := y) (q := (0, w.1 12)) hk2 (by show 0 < _; decide)
          rw [← fid, k3, k4] at qc
          have le := sTG_le 4 (0, w.1 12)
          have le2 : (sTG 4 (0, w.1 12)).1 ≤ 0 + 10 := by
            have e : ((0, w.1 12) : Nat × (Nat → Int32)).1 = 0 := rfl
            omega
          have qm := m_giving_4 (d := d + 37) (w := sAcW X (sTG 4 (0, w.1 12))) (q := (0, w.1 79)) (y := y) (Ms _) (by omega) hk (by show 0 < _; decide)
          have hc : cal (d + 40) 5040 [.ref 0, .int (nI t), .int 1, .int y] w = some (some (.int (sVG 4 y (nI t) (w.1 2 (5 * t + 3)))), sAcW X (sTG 4 (0, w.1 12))) := by
            rw [into]
            simp only [c_5040, e_5040_0, e_5040_1, e_5040_4, e_5040_7, e_5040_8, e_5040_11, e_5040_12, e_5040_15, e_5040_18, e_5040_19, e_5040_20, e_5040_21, e_5040_24, e_5040_25, e_5040_28, e_5040_29, e_5040_30, e_5040_33, e_5040_34, e_5040_35, e_5040_38, e_5040_39, e_5040_40, e_5040_43, e_5040_46, e_5040_47, e_5040_72, e_5040_73, e_5040_76, e_5040_77, e_5040_80, e_5040_81, e_5040_82, e_5040_85, e_5040_86, e_5040_89, e_5040_90, e_5040_91, e_5040_94, e_5040_95, e_5040_98, e_5040_99, e_5040_100, zk_int, zk_ref, zk_null, zk_none, zk_long, zisR_r, zisR_n, zcl_int, zcl_ref, zcl_null, zpush_s, zpush_n, zbs, zbn, true_or, or_true, not_false_eq_true, not_true_eq_false, ↓reduceIte, and_self, and_true, true_and, ie_0_1, ie_0_2, ie_0_3, ie_0_4, ie_0_5, ie_0_6, ie_0_7, ie_1_0, ie_1_2, ie_1_3, ie_1_4, ie_1_5, ie_1_6, ie_1_7, ie_2_0, ie_2_1, ie_2_3, ie_2_4, ie_2_5, ie_2_6, ie_2_7, ie_3_0, ie_3_1, ie_3_2, ie_3_4, ie_3_5, ie_3_6, ie_3_7, ie_4_0, ie_4_1, ie_4_2, ie_4_3, ie_4_5, ie_4_6, ie_4_7, ie_5_0, ie_5_1, ie_5_2, ie_5_3, ie_5_4, ie_5_6, ie_5_7, ie_6_0, ie_6_1, ie_6_2, ie_6_3, ie_6_4, ie_6_5, ie_6_7, ie_7_0, ie_7_1, ie_7_2, ie_7_3, ie_7_4, ie_7_5, ie_7_6, zt_0, zr_0_2, zt_11, qc]
          refine ⟨_, _, mAc (sAcW X (sTG 4 (0, w.1 12))) (sTG 4 (0, w.1 79)), n, m, hc, ?_, Rx _ _ (sTG_r 4 (by decide) r0) (by omega)⟩
          simp only [c_6092, e_6092_0, e_6092_1, e_6092_2, e_6092_5, e_6092_6, e_6092_7, e_6092_10, e_6092_13, e_6092_14, e_6092_17, e_6092_18, e_6092_19, e_6092_22, e_6092_23, e_6092_24, e_6092_25, e_6092_28, e_6092_29, e_6092_30, e_6092_31, e_6092_34, e_6092_37, e_6092_38, e_6092_39, e_6092_42, e_6092_43, e_6092_44, e_6092_45, e_6092_48, e_6092_51, e_6092_52, e_6092_53, e_6092_54, e_6092_57, zk_int, zk_ref, zk_null, zk_none, zk_long, zisR_r, zisR_n, zcl_int, zcl_ref, zcl_null, zpush_s, zpush_n, zbs, zbn, true_or, or_true, not_false_eq_true, not_true_eq_false, ↓reduceIte, and_self, and_true, true_and, ie_0_1, ie_0_2, ie_0_3, ie_0_4, ie_0_5, ie_0_6, ie_0_7, ie_1_0, ie_1_2, ie_1_3, ie_1_4, ie_1_5, ie_1_6, ie_1_7, ie_2_0, ie_2_1, ie_2_3, ie_2_4, ie_2_5, ie_2_6, ie_2_7, ie_3_0, ie_3_1, ie_3_2, ie_3_4, ie_3_5, ie_3_6, ie_3_7, ie_4_0, ie_4_1, ie_4_2, ie_4_3, ie_4_5, ie_4_6, ie_4_7, ie_5_0, ie_5_1, ie_5_2, ie_5_3, ie_5_4, ie_5_6, ie_5_7, ie_6_0, ie_6_1, ie_6_2, ie_6_3, ie_6_4, ie_6_5, ie_6_7, ie_7_0, ie_7_1, ie_7_2, ie_7_3, ie_7_4, ie_7_5, ie_7_6, zt_50, zq, q1, l10, l12, qm]
        · have qc := q_doStay_4 (d := d + 35) (w := X) (y := y) (q := (0, w.1 12)) hk2 (by show 0 < _; decide)
          rw [← fid, k3, k4] at qc
          have le := sTY_le 4 (0, w.1 12) (by decide)
          have le2 : (sTY 4 (0, w.1 12)).1 ≤ 0 + 10 := by
            have e : ((0, w.1 12) : Nat × (Nat → Int32)).1 = 0 := rfl
            omega
          have qm := m_staying_4 (d := d + 36) (w := sAcW X (sTY 4 (0, w.1 12))) (q := (0, w.1 79)) (y := y) (Ms _) (by omega) hk (by show 0 < _; decide)
          have hc : cal (d + 40) 5040 [.ref 0, .int (nI t), .int 2, .int y] w = some (some (.int (sVY 4 y (nI t) (w.1 2 (5 * t + 3)))), sAcW X (sTY 4 (0, w.1 12))) := by
            rw [into]
            simp only [c_5040, e_5040_0, e_5040_1, e_5040_4, e_5040_7, e_5040_8, e_5040_11, e_5040_12, e_5040_15, e_5040_18, e_5040_19, e_5040_20, e_5040_21, e_5040_24, e_5040_25, e_5040_28, e_5040_29, e_5040_30, e_5040_33, e_5040_34, e_5040_35, e_5040_38, e_5040_39, e_5040_40, e_5040_43, e_5040_46, e_5040_47, e_5040_72, e_5040_73, e_5040_76, e_5040_77, e_5040_80, e_5040_81, e_5040_82, e_5040_85, e_5040_86, e_5040_89, e_5040_90, e_5040_91, e_5040_94, e_5040_95, e_5040_98, e_5040_99, e_5040_100, zk_int, zk_ref, zk_null, zk_none, zk_long, zisR_r, zisR_n, zcl_int, zcl_ref, zcl_null, zpush_s, zpush_n, zbs, zbn, true_or, or_true, not_false_eq_true, not_true_eq_false, ↓reduceIte, and_self, and_true, true_and, ie_0_1, ie_0_2, ie_0_3, ie_0_4, ie_0_5, ie_0_6, ie_0_7, ie_1_0, ie_1_2, ie_1_3, ie_1_4, ie_1_5, ie_1_6, ie_1_7, ie_2_0, ie_2_1, ie_2_3, ie_2_4, ie_2_5, ie_2_6, ie_2_7, ie_3_0, ie_3_1, ie_3_2, ie_3_4, ie_3_5, ie_3_6, ie_3_7, ie_4_0, ie_4_1, ie_4_2, ie_4_3, ie_4_5, ie_4_6, ie_4_7, ie_5_0, ie_5_1, ie_5_2, ie_5_3, ie_5_4, ie_5_6, ie_5_7, ie_6_0, ie_6_1, ie_6_2, ie_6_3, ie_6_4, ie_6_5, ie_6_7, ie_7_0, ie_7_1, ie_7_2, ie_7_3, ie_7_4, ie_7_5, ie_7_6, zt_0, zr_0_2, zt_11, qc]
          refine ⟨_, _, mAc (sAcW X (sTY 4 (0, w.1 12))) (sTY 4 (0, w.1 79)), n, m, hc, ?_, Rx _ _ (sTY_r 4 (by decide) r0) (by omega)⟩
          simp only [c_6092, e_6092_0, e_6092_1, e_6092_2, e_6092_5, e_6092_6, e_6092_7, e_6092_10, e_6092_13, e_6092_14, e_6092_17, e_6092_18, e_6092_19, e_6092_22, e_6092_23, e_6092_24, e_6092_25, e_6092_28, e_6092_29, e_6092_30, e_6092_31, e_6092_34, e_6092_37, e_6092_38, e_6092_39, e_6092_42, e_6092_43, e_6092_44, e_6092_45, e_6092_48, e_6092_51, e_6092_52, e_6092_53, e_6092_54, e_6092_57, zk_int, zk_ref, zk_null, zk_none, zk_long, zisR_r, zisR_n, zcl_int, zcl_ref, zcl_null, zpush_s, zpush_n, zbs, zbn, true_or, or_true, not_false_eq_true, not_true_eq_false, ↓reduceIte, and_self, and_true, true_and, ie_0_1, ie_0_2, ie_0_3, ie_0_4, ie_0_5, ie_0_6, ie_0_7, ie_1_0, ie_1_2, ie_1_3, ie_1_4, ie_1_5, ie_1_6, ie_1_7, ie_2_0, ie_2_1, ie_2_3, ie_2_4, ie_2_5, ie_2_6, ie_2_7, ie_3_0, ie_3_1, ie_3_2, ie_3_4, ie_3_5, ie_3_6, ie_3_7, ie_4_0, ie_4_1, ie_4_2, ie_4_3, ie_4_5, ie_4_6, ie_4_7, ie_5_0, ie_5_1, ie_5_2, ie_5_3, ie_5_4, ie_5_6, ie_5_7, ie_6_0, ie_6_1, ie_6_2, ie_6_3, ie_6_4, ie_6_5, ie_6_7, ie_7_0, ie_7_1, ie_7_2, ie_7_3, ie_7_4, ie_7_5, ie_7_6, zt_50, zq, q1, l20, l22, qm]
      · have hk2 : X.1 11 2 = 5 := k2.trans hk
        rcases hact with rfl | rfl | rfl
        · have qc := q_doServe_5 (d := d + 37) (w := X) (y := y) (q := (0, w.1 12)) hk2 (by show 0 < _; decide)
          rw [← fid, k3, k4] at qc
          have le := sTS_le 5 (0, w.1 12)
          have le2 : (sTS 5 (0, w.1 12)).1 ≤ 0 + 10 := by
            have e : ((0, w.1 12) : Nat × (Nat → Int32)).1 = 0 := rfl
            omega
          have qm := m_serving_5 (d := d + 38) (w := sAcW X (sTS 5 (0, w.1 12))) (q := (0, w.1 79)) (y := y) (Ms _) (by omega) hk (by show 0 < _; decide)
          have hc : cal (d + 40) 5040 [.ref 0, .int (nI t), .int 0, .int y] w = some (some (.int (sVS 5 y (nI t) (w.1 2 (5 * t + 3)))), sAcW X (sTS 5 (0, w.1 12))) := by
            rw [into]
            simp only [c_5040, e_5040_0, e_5040_1, e_5040_4, e_5040_7, e_5040_8, e_5040_11, e_5040_12, e_5040_15, e_5040_18, e_5040_19, e_5040_20, e_5040_21, e_5040_24, e_5040_25, e_5040_28, e_5040_29, e_5040_30, e_5040_33, e_5040_34, e_5040_35, e_5040_38, e_5040_39, e_5040_40, e_5040_43, e_5040_46, e_5040_47, e_5040_72, e_5040_73, e_5040_76, e_5040_77, e_5040_80, e_5040_81, e_5040_82, e_5040_85, e_5040_86, e_5040_89, e_5040_90, e_5040_91, e_5040_94, e_5040_95, e_5040_98, e_5040_99, e_5040_100, zk_int, zk_ref, zk_null, zk_none, zk_long, zisR_r, zisR_n, zcl_int, zcl_ref, zcl_null, zpush_s, zpush_n, zbs, zbn, true_or, or_true, not_false_eq_true, not_true_eq_false, ↓reduceIte, and_self, and_true, true_and, ie_0_1, ie_0_2, ie_0_3, ie_0_4, ie_0_5, ie_0_6, ie_0_7, ie_1_0, ie_1_2, ie_1_3, ie_1_4, ie_1_5, ie_1_6, ie_1_7, ie_2_0, ie_2_1, ie_2_3, ie_2_4, ie_2_5, ie_2_6, ie_2_7, ie_3_0, ie_3_1, ie_3_2, ie_3_4, ie_3_5, ie_3_6, ie_3_7, ie_4_0, ie_4_1, ie_4_2, ie_4_3, ie_4_5, ie_4_6, ie_4_7, ie_5_0, ie_5_1, ie_5_2, ie_5_3, ie_5_4, ie_5_6, ie_5_7, ie_6_0, ie_6_1, ie_6_2, ie_6_3, ie_6_4, ie_6_5, ie_6_7, ie_7_0, ie_7_1, ie_7_2, ie_7_3, ie_7_4, ie_7_5, ie_7_6, zt_0, zr_0_2, zt_11, qc]
          refine ⟨_, _, mAc (sAcW X (sTS 5 (0, w.1 12))) (sTS 5 (0, w.1 79)), n, m, hc, ?_, Rx _ _ (sTS_r 5 (by decide) r0) (by omega)⟩
          simp only [c_6092, e_6092_0, e_6092_1, e_6092_2, e_6092_5, e_6092_6, e_6092_7, e_6092_10, e_6092_13, e_6092_14, e_6092_17, e_6092_18, e_6092_19, e_6092_22, e_6092_23, e_6092_24, e_6092_25, e_6092_28, e_6092_29, e_6092_30, e_6092_31, e_6092_34, e_6092_37, e_6092_38, e_6092_39, e_6092_42, e_6092_43, e_6092_44, e_6092_45, e_6092_48, e_6092_51, e_6092_52, e_6092_53, e_6092_54, e_6092_57, zk_int, zk_ref, zk_null, zk_none, zk_long, zisR_r, zisR_n, zcl_int, zcl_ref, zcl_null, zpush_s, zpush_n, zbs, zbn, true_or, or_true, not_false_eq_true, not_true_eq_false, ↓reduceIte, and_self, and_true, true_and, ie_0_1, ie_0_2, ie_0_3, ie_0_4, ie_0_5, ie_0_6, ie_0_7, ie_1_0, ie_1_2, ie_1_3, ie_1_4, ie_1_5, ie_1_6, ie_1_7, ie_2_0, ie_2_1, ie_2_3, ie_2_4, ie_2_5, ie_2_6, ie_2_7, ie_3_0, ie_3_1, ie_3_2, ie_3_4, ie_3_5, ie_3_6, ie_3_7, ie_4_0, ie_4_1, ie_4_2, ie_4_3, ie_4_5, ie_4_6, ie_4_7, ie_5_0, ie_5_1, ie_5_2, ie_5_3, ie_5_4, ie_5_6, ie_5_7, ie_6_0, ie_6_1, ie_6_2, ie_6_3, ie_6_4, ie_6_5, ie_6_7, ie_7_0, ie_7_1, ie_7_2, ie_7_3, ie_7_4, ie_7_5, ie_7_6, zt_50, zq, q1, l00, l02, qm]
        · have qc := q_doGive_5 (d := d + 36) (w := X) (y := y) (q := (0, w.1 12)) hk2 (by show 0 < _; decide)
          rw [← fid, k3, k4] at qc
          have le := sTG_le 5 (0, w.1 12)
          have le2 : (sTG 5 (0, w.1 12)).1 ≤ 0 + 10 := by
            have e : ((0, w.1 12) : Nat × (Nat → Int32)).1 = 0 := rfl
            omega
          have qm := m_giving_5 (d := d + 37) (w := sAcW X (sTG 5 (0, w.1 12))) (q := (0, w.1 79)) (y := y) (Ms _) (by omega) hk (by show 0 < _; decide)
          have hc : cal (d + 40) 5040 [.ref 0, .int (nI t), .int 1, .int y] w = some (some (.int (sVG 5 y (nI t) (w.1 2 (5 * t + 3)))), sAcW X (sTG 5 (0, w.1 12))) := by
            rw [into]
            simp only [c_5040, e_5040_0, e_5040_1, e_5040_4, e_5040_7, e_5040_8, e_5040_11, e_5040_12, e_5040_15, e_5040_18, e_5040_19, e_5040_20, e_5040_21, e_5040_24, e_5040_25, e_5040_28, e_5040_29, e_5040_30, e_5040_33, e_5040_34, e_5040_35, e_5040_38, e_5040_39, e_5040_40, e_5040_43, e_5040_46, e_5040_47, e_5040_72, e_5040_73, e_5040_76, e_5040_77, e_5040_80, e_5040_81, e_5040_82, e_5040_85, e_5040_86, e_5040_89, e_5040_90, e_5040_91, e_5040_94, e_5040_95, e_5040_98, e_5040_99, e_5040_100, zk_int, zk_ref, zk_null, zk_none, zk_long, zisR_r, zisR_n, zcl_int, zcl_ref, zcl_null, zpush_s, zpush_n, zbs, zbn, true_or, or_true, not_false_eq_true, not_true_eq_false, ↓reduceIte, and_self, and_true, true_and, ie_0_1, ie_0_2, ie_0_3, ie_0_4, ie_0_5, ie_0_6, ie_0_7, ie_1_0, ie_1_2, ie_1_3, ie_1_4, ie_1_5, ie_1_6, ie_1_7, ie_2_0, ie_2_1, ie_2_3, ie_2_4, ie_2_5, ie_2_6, ie_2_7, ie_3_0, ie_3_1, ie_3_2, ie_3_4, ie_3_5, ie_3_6, ie_3_7, ie_4_0, ie_4_1, ie_4_2, ie_4_3, ie_4_5, ie_4_6, ie_4_7, ie_5_0, ie_5_1, ie_5_2, ie_5_3, ie_5_4, ie_5_6, ie_5_7, ie_6_0, ie_6_1, ie_6_2, ie_6_3, ie_6_4, ie_6_5, ie_6_7, ie_7_0, ie_7_1, ie_7_2, ie_7_3, ie_7_4, ie_7_5, ie_7_6, zt_0, zr_0_2, zt_11, qc]
          refine ⟨_, _, mAc (sAcW X (sTG 5 (0, w.1 12))) (sTG 5 (0, w.1 79)), n, m, hc, ?_, Rx _ _ (sTG_r 5 (by decide) r0) (by omega)⟩
          simp only [c_6092, e_6092_0, e_6092_1, e_6092_2, e_6092_5, e_6092_6, e_6092_7, e_6092_10, e_6092_13, e_6092_14, e_6092_17, e_6092_18, e_6092_19, e_6092_22, e_6092_23, e_6092_24, e_6092_25, e_6092_28, e_6092_29, e_6092_30, e_6092_31, e_6092_34, e_6092_37, e_6092_38, e_6092_39, e_6092_42, e_6092_43, e_6092_44, e_6092_45, e_6092_48, e_6092_51, e_6092_52, e_6092_53, e_6092_54, e_6092_57, zk_int, zk_ref, zk_null, zk_none, zk_long, zisR_r, zisR_n, zcl_int, zcl_ref, zcl_null, zpush_s, zpush_n, zbs, zbn, true_or, or_true, not_false_eq_true, not_true_eq_false, ↓reduceIte, and_self, and_true, true_and, ie_0_1, ie_0_2, ie_0_3, ie_0_4, ie_0_5, ie_0_6, ie_0_7, ie_1_0, ie_1_2, ie_1_3, ie_1_4, ie_1_5, ie_1_6, ie_1_7, ie_2_0, ie_2_1, ie_2_3, ie_2_4, ie_2_5, ie_2_6, ie_2_7, ie_3_0, ie_3_1, ie_3_2, ie_3_4, ie_3_5, ie_3_6, ie_3_7, ie_4_0, ie_4_1, ie_4_2, ie_4_3, ie_4_5, ie_4_6, ie_4_7, ie_5_0, ie_5_1, ie_5_2, ie_5_3, ie_5_4, ie_5_6, ie_5_7, ie_6_0, ie_6_1, ie_6_2, ie_6_3, ie_6_4, ie_6_5, ie_6_7, ie_7_0, ie_7_1, ie_7_2, ie_7_3, ie_7_4, ie_7_5, ie_7_6, zt_50, zq, q1, l10, l12, qm]
        · have qc := q_doStay_5 (d := d + 35) (w := X) (y := y) (q := (0, w.1 12)) hk2 (by show 0 < _; decide)
          rw [← fid, k3, k4] at qc
          have le := sTY_le 5 (0, w.1 12) (by decide)
          have le2 : (sTY 5 (0, w.1 12)).1 ≤ 0 + 10 := by
            have e : ((0, w.1 12) : Nat × (Nat → Int32)).1 = 0 := rfl
            omega
          have qm := m_staying_5 (d := d + 36) (w := sAcW X (sTY 5 (0, w.1 12))) (q := (0, w.1 79)) (y := y) (Ms _) (by omega) hk (by show 0 < _; decide)
          have hc : cal (d + 40) 5040 [.ref 0, .int (nI t), .int 2, .int y] w = some (some (.int (sVY 5 y (nI t) (w.1 2 (5 * t + 3)))), sAcW X (sTY 5 (0, w.1 12))) := by
            rw [into]
            simp only [c_5040, e_5040_0, e_5040_1, e_5040_4, e_5040_7, e_5040_8, e_5040_11, e_5040_12, e_5040_15, e_5040_18, e_5040_19, e_5040_20, e_5040_21, e_5040_24, e_5040_25, e_5040_28, e_5040_29, e_5040_30, e_5040_33, e_5040_34, e_5040_35, e_5040_38, e_5040_39, e_5040_40, e_5040_43, e_5040_46, e_5040_47, e_5040_72, e_5040_73, e_5040_76, e_5040_77, e_5040_80, e_5040_81, e_5040_82, e_5040_85, e_5040_86, e_5040_89, e_5040_90, e_5040_91, e_5040_94, e_5040_95, e_5040_98, e_5040_99, e_5040_100, zk_int, zk_ref, zk_null, zk_none, zk_long, zisR_r, zisR_n, zcl_int, zcl_ref, zcl_null, zpush_s, zpush_n, zbs, zbn, true_or, or_true, not_false_eq_true, not_true_eq_false, ↓reduceIte, and_self, and_true, true_and, ie_0_1, ie_0_2, ie_0_3, ie_0_4, ie_0_5, ie_0_6, ie_0_7, ie_1_0, ie_1_2, ie_1_3, ie_1_4, ie_1_5, ie_1_6, ie_1_7, ie_2_0, ie_2_1, ie_2_3, ie_2_4, ie_2_5, ie_2_6, ie_2_7, ie_3_0, ie_3_1, ie_3_2, ie_3_4, ie_3_5, ie_3_6, ie_3_7, ie_4_0, ie_4_1, ie_4_2, ie_4_3, ie_4_5, ie_4_6, ie_4_7, ie_5_0, ie_5_1, ie_5_2, ie_5_3, ie_5_4, ie_5_6, ie_5_7, ie_6_0, ie_6_1, ie_6_2, ie_6_3, ie_6_4, ie_6_5, ie_6_7, ie_7_0, ie_7_1, ie_7_2, ie_7_3, ie_7_4, ie_7_5, ie_7_6, zt_0, zr_0_2, zt_11, qc]
          refine ⟨_, _, mAc (sAcW X (sTY 5 (0, w.1 12))) (sTY 5 (0, w.1 79)), n, m, hc, ?_, Rx _ _ (sTY_r 5 (by decide) r0) (by omega)⟩
          simp only [c_6092, e_6092_0, e_6092_1, e_6092_2, e_6092_5, e_6092_6, e_6092_7, e_6092_10, e_6092_13, e_6092_14, e_6092_17, e_6092_18, e_6092_19, e_6092_22, e_6092_23, e_6092_24, e_6092_25, e_6092_28, e_6092_29, e_6092_30, e_6092_31, e_6092_34, e_6092_37, e_6092_38, e_6092_39, e_6092_42, e_6092_43, e_6092_44, e_6092_45, e_6092_48, e_6092_51, e_6092_52, e_6092_53, e_6092_54, e_6092_57, zk_int, zk_ref, zk_null, zk_none, zk_long, zisR_r, zisR_n, zcl_int, zcl_ref, zcl_null, zpush_s, zpush_n, zbs, zbn, true_or, or_true, not_false_eq_true, not_true_eq_false, ↓reduceIte, and_self, and_true, true_and, ie_0_1, ie_0_2, ie_0_3, ie_0_4, ie_0_5, ie_0_6, ie_0_7, ie_1_0, ie_1_2, ie_1_3, ie_1_4, ie_1_5, ie_1_6, ie_1_7, ie_2_0, ie_2_1, ie_2_3, ie_2_4, ie_2_5, ie_2_6, ie_2_7, ie_3_0, ie_3_1, ie_3_2, ie_3_4, ie_3_5, ie_3_6, ie_3_7, ie_4_0, ie_4_1, ie_4_2, ie_4_3, ie_4_5, ie_4_6, ie_4_7, ie_5_0, ie_5_1, ie_5_2, ie_5_3, ie_5_4, ie_5_6, ie_5_7, ie_6_0, ie_6_1, ie_6_2, ie_6_3, ie_6_4, ie_6_5, ie_6_7, ie_7_0, ie_7_1, ie_7_2, ie_7_3, ie_7_4, ie_7_5, ie_7_6, zt_50, zq, q1, l20, l22, qm]
      · have hk2 : X.1 11 2 = 6 := k2.trans hk
        rcases hact with rfl | rfl | rfl
        · have qc := q_doServe_6 (d := d + 37) (w := X) (y := y) (q := (0, w.1 12)) hk2 (by show 0 < _; decide)
          rw [← fid, k3, k4] at qc
          have le := sTS_le 6 (0, w.1 12)
          have le2 : (sTS 6 (0, w.1 12)).1 ≤ 0 + 10 := by
            have e : ((0, w.1 12) : Nat × (Nat → Int32)).1 = 0 := rfl
            omega
          have qm := m_serving_6 (d := d + 38) (w := sAcW X (sTS 6 (0, w.1 12))) (q := (0, w.1 79)) (y := y) (Ms _) (by omega) hk (by show 0 < _; decide)
          have hc : cal (d + 40) 5040 [.ref 0, .int (nI t), .int 0, .int y] w = some (some (.int (sVS 6 y (nI t) (w.1 2 (5 * t + 3)))), sAcW X (sTS 6 (0, w.1 12))) := by
            rw [into]
            simp only [c_5040, e_5040_0, e_5040_1, e_5040_4, e_5040_7, e_5040_8, e_5040_11, e_5040_12, e_5040_15, e_5040_18, e_5040_19, e_5040_20, e_5040_21, e_5040_24, e_5040_25, e_5040_28, e_5040_29, e_5040_30, e_5040_33, e_5040_34, e_5040_35, e_5040_38, e_5040_39, e_5040_40, e_5040_43, e_5040_46, e_5040_47, e_5040_72, e_5040_73, e_5040_76, e_5040_77, e_5040_80, e_5040_81, e_5040_82, e_5040_85, e_5040_86, e_5040_89, e_5040_90, e_5040_91, e_5040_94, e_5040_95, e_5040_98, e_5040_99, e_5040_100, zk_int, zk_ref, zk_null, zk_none, zk_long, zisR_r, zisR_n, zcl_int, zcl_ref, zcl_null, zpush_s, zpush_n, zbs, zbn, true_or, or_true, not_false_eq_true, not_true_eq_false, ↓reduceIte, and_self, and_true, true_and, ie_0_1, ie_0_2, ie_0_3, ie_0_4, ie_0_5, ie_0_6, ie_0_7, ie_1_0, ie_1_2, ie_1_3, ie_1_4, ie_1_5, ie_1_6, ie_1_7, ie_2_0, ie_2_1, ie_2_3, ie_2_4, ie_2_5, ie_2_6, ie_2_7, ie_3_0, ie_3_1, ie_3_2, ie_3_4, ie_3_5, ie_3_6, ie_3_7, ie_4_0, ie_4_1, ie_4_2, ie_4_3, ie_4_5, ie_4_6, ie_4_7, ie_5_0, ie_5_1, ie_5_2, ie_5_3, ie_5_4, ie_5_6, ie_5_7, ie_6_0, ie_6_1, ie_6_2, ie_6_3, ie_6_4, ie_6_5, ie_6_7, ie_7_0, ie_7_1, ie_7_2, ie_7_3, ie_7_4, ie_7_5, ie_7_6, zt_0, zr_0_2, zt_11, qc]
          refine ⟨_, _, mAc (sAcW X (sTS 6 (0, w.1 12))) (sTS 6 (0, w.1 79)), n, m, hc, ?_, Rx _ _ (sTS_r 6 (by decide) r0) (by omega)⟩
          simp only [c_6092, e_6092_0, e_6092_1, e_6092_2, e_6092_5, e_6092_6, e_6092_7, e_6092_10, e_6092_13, e_6092_14, e_6092_17, e_6092_18, e_6092_19, e_6092_22, e_6092_23, e_6092_24, e_6092_25, e_6092_28, e_6092_29, e_6092_30, e_6092_31, e_6092_34, e_6092_37, e_6092_38, e_6092_39, e_6092_42, e_6092_43, e_6092_44, e_6092_45, e_6092_48, e_6092_51, e_6092_52, e_6092_53, e_6092_54, e_6092_57, zk_int, zk_ref, zk_null, zk_none, zk_long, zisR_r, zisR_n, zcl_int, zcl_ref, zcl_null, zpush_s, zpush_n, zbs, zbn, true_or, or_true, not_false_eq_true, not_true_eq_false, ↓reduceIte, and_self, and_true, true_and, ie_0_1, ie_0_2, ie_0_3, ie_0_4, ie_0_5, ie_0_6, ie_0_7, ie_1_0, ie_1_2, ie_1_3, ie_1_4, ie_1_5, ie_1_6, ie_1_7, ie_2_0, ie_2_1, ie_2_3, ie_2_4, ie_2_5, ie_2_6, ie_2_7, ie_3_0, ie_3_1, ie_3_2, ie_3_4, ie_3_5, ie_3_6, ie_3_7, ie_4_0, ie_4_1, ie_4_2, ie_4_3, ie_4_5, ie_4_6, ie_4_7, ie_5_0, ie_5_1, ie_5_2, ie_5_3, ie_5_4, ie_5_6, ie_5_7, ie_6_0, ie_6_1, ie_6_2, ie_6_3, ie_6_4, ie_6_5, ie_6_7, ie_7_0, ie_7_1, ie_7_2, ie_7_3, ie_7_4, ie_7_5, ie_7_6, zt_50, zq, q1, l00, l02, qm]
        · have qc := q_doGive_6 (d := d + 36) (w := X) (y := y) (q := (0, w.1 12)) hk2 (by show 0 < _; decide)
          rw [← fid, k3, k4] at qc
          have le := sTG_le 6 (0, w.1 12)
          have le2 : (sTG 6 (0, w.1 12)).1 ≤ 0 + 10 := by
            have e : ((0, w.1 12) : Nat × (Nat → Int32)).1 = 0 := rfl
            omega
          have qm := m_giving_6 (d := d + 37) (w := sAcW X (sTG 6 (0, w.1 12))) (q := (0, w.1 79)) (y := y) (Ms _) (by omega) hk (by show 0 < _; decide)
          have hc : cal (d + 40) 5040 [.ref 0, .int (nI t), .int 1, .int y] w = some (some (.int (sVG 6 y (nI t) (w.1 2 (5 * t + 3)))), sAcW X (sTG 6 (0, w.1 12))) := by
            rw [into]
            simp only [c_5040, e_5040_0, e_5040_1, e_5040_4, e_5040_7, e_5040_8, e_5040_11, e_5040_12, e_5040_15, e_5040_18, e_5040_19, e_5040_20, e_5040_21, e_5040_24, e_5040_25, e_5040_28, e_5040_29, e_5040_30, e_5040_33, e_5040_34, e_5040_35, e_5040_38, e_5040_39, e_5040_40, e_5040_43, e_5040_46, e_5040_47, e_5040_72, e_5040_73, e_5040_76, e_5040_77, e_5040_80, e_5040_81, e_5040_82, e_5040_85, e_5040_86, e_5040_89, e_5040_90, e_5040_91, e_5040_94, e_5040_95, e_5040_98, e_5040_99, e_5040_100, zk_int, zk_ref, zk_null, zk_none, zk_long, zisR_r, zisR_n, zcl_int, zcl_ref, zcl_null, zpush_s, zpush_n, zbs, zbn, true_or, or_true, not_false_eq_true, not_true_eq_false, ↓reduceIte, and_self, and_true, true_and, ie_0_1, ie_0_2, ie_0_3, ie_0_4, ie_0_5, ie_0_6, ie_0_7, ie_1_0, ie_1_2, ie_1_3, ie_1_4, ie_1_5, ie_1_6, ie_1_7, ie_2_0, ie_2_1, ie_2_3, ie_2_4, ie_2_5, ie_2_6, ie_2_7, ie_3_0, ie_3_1, ie_3_2, ie_3_4, ie_3_5, ie_3_6, ie_3_7, ie_4_0, ie_4_1, ie_4_2, ie_4_3, ie_4_5, ie_4_6, ie_4_7, ie_5_0, ie_5_1, ie_5_2, ie_5_3, ie_5_4, ie_5_6, ie_5_7, ie_6_0, ie_6_1, ie_6_2, ie_6_3, ie_6_4, ie_6_5, ie_6_7, ie_7_0, ie_7_1, ie_7_2, ie_7_3, ie_7_4, ie_7_5, ie_7_6, zt_0, zr_0_2, zt_11, qc]
          refine ⟨_, _, mAc (sAcW X (sTG 6 (0, w.1 12))) (sTG 6 (0, w.1 79)), n, m, hc, ?_, Rx _ _ (sTG_r 6 (by decide) r0) (by omega)⟩
          simp only [c_6092, e_6092_0, e_6092_1, e_6092_2, e_6092_5, e_6092_6, e_6092_7, e_6092_10, e_6092_13, e_6092_14, e_6092_17, e_6092_18, e_6092_19, e_6092_22, e_6092_23, e_6092_24, e_6092_25, e_6092_28, e_6092_29, e_6092_30, e_6092_31, e_6092_34, e_6092_37, e_6092_38, e_6092_39, e_6092_42, e_6092_43, e_6092_44, e_6092_45, e_6092_48, e_6092_51, e_6092_52, e_6092_53, e_6092_54, e_6092_57, zk_int, zk_ref, zk_null, zk_none, zk_long, zisR_r, zisR_n, zcl_int, zcl_ref, zcl_null, zpush_s, zpush_n, zbs, zbn, true_or, or_true, not_false_eq_true, not_true_eq_false, ↓reduceIte, and_self, and_true, true_and, ie_0_1, ie_0_2, ie_0_3, ie_0_4, ie_0_5, ie_0_6, ie_0_7, ie_1_0, ie_1_2, ie_1_3, ie_1_4, ie_1_5, ie_1_6, ie_1_7, ie_2_0, ie_2_1, ie_2_3, ie_2_4, ie_2_5, ie_2_6, ie_2_7, ie_3_0, ie_3_1, ie_3_2, ie_3_4, ie_3_5, ie_3_6, ie_3_7, ie_4_0, ie_4_1, ie_4_2, ie_4_3, ie_4_5, ie_4_6, ie_4_7, ie_5_0, ie_5_1, ie_5_2, ie_5_3, ie_5_4, ie_5_6, ie_5_7, ie_6_0, ie_6_1, ie_6_2, ie_6_3, ie_6_4, ie_6_5, ie_6_7, ie_7_0, ie_7_1, ie_7_2, ie_7_3, ie_7_4, ie_7_5, ie_7_6, zt_50, zq, q1, l10, l12, qm]
        · have qc := q_doStay_6 (d := d + 35) (w := X) (y := y) (q := (0, w.1 12)) hk2 (by show 0 < _; decide)
          rw [← fid, k3, k4] at qc
          have le := sTY_le 6 (0, w.1 12) (by decide)
          have le2 : (sTY 6 (0, w.1 12)).1 ≤ 0 + 10 := by
            have e : ((0, w.1 12) : Nat × (Nat → Int32)).1 = 0 := rfl
            omega
          have qm := m_staying_6 (d := d + 36) (w := sAcW X (sTY 6 (0, w.1 12))) (q := (0, w.1 79)) (y := y) (Ms _) (by omega) hk (by show 0 < _; decide)
          have hc : cal (d + 40) 5040 [.ref 0, .int (nI t), .int 2, .int y] w = some (some (.int (sVY 6 y (nI t) (w.1 2 (5 * t + 3)))), sAcW X (sTY 6 (0, w.1 12))) := by
            rw [into]
            simp only [c_5040, e_5040_0, e_5040_1, e_5040_4, e_5040_7, e_5040_8, e_5040_11, e_5040_12, e_5040_15, e_5040_18, e_5040_19, e_5040_20, e_5040_21, e_5040_24, e_5040_25, e_5040_28, e_5040_29, e_5040_30, e_5040_33, e_5040_34, e_5040_35, e_5040_38, e_5040_39, e_5040_40, e_5040_43, e_5040_46, e_5040_47, e_5040_72, e_5040_73, e_5040_76, e_5040_77, e_5040_80, e_5040_81, e_5040_82, e_5040_85, e_5040_86, e_5040_89, e_5040_90, e_5040_91, e_5040_94, e_5040_95, e_5040_98, e_5040_99, e_5040_100, zk_int, zk_ref, zk_null, zk_none, zk_long, zisR_r, zisR_n, zcl_int, zcl_ref, zcl_null, zpush_s, zpush_n, zbs, zbn, true_or, or_true, not_false_eq_true, not_true_eq_false, ↓reduceIte, and_self, and_true, true_and, ie_0_1, ie_0_2, ie_0_3, ie_0_4, ie_0_5, ie_0_6, ie_0_7, ie_1_0, ie_1_2, ie_1_3, ie_1_4, ie_1_5, ie_1_6, ie_1_7, ie_2_0, ie_2_1, ie_2_3, ie_2_4, ie_2_5, ie_2_6, ie_2_7, ie_3_0, ie_3_1, ie_3_2, ie_3_4, ie_3_5, ie_3_6, ie_3_7, ie_4_0, ie_4_1, ie_4_2, ie_4_3, ie_4_5, ie_4_6, ie_4_7, ie_5_0, ie_5_1, ie_5_2, ie_5_3, ie_5_4, ie_5_6, ie_5_7, ie_6_0, ie_6_1, ie_6_2, ie_6_3, ie_6_4, ie_6_5, ie_6_7, ie_7_0, ie_7_1, ie_7_2, ie_7_3, ie_7_4, ie_7_5, ie_7_6, zt_0, zr_0_2, zt_11, qc]
          refine ⟨_, _, mAc (sAcW X (sTY 6 (0, w.1 12))) (sTY 6 (0, w.1 79)), n, m, hc, ?_, Rx _ _ (sTY_r 6 (by decide) r0) (by omega)⟩
          simp only [c_6092, e_6092_0, e_6092_1, e_6092_2, e_6092_5, e_6092_6, e_6092_7, e_6092_10, e_6092_13, e_6092_14, e_6092_17, e_6092_18, e_6092_19, e_6092_22, e_6092_23, e_6092_24, e_6092_25, e_6092_28, e_6092_29, e_6092_30, e_6092_31, e_6092_34, e_6092_37, e_6092_38, e_6092_39, e_6092_42, e_6092_43, e_6092_44, e_6092_45, e_6092_48, e_6092_51, e_6092_52, e_6092_53, e_6092_54, e_6092_57, zk_int, zk_ref, zk_null, zk_none, zk_long, zisR_r, zisR_n, zcl_int, zcl_ref, zcl_null, zpush_s, zpush_n, zbs, zbn, true_or, or_true, not_false_eq_true, not_true_eq_false, ↓reduceIte, and_self, and_true, true_and, ie_0_1, ie_0_2, ie_0_3, ie_0_4, ie_0_5, ie_0_6, ie_0_7, ie_1_0, ie_1_2, ie_1_3, ie_1_4, ie_1_5, ie_1_6, ie_1_7, ie_2_0, ie_2_1, ie_2_3, ie_2_4, ie_2_5, ie_2_6, ie_2_7, ie_3_0, ie_3_1, ie_3_2, ie_3_4, ie_3_5, ie_3_6, ie_3_7, ie_4_0, ie_4_1, ie_4_2, ie_4_3, ie_4_5, ie_4_6, ie_4_7, ie_5_0, ie_5_1, ie_5_2, ie_5_3, ie_5_4, ie_5_6, ie_5_7, ie_6_0, ie_6_1, ie_6_2, ie_6_3, ie_6_4, ie_6_5, ie_6_7, ie_7_0, ie_7_1, ie_7_2, ie_7_3, ie_7_4, ie_7_5, ie_7_6, zt_50, zq, q1, l20, l22, qm]
    · have e2 : (2 : Int32).toInt = 2 := by decide
      have n0 : (a = 0) = False := eq_false (fun e => by rw [e] at ha; rcases ha with h | h <;> exact absurd h (by decide))
      have n1 : (a = 1) = False := eq_false (fun e => by rw [e] at ha; rcases ha with h | h <;> exact absurd h (by decide))
      have n2 : (a = 2) = False := eq_false (fun e => by rw [e] at ha; rcases ha with h | h <;> exact absurd h (by decide))
      have hc : cal (d + 40) 5040 [.ref 0, .int (nI t), .int a, .int y] w = some (some (.int 0), sAcW X (0, w.1 12)) := by
        rw [into, ← fid]
        simp only [c_5040, e_5040_0, e_5040_1, e_5040_4, e_5040_7, e_5040_8, e_5040_11, e_5040_12, e_5040_15, e_5040_18, e_5040_19, e_5040_20, e_5040_21, e_5040_24, e_5040_25, e_5040_28, e_5040_29, e_5040_30, e_5040_33, e_5040_34, e_5040_35, e_5040_38, e_5040_39, e_5040_40, e_5040_43, e_5040_46, e_5040_47, e_5040_72, e_5040_73, e_5040_76, e_5040_77, e_5040_80, e_5040_81, e_5040_82, e_5040_85, e_5040_86, e_5040_89, e_5040_90, e_5040_91, e_5040_94, e_5040_95, e_5040_98, e_5040_99, e_5040_100, zk_int, zk_ref, zk_null, zk_none, zk_long, zisR_r, zisR_n, zcl_int, zcl_ref, zcl_null, zpush_s, zpush_n, zbs, zbn, true_or, or_true, not_false_eq_true, not_true_eq_false, ↓reduceIte, and_self, and_true, true_and, n0, n1, n2]
      refine ⟨_, _, mAc (sAcW X (0, w.1 12)) (0, w.1 79), n, m, hc, ?_, Rx _ _ r0 (Nat.le_of_ble_eq_true rfl)⟩
      by_cases h0 : a < 0
      · simp only [c_6092, e_6092_0, e_6092_1, e_6092_2, e_6092_5, e_6092_6, e_6092_7, e_6092_10, e_6092_13, e_6092_14, e_6092_17, e_6092_18, e_6092_19, e_6092_22, e_6092_23, e_6092_24, e_6092_25, e_6092_28, e_6092_29, e_6092_30, e_6092_31, e_6092_34, e_6092_37, e_6092_38, e_6092_39, e_6092_42, e_6092_43, e_6092_44, e_6092_45, e_6092_48, e_6092_51, e_6092_52, e_6092_53, e_6092_54, e_6092_57, zk_int, zk_ref, zk_null, zk_none, zk_long, zisR_r, zisR_n, zcl_int, zcl_ref, zcl_null, zpush_s, zpush_n, zbs, zbn, true_or, or_true, not_false_eq_true, not_true_eq_false, ↓reduceIte, and_self, and_true, true_and, ie_0_1, ie_0_2, ie_0_3, ie_0_4, ie_0_5, ie_0_6, ie_0_7, ie_1_0, ie_1_2, ie_1_3, ie_1_4, ie_1_5, ie_1_6, ie_1_7, ie_2_0, ie_2_1, ie_2_3, ie_2_4, ie_2_5, ie_2_6, ie_2_7, ie_3_0, ie_3_1, ie_3_2, ie_3_4, ie_3_5, ie_3_6, ie_3_7, ie_4_0, ie_4_1, ie_4_2, ie_4_3, ie_4_5, ie_4_6, ie_4_7, ie_5_0, ie_5_1, ie_5_2, ie_5_3, ie_5_4, ie_5_6, ie_5_7, ie_6_0, ie_6_1, ie_6_2, ie_6_3, ie_6_4, ie_6_5, ie_6_7, ie_7_0, ie_7_1, ie_7_2, ie_7_3, ie_7_4, ie_7_5, ie_7_6, zt_50, zq, q1, h0]
      · have h2 : (a ≤ 2) = False := eq_false (Int32.not_le.mpr (ha.resolve_left h0))
        simp only [c_6092, e_6092_0, e_6092_1, e_6092_2, e_6092_5, e_6092_6, e_6092_7, e_6092_10, e_6092_13, e_6092_14, e_6092_17, e_6092_18, e_6092_19, e_6092_22, e_6092_23, e_6092_24, e_6092_25, e_6092_28, e_6092_29, e_6092_30, e_6092_31, e_6092_34, e_6092_37, e_6092_38, e_6092_39, e_6092_42, e_6092_43, e_6092_44, e_6092_45, e_6092_48, e_6092_51, e_6092_52, e_6092_53, e_6092_54, e_6092_57, zk_int, zk_ref, zk_null, zk_none, zk_long, zisR_r, zisR_n, zcl_int, zcl_ref, zcl_null, zpush_s, zpush_n, zbs, zbn, true_or, or_true, not_false_eq_true, not_true_eq_false, ↓reduceIte, and_self, and_true, true_and, ie_0_1, ie_0_2, ie_0_3, ie_0_4, ie_0_5, ie_0_6, ie_0_7, ie_1_0, ie_1_2, ie_1_3, ie_1_4, ie_1_5, ie_1_6, ie_1_7, ie_2_0, ie_2_1, ie_2_3, ie_2_4, ie_2_5, ie_2_6, ie_2_7, ie_3_0, ie_3_1, ie_3_2, ie_3_4, ie_3_5, ie_3_6, ie_3_7, ie_4_0, ie_4_1, ie_4_2, ie_4_3, ie_4_5, ie_4_6, ie_4_7, ie_5_0, ie_5_1, ie_5_2, ie_5_3, ie_5_4, ie_5_6, ie_5_7, ie_6_0, ie_6_1, ie_6_2, ie_6_3, ie_6_4, ie_6_5, ie_6_7, ie_7_0, ie_7_1, ie_7_2, ie_7_3, ie_7_4, ie_7_5, ie_7_6, zt_50, zq, q1, h0, h2]
end PI
