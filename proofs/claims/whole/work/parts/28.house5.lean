def sWtr (V : Nat → Int32) (m : Nat) (s p q : Int32) : Nat → Int32 := upd (upd (upd (upd (upd (upd V (6 * m + 0) s) (6 * m + 1) 0) (6 * m + 2) p) (6 * m + 3) 1) (6 * m + 4) q) (6 * m + 5) 0
def sOkW (s p q : Int32) : Prop := (0 ≤ s ∧ s ≤ 6) ∧ (0 ≤ p ∧ p ≤ 99) ∧ (0 ≤ q ∧ q ≤ 999)
def sAdW (w : zM) (h m : Nat) (s p q : Int32) : zM := zuA (zuA w h (upd (w.1 h) 4 (nI (m + 1)))) (h + 2) (sWtr (w.1 (h + 2)) m s p q)
theorem q_addWaiter_6 {d h : Nat} {w : zM} {s p q : Int32} (hk : ¬ sOkW s p q) : cal (d + 3) 1015 [.ref h, .int s, .int p, .int q] w = some (some (.int (-6)), w) := by
  have q1 := q_waiterPartMayBe_0 (d := d + 1) (w := w) (v := s)
  have q2 := q_waiterPartMayBe_2 (d := d + 1) (w := w) (v := p)
  have q3 := q_waiterPartMayBe_4 (d := d + 1) (w := w) (v := q)
  have z : ((1 : Int32) = 0) = False := by decide
  by_cases a1 : 0 ≤ s ∧ s ≤ 6
  · by_cases a2 : 0 ≤ p ∧ p ≤ 99
    · have a3 : ¬ (0 ≤ q ∧ q ≤ 999) := fun a3 => hk ⟨a1, a2, a3⟩
      rw [if_pos a1] at q1
      rw [if_pos a2] at q2
      rw [if_neg a3] at q3
      simp only [c_1015, e_1015_0, e_1015_1, e_1015_2, e_1015_5, e_1015_8, e_1015_9, e_1015_10, e_1015_13, e_1015_16, e_1015_17, e_1015_18, e_1015_21, e_1015_24, e_1015_26, e_1015_27, e_1015_28, e_1015_31, e_1015_34, e_1015_36, e_1015_37, e_1015_38, e_1015_41, e_1015_43, e_1015_44, e_1015_45, e_1015_48, e_1015_49, e_1015_50, e_1015_53, e_1015_54, e_1015_56, e_1015_57, e_1015_58, e_1015_61, e_1015_62, e_1015_64, e_1015_65, e_1015_66, e_1015_69, e_1015_70, e_1015_72, e_1015_73, e_1015_74, e_1015_77, e_1015_78, e_1015_80, e_1015_81, e_1015_82, e_1015_85, e_1015_86, e_1015_88, e_1015_89, e_1015_90, e_1015_93, e_1015_94, e_1015_96, e_1015_97, e_1015_98, e_1015_101, e_1015_103, zk_int, zk_ref, zk_null, zk_none, zk_long, zisR_r, zisR_n, zcl_int, zcl_ref, zcl_null, zpush_s, zpush_n, zbs, zbn, true_or, or_true, not_false_eq_true, not_true_eq_false, ↓reduceIte, and_self, and_true, true_and, q1, q2, q3, z]
    · rw [if_pos a1] at q1
      rw [if_neg a2] at q2
      simp only [c_1015, e_1015_0, e_1015_1, e_1015_2, e_1015_5, e_1015_8, e_1015_9, e_1015_10, e_1015_13, e_1015_16, e_1015_17, e_1015_18, e_1015_21, e_1015_24, e_1015_26, e_1015_27, e_1015_28, e_1015_31, e_1015_34, e_1015_36, e_1015_37, e_1015_38, e_1015_41, e_1015_43, e_1015_44, e_1015_45, e_1015_48, e_1015_49, e_1015_50, e_1015_53, e_1015_54, e_1015_56, e_1015_57, e_1015_58, e_1015_61, e_1015_62, e_1015_64, e_1015_65, e_1015_66, e_1015_69, e_1015_70, e_1015_72, e_1015_73, e_1015_74, e_1015_77, e_1015_78, e_1015_80, e_1015_81, e_1015_82, e_1015_85, e_1015_86, e_1015_88, e_1015_89, e_1015_90, e_1015_93, e_1015_94, e_1015_96, e_1015_97, e_1015_98, e_1015_101, e_1015_103, zk_int, zk_ref, zk_null, zk_none, zk_long, zisR_r, zisR_n, zcl_int, zcl_ref, zcl_null, zpush_s, zpush_n, zbs, zbn, true_or, or_true, not_false_eq_true, not_true_eq_false, ↓reduceIte, and_self, and_true, true_and, q1, q2, z]
  · rw [if_neg a1] at q1
    simp only [c_1015, e_1015_0, e_1015_1, e_1015_2, e_1015_5, e_1015_8, e_1015_9, e_1015_10, e_1015_13, e_1015_16, e_1015_17, e_1015_18, e_1015_21, e_1015_24, e_1015_26, e_1015_27, e_1015_28, e_1015_31, e_1015_34, e_1015_36, e_1015_37, e_1015_38, e_1015_41, e_1015_43, e_1015_44, e_1015_45, e_1015_48, e_1015_49, e_1015_50, e_1015_53, e_1015_54, e_1015_56, e_1015_57, e_1015_58, e_1015_61, e_1015_62, e_1015_64, e_1015_65, e_1015_66, e_1015_69, e_1015_70, e_1015_72, e_1015_73, e_1015_74, e_1015_77, e_1015_78, e_1015_80, e_1015_81, e_1015_82, e_1015_85, e_1015_86, e_1015_88, e_1015_89, e_1015_90, e_1015_93, e_1015_94, e_1015_96, e_1015_97, e_1015_98, e_1015_101, e_1015_103, zk_int, zk_ref, zk_null, zk_none, zk_long, zisR_r, zisR_n, zcl_int, zcl_ref, zcl_null, zpush_s, zpush_n, zbs, zbn, true_or, or_true, not_false_eq_true, not_true_eq_false, ↓reduceIte, and_self, and_true, true_and, q1]
theorem q_addWaiter_7 {d h n m : Nat} {w : zM} {s p q : Int32} (C : zHc w h n m) (hk : sOkW s p q) (hm : ¬ m < 4) : cal (d + 3) 1015 [.ref h, .int s, .int p, .int q] w = some (some (.int (-7)), w) := by
  have q1 := q_waiterPartMayBe_0 (d := d + 1) (w := w) (v := s)
  have q2 := q_waiterPartMayBe_2 (d := d + 1) (w := w) (v := p)
  have q3 := q_waiterPartMayBe_4 (d := d + 1) (w := w) (v := q)
  have q4 := q_hasRoomForWaiter (d := d + 2) C
  obtain ⟨H, c1, c2, c3, c4⟩ := id C
  obtain ⟨f1, -⟩ := zHs_f H
  have z : ((1 : Int32) = 0) = False := by decide
  rw [if_pos hk.1] at q1
  rw [if_pos hk.2.1] at q2
  rw [if_pos hk.2.2] at q3
  rw [if_neg hm] at q4
  simp only [c_1015, e_1015_0, e_1015_1, e_1015_2, e_1015_5, e_1015_8, e_1015_9, e_1015_10, e_1015_13, e_1015_16, e_1015_17, e_1015_18, e_1015_21, e_1015_24, e_1015_26, e_1015_27, e_1015_28, e_1015_31, e_1015_34, e_1015_36, e_1015_37, e_1015_38, e_1015_41, e_1015_43, e_1015_44, e_1015_45, e_1015_48, e_1015_49, e_1015_50, e_1015_53, e_1015_54, e_1015_56, e_1015_57, e_1015_58, e_1015_61, e_1015_62, e_1015_64, e_1015_65, e_1015_66, e_1015_69, e_1015_70, e_1015_72, e_1015_73, e_1015_74, e_1015_77, e_1015_78, e_1015_80, e_1015_81, e_1015_82, e_1015_85, e_1015_86, e_1015_88, e_1015_89, e_1015_90, e_1015_93, e_1015_94, e_1015_96, e_1015_97, e_1015_98, e_1015_101, e_1015_103, zk_int, zk_ref, zk_null, zk_none, zk_long, zisR_r, zisR_n, zcl_int, zcl_ref, zcl_null, zpush_s, zpush_n, zbs, zbn, true_or, or_true, not_false_eq_true, not_true_eq_false, ↓reduceIte, and_self, and_true, true_and, f1, q1, q2, q3, q4, z]
theorem q_addWaiter {d h n m : Nat} {w : zM} {s p q : Int32} (C : zHc w h n m) (hk : sOkW s p q) (hm : m < 4) : cal (d + 3) 1015 [.ref h, .int s, .int p, .int q] w = some (some (.int (nI m)), sAdW w h m s p q) := by
  have q1 := q_waiterPartMayBe_0 (d := d + 1) (w := w) (v := s)
  have q2 := q_waiterPartMayBe_2 (d := d + 1) (w := w) (v := p)
  have q3 := q_waiterPartMayBe_4 (d := d + 1) (w := w) (v := q)
  have q4 := q_hasRoomForWaiter (d := d + 2) C
  obtain ⟨H, c1, c2, c3, c4⟩ := id C
  obtain ⟨f1, -⟩ := zHs_f H
  have z : ((1 : Int32) = 0) = False := by decide
  have w0 := fun (w : zM) (v : Int32) => q_setWaiterPart_0 (d := d + 1) (w := w) (v := v) H hm
  have w1 := fun (w : zM) (v : Int32) => q_setWaiterPart_1 (d := d + 1) (w := w) (v := v) H hm
  have w2 := fun (w : zM) (v : Int32) => q_setWaiterPart_2 (d := d + 1) (w := w) (v := v) H hm
  have w3 := fun (w : zM) (v : Int32) => q_setWaiterPart_3 (d := d + 1) (w := w) (v := v) H hm
  have w4 := fun (w : zM) (v : Int32) => q_setWaiterPart_4 (d := d + 1) (w := w) (v := v) H hm
  have w5 := fun (w : zM) (v : Int32) => q_setWaiterPart_5 (d := d + 1) (w := w) (v := v) H hm
  have n1 : ∀ (w : zM) (f : Nat → Int32), (zuA w h f).1 (h + 2) = w.1 (h + 2) := fun w f => zA_n _ _ (by omega)
  rw [if_pos hk.1] at q1
  rw [if_pos hk.2.1] at q2
  rw [if_pos hk.2.2] at q3
  rw [if_pos hm] at q4
  simp only [c_1015, e_1015_0, e_1015_1, e_1015_2, e_1015_5, e_1015_8, e_1015_9, e_1015_10, e_1015_13, e_1015_16, e_1015_17, e_1015_18, e_1015_21, e_1015_24, e_1015_26, e_1015_27, e_1015_28, e_1015_31, e_1015_34, e_1015_36, e_1015_37, e_1015_38, e_1015_41, e_1015_43, e_1015_44, e_1015_45, e_1015_48, e_1015_49, e_1015_50, e_1015_53, e_1015_54, e_1015_56, e_1015_57, e_1015_58, e_1015_61, e_1015_62, e_1015_64, e_1015_65, e_1015_66, e_1015_69, e_1015_70, e_1015_72, e_1015_73, e_1015_74, e_1015_77, e_1015_78, e_1015_80, e_1015_81, e_1015_82, e_1015_85, e_1015_86, e_1015_88, e_1015_89, e_1015_90, e_1015_93, e_1015_94, e_1015_96, e_1015_97, e_1015_98, e_1015_101, e_1015_103, zk_int, zk_ref, zk_null, zk_none, zk_long, zisR_r, zisR_n, zcl_int, zcl_ref, zcl_null, zpush_s, zpush_n, zbs, zbn, true_or, or_true, not_false_eq_true, not_true_eq_false, ↓reduceIte, and_self, and_true, true_and, f1, c3, q1, q2, q3, q4, z, zui_A, nI_1, w0, w1, w2, w3, w4, w5, n1, zA_s, zA_A]
  rfl
def sOkT (b p a : Int32) : Prop := (1 ≤ b ∧ b ≤ 999) ∧ (1 ≤ p ∧ p ≤ 9) ∧ (0 ≤ a ∧ a ≤ 99)
def sAdT (w : zM) (h n : Nat) (k b p a y : Int32) : zM := zuA (zuA w h (upd (w.1 h) 3 (nI (n + 1)))) (h + 1) (upd (sGst (w.1 (h + 1)) n k b p a) (5 * n + 4) y)
theorem q_addTable_1k {d h n m : Nat} {w : zM} {k b p a y : Int32} (C : zHc w h n m) (hk : ¬ (0 ≤ k ∧ k ≤ 6)) : cal (d + 4) 1016 [.ref h, .int k, .int b, .int p, .int a, .int y] w = some (some (.int (-1)), w) := by
  obtain ⟨H, c1, c2, c3, c4⟩ := id C
  obtain ⟨f1, -⟩ := zHs_f H
  have q1 := q_tablePartMayBe_0 (d := d + 2) (w := w) (v := k) H
  rw [if_neg hk] at q1
  simp only [c_1016, e_1016_0, e_1016_1, e_1016_2, e_1016_3, e_1016_6, e_1016_9, e_1016_10, e_1016_12, e_1016_15, e_1016_18, e_1016_19, e_1016_20, e_1016_21, e_1016_22, e_1016_23, e_1016_26, e_1016_29, e_1016_30, e_1016_31, e_1016_32, e_1016_35, e_1016_38, e_1016_39, e_1016_40, e_1016_42, e_1016_45, e_1016_48, e_1016_50, e_1016_51, e_1016_52, e_1016_55, e_1016_58, e_1016_60, e_1016_61, e_1016_62, e_1016_65, e_1016_67, e_1016_68, e_1016_69, e_1016_72, e_1016_73, e_1016_74, e_1016_77, e_1016_78, e_1016_80, e_1016_81, e_1016_82, e_1016_83, e_1016_85, e_1016_88, e_1016_89, e_1016_91, e_1016_93, e_1016_96, e_1016_98, zk_int, zk_ref, zk_null, zk_none, zk_long, zisR_r, zisR_n, zcl_int, zcl_ref, zcl_null, zpush_s, zpush_n, zbs, zbn, true_or, or_true, not_false_eq_true, not_true_eq_false, ↓reduceIte, and_self, and_true, true_and, f1, q1]
theorem q_addTable_1w {d h n m : Nat} {w : zM} {k b p a y : Int32} (C : zHc w h n m) (hy : y < 0 ∨ nI m ≤ y) : cal (d + 4) 1016 [.ref h, .int k, .int b, .int p, .int a, .int y] w = some (some (.int (-1)), w) := by
  by_cases hk : 0 ≤ k ∧ k ≤ 6
  · obtain ⟨H, c1, c2, c3, c4⟩ := id C
    obtain ⟨f1, -⟩ := zHs_f H
    have z : ((1 : Int32) = 0) = False := by decide
    have q1 := q_tablePartMayBe_0 (d := d + 2) (w := w) (v := k) H
    rw [if_pos hk] at q1
    simp only [c_1016, e_1016_0, e_1016_1, e_1016_2, e_1016_3, e_1016_6, e_1016_9, e_1016_10, e_1016_12, e_1016_15, e_1016_18, e_1016_19, e_1016_20, e_1016_21, e_1016_22, e_1016_23, e_1016_26, e_1016_29, e_1016_30, e_1016_31, e_1016_32, e_1016_35, e_1016_38, e_1016_39, e_1016_40, e_1016_42, e_1016_45, e_1016_48, e_1016_50, e_1016_51, e_1016_52, e_1016_55, e_1016_58, e_1016_60, e_1016_61, e_1016_62, e_1016_65, e_1016_67, e_1016_68, e_1016_69, e_1016_72, e_1016_73, e_1016_74, e_1016_77, e_1016_78, e_1016_80, e_1016_81, e_1016_82, e_1016_83, e_1016_85, e_1016_88, e_1016_89, e_1016_91, e_1016_93, e_1016_96, e_1016_98, zk_int, zk_ref, zk_null, zk_none, zk_long, zisR_r, zisR_n, zcl_int, zcl_ref, zcl_null, zpush_s, zpush_n, zbs, zbn, true_or, or_true, not_false_eq_true, not_true_eq_false, ↓reduceIte, and_self, and_true, true_and, f1, q1, z, q_hasWaiter_o C hy]
  · exact q_addTable_1k C hk
theorem q_addTable_6 {d h n m y : Nat} {w : zM} {k b p a : Int32} (C : zHc w h n m) (hk : 0 ≤ k ∧ k ≤ 6) (hy : y < m) (ho : ¬ sOkT b p a) : cal (d + 4) 1016 [.ref h, .int k, .int b, .int p, .int a, .int (nI y)] w = some (some (.int (-6)), w) := by
  obtain ⟨H, c1, c2, c3, c4⟩ := id C
  obtain ⟨f1, -⟩ := zHs_f H
  have z : ((1 : Int32) = 0) = False := by decide
  have q1 := q_tablePartMayBe_0 (d := d + 2) (w := w) (v := k) H
  have q2 := q_tablePartMayBe_1 (d := d + 2) (w := w) (v := b) H
  have q3 := q_tablePartMayBe_2 (d := d + 2) (w := w) (v := p) H
  have q4 := q_tablePartMayBe_3 (d := d + 2) (w := w) (v := a) H
  rw [if_pos hk] at q1
  by_cases a1 : 1 ≤ b ∧ b ≤ 999
  · by_cases a2 : 1 ≤ p ∧ p ≤ 9
    · have a3 : ¬ (0 ≤ a ∧ a ≤ 99) := fun a3 => ho ⟨a1, a2, a3⟩
      rw [if_pos a1] at q2
      rw [if_pos a2] at q3
      rw [if_neg a3] at q4
      simp only [c_1016, e_1016_0, e_1016_1, e_1016_2, e_1016_3, e_1016_6, e_1016_9, e_1016_10, e_1016_12, e_1016_15, e_1016_18, e_1016_19, e_1016_20, e_1016_21, e_1016_22, e_1016_23, e_1016_26, e_1016_29, e_1016_30, e_1016_31, e_1016_32, e_1016_35, e_1016_38, e_1016_39, e_1016_40, e_1016_42, e_1016_45, e_1016_48, e_1016_50, e_1016_51, e_1016_52, e_1016_55, e_1016_58, e_1016_60, e_1016_61, e_1016_62, e_1016_65, e_1016_67, e_1016_68, e_1016_69, e_1016_72, e_1016_73, e_1016_74, e_1016_77, e_1016_78, e_1016_80, e_1016_81, e_1016_82, e_1016_83, e_1016_85, e_1016_88, e_1016_89, e_1016_91, e_1016_93, e_1016_96, e_1016_98, zk_int, zk_ref, zk_null, zk_none, zk_long, zisR_r, zisR_n, zcl_int, zcl_ref, zcl_null, zpush_s, zpush_n, zbs, zbn, true_or, or_true, not_false_eq_true, not_true_eq_false, ↓reduceIte, and_self, and_true, true_and, f1, q1, z, q_hasWaiter C hy, q2, q3, q4]
    · rw [if_pos a1] at q2
      rw [if_neg a2] at q3
      simp only [c_1016, e_1016_0, e_1016_1, e_1016_2, e_1016_3, e_1016_6, e_1016_9, e_1016_10, e_1016_12, e_1016_15, e_1016_18, e_1016_19, e_1016_20, e_1016_21, e_1016_22, e_1016_23, e_1016_26, e_1016_29, e_1016_30, e_1016_31, e_1016_32, e_1016_35, e_1016_38, e_1016_39, e_1016_40, e_1016_42, e_1016_45, e_1016_48, e_1016_50, e_1016_51, e_1016_52, e_1016_55, e_1016_58, e_1016_60, e_1016_61, e_1016_62, e_1016_65, e_1016_67, e_1016_68, e_1016_69, e_1016_72, e_1016_73, e_1016_74, e_1016_77, e_1016_78, e_1016_80, e_1016_81, e_1016_82, e_1016_83, e_1016_85, e_1016_88, e_1016_89, e_1016_91, e_1016_93, e_1016_96, e_1016_98, zk_int, zk_ref, zk_null, zk_none, zk_long, zisR_r, zisR_n, zcl_int, zcl_ref, zcl_null, zpush_s, zpush_n, zbs, zbn, true_or, or_true, not_false_eq_true, not_true_eq_false, ↓reduceIte, and_self, and_true, true_and, f1, q1, z, q_hasWaiter C hy, q2, q3]
  · rw [if_neg a1] at q2
    simp only [c_1016, e_1016_0, e_1016_1, e_1016_2, e_1016_3, e_1016_6, e_1016_9, e_1016_10, e_1016_12, e_1016_15, e_1016_18, e_1016_19, e_1016_20, e_1016_21, e_1016_22, e_1016_23, e_1016_26, e_1016_29, e_1016_30, e_1016_31, e_1016_32, e_1016_35, e_1016_38, e_1016_39, e_1016_40, e_1016_42, e_1016_45, e_1016_48, e_1016_50, e_1016_51, e_1016_52, e_1016_55, e_1016_58, e_1016_60, e_1016_61, e_1016_62, e_1016_65, e_1016_67, e_1016_68, e_1016_69, e_1016_72, e_1016_73, e_1016_74, e_1016_77, e_1016_78, e_1016_80, e_1016_81, e_1016_82, e_1016_83, e_1016_85, e_1016_88, e_1016_89, e_1016_91, e_1016_93, e_1016_96, e_1016_98, zk_int, zk_ref, zk_null, zk_none, zk_long, zisR_r, zisR_n, zcl_int, zcl_ref, zcl_null, zpush_s, zpush_n, zbs, zbn, true_or, or_true, not_false_eq_true, not_true_eq_false, ↓reduceIte, and_self, and_true, true_and, f1, q1, z, q_hasWaiter C hy, q2]
theorem q_addTable_7 {d h n m y : Nat} {w : zM} {k b p a : Int32} (C : zHc w h n m) (hk : 0 ≤ k ∧ k ≤ 6) (hy : y < m) (ho : sOkT b p a) (hn : ¬ n < 8) : cal (d + 4) 1016 [.ref h, .int k, .int b, .int p, .int a, .int (nI y)] w = some (some (.int (-7)), w) := by
  obtain ⟨H, c1, c2, c3, c4⟩ := id C
  obtain ⟨f1, -⟩ := zHs_f H
  have z : ((1 : Int32) = 0) = False := by decide
  have q1 := q_tablePartMayBe_0 (d := d + 2) (w := w) (v := k) H
  have q2 := q_tablePartMayBe_1 (d := d + 2) (w := w) (v := b) H
  have q3 := q_tablePartMayBe_2 (d := d + 2) (w := w) (v := p) H
  have q4 := q_tablePartMayBe_3 (d := d + 2) (w := w) (v := a) H
  have q5 := q_hasRoomForTable (d := d + 3) C
  rw [if_pos hk] at q1
  rw [if_pos ho.1] at q2
  rw [if_pos ho.2.1] at q3
  rw [if_pos ho.2.2] at q4
  rw [if_neg hn] at q5
  simp only [c_1016, e_1016_0, e_1016_1, e_1016_2, e_1016_3, e_1016_6, e_1016_9, e_1016_10, e_1016_12, e_1016_15, e_1016_18, e_1016_19, e_1016_20, e_1016_21, e_1016_22, e_1016_23, e_1016_26, e_1016_29, e_1016_30, e_1016_31, e_1016_32, e_1016_35, e_1016_38, e_1016_39, e_1016_40, e_1016_42, e_1016_45, e_1016_48, e_1016_50, e_1016_51, e_1016_52, e_1016_55, e_1016_58, e_1016_60, e_1016_61, e_1016_62, e_1016_65, e_1016_67, e_1016_68, e_1016_69, e_1016_72, e_1016_73, e_1016_74, e_1016_77, e_1016_78, e_1016_80, e_1016_81, e_1016_82, e_1016_83, e_1016_85, e_1016_88, e_1016_89, e_1016_91, e_1016_93, e_1016_96, e_1016_98, zk_int, zk_ref, zk_null, zk_none, zk_long, zisR_r, zisR_n, zcl_int, zcl_ref, zcl_null, zpush_s, zpush_n, zbs, zbn, true_or, or_true, not_false_eq_true, not_true_eq_false, ↓reduceIte, and_self, and_true, true_and, f1, q1, z, q_hasWaiter C hy, q2, q3, q4, q5]
theorem q_addTable {d h n m y : Nat} {w : zM} {k b p a : Int32} (C : zHc w h n m) (hk : 0 ≤ k ∧ k ≤ 6) (hy : y < m) (ho : sOkT b p a) (hn : n < 8) : cal (d + 4) 1016 [.ref h, .int k, .int b, .int p, .int a, .int (nI y)] w = some (some (.int (nI n)), sAdT w h n k b p a (nI y)) := by
  obtain ⟨H, c1, c2, c3, c4⟩ := id C
  obtain ⟨f1, -⟩ := zHs_f H
  have z : ((1 : Int32) = 0) = False := by decide
  have q1 := q_tablePartMayBe_0 (d := d + 2) (w := w) (v := k) H
  have q2 := q_tablePartMayBe_1 (d := d + 2) (w := w) (v := b) H
  have q3 := q_tablePartMayBe_2 (d := d + 2) (w := w) (v := p) H
  have q4 := q_tablePartMayBe_3 (d := d + 2) (w := w) (v := a) H
  have q5 := q_hasRoomForTable (d := d + 3) C
  have w1 := fun (w : zM) => q_setGuests (d := d + 1) (w := w) (k := k) (b := b) (p := p) (a := a) H hn
  have w2 := fun (w : zM) => q_setServer (d := d + 1) (w := w) (v := nI y) H hn
  have n1 : ∀ (w : zM) (f : Nat → Int32), (zuA w h f).1 (h + 1) = w.1 (h + 1) := fun w f => zA_n _ _ (by omega)
  rw [if_pos hk] at q1
  rw [if_pos ho.1] at q2
  rw [if_pos ho.2.1] at q3
  rw [if_pos ho.2.2] at q4
  rw [if_pos hn] at q5
  simp only [c_1016, e_1016_0, e_1016_1, e_1016_2, e_1016_3, e_1016_6, e_1016_9, e_1016_10, e_1016_12, e_1016_15, e_1016_18, e_1016_19, e_1016_20, e_1016_21, e_1016_22, e_1016_23, e_1016_26, e_1016_29, e_1016_30, e_1016_31, e_1016_32, e_1016_35, e_1016_38, e_1016_39, e_1016_40, e_1016_42, e_1016_45, e_1016_48, e_1016_50, e_1016_51, e_1016_52, e_1016_55, e_1016_58, e_1016_60, e_1016_61, e_1016_62, e_1016_65, e_1016_67, e_1016_68, e_1016_69, e_1016_72, e_1016_73, e_1016_74, e_1016_77, e_1016_78, e_1016_80, e_1016_81, e_1016_82, e_1016_83, e_1016_85, e_1016_88, e_1016_89, e_1016_91, e_1016_93, e_1016_96, e_1016_98, zk_int, zk_ref, zk_null, zk_none, zk_long, zisR_r, zisR_n, zcl_int, zcl_ref, zcl_null, zpush_s, zpush_n, zbs, zbn, true_or, or_true, not_false_eq_true, not_true_eq_false, ↓reduceIte, and_self, and_true, true_and, f1, c1, q1, z, q_hasWaiter C hy, q2, q3, q4, q5, zui_A, nI_1, w1, w2, n1, zA_s, zA_A]
  rfl
theorem q_tablePartMayBe_4 {d h n m y : Nat} {w : zM} (C : zHc w h n m) (hy : y < m) : cal (d + 1) 1012 [.ref h, .int 4, .int (nI y)] w = some (some (.int 1), w) := by
  obtain ⟨H, c1, c2, c3, c4⟩ := id C
  obtain ⟨f1, -⟩ := zHs_f H
  have z : ((4 : Int32) = 4) = True := by decide
  simp only [c_1012, e_1012_0, e_1012_1, e_1012_2, e_1012_5, e_1012_6, e_1012_7, e_1012_10, e_1012_11, e_1012_12, e_1012_15, e_1012_16, e_1012_17, e_1012_20, e_1012_21, e_1012_24, e_1012_25, e_1012_28, e_1012_31, e_1012_32, e_1012_35, e_1012_36, e_1012_39, e_1012_42, e_1012_43, e_1012_46, e_1012_47, zk_int, zk_ref, zk_null, zk_none, zk_long, zisR_r, zisR_n, zcl_int, zcl_ref, zcl_null, zpush_s, zpush_n, zbs, zbn, true_or, or_true, not_false_eq_true, not_true_eq_false, ↓reduceIte, and_self, and_true, true_and, f1, z, q_hasWaiter C hy]
theorem q_tablePartMayBe_4o {d h n m : Nat} {w : zM} {y : Int32} (C : zHc w h n m) (hy : y < 0 ∨ nI m ≤ y) : cal (d + 1) 1012 [.ref h, .int 4, .int y] w = some (some (.int 0), w) := by
  obtain ⟨H, c1, c2, c3, c4⟩ := id C
  obtain ⟨f1, -⟩ := zHs_f H
  have z : ((4 : Int32) = 4) = True := by decide
  simp only [c_1012, e_1012_0, e_1012_1, e_1012_2, e_1012_5, e_1012_6, e_1012_7, e_1012_10, e_1012_11, e_1012_12, e_1012_15, e_1012_16, e_1012_17, e_1012_20, e_1012_21, e_1012_24, e_1012_25, e_1012_28, e_1012_31, e_1012_32, e_1012_35, e_1012_36, e_1012_39, e_1012_42, e_1012_43, e_1012_46, e_1012_47, zk_int, zk_ref, zk_null, zk_none, zk_long, zisR_r, zisR_n, zcl_int, zcl_ref, zcl_null, zpush_s, zpush_n, zbs, zbn, true_or, or_true, not_false_eq_true, not_true_eq_false, ↓reduceIte, and_self, and_true, true_and, f1, z, q_hasWaiter_o C hy]
def zsub (l : Int32) (f : Nat → Int32) : Nat → Int32
  | 0 => l
  | n + 1 => zsub l f n - f n
def sSv (V sh : Nat → Int32) : Nat → Nat → Int32
  | 0 => V
  | j + 1 => upd (sSv V sh j) (6 * j + 5) (sSv V sh j (6 * j + 5) + sh j)
theorem sSv_o (V sh : Nat → Int32) {k : Nat} : ∀ j, (∀ i, i < j → k ≠ 6 * i + 5) → sSv V sh j k = V k := by
  intro j
  induction j with
  | zero => intro _; rfl
  | succ j ih =>
    intro h
    have h1 : k ≠ 6 * j + 5 := h j (by omega)
    show (if k = 6 * j + 5 then _ else sSv V sh j k) = V k
    rw [if_neg h1]
    exact ih (fun i hi => h i (by omega))
theorem zsum_c {f g : Nat → Int32} : ∀ n, (∀ i, i < n → f i = g i) → zsum f n = zsum g n := by
  intro n
  induction n with
  | zero => intro _; rfl
  | succ n ih =>
    intro h
    show zsum f n + f n = zsum g n + g n
    rw [ih (fun i hi => h i (by omega)), h n (by omega)]
theorem sShr_V {T V V' G gv : Nat → Int32} {n m y : Nat} (hy : y < m) (h : ∀ v, v < m → V' (6 * v + 3) = V (6 * v + 3)) : sShr T V' G gv n m y = sShr T V G gv n m y := by
  have e1 : sPts V' m = sPts V m := zsum_c m h
  unfold sShr sByP
  rw [e1, h y hy]
def sEvW (w : zM) (h n m : Nat) : zM := zuA (zuA w (h + 2) (sSv (w.1 (h + 2)) (fun j => sShr (w.1 (h + 1)) (w.1 (h + 2)) (w.1 (h + 3)) (w.1 (h + 4)) n m j) m)) h (upd (upd (w.1 h) 6 (w.1 h 6 + zsub (zsum (w.1 (h + 4)) n) (fun j => sShr (w.1 (h + 1)) (w.1 (h + 2)) (w.1 (h + 3)) (w.1 (h + 4)) n m j) m)) 5 (w.1 h 5 + 1))
theorem q_saveEvening {d h n m : Nat} {w : zM} (C : zHc w h n m) : cal (d + 4) 1045 [.ref h] w = some (none, sEvW w h n m) := by
  obtain ⟨H, c1, c2, c3, c4⟩ := id C
  obtain ⟨f1, f2, f3, f4, f5, f6, f7, f8, f9, f10, f11, f12, f13⟩ := zHs_f H
  generalize hsh : (fun j => sShr (w.1 (h + 1)) (w.1 (h + 2)) (w.1 (h + 3)) (w.1 (h + 4)) n m j) = sh
  have key : ∀ r j o3, j + r = m → den (d + 4) 1045 7 [some (.ref h), some (.int (zsub (zsum (w.1 (h + 4)) n) sh j)), some (.int (nI j)), o3] [] (zuA w (h + 2) (sSv (w.1 (h + 2)) sh j)) = some (none, zuA (zuA w (h + 2) (sSv (w.1 (h + 2)) sh m)) h (upd (upd (w.1 h) 6 (w.1 h 6 + zsub (zsum (w.1 (h + 4)) n) sh m)) 5 (w.1 h 5 + 1))) := by
    intro r
    induction r with
    | zero =>
      intro j o3 hj
      have e : j = m := by omega
      subst e
      have g1 := nI_le_n (Nat.le_refl j) (by omega)
      have n1 : ∀ (w : zM) (f : Nat → Int32), (zuA w (h + 2) f).1 h = w.1 h := fun w f => zA_n _ _ (by omega)
      have u1 : ∀ (f : Nat → Int32) (v : Int32), upd f 6 v 5 = f 5 := fun f v => if_neg (by decide)
      simp only [c_1045, e_1045_0, e_1045_1, e_1045_4, e_1045_5, e_1045_6, e_1045_7, e_1045_8, e_1045_9, e_1045_12, e_1045_15, e_1045_16, e_1045_17, e_1045_20, e_1045_21, e_1045_22, e_1045_23, e_1045_24, e_1045_25, e_1045_26, e_1045_27, e_1045_28, e_1045_29, e_1045_30, e_1045_31, e_1045_34, e_1045_35, e_1045_36, e_1045_39, e_1045_42, e_1045_45, e_1045_46, e_1045_47, e_1045_50, e_1045_51, e_1045_52, e_1045_55, e_1045_56, e_1045_57, e_1045_60, e_1045_61, e_1045_62, e_1045_65, zk_int, zk_ref, zk_null, zk_none, zk_long, zisR_r, zisR_n, zcl_int, zcl_ref, zcl_null, zpush_s, zpush_n, zbs, zbn, true_or, or_true, not_false_eq_true, not_true_eq_false, ↓reduceIte, and_self, and_true, true_and, f1, zui_A, n1, c3, g1, zA_s, zA_A, u1]
    | succ r ih =>
      intro j o3 hj
      have hjn : j < m := by omega
      have hj4 : j < 4 := by omega
      have g1 := nI_ge_f hjn (by omega)
      have C' : zHc (zuA w (h + 2) (sSv (w.1 (h + 2)) sh j)) h n m := zHc_A C (by omega)
      have n1 : ∀ (w : zM) (f : Nat → Int32), (zuA w (h + 2) f).1 (h + 1) = w.1 (h + 1) := fun w f => zA_n _ _ (by omega)
      have n3 : ∀ (w : zM) (f : Nat → Int32), (zuA w (h + 2) f).1 (h + 3) = w.1 (h + 3) := fun w f => zA_n _ _ (by omega)
      have n4 : ∀ (w : zM) (f : Nat → Int32), (zuA w (h + 2) f).1 (h + 4) = w.1 (h + 4) := fun w f => zA_n _ _ (by omega)
      have q1 := q_shareOf (d := d) C' hjn
      have q2 := q_waiterPart_5 (d := d + 2) C' hjn
      have q3 := fun (w : zM) (v : Int32) => q_setWaiterPart_5 (d := d + 2) (w := w) (v := v) H hj4
      have e9 : sShr (w.1 (h + 1)) (sSv (w.1 (h + 2)) sh j) (w.1 (h + 3)) (w.1 (h + 4)) n m j = sh j := by
        rw [sShr_V hjn (fun v hv => sSv_o _ _ j (fun i hi => by omega))]
        rw [← hsh]
      rw [n1, n3, n4, zA_s, e9] at q1
      rw [zA_s] at q2
      have c3' := C'.2.2.2.1
      rw [e_1045_7]
      simp only [c_1045, e_1045_0, e_1045_1, e_1045_4, e_1045_5, e_1045_6, e_1045_8, e_1045_9, e_1045_12, e_1045_15, e_1045_16, e_1045_17, e_1045_20, e_1045_21, e_1045_22, e_1045_23, e_1045_24, e_1045_25, e_1045_26, e_1045_27, e_1045_28, e_1045_29, e_1045_30, e_1045_31, e_1045_34, e_1045_35, e_1045_36, e_1045_39, e_1045_42, e_1045_45, e_1045_46, e_1045_47, e_1045_50, e_1045_51, e_1045_52, e_1045_55, e_1045_56, e_1045_57, e_1045_60, e_1045_61, e_1045_62, e_1045_65, zk_int, zk_ref, zk_null, zk_none, zk_long, zisR_r, zisR_n, zcl_int, zcl_ref, zcl_null, zpush_s, zpush_n, zbs, zbn, true_or, or_true, not_false_eq_true, not_true_eq_false, ↓reduceIte, and_self, and_true, true_and, f1, c3', g1, q1, q2, q3, zA_s, zA_A, nI_1]
      exact ih (j + 1) _ (by omega)
  have h1 := key m 0 none (by omega)
  have e0 : zuA w (h + 2) (sSv (w.1 (h + 2)) sh 0) = w := zA_id _ _
  rw [e0] at h1
  have q1 := q_givenByAll (d := d + 2) C
  simp only [c_1045, e_1045_0, e_1045_1, e_1045_4, e_1045_5, e_1045_6, e_1045_8, e_1045_9, e_1045_12, e_1045_15, e_1045_16, e_1045_17, e_1045_20, e_1045_21, e_1045_22, e_1045_23, e_1045_24, e_1045_25, e_1045_26, e_1045_27, e_1045_28, e_1045_29, e_1045_30, e_1045_31, e_1045_34, e_1045_35, e_1045_36, e_1045_39, e_1045_42, e_1045_45, e_1045_46, e_1045_47, e_1045_50, e_1045_51, e_1045_52, e_1045_55, e_1045_56, e_1045_57, e_1045_60, e_1045_61, e_1045_62, e_1045_65, zk_int, zk_ref, zk_null, zk_none, zk_long, zisR_r, zisR_n, zcl_int, zcl_ref, zcl_null, zpush_s, zpush_n, zbs, zbn, true_or, or_true, not_false_eq_true, not_true_eq_false, ↓reduceIte, and_self, and_true, true_and, f1, q1]
  unfold sEvW
  rw [hsh]
  exact h1
