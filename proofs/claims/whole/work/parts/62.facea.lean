section FJ
variable {d n m : Nat} {w : zM}
theorem f_bec_1 {x k v : Int32} (C : zHc w 1 n m) (hx : x < 0 ∨ nI m ≤ x) : cal (d + 3) 5012 [.ref 0, .int x, .int k, .int v] w = some (some (.int (-1)), fRf w 1) := by
  have a := q_hasWaiter_o (d := d + 2) C hx
  have r := f_refuse (d := d + 1) (w := w) (c := -1) (j := 1) (by decide) (by decide)
  simp only [c_5012, e_5012_0, e_5012_1, e_5012_4, e_5012_5, e_5012_8, e_5012_11, e_5012_12, e_5012_13, e_5012_16, e_5012_17, e_5012_18, e_5012_21, e_5012_22, e_5012_23, e_5012_26, e_5012_27, e_5012_29, e_5012_32, e_5012_33, e_5012_34, e_5012_35, e_5012_38, e_5012_41, e_5012_42, e_5012_44, e_5012_47, e_5012_48, e_5012_49, e_5012_52, e_5012_53, e_5012_54, e_5012_57, e_5012_59, e_5012_60, e_5012_63, e_5012_64, e_5012_65, e_5012_66, e_5012_69, e_5012_71, zk_int, zk_ref, zk_null, zk_none, zk_long, zisR_r, zisR_n, zcl_int, zcl_ref, zcl_null, zpush_s, zpush_n, zbs, zbn, true_or, or_true, not_false_eq_true, not_true_eq_false, ↓reduceIte, and_self, and_true, true_and, zt_0, zr_0_0, zt_1, a, r]
theorem f_bec_5 {y : Nat} {k v : Int32} (C : zHc w 1 n m) (hy : y < m) (hk : k < 0 ∨ 4 < k) : cal (d + 3) 5012 [.ref 0, .int (nI y), .int k, .int v] w = some (some (.int (-5)), fRf w 5) := by
  have a := q_hasWaiter (d := d + 2) C hy
  have r := f_refuse (d := d + 1) (w := w) (c := -5) (j := 5) (by decide) (by decide)
  have e10 : ((1 : Int32) = 0) = False := eq_false (by decide)
  by_cases h0 : k < 0
  · simp only [c_5012, e_5012_0, e_5012_1, e_5012_4, e_5012_5, e_5012_8, e_5012_11, e_5012_12, e_5012_13, e_5012_16, e_5012_17, e_5012_18, e_5012_21, e_5012_22, e_5012_23, e_5012_26, e_5012_27, e_5012_29, e_5012_32, e_5012_33, e_5012_34, e_5012_35, e_5012_38, e_5012_41, e_5012_42, e_5012_44, e_5012_47, e_5012_48, e_5012_49, e_5012_52, e_5012_53, e_5012_54, e_5012_57, e_5012_59, e_5012_60, e_5012_63, e_5012_64, e_5012_65, e_5012_66, e_5012_69, e_5012_71, zk_int, zk_ref, zk_null, zk_none, zk_long, zisR_r, zisR_n, zcl_int, zcl_ref, zcl_null, zpush_s, zpush_n, zbs, zbn, true_or, or_true, not_false_eq_true, not_true_eq_false, ↓reduceIte, and_self, and_true, true_and, zt_0, zr_0_0, zt_1, a, r, e10, h0]
  · have h1 := hk.resolve_left h0
    have h2 : ¬ k ≤ 4 := Int32.not_le.mpr h1
    simp only [c_5012, e_5012_0, e_5012_1, e_5012_4, e_5012_5, e_5012_8, e_5012_11, e_5012_12, e_5012_13, e_5012_16, e_5012_17, e_5012_18, e_5012_21, e_5012_22, e_5012_23, e_5012_26, e_5012_27, e_5012_29, e_5012_32, e_5012_33, e_5012_34, e_5012_35, e_5012_38, e_5012_41, e_5012_42, e_5012_44, e_5012_47, e_5012_48, e_5012_49, e_5012_52, e_5012_53, e_5012_54, e_5012_57, e_5012_59, e_5012_60, e_5012_63, e_5012_64, e_5012_65, e_5012_66, e_5012_69, e_5012_71, zk_int, zk_ref, zk_null, zk_none, zk_long, zisR_r, zisR_n, zcl_int, zcl_ref, zcl_null, zpush_s, zpush_n, zbs, zbn, true_or, or_true, not_false_eq_true, not_true_eq_false, ↓reduceIte, and_self, and_true, true_and, zt_0, zr_0_0, zt_1, a, r, e10, h0, h2]
theorem f_bec_60 {y : Nat} {v : Int32} (C : zHc w 1 n m) (hy : y < m) (hv : ¬ (0 ≤ v ∧ v ≤ 6)) : cal (d + 3) 5012 [.ref 0, .int (nI y), .int 0, .int v] w = some (some (.int (-6)), fRf w 6) := by
  have a := q_hasWaiter (d := d + 2) C hy
  have r := f_refuse (d := d + 1) (w := w) (c := -6) (j := 6) (by decide) (by decide)
  have b := q_waiterPartMayBe_0 (d := d + 1) (w := w) (v := v)
  rw [if_neg hv] at b
  have e10 : ((1 : Int32) = 0) = False := eq_false (by decide)
  have l0 : ¬ (0 : Int32) < 0 := by decide
  have l4 : (0 : Int32) ≤ 4 := by decide
  simp only [c_5012, e_5012_0, e_5012_1, e_5012_4, e_5012_5, e_5012_8, e_5012_11, e_5012_12, e_5012_13, e_5012_16, e_5012_17, e_5012_18, e_5012_21, e_5012_22, e_5012_23, e_5012_26, e_5012_27, e_5012_29, e_5012_32, e_5012_33, e_5012_34, e_5012_35, e_5012_38, e_5012_41, e_5012_42, e_5012_44, e_5012_47, e_5012_48, e_5012_49, e_5012_52, e_5012_53, e_5012_54, e_5012_57, e_5012_59, e_5012_60, e_5012_63, e_5012_64, e_5012_65, e_5012_66, e_5012_69, e_5012_71, zk_int, zk_ref, zk_null, zk_none, zk_long, zisR_r, zisR_n, zcl_int, zcl_ref, zcl_null, zpush_s, zpush_n, zbs, zbn, true_or, or_true, not_false_eq_true, not_true_eq_false, ↓reduceIte, and_self, and_true, true_and, zt_0, zr_0_0, zt_1, a, b, r, e10, l0, l4]
theorem f_becs_0 {y : Nat} {v : Int32} (C : zHc w 1 n m) (hy : y < m) (hv : 0 ≤ v ∧ v ≤ 6) : cal (d + 3) 5012 [.ref 0, .int (nI y), .int 0, .int v] w = some (some (.int (w.1 3 (6 * y + 0))), zuA w 3 (upd (w.1 3) (6 * y + 0) v)) := by
  have h4 := C.2.2.2.2
  have a := q_hasWaiter (d := d + 2) C hy
  have b := q_waiterPartMayBe_0 (d := d + 1) (w := w) (v := v)
  rw [if_pos hv] at b
  have p := q_waiterPart_0 (d := d + 1) C hy
  have s := q_setWaiterPart_0 (d := d + 1) (w := w) (v := v) zHs1 (t := y) (by omega)
  have e10 : ((1 : Int32) = 0) = False := eq_false (by decide)
  have l0 : ¬ (0 : Int32) < 0 := by decide
  have l4 : (0 : Int32) ≤ 4 := by decide
  simp only [c_5012, e_5012_0, e_5012_1, e_5012_4, e_5012_5, e_5012_8, e_5012_11, e_5012_12, e_5012_13, e_5012_16, e_5012_17, e_5012_18, e_5012_21, e_5012_22, e_5012_23, e_5012_26, e_5012_27, e_5012_29, e_5012_32, e_5012_33, e_5012_34, e_5012_35, e_5012_38, e_5012_41, e_5012_42, e_5012_44, e_5012_47, e_5012_48, e_5012_49, e_5012_52, e_5012_53, e_5012_54, e_5012_57, e_5012_59, e_5012_60, e_5012_63, e_5012_64, e_5012_65, e_5012_66, e_5012_69, e_5012_71, zk_int, zk_ref, zk_null, zk_none, zk_long, zisR_r, zisR_n, zcl_int, zcl_ref, zcl_null, zpush_s, zpush_n, zbs, zbn, true_or, or_true, not_false_eq_true, not_true_eq_false, ↓reduceIte, and_self, and_true, true_and, zt_0, zr_0_0, zt_1, a, b, p, s, e10, l0, l4]
theorem f_bec_61 {y : Nat} {v : Int32} (C : zHc w 1 n m) (hy : y < m) (hv : ¬ (0 ≤ v ∧ v ≤ 3)) : cal (d + 3) 5012 [.ref 0, .int (nI y), .int 1, .int v] w = some (some (.int (-6)), fRf w 6) := by
  have a := q_hasWaiter (d := d + 2) C hy
  have r := f_refuse (d := d + 1) (w := w) (c := -6) (j := 6) (by decide) (by decide)
  have b := q_waiterPartMayBe_1 (d := d + 1) (w := w) (v := v)
  rw [if_neg hv] at b
  have e10 : ((1 : Int32) = 0) = False := eq_false (by decide)
  have l0 : ¬ (1 : Int32) < 0 := by decide
  have l4 : (1 : Int32) ≤ 4 := by decide
  simp only [c_5012, e_5012_0, e_5012_1, e_5012_4, e_5012_5, e_5012_8, e_5012_11, e_5012_12, e_5012_13, e_5012_16, e_5012_17, e_5012_18, e_5012_21, e_5012_22, e_5012_23, e_5012_26, e_5012_27, e_5012_29, e_5012_32, e_5012_33, e_5012_34, e_5012_35, e_5012_38, e_5012_41, e_5012_42, e_5012_44, e_5012_47, e_5012_48, e_5012_49, e_5012_52, e_5012_53, e_5012_54, e_5012_57, e_5012_59, e_5012_60, e_5012_63, e_5012_64, e_5012_65, e_5012_66, e_5012_69, e_5012_71, zk_int, zk_ref, zk_null, zk_none, zk_long, zisR_r, zisR_n, zcl_int, zcl_ref, zcl_null, zpush_s, zpush_n, zbs, zbn, true_or, or_true, not_false_eq_true, not_true_eq_false, ↓reduceIte, and_self, and_true, true_and, zt_0, zr_0_0, zt_1, a, b, r, e10, l0, l4]
theorem f_becs_1 {y : Nat} {v : Int32} (C : zHc w 1 n m) (hy : y < m) (hv : 0 ≤ v ∧ v ≤ 3) : cal (d + 3) 5012 [.ref 0, .int (nI y), .int 1, .int v] w = some (some (.int (w.1 3 (6 * y + 1))), zuA w 3 (upd (w.1 3) (6 * y + 1) v)) := by
  have h4 := C.2.2.2.2
  have a := q_hasWaiter (d := d + 2) C hy
  have b := q_waiterPartMayBe_1 (d := d + 1) (w := w) (v := v)
  rw [if_pos hv] at b
  have p := q_waiterPart_1 (d := d + 1) C hy
  have s := q_setWaiterPart_1 (d := d + 1) (w := w) (v := v) zHs1 (t := y) (by omega)
  have e10 : ((1 : Int32) = 0) = False := eq_false (by decide)
  have l0 : ¬ (1 : Int32) < 0 := by decide
  have l4 : (1 : Int32) ≤ 4 := by decide
  simp only [c_5012, e_5012_0, e_5012_1, e_5012_4, e_5012_5, e_5012_8, e_5012_11, e_5012_12, e_5012_13, e_5012_16, e_5012_17, e_5012_18, e_5012_21, e_5012_22, e_5012_23, e_5012_26, e_5012_27, e_5012_29, e_5012_32, e_5012_33, e_5012_34, e_5012_35, e_5012_38, e_5012_41, e_5012_42, e_5012_44, e_5012_47, e_5012_48, e_5012_49, e_5012_52, e_5012_53, e_5012_54, e_5012_57, e_5012_59, e_5012_60, e_5012_63, e_5012_64, e_5012_65, e_5012_66, e_5012_69, e_5012_71, zk_int, zk_ref, zk_null, zk_none, zk_long, zisR_r, zisR_n, zcl_int, zcl_ref, zcl_null, zpush_s, zpush_n, zbs, zbn, true_or, or_true, not_false_eq_true, not_true_eq_false, ↓reduceIte, and_self, and_true, true_and, zt_0, zr_0_0, zt_1, a, b, p, s, e10, l0, l4]
theorem f_bec_62 {y : Nat} {v : Int32} (C : zHc w 1 n m) (hy : y < m) (hv : ¬ (0 ≤ v ∧ v ≤ 99)) : cal (d + 3) 5012 [.ref 0, .int (nI y), .int 2, .int v] w = some (some (.int (-6)), fRf w 6) := by
  have a := q_hasWaiter (d := d + 2) C hy
  have r := f_refuse (d := d + 1) (w := w) (c := -6) (j := 6) (by decide) (by decide)
  have b := q_waiterPartMayBe_2 (d := d + 1) (w := w) (v := v)
  rw [if_neg hv] at b
  have e10 : ((1 : Int32) = 0) = False := eq_false (by decide)
  have l0 : ¬ (2 : Int32) < 0 := by decide
  have l4 : (2 : Int32) ≤ 4 := by decide
  simp only [c_5012, e_5012_0, e_5012_1, e_5012_4, e_5012_5, e_5012_8, e_5012_11, e_5012_12, e_5012_13, e_5012_16, e_5012_17, e_5012_18, e_5012_21, e_5012_22, e_5012_23, e_5012_26, e_5012_27, e_5012_29, e_5012_32, e_5012_33, e_5012_34, e_5012_35, e_5012_38, e_5012_41, e_5012_42, e_5012_44, e_5012_47, e_5012_48, e_5012_49, e_5012_52, e_5012_53, e_5012_54, e_5012_57, e_5012_59, e_5012_60, e_5012_63, e_5012_64, e_5012_65, e_5012_66, e_5012_69, e_5012_71, zk_int, zk_ref, zk_null, zk_none, zk_long, zisR_r, zisR_n, zcl_int, zcl_ref, zcl_null, zpush_s, zpush_n, zbs, zbn, true_or, or_true, not_false_eq_true, not_true_eq_false, ↓reduceIte, and_self, and_true, true_and, zt_0, zr_0_0, zt_1, a, b, r, e10, l0, l4]
theorem f_becs_2 {y : Nat} {v : Int32} (C : zHc w 1 n m) (hy : y < m) (hv : 0 ≤ v ∧ v ≤ 99) : cal (d + 3) 5012 [.ref 0, .int (nI y), .int 2, .int v] w = some (some (.int (w.1 3 (6 * y + 2))), zuA w 3 (upd (w.1 3) (6 * y + 2) v)) := by
  have h4 := C.2.2.2.2
  have a := q_hasWaiter (d := d + 2) C hy
  have b := q_waiterPartMayBe_2 (d := d + 1) (w := w) (v := v)
  rw [if_pos hv] at b
  have p := q_waiterPart_2 (d := d + 1) C hy
  have s := q_setWaiterPart_2 (d := d + 1) (w := w) (v := v) zHs1 (t := y) (by omega)
  have e10 : ((1 : Int32) = 0) = False := eq_false (by decide)
  have l0 : ¬ (2 : Int32) < 0 := by decide
  have l4 : (2 : Int32) ≤ 4 := by decide
  simp only [c_5012, e_5012_0, e_5012_1, e_5012_4, e_5012_5, e_5012_8, e_5012_11, e_5012_12, e_5012_13, e_5012_16, e_5012_17, e_5012_18, e_5012_21, e_5012_22, e_5012_23, e_5012_26, e_5012_27, e_5012_29, e_5012_32, e_5012_33, e_5012_34, e_5012_35, e_5012_38, e_5012_41, e_5012_42, e_5012_44, e_5012_47, e_5012_48, e_5012_49, e_5012_52, e_5012_53, e_5012_54, e_5012_57, e_5012_59, e_5012_60, e_5012_63, e_5012_64, e_5012_65, e_5012_66, e_5012_69, e_5012_71, zk_int, zk_ref, zk_null, zk_none, zk_long, zisR_r, zisR_n, zcl_int, zcl_ref, zcl_null, zpush_s, zpush_n, zbs, zbn, true_or, or_true, not_false_eq_true, not_true_eq_false, ↓reduceIte, and_self, and_true, true_and, zt_0, zr_0_0, zt_1, a, b, p, s, e10, l0, l4]
theorem f_bec_63 {y : Nat} {v : Int32} (C : zHc w 1 n m) (hy : y < m) (hv : ¬ (1 ≤ v ∧ v ≤ 9)) : cal (d + 3) 5012 [.ref 0, .int (nI y), .int 3, .int v] w = some (some (.int (-6)), fRf w 6) := by
  have a := q_hasWaiter (d := d + 2) C hy
  have r := f_refuse (d := d + 1) (w := w) (c := -6) (j := 6) (by decide) (by decide)
  have b := q_waiterPartMayBe_3 (d := d + 1) (w := w) (v := v)
  rw [if_neg hv] at b
  have e10 : ((1 : Int32) = 0) = False := eq_false (by decide)
  have l0 : ¬ (3 : Int32) < 0 := by decide
  have l4 : (3 : Int32) ≤ 4 := by decide
  simp only [c_5012, e_5012_0, e_5012_1, e_5012_4, e_5012_5, e_5012_8, e_5012_11, e_5012_12, e_5012_13, e_5012_16, e_5012_17, e_5012_18, e_5012_21, e_5012_22, e_5012_23, e_5012_26, e_5012_27, e_5012_29, e_5012_32, e_5012_33, e_5012_34, e_5012_35, e_5012_38, e_5012_41, e_5012_42, e_5012_44, e_5012_47, e_5012_48, e_5012_49, e_5012_52, e_5012_53, e_5012_54, e_5012_57, e_5012_59, e_5012_60, e_5012_63, e_5012_64, e_5012_65, e_5012_66, e_5012_69, e_5012_71, zk_int, zk_ref, zk_null, zk_none, zk_long, zisR_r, zisR_n, zcl_int, zcl_ref, zcl_null, zpush_s, zpush_n, zbs, zbn, true_or, or_true, not_false_eq_true, not_true_eq_false, ↓reduceIte, and_self, and_true, true_and, zt_0, zr_0_0, zt_1, a, b, r, e10, l0, l4]
theorem f_becs_3 {y : Nat} {v : Int32} (C : zHc w 1 n m) (hy : y < m) (hv : 1 ≤ v ∧ v ≤ 9) : cal (d + 3) 5012 [.ref 0, .int (nI y), .int 3, .int v] w = some (some (.int (w.1 3 (6 * y + 3))), zuA w 3 (upd (w.1 3) (6 * y + 3) v)) := by
  have h4 := C.2.2.2.2
  have a := q_hasWaiter (d := d + 2) C hy
  have b := q_waiterPartMayBe_3 (d := d + 1) (w := w) (v := v)
  rw [if_pos hv] at b
  have p := q_waiterPart_3 (d := d + 1) C hy
  have s := q_setWaiterPart_3 (d := d + 1) (w := w) (v := v) zHs1 (t := y) (by omega)
  have e10 : ((1 : Int32) = 0) = False := eq_false (by decide)
  have l0 : ¬ (3 : Int32) < 0 := by decide
  have l4 : (3 : Int32) ≤ 4 := by decide
  simp only [c_5012, e_5012_0, e_5012_1, e_5012_4, e_5012_5, e_5012_8, e_5012_11, e_5012_12, e_5012_13, e_5012_16, e_5012_17, e_5012_18, e_5012_21, e_5012_22, e_5012_23, e_5012_26, e_5012_27, e_5012_29, e_5012_32, e_5012_33, e_5012_34, e_5012_35, e_5012_38, e_5012_41, e_5012_42, e_5012_44, e_5012_47, e_5012_48, e_5012_49, e_5012_52, e_5012_53, e_5012_54, e_5012_57, e_5012_59, e_5012_60, e_5012_63, e_5012_64, e_5012_65, e_5012_66, e_5012_69, e_5012_71, zk_int, zk_ref, zk_null, zk_none, zk_long, zisR_r, zisR_n, zcl_int, zcl_ref, zcl_null, zpush_s, zpush_n, zbs, zbn, true_or, or_true, not_false_eq_true, not_true_eq_false, ↓reduceIte, and_self, and_true, true_and, zt_0, zr_0_0, zt_1, a, b, p, s, e10, l0, l4]
theorem f_bec_64 {y : Nat} {v : Int32} (C : zHc w 1 n m) (hy : y < m) (hv : ¬ (0 ≤ v ∧ v ≤ 999)) : cal (d + 3) 5012 [.ref 0, .int (nI y), .int 4, .int v] w = some (some (.int (-6)), fRf w 6) := by
  have a := q_hasWaiter (d := d + 2) C hy
  have r := f_refuse (d := d + 1) (w := w) (c := -6) (j := 6) (by decide) (by decide)
  have b := q_waiterPartMayBe_4 (d := d + 1) (w := w) (v := v)
  rw [if_neg hv] at b
  have e10 : ((1 : Int32) = 0) = False := eq_false (by decide)
  have l0 : ¬ (4 : Int32) < 0 := by decide
  have l4 : (4 : Int32) ≤ 4 := by decide
  simp only [c_5012, e_5012_0, e_5012_1, e_5012_4, e_5012_5, e_5012_8, e_5012_11, e_5012_12, e_5012_13, e_5012_16, e_5012_17, e_5012_18, e_5012_21, e_5012_22, e_5012_23, e_5012_26, e_5012_27, e_5012_29, e_5012_32, e_5012_33, e_5012_34, e_5012_35, e_5012_38, e_5012_41, e_5012_42, e_5012_44, e_5012_47, e_5012_48, e_5012_49, e_5012_52, e_5012_53, e_5012_54, e_5012_57, e_5012_59, e_5012_60, e_5012_63, e_5012_64, e_5012_65, e_5012_66, e_5012_69, e_5012_71, zk_int, zk_ref, zk_null, zk_none, zk_long, zisR_r, zisR_n, zcl_int, zcl_ref, zcl_null, zpush_s, zpush_n, zbs, zbn, true_or, or_true, not_false_eq_true, not_true_eq_false, ↓reduceIte, and_self, and_true, true_and, zt_0, zr_0_0, zt_1, a, b, r, e10, l0, l4]
theorem f_becs_4 {y : Nat} {v : Int32} (C : zHc w 1 n m) (hy : y < m) (hv : 0 ≤ v ∧ v ≤ 999) : cal (d + 3) 5012 [.ref 0, .int (nI y), .int 4, .int v] w = some (some (.int (w.1 3 (6 * y + 4))), zuA w 3 (upd (w.1 3) (6 * y + 4) v)) := by
  have h4 := C.2.2.2.2
  have a := q_hasWaiter (d := d + 2) C hy
  have b := q_waiterPartMayBe_4 (d := d + 1) (w := w) (v := v)
  rw [if_pos hv] at b
  have p := q_waiterPart_4 (d := d + 1) C hy
  have s := q_setWaiterPart_4 (d := d + 1) (w := w) (v := v) zHs1 (t := y) (by omega)
  have e10 : ((1 : Int32) = 0) = False := eq_false (by decide)
  have l0 : ¬ (4 : Int32) < 0 := by decide
  have l4 : (4 : Int32) ≤ 4 := by decide
  simp only [c_5012, e_5012_0, e_5012_1, e_5012_4, e_5012_5, e_5012_8, e_5012_11, e_5012_12, e_5012_13, e_5012_16, e_5012_17, e_5012_18, e_5012_21, e_5012_22, e_5012_23, e_5012_26, e_5012_27, e_5012_29, e_5012_32, e_5012_33, e_5012_34, e_5012_35, e_5012_38, e_5012_41, e_5012_42, e_5012_44, e_5012_47, e_5012_48, e_5012_49, e_5012_52, e_5012_53, e_5012_54, e_5012_57, e_5012_59, e_5012_60, e_5012_63, e_5012_64, e_5012_65, e_5012_66, e_5012_69, e_5012_71, zk_int, zk_ref, zk_null, zk_none, zk_long, zisR_r, zisR_n, zcl_int, zcl_ref, zcl_null, zpush_s, zpush_n, zbs, zbn, true_or, or_true, not_false_eq_true, not_true_eq_false, ↓reduceIte, and_self, and_true, true_and, zt_0, zr_0_0, zt_1, a, b, p, s, e10, l0, l4]
end FJ
