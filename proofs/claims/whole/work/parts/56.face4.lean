section FD
variable {d : Nat} {w : zM}
theorem zSs_j {j : Nat} (hj : j < 8) : zSs (34 + 2 * j) := by
  unfold zSs
  omega
theorem f_row_1 {s o x : Int32} (hs : s < 0 ∨ 8 ≤ s) : cal (d + 2) 5001 [.ref 0, .int s, .int o, .int x] w = some (some (.int (-1)), fRf w 1) := by
  have a := f_shelfAt_o (d := d + 1) (w := w) hs
  have r := f_refuse (d := d) (w := w) (c := -1) (j := 1) (by decide) (by decide)
  simp only [c_5001, e_5001_0, e_5001_1, e_5001_2, e_5001_5, e_5001_7, e_5001_9n, e_5001_9r, e_5001_12, e_5001_13, e_5001_14, e_5001_17, e_5001_18, e_5001_19, e_5001_22, e_5001_23, e_5001_25, e_5001_28, e_5001_29, e_5001_30, e_5001_33, e_5001_34, e_5001_35, e_5001_38, e_5001_39, e_5001_41, e_5001_44, e_5001_45, e_5001_46, e_5001_49, e_5001_52, e_5001_53, e_5001_55, e_5001_58, e_5001_59, e_5001_61, e_5001_62, e_5001_63, e_5001_66, e_5001_67, zk_int, zk_ref, zk_null, zk_none, zk_long, zisR_r, zisR_n, zcl_int, zcl_ref, zcl_null, zpush_s, zpush_n, zbs, zbn, true_or, or_true, not_false_eq_true, not_true_eq_false, ↓reduceIte, and_self, and_true, true_and, zt_0, a, r]
theorem f_row_4 {j : Nat} {o x : Int32} (hj : j < 8) (hx : x < 0) : cal (d + 2) 5001 [.ref 0, .int (nI j), .int o, .int x] w = some (some (.int (-4)), fRf w 4) := by
  have a := f_shelfAt (d := d + 1) (w := w) hj
  have r := f_refuse (d := d) (w := w) (c := -4) (j := 4) (by decide) (by decide)
  have l : ¬ 0 ≤ x := Int32.not_le.mpr hx
  simp only [c_5001, e_5001_0, e_5001_1, e_5001_2, e_5001_5, e_5001_7, e_5001_9n, e_5001_9r, e_5001_12, e_5001_13, e_5001_14, e_5001_17, e_5001_18, e_5001_19, e_5001_22, e_5001_23, e_5001_25, e_5001_28, e_5001_29, e_5001_30, e_5001_33, e_5001_34, e_5001_35, e_5001_38, e_5001_39, e_5001_41, e_5001_44, e_5001_45, e_5001_46, e_5001_49, e_5001_52, e_5001_53, e_5001_55, e_5001_58, e_5001_59, e_5001_61, e_5001_62, e_5001_63, e_5001_66, e_5001_67, zk_int, zk_ref, zk_null, zk_none, zk_long, zisR_r, zisR_n, zcl_int, zcl_ref, zcl_null, zpush_s, zpush_n, zbs, zbn, true_or, or_true, not_false_eq_true, not_true_eq_false, ↓reduceIte, and_self, and_true, true_and, zt_0, a, r, l]
theorem f_row_6 {j : Nat} {o x : Int32} (hj : j < 8) (hx : 0 ≤ x) (ho : o < 0 ∨ 4 ≤ o) : cal (d + 2) 5001 [.ref 0, .int (nI j), .int o, .int x] w = some (some (.int (-6)), fRf w 6) := by
  have a := f_shelfAt (d := d + 1) (w := w) hj
  have r := f_refuse (d := d) (w := w) (c := -6) (j := 6) (by decide) (by decide)
  by_cases l2 : o < 0
  · simp only [c_5001, e_5001_0, e_5001_1, e_5001_2, e_5001_5, e_5001_7, e_5001_9n, e_5001_9r, e_5001_12, e_5001_13, e_5001_14, e_5001_17, e_5001_18, e_5001_19, e_5001_22, e_5001_23, e_5001_25, e_5001_28, e_5001_29, e_5001_30, e_5001_33, e_5001_34, e_5001_35, e_5001_38, e_5001_39, e_5001_41, e_5001_44, e_5001_45, e_5001_46, e_5001_49, e_5001_52, e_5001_53, e_5001_55, e_5001_58, e_5001_59, e_5001_61, e_5001_62, e_5001_63, e_5001_66, e_5001_67, zk_int, zk_ref, zk_null, zk_none, zk_long, zisR_r, zisR_n, zcl_int, zcl_ref, zcl_null, zpush_s, zpush_n, zbs, zbn, true_or, or_true, not_false_eq_true, not_true_eq_false, ↓reduceIte, and_self, and_true, true_and, zt_0, a, r, hx, l2]
  · have l3 := ho.resolve_left l2
    have l4 : ¬ o < 4 := Int32.not_lt.mpr l3
    simp only [c_5001, e_5001_0, e_5001_1, e_5001_2, e_5001_5, e_5001_7, e_5001_9n, e_5001_9r, e_5001_12, e_5001_13, e_5001_14, e_5001_17, e_5001_18, e_5001_19, e_5001_22, e_5001_23, e_5001_25, e_5001_28, e_5001_29, e_5001_30, e_5001_33, e_5001_34, e_5001_35, e_5001_38, e_5001_39, e_5001_41, e_5001_44, e_5001_45, e_5001_46, e_5001_49, e_5001_52, e_5001_53, e_5001_55, e_5001_58, e_5001_59, e_5001_61, e_5001_62, e_5001_63, e_5001_66, e_5001_67, zk_int, zk_ref, zk_null, zk_none, zk_long, zisR_r, zisR_n, zcl_int, zcl_ref, zcl_null, zpush_s, zpush_n, zbs, zbn, true_or, or_true, not_false_eq_true, not_true_eq_false, ↓reduceIte, and_self, and_true, true_and, zt_0, a, r, hx, l2, l3, l4]
theorem f_row_7 {j : Nat} {o x : Int32} (hj : j < 8) (hx : 0 ≤ x) (ho : 0 ≤ o) (ho2 : o < 4) (hx2 : 160 < x) : cal (d + 2) 5001 [.ref 0, .int (nI j), .int o, .int x] w = some (some (.int (-7)), fRf w 7) := by
  have a := f_shelfAt (d := d + 1) (w := w) hj
  have r := f_refuse (d := d) (w := w) (c := -7) (j := 7) (by decide) (by decide)
  have l2 : ¬ o < 0 := Int32.not_lt.mpr ho
  have l4 : ¬ x ≤ 160 := Int32.not_le.mpr hx2
  simp only [c_5001, e_5001_0, e_5001_1, e_5001_2, e_5001_5, e_5001_7, e_5001_9n, e_5001_9r, e_5001_12, e_5001_13, e_5001_14, e_5001_17, e_5001_18, e_5001_19, e_5001_22, e_5001_23, e_5001_25, e_5001_28, e_5001_29, e_5001_30, e_5001_33, e_5001_34, e_5001_35, e_5001_38, e_5001_39, e_5001_41, e_5001_44, e_5001_45, e_5001_46, e_5001_49, e_5001_52, e_5001_53, e_5001_55, e_5001_58, e_5001_59, e_5001_61, e_5001_62, e_5001_63, e_5001_66, e_5001_67, zk_int, zk_ref, zk_null, zk_none, zk_long, zisR_r, zisR_n, zcl_int, zcl_ref, zcl_null, zpush_s, zpush_n, zbs, zbn, true_or, or_true, not_false_eq_true, not_true_eq_false, ↓reduceIte, and_self, and_true, true_and, zt_0, a, r, hx, l2, ho2, l4]
theorem f_row {j : Nat} {o x : Int32} (hj : j < 8) (hx : 0 ≤ x) (ho : 0 ≤ o) (ho2 : o < 4) (hx2 : x ≤ 160) : cal (d + 2) 5001 [.ref 0, .int (nI j), .int o, .int x] w = some (some (.int 1), sHrW w (34 + 2 * j) o x) := by
  have a := f_shelfAt (d := d + 1) (w := w) hj
  have th := (zSs_f (zSs_j hj)).1
  have r := q_holdRow (d := d + 1) (w := w) (s := o) (n := x) (zSs_j hj)
  have l2 : ¬ o < 0 := Int32.not_lt.mpr ho
  simp only [c_5001, e_5001_0, e_5001_1, e_5001_2, e_5001_5, e_5001_7, e_5001_9n, e_5001_9r, e_5001_12, e_5001_13, e_5001_14, e_5001_17, e_5001_18, e_5001_19, e_5001_22, e_5001_23, e_5001_25, e_5001_28, e_5001_29, e_5001_30, e_5001_33, e_5001_34, e_5001_35, e_5001_38, e_5001_39, e_5001_41, e_5001_44, e_5001_45, e_5001_46, e_5001_49, e_5001_52, e_5001_53, e_5001_55, e_5001_58, e_5001_59, e_5001_61, e_5001_62, e_5001_63, e_5001_66, e_5001_67, zk_int, zk_ref, zk_null, zk_none, zk_long, zisR_r, zisR_n, zcl_int, zcl_ref, zcl_null, zpush_s, zpush_n, zbs, zbn, true_or, or_true, not_false_eq_true, not_true_eq_false, ↓reduceIte, and_self, and_true, true_and, zt_0, th, a, r, hx, l2, ho2, hx2]
theorem f_holds_o {s : Int32} (hs : s < 0 ∨ 8 ≤ s) : cal (d + 2) 5006 [.ref 0, .int s] w = some (some (.int (-1)), w) := by
  have a := f_shelfAt_o (d := d + 1) (w := w) hs
  simp only [c_5006, e_5006_0, e_5006_1, e_5006_2, e_5006_5, e_5006_6, e_5006_7n, e_5006_7r, e_5006_10, e_5006_11, e_5006_14, e_5006_15, e_5006_18, zk_int, zk_ref, zk_null, zk_none, zk_long, zisR_r, zisR_n, zcl_int, zcl_ref, zcl_null, zpush_s, zpush_n, zbs, zbn, true_or, or_true, not_false_eq_true, not_true_eq_false, ↓reduceIte, and_self, and_true, true_and, zt_0, a]
theorem f_holds {j : Nat} (hj : j < 8) : cal (d + 2) 5006 [.ref 0, .int (nI j)] w = some (some (.int (w.1 (34 + 2 * j) 1)), w) := by
  have a := f_shelfAt (d := d + 1) (w := w) hj
  have th := (zSs_f (zSs_j hj)).1
  have r := q_held (d := d + 1) (w := w) (zSs_j hj)
  simp only [c_5006, e_5006_0, e_5006_1, e_5006_2, e_5006_5, e_5006_6, e_5006_7n, e_5006_7r, e_5006_10, e_5006_11, e_5006_14, e_5006_15, e_5006_18, zk_int, zk_ref, zk_null, zk_none, zk_long, zisR_r, zisR_n, zcl_int, zcl_ref, zcl_null, zpush_s, zpush_n, zbs, zbn, true_or, or_true, not_false_eq_true, not_true_eq_false, ↓reduceIte, and_self, and_true, true_and, zt_0, th, a, r]
end FD
