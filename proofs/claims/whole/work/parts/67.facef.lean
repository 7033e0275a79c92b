section FO
variable {d n m : Nat} {w : zM}
theorem f_reply_o {x : Int32} (C : zHc w 1 n m) (hx : x < 0 ∨ nI m ≤ x) : cal (d + 3) 5023 [.ref 0, .int x] w = some (some (.int (-1)), fRf w 1) := by
  have a := q_hasWaiter_o (d := d + 2) C hx
  have r := f_refuse (d := d + 1) (w := w) (c := -1) (j := 1) (by decide) (by decide)
  simp only [c_5023, e_5023_0, e_5023_1, e_5023_4, e_5023_5, e_5023_8, e_5023_11, e_5023_12, e_5023_13, e_5023_16, e_5023_17, e_5023_18, e_5023_21, e_5023_22, e_5023_25, e_5023_28, e_5023_29, e_5023_32, e_5023_33, e_5023_36, zk_int, zk_ref, zk_null, zk_none, zk_long, zisR_r, zisR_n, zcl_int, zcl_ref, zcl_null, zpush_s, zpush_n, zbs, zbn, true_or, or_true, not_false_eq_true, not_true_eq_false, ↓reduceIte, and_self, and_true, true_and, zt_0, zr_0_0, zt_1, a, r]
theorem f_best_o {x : Int32} (C : zHc w 1 n m) (hx : x < 0 ∨ nI m ≤ x) : cal (d + 3) 5026 [.ref 0, .int x] w = some (some (.int (-1)), fRf w 1) := by
  have a := q_hasWaiter_o (d := d + 2) C hx
  have r := f_refuse (d := d + 1) (w := w) (c := -1) (j := 1) (by decide) (by decide)
  simp only [c_5026, e_5026_0, e_5026_1, e_5026_4, e_5026_5, e_5026_8, e_5026_11, e_5026_12, e_5026_13, e_5026_16, e_5026_17, e_5026_18, e_5026_21, e_5026_22, e_5026_25, e_5026_28, e_5026_29, e_5026_32, e_5026_35, e_5026_36, e_5026_39, e_5026_40, e_5026_43, zk_int, zk_ref, zk_null, zk_none, zk_long, zisR_r, zisR_n, zcl_int, zcl_ref, zcl_null, zpush_s, zpush_n, zbs, zbn, true_or, or_true, not_false_eq_true, not_true_eq_false, ↓reduceIte, and_self, and_true, true_and, zt_0, zr_0_0, zt_1, a, r]
theorem f_points_o {x : Int32} (C : zHc w 1 n m) (hx : x < 0 ∨ nI m ≤ x) : cal (d + 3) 5027 [.ref 0, .int x] w = some (some (.int (-1)), fRf w 1) := by
  have a := q_hasWaiter_o (d := d + 2) C hx
  have r := f_refuse (d := d + 1) (w := w) (c := -1) (j := 1) (by decide) (by decide)
  simp only [c_5027, e_5027_0, e_5027_1, e_5027_4, e_5027_5, e_5027_8, e_5027_11, e_5027_12, e_5027_13, e_5027_16, e_5027_17, e_5027_18, e_5027_21, e_5027_22, e_5027_25, e_5027_28, e_5027_31, e_5027_32, e_5027_35, e_5027_36, e_5027_39, e_5027_42, e_5027_43, e_5027_45, e_5027_48, zk_int, zk_ref, zk_null, zk_none, zk_long, zisR_r, zisR_n, zcl_int, zcl_ref, zcl_null, zpush_s, zpush_n, zbs, zbn, true_or, or_true, not_false_eq_true, not_true_eq_false, ↓reduceIte, and_self, and_true, true_and, zt_0, zr_0_0, zt_1, a, r]
theorem f_turns_o {x y : Int32} (C : zHc w 1 n m) (hx : x < 0 ∨ nI m ≤ x) : cal (d + 3) 5031 [.ref 0, .int x, .int y] w = some (some (.int (-1)), fRf w 1) := by
  have a := q_hasWaiter_o (d := d + 2) C hx
  have r := f_refuse (d := d + 1) (w := w) (c := -1) (j := 1) (by decide) (by decide)
  simp only [c_5031, e_5031_0, e_5031_1, e_5031_4, e_5031_5, e_5031_8, e_5031_11, e_5031_12, e_5031_13, e_5031_16, e_5031_17, e_5031_18, e_5031_21, e_5031_22, e_5031_24, e_5031_27, e_5031_28, e_5031_30, e_5031_33, e_5031_36, e_5031_37, e_5031_40, e_5031_41, e_5031_44, e_5031_45, e_5031_46, e_5031_49, zk_int, zk_ref, zk_null, zk_none, zk_long, zisR_r, zisR_n, zcl_int, zcl_ref, zcl_null, zpush_s, zpush_n, zbs, zbn, true_or, or_true, not_false_eq_true, not_true_eq_false, ↓reduceIte, and_self, and_true, true_and, zt_0, zr_0_0, zt_1, a, r]
theorem f_share_o {x y : Int32} (C : zHc w 1 n m) (hx : x < 0 ∨ nI m ≤ x) : cal (d + 3) 5021 [.ref 0, .int x, .int y] w = some (some (.int (-1)), fRf w 1) := by
  have a := q_hasWaiter_o (d := d + 2) C hx
  have r := f_refuse (d := d + 1) (w := w) (c := -1) (j := 1) (by decide) (by decide)
  simp only [c_5021, e_5021_0, e_5021_1, e_5021_4, e_5021_5, e_5021_8, e_5021_11, e_5021_12, e_5021_13, e_5021_16, e_5021_17, e_5021_18, e_5021_21, e_5021_22, e_5021_23, e_5021_26, e_5021_27, e_5021_29, e_5021_32, e_5021_33, e_5021_34, e_5021_37, e_5021_40, e_5021_41, e_5021_44, e_5021_45, e_5021_48, e_5021_49, e_5021_52, e_5021_55, e_5021_56, e_5021_59, e_5021_60, e_5021_63, zk_int, zk_ref, zk_null, zk_none, zk_long, zisR_r, zisR_n, zcl_int, zcl_ref, zcl_null, zpush_s, zpush_n, zbs, zbn, true_or, or_true, not_false_eq_true, not_true_eq_false, ↓reduceIte, and_self, and_true, true_and, zt_0, zr_0_0, zt_1, a, r]
theorem f_gain_o {x y : Int32} (C : zHc w 1 n m) (hx : x < 0 ∨ nI m ≤ x) : cal (d + 3) 5022 [.ref 0, .int x, .int y] w = some (some (.int (-1 + -1000000)), fRf w 1) := by
  have a := q_hasWaiter_o (d := d + 2) C hx
  have r := f_refuseFar (d := d) (w := w) (c := -1) (j := 1) (by decide) (by decide)
  simp only [c_5022, e_5022_0, e_5022_1, e_5022_4, e_5022_5, e_5022_8, e_5022_11, e_5022_12, e_5022_13, e_5022_16, e_5022_17, e_5022_18, e_5022_19, e_5022_22, e_5022_23, e_5022_24, e_5022_27, e_5022_30, e_5022_31, e_5022_33, e_5022_36, e_5022_37, e_5022_38, e_5022_41, e_5022_42, e_5022_45, e_5022_46, e_5022_47, e_5022_48, e_5022_51, e_5022_52, e_5022_55, e_5022_56, e_5022_57, e_5022_60, e_5022_63, e_5022_64, e_5022_67, zk_int, zk_ref, zk_null, zk_none, zk_long, zisR_r, zisR_n, zcl_int, zcl_ref, zcl_null, zpush_s, zpush_n, zbs, zbn, true_or, or_true, not_false_eq_true, not_true_eq_false, ↓reduceIte, and_self, and_true, true_and, zt_0, zr_0_0, zt_1, a, r]
theorem f_luck_o {x : Int32} (C : zHc w 1 n m) (hx : x < 0 ∨ nI m ≤ x) : cal (d + 3) 5032 [.ref 0, .int x] w = some (some (.int (-1 + -1000000)), fRf w 1) := by
  have a := q_hasWaiter_o (d := d + 2) C hx
  have r := f_refuseFar (d := d) (w := w) (c := -1) (j := 1) (by decide) (by decide)
  simp only [c_5032, e_5032_0, e_5032_1, e_5032_4, e_5032_5, e_5032_8, e_5032_11, e_5032_12, e_5032_13, e_5032_16, e_5032_17, e_5032_18, e_5032_21, e_5032_24, e_5032_25, e_5032_28, e_5032_31, e_5032_32, e_5032_33, e_5032_34, e_5032_37, e_5032_38, e_5032_41, e_5032_42, e_5032_43, e_5032_46, e_5032_47, e_5032_50, e_5032_51, e_5032_52, e_5032_55, e_5032_56, zk_int, zk_ref, zk_null, zk_none, zk_long, zisR_r, zisR_n, zcl_int, zcl_ref, zcl_null, zpush_s, zpush_n, zbs, zbn, true_or, or_true, not_false_eq_true, not_true_eq_false, ↓reduceIte, and_self, and_true, true_and, zt_0, zr_0_0, zt_1, a, r]
theorem f_worth_o {x : Int32} (C : zHc w 1 n m) (hx : x < 0 ∨ nI m ≤ x) : cal (d + 3) 5033 [.ref 0, .int x] w = some (some (.int (-1 + -1000000)), fRf w 1) := by
  have a := q_hasWaiter_o (d := d + 2) C hx
  have r := f_refuseFar (d := d) (w := w) (c := -1) (j := 1) (by decide) (by decide)
  simp only [c_5033, e_5033_0, e_5033_1, e_5033_4, e_5033_5, e_5033_8, e_5033_11, e_5033_12, e_5033_15, e_5033_16, e_5033_19, e_5033_20, e_5033_23, e_5033_26, e_5033_27, e_5033_28, e_5033_31, zk_int, zk_ref, zk_null, zk_none, zk_long, zisR_r, zisR_n, zcl_int, zcl_ref, zcl_null, zpush_s, zpush_n, zbs, zbn, true_or, or_true, not_false_eq_true, not_true_eq_false, ↓reduceIte, and_self, and_true, true_and, zt_0, zr_0_0, zt_1, a, r]
end FO
