section FI
variable {d n m : Nat} {w : zM}
theorem f_srv_1t {x y : Int32} (C : zHc w 1 n m) (hx : x < 0 ∨ nI n ≤ x) : cal (d + 3) 5011 [.ref 0, .int x, .int y] w = some (some (.int (-1)), fRf w 1) := by
  have a := q_hasTable_o (d := d + 2) C hx
  have r := f_refuse (d := d + 1) (w := w) (c := -1) (j := 1) (by decide) (by decide)
  simp only [c_5011, e_5011_0, e_5011_1, e_5011_4, e_5011_5, e_5011_8, e_5011_11, e_5011_12, e_5011_15, e_5011_16, e_5011_19, e_5011_22, e_5011_23, e_5011_24, e_5011_27, e_5011_28, e_5011_29, e_5011_32, e_5011_33, e_5011_34, e_5011_37, e_5011_38, e_5011_39, e_5011_42, e_5011_43, e_5011_44, e_5011_47, e_5011_48, zk_int, zk_ref, zk_null, zk_none, zk_long, zisR_r, zisR_n, zcl_int, zcl_ref, zcl_null, zpush_s, zpush_n, zbs, zbn, true_or, or_true, not_false_eq_true, not_true_eq_false, ↓reduceIte, and_self, and_true, true_and, zt_0, zr_0_0, zt_1, a, r]
theorem f_srv_1w {t : Nat} {y : Int32} (C : zHc w 1 n m) (ht : t < n) (hy : y < 0 ∨ nI m ≤ y) : cal (d + 3) 5011 [.ref 0, .int (nI t), .int y] w = some (some (.int (-1)), fRf w 1) := by
  have a := q_hasTable (d := d + 2) C ht
  have b := q_hasWaiter_o (d := d + 2) C hy
  have r := f_refuse (d := d + 1) (w := w) (c := -1) (j := 1) (by decide) (by decide)
  have e10 : ((1 : Int32) = 0) = False := eq_false (by decide)
  simp only [c_5011, e_5011_0, e_5011_1, e_5011_4, e_5011_5, e_5011_8, e_5011_11, e_5011_12, e_5011_15, e_5011_16, e_5011_19, e_5011_22, e_5011_23, e_5011_24, e_5011_27, e_5011_28, e_5011_29, e_5011_32, e_5011_33, e_5011_34, e_5011_37, e_5011_38, e_5011_39, e_5011_42, e_5011_43, e_5011_44, e_5011_47, e_5011_48, zk_int, zk_ref, zk_null, zk_none, zk_long, zisR_r, zisR_n, zcl_int, zcl_ref, zcl_null, zpush_s, zpush_n, zbs, zbn, true_or, or_true, not_false_eq_true, not_true_eq_false, ↓reduceIte, and_self, and_true, true_and, zt_0, zr_0_0, zt_1, a, b, r, e10]
theorem f_srv {t y : Nat} (C : zHc w 1 n m) (ht : t < n) (hy : y < m) : cal (d + 3) 5011 [.ref 0, .int (nI t), .int (nI y)] w = some (some (.int (w.1 2 (5 * t + 4))), zuA w 2 (upd (w.1 2) (5 * t + 4) (nI y))) := by
  have h8 := C.2.2.1
  have a := q_hasTable (d := d + 2) C ht
  have b := q_hasWaiter (d := d + 2) C hy
  have p := q_tablePart_4 (d := d + 1) C ht
  have s := q_setServer (d := d) (w := w) (v := nI y) zHs1 (t := t) (by omega)
  have e10 : ((1 : Int32) = 0) = False := eq_false (by decide)
  simp only [c_5011, e_5011_0, e_5011_1, e_5011_4, e_5011_5, e_5011_8, e_5011_11, e_5011_12, e_5011_15, e_5011_16, e_5011_19, e_5011_22, e_5011_23, e_5011_24, e_5011_27, e_5011_28, e_5011_29, e_5011_32, e_5011_33, e_5011_34, e_5011_37, e_5011_38, e_5011_39, e_5011_42, e_5011_43, e_5011_44, e_5011_47, e_5011_48, zk_int, zk_ref, zk_null, zk_none, zk_long, zisR_r, zisR_n, zcl_int, zcl_ref, zcl_null, zpush_s, zpush_n, zbs, zbn, true_or, or_true, not_false_eq_true, not_true_eq_false, ↓reduceIte, and_self, and_true, true_and, zt_0, zr_0_0, zt_1, a, b, p, s, e10]
end FI
