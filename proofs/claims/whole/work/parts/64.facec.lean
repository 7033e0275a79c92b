section FL
variable {d n m : Nat} {w : zM}
theorem f_show_1s {s x : Int32} (hs : s < 0 ∨ 8 ≤ s) : cal (d + 3) 5005 [.ref 0, .int s, .int x] w = some (some (.int (-1)), fRf w 1) := by
  have a := f_shelfAt_o (d := d + 2) (w := w) hs
  have r := f_refuse (d := d + 1) (w := w) (c := -1) (j := 1) (by decide) (by decide)
  simp only [c_5005, e_5005_0, e_5005_1, e_5005_2, e_5005_5, e_5005_6, e_5005_7n, e_5005_7r, e_5005_10, e_5005_11, e_5005_12, e_5005_15, e_5005_16, e_5005_19, e_5005_20, e_5005_23, e_5005_26, e_5005_27, e_5005_28, e_5005_31, e_5005_32, e_5005_33, e_5005_34, e_5005_37, e_5005_38, e_5005_41, e_5005_42, e_5005_43, e_5005_44, e_5005_45, e_5005_48, e_5005_49, zk_int, zk_ref, zk_null, zk_none, zk_long, zisR_r, zisR_n, zcl_int, zcl_ref, zcl_null, zpush_s, zpush_n, zbs, zbn, true_or, or_true, not_false_eq_true, not_true_eq_false, ↓reduceIte, and_self, and_true, true_and, zt_0, zr_0_0, zt_1, a, r]
theorem f_show_1t {j : Nat} {x : Int32} (C : zHc w 1 n m) (hj : j < 8) (h1 : ¬ x = -1) (hx : x < 0 ∨ nI n ≤ x) : cal (d + 3) 5005 [.ref 0, .int (nI j), .int x] w = some (some (.int (-1)), fRf w 1) := by
  have a := f_shelfAt (d := d + 2) (w := w) hj
  have t := q_hasTable_o (d := d + 2) C hx
  have r := f_refuse (d := d + 1) (w := w) (c := -1) (j := 1) (by decide) (by decide)
  simp only [c_5005, e_5005_0, e_5005_1, e_5005_2, e_5005_5, e_5005_6, e_5005_7n, e_5005_7r, e_5005_10, e_5005_11, e_5005_12, e_5005_15, e_5005_16, e_5005_19, e_5005_20, e_5005_23, e_5005_26, e_5005_27, e_5005_28, e_5005_31, e_5005_32, e_5005_33, e_5005_34, e_5005_37, e_5005_38, e_5005_41, e_5005_42, e_5005_43, e_5005_44, e_5005_45, e_5005_48, e_5005_49, zk_int, zk_ref, zk_null, zk_none, zk_long, zisR_r, zisR_n, zcl_int, zcl_ref, zcl_null, zpush_s, zpush_n, zbs, zbn, true_or, or_true, not_false_eq_true, not_true_eq_false, ↓reduceIte, and_self, and_true, true_and, zt_0, zr_0_0, zt_1, a, t, r, h1]
theorem f_show_n {j : Nat} (hj : j < 8) : cal (d + 3) 5005 [.ref 0, .int (nI j), .int (-1)] w = some (some (.int 0), zuA w (34 + 2 * j) (upd (upd (w.1 (34 + 2 * j)) 1 (-1)) 2 0)) := by
  have a := f_shelfAt (d := d + 2) (w := w) hj
  have th := (zSs_f (zSs_j hj)).1
  have q := q_holdNothing (d := d + 2) (w := w) (zSs_j hj)
  simp only [c_5005, e_5005_0, e_5005_1, e_5005_2, e_5005_5, e_5005_6, e_5005_7n, e_5005_7r, e_5005_10, e_5005_11, e_5005_12, e_5005_15, e_5005_16, e_5005_19, e_5005_20, e_5005_23, e_5005_26, e_5005_27, e_5005_28, e_5005_31, e_5005_32, e_5005_33, e_5005_34, e_5005_37, e_5005_38, e_5005_41, e_5005_42, e_5005_43, e_5005_44, e_5005_45, e_5005_48, e_5005_49, zk_int, zk_ref, zk_null, zk_none, zk_long, zisR_r, zisR_n, zcl_int, zcl_ref, zcl_null, zpush_s, zpush_n, zbs, zbn, true_or, or_true, not_false_eq_true, not_true_eq_false, ↓reduceIte, and_self, and_true, true_and, zt_0, zr_0_0, zt_1, th, a, q]
theorem f_show {j t : Nat} (C : zHc w 1 n m) (hj : j < 8) (ht : t < n) : cal (d + 3) 5005 [.ref 0, .int (nI j), .int (nI t)] w = some (some (.int 1), zuA w (34 + 2 * j) (upd (upd (w.1 (34 + 2 * j)) 1 (nI t)) 2 0)) := by
  have h8 := C.2.2.1
  have a := f_shelfAt (d := d + 2) (w := w) hj
  have th := (zSs_f (zSs_j hj)).1
  have hT := q_hasTable (d := d + 2) C ht
  have q := q_holdGuests (d := d + 2) (w := w) (t := nI t) (zSs_j hj)
  have h1 : ¬ nI t = -1 := by
    intro e
    have := nI_pos' (n := t) (by omega)
    rw [e] at this
    exact absurd this (by decide)
  have e10 : ((1 : Int32) = 0) = False := eq_false (by decide)
  simp only [c_5005, e_5005_0, e_5005_1, e_5005_2, e_5005_5, e_5005_6, e_5005_7n, e_5005_7r, e_5005_10, e_5005_11, e_5005_12, e_5005_15, e_5005_16, e_5005_19, e_5005_20, e_5005_23, e_5005_26, e_5005_27, e_5005_28, e_5005_31, e_5005_32, e_5005_33, e_5005_34, e_5005_37, e_5005_38, e_5005_41, e_5005_42, e_5005_43, e_5005_44, e_5005_45, e_5005_48, e_5005_49, zk_int, zk_ref, zk_null, zk_none, zk_long, zisR_r, zisR_n, zcl_int, zcl_ref, zcl_null, zpush_s, zpush_n, zbs, zbn, true_or, or_true, not_false_eq_true, not_true_eq_false, ↓reduceIte, and_self, and_true, true_and, zt_0, zr_0_0, zt_1, th, a, hT, q, h1, e10]
end FL
