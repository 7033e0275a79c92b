section FE
variable {d n m : Nat} {w : zM}
theorem f_hasRow {j : Nat} (hj : j < 8) : cal (d + 1) 4002 [.ref (34 + 2 * j)] w = some (some (.int (if 100 ≤ w.1 (34 + 2 * j) 1 then 1 else 0)), w) := q_hasRow (zSs_j hj)
theorem f_element_o {s x : Int32} (hs : s < 0 ∨ 8 ≤ s) : cal (d + 2) 5004 [.ref 0, .int s, .int x] w = some (some (.long 0), w) := by
  have a := f_shelfAt_o (d := d + 1) (w := w) hs
  simp only [c_5004, e_5004_0, e_5004_1, e_5004_2, e_5004_5, e_5004_6, e_5004_7n, e_5004_7r, e_5004_10, e_5004_11, e_5004_14, e_5004_17, e_5004_18, e_5004_21, e_5004_22, e_5004_23, e_5004_26, zk_int, zk_ref, zk_null, zk_none, zk_long, zisR_r, zisR_n, zcl_int, zcl_ref, zcl_null, zpush_s, zpush_n, zbs, zbn, true_or, or_true, not_false_eq_true, not_true_eq_false, ↓reduceIte, and_self, and_true, true_and, zt_0, a]
theorem f_element_n {j : Nat} {x : Int32} (hj : j < 8) (h1 : ¬ 100 ≤ w.1 (34 + 2 * j) 1) : cal (d + 2) 5004 [.ref 0, .int (nI j), .int x] w = some (some (.long 0), w) := by
  have a := f_shelfAt (d := d + 1) (w := w) hj
  have th := (zSs_f (zSs_j hj)).1
  have r := f_hasRow (d := d) (w := w) hj
  rw [if_neg h1] at r
  simp only [c_5004, e_5004_0, e_5004_1, e_5004_2, e_5004_5, e_5004_6, e_5004_7n, e_5004_7r, e_5004_10, e_5004_11, e_5004_14, e_5004_17, e_5004_18, e_5004_21, e_5004_22, e_5004_23, e_5004_26, zk_int, zk_ref, zk_null, zk_none, zk_long, zisR_r, zisR_n, zcl_int, zcl_ref, zcl_null, zpush_s, zpush_n, zbs, zbn, true_or, or_true, not_false_eq_true, not_true_eq_false, ↓reduceIte, and_self, and_true, true_and, zt_0, th, a, r]
theorem f_element_b {j : Nat} {x : Int32} (hj : j < 8) (h1 : 100 ≤ w.1 (34 + 2 * j) 1) (hx : x < 0 ∨ w.1 (34 + 2 * j) 2 ≤ x) : cal (d + 2) 5004 [.ref 0, .int (nI j), .int x] w = some (some (.long 0), w) := by
  have a := f_shelfAt (d := d + 1) (w := w) hj
  have th := (zSs_f (zSs_j hj)).1
  have r := f_hasRow (d := d) (w := w) hj
  rw [if_pos h1] at r
  have q := q_longAt_o (d := d + 1) (w := w) (zSs_j hj) hx
  have e10 : ((1 : Int32) = 0) = False := eq_false (by decide)
  simp only [c_5004, e_5004_0, e_5004_1, e_5004_2, e_5004_5, e_5004_6, e_5004_7n, e_5004_7r, e_5004_10, e_5004_11, e_5004_14, e_5004_17, e_5004_18, e_5004_21, e_5004_22, e_5004_23, e_5004_26, zk_int, zk_ref, zk_null, zk_none, zk_long, zisR_r, zisR_n, zcl_int, zcl_ref, zcl_null, zpush_s, zpush_n, zbs, zbn, true_or, or_true, not_false_eq_true, not_true_eq_false, ↓reduceIte, and_self, and_true, true_and, zt_0, th, a, r, q, e10]
theorem f_element {j z i : Nat} (hj : j < 8) (h1 : 100 ≤ w.1 (34 + 2 * j) 1) (hz : w.1 (34 + 2 * j) 2 = nI z) (hz1 : z ≤ 160) (hi : i < z) : cal (d + 2) 5004 [.ref 0, .int (nI j), .int (nI i)] w = some (some (.long (w.2 (34 + 2 * j + 1) i)), w) := by
  have a := f_shelfAt (d := d + 1) (w := w) hj
  have th := (zSs_f (zSs_j hj)).1
  have r := f_hasRow (d := d) (w := w) hj
  rw [if_pos h1] at r
  have q := q_longAt (d := d + 1) (w := w) (zSs_j hj) hz hz1 hi
  have e10 : ((1 : Int32) = 0) = False := eq_false (by decide)
  simp only [c_5004, e_5004_0, e_5004_1, e_5004_2, e_5004_5, e_5004_6, e_5004_7n, e_5004_7r, e_5004_10, e_5004_11, e_5004_14, e_5004_17, e_5004_18, e_5004_21, e_5004_22, e_5004_23, e_5004_26, zk_int, zk_ref, zk_null, zk_none, zk_long, zisR_r, zisR_n, zcl_int, zcl_ref, zcl_null, zpush_s, zpush_n, zbs, zbn, true_or, or_true, not_false_eq_true, not_true_eq_false, ↓reduceIte, and_self, and_true, true_and, zt_0, th, a, r, q, e10]
theorem f_set_1 {s x : Int32} {v : Int64} (hs : s < 0 ∨ 8 ≤ s) : cal (d + 2) 5002 [.ref 0, .int s, .int x, .long v] w = some (some (.int (-1)), fRf w 1) := by
  have a := f_shelfAt_o (d := d + 1) (w := w) hs
  have b := f_rowRef_n (d := d) (w := w)
  have r := f_refuse (d := d) (w := w) (c := -1) (j := 1) (by decide) (by decide)
  simp only [c_5002, e_5002_0, e_5002_1, e_5002_2, e_5002_5, e_5002_7, e_5002_9, e_5002_12, e_5002_14, e_5002_16n, e_5002_16r, e_5002_19, e_5002_21, e_5002_24, e_5002_25, e_5002_27, e_5002_30, e_5002_31, e_5002_33, e_5002_34, e_5002_35, e_5002_38, e_5002_41, e_5002_42, e_5002_44, e_5002_47, e_5002_48, e_5002_50, e_5002_51, e_5002_52, e_5002_55, e_5002_56, zk_int, zk_ref, zk_null, zk_none, zk_long, zisR_r, zisR_n, zcl_int, zcl_ref, zcl_null, zpush_s, zpush_n, zbs, zbn, true_or, or_true, not_false_eq_true, not_true_eq_false, ↓reduceIte, and_self, and_true, true_and, zt_0, a, b, r]
theorem f_set_b {j : Nat} {x : Int32} {v : Int64} (hj : j < 8) (h1 : ¬ 100 ≤ w.1 (34 + 2 * j) 1) : cal (d + 2) 5002 [.ref 0, .int (nI j), .int x, .long v] w = if w.1 (34 + 2 * j) 1 = -1 then some (some (.int (-3)), fRf w 3) else some (some (.int (-2)), fRf w 2) := by
  have a := f_shelfAt (d := d + 1) (w := w) hj
  have th := (zSs_f (zSs_j hj)).1
  have b := f_rowRef (d := d) (w := w) (zSs_j hj)
  rw [if_neg h1] at b
  have r3 := f_refuse (d := d) (w := w) (c := -3) (j := 3) (by decide) (by decide)
  have r2 := f_refuse (d := d) (w := w) (c := -2) (j := 2) (by decide) (by decide)
  have e1 : ((-3 : Int32) = 0) = False := eq_false (by decide)
  have e2 : ((-2 : Int32) = 0) = False := eq_false (by decide)
  by_cases h2 : w.1 (34 + 2 * j) 1 = -1
  · rw [if_pos h2] at b ⊢
    simp only [c_5002, e_5002_0, e_5002_1, e_5002_2, e_5002_5, e_5002_7, e_5002_9, e_5002_12, e_5002_14, e_5002_16n, e_5002_16r, e_5002_19, e_5002_21, e_5002_24, e_5002_25, e_5002_27, e_5002_30, e_5002_31, e_5002_33, e_5002_34, e_5002_35, e_5002_38, e_5002_41, e_5002_42, e_5002_44, e_5002_47, e_5002_48, e_5002_50, e_5002_51, e_5002_52, e_5002_55, e_5002_56, zk_int, zk_ref, zk_null, zk_none, zk_long, zisR_r, zisR_n, zcl_int, zcl_ref, zcl_null, zpush_s, zpush_n, zbs, zbn, true_or, or_true, not_false_eq_true, not_true_eq_false, ↓reduceIte, and_self, and_true, true_and, zt_0, th, a, b, r3, e1]
  · rw [if_neg h2] at b ⊢
    simp only [c_5002, e_5002_0, e_5002_1, e_5002_2, e_5002_5, e_5002_7, e_5002_9, e_5002_12, e_5002_14, e_5002_16n, e_5002_16r, e_5002_19, e_5002_21, e_5002_24, e_5002_25, e_5002_27, e_5002_30, e_5002_31, e_5002_33, e_5002_34, e_5002_35, e_5002_38, e_5002_41, e_5002_42, e_5002_44, e_5002_47, e_5002_48, e_5002_50, e_5002_51, e_5002_52, e_5002_55, e_5002_56, zk_int, zk_ref, zk_null, zk_none, zk_long, zisR_r, zisR_n, zcl_int, zcl_ref, zcl_null, zpush_s, zpush_n, zbs, zbn, true_or, or_true, not_false_eq_true, not_true_eq_false, ↓reduceIte, and_self, and_true, true_and, zt_0, th, a, b, r2, e2]
end FE
