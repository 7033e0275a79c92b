section FH
variable {d n m : Nat} {w : zM}
theorem f_wtr {j : Nat} {s p q : Int32} (C : zHc w 1 n m) (hk : sOkW s p q) (hm : m < 4) : cal (d + 4) 5008 [.ref 0, .int s, .int p, .int q] w = some (some (.int (nI m)), sAdW w 1 m s p q) := by
  have a := q_addWaiter (d := d) C hk hm
  have b := f_answer (d := d + 1) (w := sAdW w 1 m s p q) (x := nI m) (nI_pos (by omega))
  simp only [c_5008, e_5008_0, e_5008_1, e_5008_2, e_5008_5, e_5008_6, e_5008_7, e_5008_8, e_5008_11, e_5008_14, zk_int, zk_ref, zk_null, zk_none, zk_long, zisR_r, zisR_n, zcl_int, zcl_ref, zcl_null, zpush_s, zpush_n, zbs, zbn, true_or, or_true, not_false_eq_true, not_true_eq_false, ↓reduceIte, and_self, and_true, true_and, zt_0, zr_0_0, zt_1, a, b]
theorem f_wtr_6 {s p q : Int32} (hk : ¬ sOkW s p q) : cal (d + 4) 5008 [.ref 0, .int s, .int p, .int q] w = some (some (.int (-6)), fRf w 6) := by
  have a := q_addWaiter_6 (d := d) (h := 1) (w := w) hk
  have b := f_answer_b (d := d + 1) (w := w) (c := -6) (j := 6) (by decide) (by decide) (by decide)
  simp only [c_5008, e_5008_0, e_5008_1, e_5008_2, e_5008_5, e_5008_6, e_5008_7, e_5008_8, e_5008_11, e_5008_14, zk_int, zk_ref, zk_null, zk_none, zk_long, zisR_r, zisR_n, zcl_int, zcl_ref, zcl_null, zpush_s, zpush_n, zbs, zbn, true_or, or_true, not_false_eq_true, not_true_eq_false, ↓reduceIte, and_self, and_true, true_and, zt_0, zr_0_0, zt_1, a, b]
theorem f_wtr_7 {s p q : Int32} (C : zHc w 1 n m) (hk : sOkW s p q) (hm : ¬ m < 4) : cal (d + 4) 5008 [.ref 0, .int s, .int p, .int q] w = some (some (.int (-7)), fRf w 7) := by
  have a := q_addWaiter_7 (d := d) C hk hm
  have b := f_answer_b (d := d + 1) (w := w) (c := -7) (j := 7) (by decide) (by decide) (by decide)
  simp only [c_5008, e_5008_0, e_5008_1, e_5008_2, e_5008_5, e_5008_6, e_5008_7, e_5008_8, e_5008_11, e_5008_14, zk_int, zk_ref, zk_null, zk_none, zk_long, zisR_r, zisR_n, zcl_int, zcl_ref, zcl_null, zpush_s, zpush_n, zbs, zbn, true_or, or_true, not_false_eq_true, not_true_eq_false, ↓reduceIte, and_self, and_true, true_and, zt_0, zr_0_0, zt_1, a, b]
theorem f_tbl {y : Nat} {k b p a : Int32} (C : zHc w 1 n m) (hk : 0 ≤ k ∧ k ≤ 6) (hy : y < m) (ho : sOkT b p a) (hn : n < 8) : cal (d + 5) 5009 [.ref 0, .int k, .int b, .int p, .int a, .int (nI y)] w = some (some (.int (nI n)), sAdT w 1 n k b p a (nI y)) := by
  have q := q_addTable (d := d) C hk hy ho hn
  have r := f_answer (d := d + 2) (w := sAdT w 1 n k b p a (nI y)) (x := nI n) (nI_pos (by omega))
  simp only [c_5009, e_5009_0, e_5009_1, e_5009_2, e_5009_5, e_5009_6, e_5009_7, e_5009_8, e_5009_10, e_5009_12, e_5009_15, e_5009_18, zk_int, zk_ref, zk_null, zk_none, zk_long, zisR_r, zisR_n, zcl_int, zcl_ref, zcl_null, zpush_s, zpush_n, zbs, zbn, true_or, or_true, not_false_eq_true, not_true_eq_false, ↓reduceIte, and_self, and_true, true_and, zt_0, zr_0_0, zt_1, q, r]
theorem f_tbl_1k {k b p a y : Int32} (C : zHc w 1 n m) (hk : ¬ (0 ≤ k ∧ k ≤ 6)) : cal (d + 5) 5009 [.ref 0, .int k, .int b, .int p, .int a, .int y] w = some (some (.int (-1)), fRf w 1) := by
  have q := q_addTable_1k (d := d) (b := b) (p := p) (a := a) (y := y) C hk
  have r := f_answer_b (d := d + 2) (w := w) (c := -1) (j := 1) (by decide) (by decide) (by decide)
  simp only [c_5009, e_5009_0, e_5009_1, e_5009_2, e_5009_5, e_5009_6, e_5009_7, e_5009_8, e_5009_10, e_5009_12, e_5009_15, e_5009_18, zk_int, zk_ref, zk_null, zk_none, zk_long, zisR_r, zisR_n, zcl_int, zcl_ref, zcl_null, zpush_s, zpush_n, zbs, zbn, true_or, or_true, not_false_eq_true, not_true_eq_false, ↓reduceIte, and_self, and_true, true_and, zt_0, zr_0_0, zt_1, q, r]
theorem f_tbl_1w {k b p a y : Int32} (C : zHc w 1 n m) (hy : y < 0 ∨ nI m ≤ y) : cal (d + 5) 5009 [.ref 0, .int k, .int b, .int p, .int a, .int y] w = some (some (.int (-1)), fRf w 1) := by
  have q := q_addTable_1w (d := d) (k := k) (b := b) (p := p) (a := a) C hy
  have r := f_answer_b (d := d + 2) (w := w) (c := -1) (j := 1) (by decide) (by decide) (by decide)
  simp only [c_5009, e_5009_0, e_5009_1, e_5009_2, e_5009_5, e_5009_6, e_5009_7, e_5009_8, e_5009_10, e_5009_12, e_5009_15, e_5009_18, zk_int, zk_ref, zk_null, zk_none, zk_long, zisR_r, zisR_n, zcl_int, zcl_ref, zcl_null, zpush_s, zpush_n, zbs, zbn, true_or, or_true, not_false_eq_true, not_true_eq_false, ↓reduceIte, and_self, and_true, true_and, zt_0, zr_0_0, zt_1, q, r]
theorem f_tbl_6 {y : Nat} {k b p a : Int32} (C : zHc w 1 n m) (hk : 0 ≤ k ∧ k ≤ 6) (hy : y < m) (ho : ¬ sOkT b p a) : cal (d + 5) 5009 [.ref 0, .int k, .int b, .int p, .int a, .int (nI y)] w = some (some (.int (-6)), fRf w 6) := by
  have q := q_addTable_6 (d := d) C hk hy ho
  have r := f_answer_b (d := d + 2) (w := w) (c := -6) (j := 6) (by decide) (by decide) (by decide)
  simp only [c_5009, e_5009_0, e_5009_1, e_5009_2, e_5009_5, e_5009_6, e_5009_7, e_5009_8, e_5009_10, e_5009_12, e_5009_15, e_5009_18, zk_int, zk_ref, zk_null, zk_none, zk_long, zisR_r, zisR_n, zcl_int, zcl_ref, zcl_null, zpush_s, zpush_n, zbs, zbn, true_or, or_true, not_false_eq_true, not_true_eq_false, ↓reduceIte, and_self, and_true, true_and, zt_0, zr_0_0, zt_1, q, r]
theorem f_tbl_7 {y : Nat} {k b p a : Int32} (C : zHc w 1 n m) (hk : 0 ≤ k ∧ k ≤ 6) (hy : y < m) (ho : sOkT b p a) (hn : ¬ n < 8) : cal (d + 5) 5009 [.ref 0, .int k, .int b, .int p, .int a, .int (nI y)] w = some (some (.int (-7)), fRf w 7) := by
  have q := q_addTable_7 (d := d) C hk hy ho hn
  have r := f_answer_b (d := d + 2) (w := w) (c := -7) (j := 7) (by decide) (by decide) (by decide)
  simp only [c_5009, e_5009_0, e_5009_1, e_5009_2, e_5009_5, e_5009_6, e_5009_7, e_5009_8, e_5009_10, e_5009_12, e_5009_15, e_5009_18, zk_int, zk_ref, zk_null, zk_none, zk_long, zisR_r, zisR_n, zcl_int, zcl_ref, zcl_null, zpush_s, zpush_n, zbs, zbn, true_or, or_true, not_false_eq_true, not_true_eq_false, ↓reduceIte, and_self, and_true, true_and, zt_0, zr_0_0, zt_1, q, r]
end FH
