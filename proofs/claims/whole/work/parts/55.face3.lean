section FC
variable {d n m : Nat} {w : zM}
theorem f_toldRef_n : cal (d + 2) 5050 [.ref 0, .null] w = some (some (.int (-1)), w) := by
  have r := f_rowRef_n (d := d) (w := w)
  simp only [c_5050, c_5050_n, e_5050_0, e_5050_1, e_5050_4, e_5050_5, e_5050_6n, e_5050_6r, e_5050_9, e_5050_10, e_5050_13, e_5050_14, e_5050_15, e_5050_16, e_5050_17, e_5050_18, e_5050_21, e_5050_24, e_5050_27, e_5050_30, e_5050_31, e_5050_34, e_5050_36, zk_int, zk_ref, zk_null, zk_none, zk_long, zisR_r, zisR_n, zcl_int, zcl_ref, zcl_null, zpush_s, zpush_n, zbs, zbn, true_or, or_true, not_false_eq_true, not_true_eq_false, ↓reduceIte, and_self, and_true, true_and, r]
theorem f_toldRef_b {h : Nat} (H : zSs h) (h1 : ¬ 100 ≤ w.1 h 1) : cal (d + 2) 5050 [.ref 0, .ref h] w = some (some (.int (if w.1 h 1 = -1 then -3 else -2)), w) := by
  have th := (zSs_f H).1
  have r := f_rowRef (d := d) (w := w) H
  rw [if_neg h1] at r
  have e1 : ((-3 : Int32) = 0) = False := eq_false (by decide)
  have e2 : ((-2 : Int32) = 0) = False := eq_false (by decide)
  by_cases h2 : w.1 h 1 = -1
  · rw [if_pos h2] at r ⊢
    simp only [c_5050, c_5050_n, e_5050_0, e_5050_1, e_5050_4, e_5050_5, e_5050_6n, e_5050_6r, e_5050_9, e_5050_10, e_5050_13, e_5050_14, e_5050_15, e_5050_16, e_5050_17, e_5050_18, e_5050_21, e_5050_24, e_5050_27, e_5050_30, e_5050_31, e_5050_34, e_5050_36, zk_int, zk_ref, zk_null, zk_none, zk_long, zisR_r, zisR_n, zcl_int, zcl_ref, zcl_null, zpush_s, zpush_n, zbs, zbn, true_or, or_true, not_false_eq_true, not_true_eq_false, ↓reduceIte, and_self, and_true, true_and, th, r, e1]
  · rw [if_neg h2] at r ⊢
    simp only [c_5050, c_5050_n, e_5050_0, e_5050_1, e_5050_4, e_5050_5, e_5050_6n, e_5050_6r, e_5050_9, e_5050_10, e_5050_13, e_5050_14, e_5050_15, e_5050_16, e_5050_17, e_5050_18, e_5050_21, e_5050_24, e_5050_27, e_5050_30, e_5050_31, e_5050_34, e_5050_36, zk_int, zk_ref, zk_null, zk_none, zk_long, zisR_r, zisR_n, zcl_int, zcl_ref, zcl_null, zpush_s, zpush_n, zbs, zbn, true_or, or_true, not_false_eq_true, not_true_eq_false, ↓reduceIte, and_self, and_true, true_and, th, r, e2]
theorem f_toldRef {h z : Nat} (C : zHc w 1 n m) (H : zSs h) (hz : w.1 h 2 = nI z) (hz1 : z ≤ 160) (h1 : 100 ≤ w.1 h 1) : cal (d + 2) 5050 [.ref 0, .ref h] w = some (some (.int (if m ≤ z then 0 else -5)), w) := by
  have th := (zSs_f H).1
  have hm4 := C.2.2.2.2
  have e := C.2.2.2.1
  have wc : cal (d + 1) 1003 [.ref 1] w = some (some (.int (nI m)), w) := by
    simp only [c_1003, e_1003_0, e_1003_1, e_1003_4, zk_int, zk_ref, zk_null, zk_none, zk_long, zisR_r, zisR_n, zcl_int, zcl_ref, zcl_null, zpush_s, zpush_n, zbs, zbn, true_or, or_true, not_false_eq_true, not_true_eq_false, ↓reduceIte, and_self, and_true, true_and, zt_1, e]
  have r := f_rowRef (d := d) (w := w) H
  rw [if_pos h1] at r
  have q := q_spans (d := d + 1) (w := w) (i := 0) (n := nI m) H
  rw [hz] at q
  have e10 : ((1 : Int32) = 0) = False := eq_false (by decide)
  by_cases hmz : m ≤ z
  · have hsub : (0 : Int32) ≤ nI z - nI m := by
      obtain ⟨y, rfl⟩ : ∃ y, z = m + y := ⟨z - m, by omega⟩
      have e3 : nI (m + y) - nI m = nI y := by
        rw [← nI_add]
        grind
      rw [e3]
      exact nI_pos' (by omega)
    rw [if_pos ⟨by decide, nI_pos' (by omega), nI_le hmz (by omega), hsub⟩] at q
    rw [if_pos hmz]
    simp only [c_5050, c_5050_n, e_5050_0, e_5050_1, e_5050_4, e_5050_5, e_5050_6n, e_5050_6r, e_5050_9, e_5050_10, e_5050_13, e_5050_14, e_5050_15, e_5050_16, e_5050_17, e_5050_18, e_5050_21, e_5050_24, e_5050_27, e_5050_30, e_5050_31, e_5050_34, e_5050_36, zk_int, zk_ref, zk_null, zk_none, zk_long, zisR_r, zisR_n, zcl_int, zcl_ref, zcl_null, zpush_s, zpush_n, zbs, zbn, true_or, or_true, not_false_eq_true, not_true_eq_false, ↓reduceIte, and_self, and_true, true_and, zt_0, zr_0_0, zt_1, th, r, wc, q, e10]
  · rw [if_neg (fun x => hmz ((nI_leI (by omega) (by omega)).mp x.2.2.1))] at q
    rw [if_neg hmz]
    simp only [c_5050, c_5050_n, e_5050_0, e_5050_1, e_5050_4, e_5050_5, e_5050_6n, e_5050_6r, e_5050_9, e_5050_10, e_5050_13, e_5050_14, e_5050_15, e_5050_16, e_5050_17, e_5050_18, e_5050_21, e_5050_24, e_5050_27, e_5050_30, e_5050_31, e_5050_34, e_5050_36, zk_int, zk_ref, zk_null, zk_none, zk_long, zisR_r, zisR_n, zcl_int, zcl_ref, zcl_null, zpush_s, zpush_n, zbs, zbn, true_or, or_true, not_false_eq_true, not_true_eq_false, ↓reduceIte, and_self, and_true, true_and, zt_0, zr_0_0, zt_1, th, r, wc, q]
end FC
