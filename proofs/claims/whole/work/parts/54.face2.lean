section FB
variable {d n m : Nat} {w : zM}
theorem f_pointsFound {y r : Nat} (C : zHc w 14 n m) (hr : w.1 13 3 = nI r) (hr2 : r < 1000) (hy : y < m) : cal (d + 2) 2017 [.ref 13, .int (nI y)] w = some (some (.int (nI (dig 3 m r y) + 1)), w) := by
  have e := C.2.2.2.1
  have wc : cal (d + 1) 1003 [.ref 14] w = some (some (.int (nI m)), w) := by
    simp only [c_1003, e_1003_0, e_1003_1, e_1003_4, zk_int, zk_ref, zk_null, zk_none, zk_long, zisR_r, zisR_n, zcl_int, zcl_ref, zcl_null, zpush_s, zpush_n, zbs, zbn, true_or, or_true, not_false_eq_true, not_true_eq_false, ↓reduceIte, and_self, and_true, true_and, zt_14, e]
  have q := q_digit (d := d) (b := 3) (m := m) (r := r) (y := y) (w := w) (by decide) (by decide) C.2.2.2.2 hy hr2
  have i3 : nI 3 = 3 := by decide
  rw [i3] at q
  simp only [c_2017, e_2017_0, e_2017_1, e_2017_4, e_2017_5, e_2017_6, e_2017_9, e_2017_12, e_2017_13, e_2017_16, e_2017_17, e_2017_18, zk_int, zk_ref, zk_null, zk_none, zk_long, zisR_r, zisR_n, zcl_int, zcl_ref, zcl_null, zpush_s, zpush_n, zbs, zbn, true_or, or_true, not_false_eq_true, not_true_eq_false, ↓reduceIte, and_self, and_true, true_and, zt_13, zr_13_0, zt_14, hr, wc, q]
def fBad (L : Nat → Int32) : Nat → Nat → Int32
  | 0, _ => -1
  | r + 1, y => if 0 ≤ L y ∧ L y ≤ 3 then fBad L r (y + 1) else nI y
theorem f_firstWrong_l {h z : Nat} {L : Nat → Int32} (C : zHc w 1 n m) (X : rTx w h z L) : ∀ r y, y + r = m → den (d + 2) 5051 2 [some (.ref 0), some (.ref h), some (.int (nI y))] [] w = some (some (.int (fBad L r y)), w) := by
  have th := (zSs_f X.1).1
  have hm4 := C.2.2.2.2
  have e := C.2.2.2.1
  have wc : cal (d + 1) 1003 [.ref 1] w = some (some (.int (nI m)), w) := by
    simp only [c_1003, e_1003_0, e_1003_1, e_1003_4, zk_int, zk_ref, zk_null, zk_none, zk_long, zisR_r, zisR_n, zcl_int, zcl_ref, zcl_null, zpush_s, zpush_n, zbs, zbn, true_or, or_true, not_false_eq_true, not_true_eq_false, ↓reduceIte, and_self, and_true, true_and, zt_1, e]
  have e10 : ((1 : Int32) = 0) = False := eq_false (by decide)
  intro r
  induction r with
  | zero =>
    intro y hy
    have e2 : y = m := by omega
    subst e2
    have l1 := nI_le_n (Nat.le_refl y) (by omega)
    rw [e_5051_2]
    simp only [c_5051, e_5051_0, e_5051_1, e_5051_3, e_5051_4, e_5051_7, e_5051_10, e_5051_13, e_5051_14, e_5051_15, e_5051_16, e_5051_19, e_5051_22, e_5051_25, e_5051_26, e_5051_27, e_5051_30, e_5051_33, e_5051_34, zk_int, zk_ref, zk_null, zk_none, zk_long, zisR_r, zisR_n, zcl_int, zcl_ref, zcl_null, zpush_s, zpush_n, zbs, zbn, true_or, or_true, not_false_eq_true, not_true_eq_false, ↓reduceIte, and_self, and_true, true_and, zt_0, zr_0_0, zt_1, wc, l1]
    rfl
  | succ r ih =>
    intro y hy
    have l1 := nI_ge_f (a := y) (b := m) (by omega) (by omega)
    have r1 := r_int (d := d) (w := w) X (p := y) (by omega)
    have q := q_waiterPartMayBe_1 (d := d) (w := w) (v := L y)
    have ef : fBad L (r + 1) y = if 0 ≤ L y ∧ L y ≤ 3 then fBad L r (y + 1) else nI y := rfl
    rw [ef]
    by_cases hb : 0 ≤ L y ∧ L y ≤ 3
    · rw [if_pos hb] at q ⊢
      rw [e_5051_2]
      simp only [c_5051, e_5051_0, e_5051_1, e_5051_3, e_5051_4, e_5051_7, e_5051_10, e_5051_13, e_5051_14, e_5051_15, e_5051_16, e_5051_19, e_5051_22, e_5051_25, e_5051_26, e_5051_27, e_5051_30, e_5051_33, e_5051_34, zk_int, zk_ref, zk_null, zk_none, zk_long, zisR_r, zisR_n, zcl_int, zcl_ref, zcl_null, zpush_s, zpush_n, zbs, zbn, true_or, or_true, not_false_eq_true, not_true_eq_false, ↓reduceIte, and_self, and_true, true_and, zt_0, zr_0_0, zt_1, th, wc, l1, r1, q, e10, nI_1]
      exact ih (y + 1) (by omega)
    · rw [if_neg hb] at q ⊢
      rw [e_5051_2]
      simp only [c_5051, e_5051_0, e_5051_1, e_5051_3, e_5051_4, e_5051_7, e_5051_10, e_5051_13, e_5051_14, e_5051_15, e_5051_16, e_5051_19, e_5051_22, e_5051_25, e_5051_26, e_5051_27, e_5051_30, e_5051_33, e_5051_34, zk_int, zk_ref, zk_null, zk_none, zk_long, zisR_r, zisR_n, zcl_int, zcl_ref, zcl_null, zpush_s, zpush_n, zbs, zbn, true_or, or_true, not_false_eq_true, not_true_eq_false, ↓reduceIte, and_self, and_true, true_and, zt_0, zr_0_0, zt_1, th, wc, l1, r1, q]
theorem f_firstWrong {h z : Nat} {L : Nat → Int32} (C : zHc w 1 n m) (X : rTx w h z L) : cal (d + 2) 5051 [.ref 0, .ref h] w = some (some (.int (fBad L m 0)), w) := by
  have q := f_firstWrong_l (d := d) C X m 0 (by omega)
  have e0 : nI 0 = 0 := nI_0
  rw [e0] at q
  simp only [c_5051, e_5051_0, e_5051_1, zk_int, zk_ref, zk_null, zk_none, zk_long, zisR_r, zisR_n, zcl_int, zcl_ref, zcl_null, zpush_s, zpush_n, zbs, zbn, true_or, or_true, not_false_eq_true, not_true_eq_false, ↓reduceIte, and_self, and_true, true_and]
  exact q
end FB
