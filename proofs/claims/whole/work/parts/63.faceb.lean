section FK
variable {d n m : Nat} {w : zM}
theorem f_ask_o {k v : Int32} (hk : k < 0 ∨ 5 ≤ k) : cal (d + 3) 5013 [.ref 0, .int k, .int v] w = some (some (.int (-6)), fRf w 6) := by
  have a := q_settingMayBe_o (d := d + 1) (w := w) (v := v) hk
  have r := f_refuse (d := d + 1) (w := w) (c := -6) (j := 6) (by decide) (by decide)
  simp only [c_5013, e_5013_0, e_5013_1, e_5013_2, e_5013_5, e_5013_8, e_5013_9, e_5013_11, e_5013_14, e_5013_15, e_5013_16, e_5013_19, e_5013_20, e_5013_23, e_5013_24, e_5013_25, e_5013_28, e_5013_29, e_5013_30, e_5013_33, e_5013_34, zk_int, zk_ref, zk_null, zk_none, zk_long, zisR_r, zisR_n, zcl_int, zcl_ref, zcl_null, zpush_s, zpush_n, zbs, zbn, true_or, or_true, not_false_eq_true, not_true_eq_false, ↓reduceIte, and_self, and_true, true_and, zt_0, zr_0_0, zt_1, a, r]
theorem f_ask_60 {v : Int32} (hv : ¬ (0 ≤ v ∧ v ≤ 3)) : cal (d + 3) 5013 [.ref 0, .int 0, .int v] w = some (some (.int (-6)), fRf w 6) := by
  have a := q_settingMayBe_0 (d := d + 1) (w := w) (v := v)
  rw [if_neg hv] at a
  have r := f_refuse (d := d + 1) (w := w) (c := -6) (j := 6) (by decide) (by decide)
  simp only [c_5013, e_5013_0, e_5013_1, e_5013_2, e_5013_5, e_5013_8, e_5013_9, e_5013_11, e_5013_14, e_5013_15, e_5013_16, e_5013_19, e_5013_20, e_5013_23, e_5013_24, e_5013_25, e_5013_28, e_5013_29, e_5013_30, e_5013_33, e_5013_34, zk_int, zk_ref, zk_null, zk_none, zk_long, zisR_r, zisR_n, zcl_int, zcl_ref, zcl_null, zpush_s, zpush_n, zbs, zbn, true_or, or_true, not_false_eq_true, not_true_eq_false, ↓reduceIte, and_self, and_true, true_and, zt_0, zr_0_0, zt_1, a, r]
theorem f_asks_0 {v : Int32} (hv : 0 ≤ v ∧ v ≤ 3) : cal (d + 3) 5013 [.ref 0, .int 0, .int v] w = some (some (.int (w.1 4 0)), zuA w 4 (upd (w.1 4) 0 v)) := by
  have a := q_settingMayBe_0 (d := d + 1) (w := w) (v := v)
  rw [if_pos hv] at a
  have p := q_setting_0 (d := d + 1) (w := w) zHs1
  have s := q_settle_0 (d := d + 1) (w := w) (v := v) zHs1
  have e10 : ((1 : Int32) = 0) = False := eq_false (by decide)
  simp only [c_5013, e_5013_0, e_5013_1, e_5013_2, e_5013_5, e_5013_8, e_5013_9, e_5013_11, e_5013_14, e_5013_15, e_5013_16, e_5013_19, e_5013_20, e_5013_23, e_5013_24, e_5013_25, e_5013_28, e_5013_29, e_5013_30, e_5013_33, e_5013_34, zk_int, zk_ref, zk_null, zk_none, zk_long, zisR_r, zisR_n, zcl_int, zcl_ref, zcl_null, zpush_s, zpush_n, zbs, zbn, true_or, or_true, not_false_eq_true, not_true_eq_false, ↓reduceIte, and_self, and_true, true_and, zt_0, zr_0_0, zt_1, a, p, s, e10]
theorem f_ask_61 {v : Int32} (hv : ¬ (0 ≤ v ∧ v ≤ 30)) : cal (d + 3) 5013 [.ref 0, .int 1, .int v] w = some (some (.int (-6)), fRf w 6) := by
  have a := q_settingMayBe_1 (d := d + 1) (w := w) (v := v)
  rw [if_neg hv] at a
  have r := f_refuse (d := d + 1) (w := w) (c := -6) (j := 6) (by decide) (by decide)
  simp only [c_5013, e_5013_0, e_5013_1, e_5013_2, e_5013_5, e_5013_8, e_5013_9, e_5013_11, e_5013_14, e_5013_15, e_5013_16, e_5013_19, e_5013_20, e_5013_23, e_5013_24, e_5013_25, e_5013_28, e_5013_29, e_5013_30, e_5013_33, e_5013_34, zk_int, zk_ref, zk_null, zk_none, zk_long, zisR_r, zisR_n, zcl_int, zcl_ref, zcl_null, zpush_s, zpush_n, zbs, zbn, true_or, or_true, not_false_eq_true, not_true_eq_false, ↓reduceIte, and_self, and_true, true_and, zt_0, zr_0_0, zt_1, a, r]
theorem f_asks_1 {v : Int32} (hv : 0 ≤ v ∧ v ≤ 30) : cal (d + 3) 5013 [.ref 0, .int 1, .int v] w = some (some (.int (w.1 4 1)), zuA w 4 (upd (w.1 4) 1 v)) := by
  have a := q_settingMayBe_1 (d := d + 1) (w := w) (v := v)
  rw [if_pos hv] at a
  have p := q_setting_1 (d := d + 1) (w := w) zHs1
  have s := q_settle_1 (d := d + 1) (w := w) (v := v) zHs1
  have e10 : ((1 : Int32) = 0) = False := eq_false (by decide)
  simp only [c_5013, e_5013_0, e_5013_1, e_5013_2, e_5013_5, e_5013_8, e_5013_9, e_5013_11, e_5013_14, e_5013_15, e_5013_16, e_5013_19, e_5013_20, e_5013_23, e_5013_24, e_5013_25, e_5013_28, e_5013_29, e_5013_30, e_5013_33, e_5013_34, zk_int, zk_ref, zk_null, zk_none, zk_long, zisR_r, zisR_n, zcl_int, zcl_ref, zcl_null, zpush_s, zpush_n, zbs, zbn, true_or, or_true, not_false_eq_true, not_true_eq_false, ↓reduceIte, and_self, and_true, true_and, zt_0, zr_0_0, zt_1, a, p, s, e10]
theorem f_ask_62 {v : Int32} (hv : ¬ (0 ≤ v ∧ v ≤ 99)) : cal (d + 3) 5013 [.ref 0, .int 2, .int v] w = some (some (.int (-6)), fRf w 6) := by
  have a := q_settingMayBe_2 (d := d + 1) (w := w) (v := v)
  rw [if_neg hv] at a
  have r := f_refuse (d := d + 1) (w := w) (c := -6) (j := 6) (by decide) (by decide)
  simp only [c_5013, e_5013_0, e_5013_1, e_5013_2, e_5013_5, e_5013_8, e_5013_9, e_5013_11, e_5013_14, e_5013_15, e_5013_16, e_5013_19, e_5013_20, e_5013_23, e_5013_24, e_5013_25, e_5013_28, e_5013_29, e_5013_30, e_5013_33, e_5013_34, zk_int, zk_ref, zk_null, zk_none, zk_long, zisR_r, zisR_n, zcl_int, zcl_ref, zcl_null, zpush_s, zpush_n, zbs, zbn, true_or, or_true, not_false_eq_true, not_true_eq_false, ↓reduceIte, and_self, and_true, true_and, zt_0, zr_0_0, zt_1, a, r]
theorem f_asks_2 {v : Int32} (hv : 0 ≤ v ∧ v ≤ 99) : cal (d + 3) 5013 [.ref 0, .int 2, .int v] w = some (some (.int (w.1 4 2)), zuA w 4 (upd (w.1 4) 2 v)) := by
  have a := q_settingMayBe_2 (d := d + 1) (w := w) (v := v)
  rw [if_pos hv] at a
  have p := q_setting_2 (d := d + 1) (w := w) zHs1
  have s := q_settle_2 (d := d + 1) (w := w) (v := v) zHs1
  have e10 : ((1 : Int32) = 0) = False := eq_false (by decide)
  simp only [c_5013, e_5013_0, e_5013_1, e_5013_2, e_5013_5, e_5013_8, e_5013_9, e_5013_11, e_5013_14, e_5013_15, e_5013_16, e_5013_19, e_5013_20, e_5013_23, e_5013_24, e_5013_25, e_5013_28, e_5013_29, e_5013_30, e_5013_33, e_5013_34, zk_int, zk_ref, zk_null, zk_none, zk_long, zisR_r, zisR_n, zcl_int, zcl_ref, zcl_null, zpush_s, zpush_n, zbs, zbn, true_or, or_true, not_false_eq_true, not_true_eq_false, ↓reduceIte, and_self, and_true, true_and, zt_0, zr_0_0, zt_1, a, p, s, e10]
theorem f_ask_63 {v : Int32} (hv : ¬ (0 ≤ v ∧ v ≤ 99)) : cal (d + 3) 5013 [.ref 0, .int 3, .int v] w = some (some (.int (-6)), fRf w 6) := by
  have a := q_settingMayBe_3 (d := d + 1) (w := w) (v := v)
  rw [if_neg hv] at a
  have r := f_refuse (d := d + 1) (w := w) (c := -6) (j := 6) (by decide) (by decide)
  simp only [c_5013, e_5013_0, e_5013_1, e_5013_2, e_5013_5, e_5013_8, e_5013_9, e_5013_11, e_5013_14, e_5013_15, e_5013_16, e_5013_19, e_5013_20, e_5013_23, e_5013_24, e_5013_25, e_5013_28, e_5013_29, e_5013_30, e_5013_33, e_5013_34, zk_int, zk_ref, zk_null, zk_none, zk_long, zisR_r, zisR_n, zcl_int, zcl_ref, zcl_null, zpush_s, zpush_n, zbs, zbn, true_or, or_true, not_false_eq_true, not_true_eq_false, ↓reduceIte, and_self, and_true, true_and, zt_0, zr_0_0, zt_1, a, r]
theorem f_asks_3 {v : Int32} (hv : 0 ≤ v ∧ v ≤ 99) : cal (d + 3) 5013 [.ref 0, .int 3, .int v] w = some (some (.int (w.1 4 3)), zuA w 4 (upd (w.1 4) 3 v)) := by
  have a := q_settingMayBe_3 (d := d + 1) (w := w) (v := v)
  rw [if_pos hv] at a
  have p := q_setting_3 (d := d + 1) (w := w) zHs1
  have s := q_settle_3 (d := d + 1) (w := w) (v := v) zHs1
  have e10 : ((1 : Int32) = 0) = False := eq_false (by decide)
  simp only [c_5013, e_5013_0, e_5013_1, e_5013_2, e_5013_5, e_5013_8, e_5013_9, e_5013_11, e_5013_14, e_5013_15, e_5013_16, e_5013_19, e_5013_20, e_5013_23, e_5013_24, e_5013_25, e_5013_28, e_5013_29, e_5013_30, e_5013_33, e_5013_34, zk_int, zk_ref, zk_null, zk_none, zk_long, zisR_r, zisR_n, zcl_int, zcl_ref, zcl_null, zpush_s, zpush_n, zbs, zbn, true_or, or_true, not_false_eq_true, not_true_eq_false, ↓reduceIte, and_self, and_true, true_and, zt_0, zr_0_0, zt_1, a, p, s, e10]
theorem f_ask_64 {v : Int32} (hv : ¬ (0 ≤ v ∧ v ≤ 99)) : cal (d + 3) 5013 [.ref 0, .int 4, .int v] w = some (some (.int (-6)), fRf w 6) := by
  have a := q_settingMayBe_4 (d := d + 1) (w := w) (v := v)
  rw [if_neg hv] at a
  have r := f_refuse (d := d + 1) (w := w) (c := -6) (j := 6) (by decide) (by decide)
  simp only [c_5013, e_5013_0, e_5013_1, e_5013_2, e_5013_5, e_5013_8, e_5013_9, e_5013_11, e_5013_14, e_5013_15, e_5013_16, e_5013_19, e_5013_20, e_5013_23, e_5013_24, e_5013_25, e_5013_28, e_5013_29, e_5013_30, e_5013_33, e_5013_34, zk_int, zk_ref, zk_null, zk_none, zk_long, zisR_r, zisR_n, zcl_int, zcl_ref, zcl_null, zpush_s, zpush_n, zbs, zbn, true_or, or_true, not_false_eq_true, not_true_eq_false, ↓reduceIte, and_self, and_true, true_and, zt_0, zr_0_0, zt_1, a, r]
theorem f_asks_4 {v : Int32} (hv : 0 ≤ v ∧ v ≤ 99) : cal (d + 3) 5013 [.ref 0, .int 4, .int v] w = some (some (.int (w.1 4 4)), zuA w 4 (upd (w.1 4) 4 v)) := by
  have a := q_settingMayBe_4 (d := d + 1) (w := w) (v := v)
  rw [if_pos hv] at a
  have p := q_setting_4 (d := d + 1) (w := w) zHs1
  have s := q_settle_4 (d := d + 1) (w := w) (v := v) zHs1
  have e10 : ((1 : Int32) = 0) = False := eq_false (by decide)
  simp only [c_5013, e_5013_0, e_5013_1, e_5013_2, e_5013_5, e_5013_8, e_5013_9, e_5013_11, e_5013_14, e_5013_15, e_5013_16, e_5013_19, e_5013_20, e_5013_23, e_5013_24, e_5013_25, e_5013_28, e_5013_29, e_5013_30, e_5013_33, e_5013_34, zk_int, zk_ref, zk_null, zk_none, zk_long, zisR_r, zisR_n, zcl_int, zcl_ref, zcl_null, zpush_s, zpush_n, zbs, zbn, true_or, or_true, not_false_eq_true, not_true_eq_false, ↓reduceIte, and_self, and_true, true_and, zt_0, zr_0_0, zt_1, a, p, s, e10]
end FK
