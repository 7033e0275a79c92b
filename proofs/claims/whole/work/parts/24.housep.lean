theorem q_tablePart_0 {d h n m t : Nat} {w : zM} (C : zHc w h n m) (ht : t < n) : cal (d + 1) 1017 [.ref h, .int (nI t), .int 0] w = some (some (.int (w.1 (h + 1) (5 * t + 0))), w) := by
  obtain ⟨H, c1, c2, c3, c4⟩ := id C
  obtain ⟨f1, f2, f3, f4, f5, f6, f7, f8, f9, f10, f11, f12, f13⟩ := zHs_f H
  have e : nI t * 5 + 0 = nI (5 * t + 0) := zi5 t 0
  have hj : 5 * t + 0 < 40 := by omega
  have z0 : ((0 : Int32) ≤ 0) = True := by decide
  have z1 : ((0 : Int32) < 0) = False := by decide
  have z2 : ((5 : Int32) ≤ 0) = False := by decide
  have z3 : ((1 : Int32) = 0) = False := by decide
  simp only [c_1017, e_1017_0, e_1017_1, e_1017_2, e_1017_5, e_1017_8, e_1017_9, e_1017_12, e_1017_13, e_1017_14, e_1017_17, e_1017_18, e_1017_21, e_1017_22, e_1017_23, e_1017_24, e_1017_25, e_1017_26, e_1017_29, e_1017_32, e_1017_33, zk_int, zk_ref, zk_null, zk_none, zk_long, zisR_r, zisR_n, zcl_int, zcl_ref, zcl_null, zpush_s, zpush_n, zbs, zbn, true_or, or_true, not_false_eq_true, not_true_eq_false, ↓reduceIte, and_self, and_true, true_and, f1, f2, f3, f4, f5, f6, f7, f8, f9, f10, f11, f12, f13, c1, c3, q_hasTable C ht, q_at, e, hj, z0, z1, z2, z3, Nat.reduceLT]
theorem q_tablePart_1 {d h n m t : Nat} {w : zM} (C : zHc w h n m) (ht : t < n) : cal (d + 1) 1017 [.ref h, .int (nI t), .int 1] w = some (some (.int (w.1 (h + 1) (5 * t + 1))), w) := by
  obtain ⟨H, c1, c2, c3, c4⟩ := id C
  obtain ⟨f1, f2, f3, f4, f5, f6, f7, f8, f9, f10, f11, f12, f13⟩ := zHs_f H
  have e : nI t * 5 + 1 = nI (5 * t + 1) := zi5 t 1
  have hj : 5 * t + 1 < 40 := by omega
  have z0 : ((0 : Int32) ≤ 1) = True := by decide
  have z1 : ((1 : Int32) < 0) = False := by decide
  have z2 : ((5 : Int32) ≤ 1) = False := by decide
  have z3 : ((1 : Int32) = 0) = False := by decide
  simp only [c_1017, e_1017_0, e_1017_1, e_1017_2, e_1017_5, e_1017_8, e_1017_9, e_1017_12, e_1017_13, e_1017_14, e_1017_17, e_1017_18, e_1017_21, e_1017_22, e_1017_23, e_1017_24, e_1017_25, e_1017_26, e_1017_29, e_1017_32, e_1017_33, zk_int, zk_ref, zk_null, zk_none, zk_long, zisR_r, zisR_n, zcl_int, zcl_ref, zcl_null, zpush_s, zpush_n, zbs, zbn, true_or, or_true, not_false_eq_true, not_true_eq_false, ↓reduceIte, and_self, and_true, true_and, f1, f2, f3, f4, f5, f6, f7, f8, f9, f10, f11, f12, f13, c1, c3, q_hasTable C ht, q_at, e, hj, z0, z1, z2, z3, Nat.reduceLT]
theorem q_tablePart_2 {d h n m t : Nat} {w : zM} (C : zHc w h n m) (ht : t < n) : cal (d + 1) 1017 [.ref h, .int (nI t), .int 2] w = some (some (.int (w.1 (h + 1) (5 * t + 2))), w) := by
  obtain ⟨H, c1, c2, c3, c4⟩ := id C
  obtain ⟨f1, f2, f3, f4, f5, f6, f7, f8, f9, f10, f11, f12, f13⟩ := zHs_f H
  have e : nI t * 5 + 2 = nI (5 * t + 2) := zi5 t 2
  have hj : 5 * t + 2 < 40 := by omega
  have z0 : ((0 : Int32) ≤ 2) = True := by decide
  have z1 : ((2 : Int32) < 0) = False := by decide
  have z2 : ((5 : Int32) ≤ 2) = False := by decide
  have z3 : ((1 : Int32) = 0) = False := by decide
  simp only [c_1017, e_1017_0, e_1017_1, e_1017_2, e_1017_5, e_1017_8, e_1017_9, e_1017_12, e_1017_13, e_1017_14, e_1017_17, e_1017_18, e_1017_21, e_1017_22, e_1017_23, e_1017_24, e_1017_25, e_1017_26, e_1017_29, e_1017_32, e_1017_33, zk_int, zk_ref, zk_null, zk_none, zk_long, zisR_r, zisR_n, zcl_int, zcl_ref, zcl_null, zpush_s, zpush_n, zbs, zbn, true_or, or_true, not_false_eq_true, not_true_eq_false, ↓reduceIte, and_self, and_true, true_and, f1, f2, f3, f4, f5, f6, f7, f8, f9, f10, f11, f12, f13, c1, c3, q_hasTable C ht, q_at, e, hj, z0, z1, z2, z3, Nat.reduceLT]
theorem q_tablePart_3 {d h n m t : Nat} {w : zM} (C : zHc w h n m) (ht : t < n) : cal (d + 1) 1017 [.ref h, .int (nI t), .int 3] w = some (some (.int (w.1 (h + 1) (5 * t + 3))), w) := by
  obtain ⟨H, c1, c2, c3, c4⟩ := id C
  obtain ⟨f1, f2, f3, f4, f5, f6, f7, f8, f9, f10, f11, f12, f13⟩ := zHs_f H
  have e : nI t * 5 + 3 = nI (5 * t + 3) := zi5 t 3
  have hj : 5 * t + 3 < 40 := by omega
  have z0 : ((0 : Int32) ≤ 3) = True := by decide
  have z1 : ((3 : Int32) < 0) = False := by decide
  have z2 : ((5 : Int32) ≤ 3) = False := by decide
  have z3 : ((1 : Int32) = 0) = False := by decide
  simp only [c_1017, e_1017_0, e_1017_1, e_1017_2, e_1017_5, e_1017_8, e_1017_9, e_1017_12, e_1017_13, e_1017_14, e_1017_17, e_1017_18, e_1017_21, e_1017_22, e_1017_23, e_1017_24, e_1017_25, e_1017_26, e_1017_29, e_1017_32, e_1017_33, zk_int, zk_ref, zk_null, zk_none, zk_long, zisR_r, zisR_n, zcl_int, zcl_ref, zcl_null, zpush_s, zpush_n, zbs, zbn, true_or, or_true, not_false_eq_true, not_true_eq_false, ↓reduceIte, and_self, and_true, true_and, f1, f2, f3, f4, f5, f6, f7, f8, f9, f10, f11, f12, f13, c1, c3, q_hasTable C ht, q_at, e, hj, z0, z1, z2, z3, Nat.reduceLT]
theorem q_tablePart_4 {d h n m t : Nat} {w : zM} (C : zHc w h n m) (ht : t < n) : cal (d + 1) 1017 [.ref h, .int (nI t), .int 4] w = some (some (.int (w.1 (h + 1) (5 * t + 4))), w) := by
  obtain ⟨H, c1, c2, c3, c4⟩ := id C
  obtain ⟨f1, f2, f3, f4, f5, f6, f7, f8, f9, f10, f11, f12, f13⟩ := zHs_f H
  have e : nI t * 5 + 4 = nI (5 * t + 4) := zi5 t 4
  have hj : 5 * t + 4 < 40 := by omega
  have z0 : ((0 : Int32) ≤ 4) = True := by decide
  have z1 : ((4 : Int32) < 0) = False := by decide
  have z2 : ((5 : Int32) ≤ 4) = False := by decide
  have z3 : ((1 : Int32) = 0) = False := by decide
  simp only [c_1017, e_1017_0, e_1017_1, e_1017_2, e_1017_5, e_1017_8, e_1017_9, e_1017_12, e_1017_13, e_1017_14, e_1017_17, e_1017_18, e_1017_21, e_1017_22, e_1017_23, e_1017_24, e_1017_25, e_1017_26, e_1017_29, e_1017_32, e_1017_33, zk_int, zk_ref, zk_null, zk_none, zk_long, zisR_r, zisR_n, zcl_int, zcl_ref, zcl_null, zpush_s, zpush_n, zbs, zbn, true_or, or_true, not_false_eq_true, not_true_eq_false, ↓reduceIte, and_self, and_true, true_and, f1, f2, f3, f4, f5, f6, f7, f8, f9, f10, f11, f12, f13, c1, c3, q_hasTable C ht, q_at, e, hj, z0, z1, z2, z3, Nat.reduceLT]
theorem q_waiterPart_0 {d h n m t : Nat} {w : zM} (C : zHc w h n m) (ht : t < m) : cal (d + 1) 1021 [.ref h, .int (nI t), .int 0] w = some (some (.int (w.1 (h + 2) (6 * t + 0))), w) := by
  obtain ⟨H, c1, c2, c3, c4⟩ := id C
  obtain ⟨f1, f2, f3, f4, f5, f6, f7, f8, f9, f10, f11, f12, f13⟩ := zHs_f H
  have e : nI t * 6 + 0 = nI (6 * t + 0) := zi6 t 0
  have hj : 6 * t + 0 < 24 := by omega
  have z0 : ((0 : Int32) ≤ 0) = True := by decide
  have z1 : ((0 : Int32) < 0) = False := by decide
  have z2 : ((6 : Int32) ≤ 0) = False := by decide
  have z3 : ((1 : Int32) = 0) = False := by decide
  simp only [c_1021, e_1021_0, e_1021_1, e_1021_2, e_1021_5, e_1021_8, e_1021_9, e_1021_12, e_1021_13, e_1021_15, e_1021_18, e_1021_19, e_1021_22, e_1021_23, e_1021_25, e_1021_26, e_1021_27, e_1021_28, e_1021_31, e_1021_34, e_1021_35, zk_int, zk_ref, zk_null, zk_none, zk_long, zisR_r, zisR_n, zcl_int, zcl_ref, zcl_null, zpush_s, zpush_n, zbs, zbn, true_or, or_true, not_false_eq_true, not_true_eq_false, ↓reduceIte, and_self, and_true, true_and, f1, f2, f3, f4, f5, f6, f7, f8, f9, f10, f11, f12, f13, c1, c3, q_hasWaiter C ht, q_at, e, hj, z0, z1, z2, z3, Nat.reduceLT]
theorem q_waiterPart_1 {d h n m t : Nat} {w : zM} (C : zHc w h n m) (ht : t < m) : cal (d + 1) 1021 [.ref h, .int (nI t), .int 1] w = some (some (.int (w.1 (h + 2) (6 * t + 1))), w) := by
  obtain ⟨H, c1, c2, c3, c4⟩ := id C
  obtain ⟨f1, f2, f3, f4, f5, f6, f7, f8, f9, f10, f11, f12, f13⟩ := zHs_f H
  have e : nI t * 6 + 1 = nI (6 * t + 1) := zi6 t 1
  have hj : 6 * t + 1 < 24 := by omega
  have z0 : ((0 : Int32) ≤ 1) = True := by decide
  have z1 : ((1 : Int32) < 0) = False := by decide
  have z2 : ((6 : Int32) ≤ 1) = False := by decide
  have z3 : ((1 : Int32) = 0) = False := by decide
  simp only [c_1021, e_1021_0, e_1021_1, e_1021_2, e_1021_5, e_1021_8, e_1021_9, e_1021_12, e_1021_13, e_1021_15, e_1021_18, e_1021_19, e_1021_22, e_1021_23, e_1021_25, e_1021_26, e_1021_27, e_1021_28, e_1021_31, e_1021_34, e_1021_35, zk_int, zk_ref, zk_null, zk_none, zk_long, zisR_r, zisR_n, zcl_int, zcl_ref, zcl_null, zpush_s, zpush_n, zbs, zbn, true_or, or_true, not_false_eq_true, not_true_eq_false, ↓reduceIte, and_self, and_true, true_and, f1, f2, f3, f4, f5, f6, f7, f8, f9, f10, f11, f12, f13, c1, c3, q_hasWaiter C ht, q_at, e, hj, z0, z1, z2, z3, Nat.reduceLT]
theorem q_waiterPart_2 {d h n m t : Nat} {w : zM} (C : zHc w h n m) (ht : t < m) : cal (d + 1) 1021 [.ref h, .int (nI t), .int 2] w = some (some (.int (w.1 (h + 2) (6 * t + 2))), w) := by
  obtain ⟨H, c1, c2, c3, c4⟩ := id C
  obtain ⟨f1, f2, f3, f4, f5, f6, f7, f8, f9, f10, f11, f12, f13⟩ := zHs_f H
  have e : nI t * 6 + 2 = nI (6 * t + 2) := zi6 t 2
  have hj : 6 * t + 2 < 24 := by omega
  have z0 : ((0 : Int32) ≤ 2) = True := by decide
  have z1 : ((2 : Int32) < 0) = False := by decide
  have z2 : ((6 : Int32) ≤ 2) = False := by decide
  have z3 : ((1 : Int32) = 0) = False := by decide
  simp only [c_1021, e_1021_0, e_1021_1, e_1021_2, e_1021_5, e_1021_8, e_1021_9, e_1021_12, e_1021_13, e_1021_15, e_1021_18, e_1021_19, e_1021_22, e_1021_23, e_1021_25, e_1021_26, e_1021_27, e_1021_28, e_1021_31, e_1021_34, e_1021_35, zk_int, zk_ref, zk_null, zk_none, zk_long, zisR_r, zisR_n, zcl_int, zcl_ref, zcl_null, zpush_s, zpush_n, zbs, zbn, true_or, or_true, not_false_eq_true, not_true_eq_false, ↓reduceIte, and_self, and_true, true_and, f1, f2, f3, f4, f5, f6, f7, f8, f9, f10, f11, f12, f13, c1, c3, q_hasWaiter C ht, q_at, e, hj, z0, z1, z2, z3, Nat.reduceLT]
theorem q_waiterPart_3 {d h n m t : Nat} {w : zM} (C : zHc w h n m) (ht : t < m) : cal (d + 1) 1021 [.ref h, .int (nI t), .int 3] w = some (some (.int (w.1 (h + 2) (6 * t + 3))), w) := by
  obtain ⟨H, c1, c2, c3, c4⟩ := id C
  obtain ⟨f1, f2, f3, f4, f5, f6, f7, f8, f9, f10, f11, f12, f13⟩ := zHs_f H
  have e : nI t * 6 + 3 = nI (6 * t + 3) := zi6 t 3
  have hj : 6 * t + 3 < 24 := by omega
  have z0 : ((0 : Int32) ≤ 3) = True := by decide
  have z1 : ((3 : Int32) < 0) = False := by decide
  have z2 : ((6 : Int32) ≤ 3) = False := by decide
  have z3 : ((1 : Int32) = 0) = False := by decide
  simp only [c_1021, e_1021_0, e_1021_1, e_1021_2, e_1021_5, e_1021_8, e_1021_9, e_1021_12, e_1021_13, e_1021_15, e_1021_18, e_1021_19, e_1021_22, e_1021_23, e_1021_25, e_1021_26, e_1021_27, e_1021_28, e_1021_31, e_1021_34, e_1021_35, zk_int, zk_ref, zk_null, zk_none, zk_long, zisR_r, zisR_n, zcl_int, zcl_ref, zcl_null, zpush_s, zpush_n, zbs, zbn, true_or, or_true, not_false_eq_true, not_true_eq_false, ↓reduceIte, and_self, and_true, true_and, f1, f2, f3, f4, f5, f6, f7, f8, f9, f10, f11, f12, f13, c1, c3, q_hasWaiter C ht, q_at, e, hj, z0, z1, z2, z3, Nat.reduceLT]
theorem q_waiterPart_4 {d h n m t : Nat} {w : zM} (C : zHc w h n m) (ht : t < m) : cal (d + 1) 1021 [.ref h, .int (nI t), .int 4] w = some (some (.int (w.1 (h + 2) (6 * t + 4))), w) := by
  obtain ⟨H, c1, c2, c3, c4⟩ := id C
  obtain ⟨f1, f2, f3, f4, f5, f6, f7, f8, f9, f10, f11, f12, f13⟩ := zHs_f H
  have e : nI t * 6 + 4 = nI (6 * t + 4) := zi6 t 4
  have hj : 6 * t + 4 < 24 := by omega
  have z0 : ((0 : Int32) ≤ 4) = True := by decide
  have z1 : ((4 : Int32) < 0) = False := by decide
  have z2 : ((6 : Int32) ≤ 4) = False := by decide
  have z3 : ((1 : Int32) = 0) = False := by decide
  simp only [c_1021, e_1021_0, e_1021_1, e_1021_2, e_1021_5, e_1021_8, e_1021_9, e_1021_12, e_1021_13, e_1021_15, e_1021_18, e_1021_19, e_1021_22, e_1021_23, e_1021_25, e_1021_26, e_1021_27, e_1021_28, e_1021_31, e_1021_34, e_1021_35, zk_int, zk_ref, zk_null, zk_none, zk_long, zisR_r, zisR_n, zcl_int, zcl_ref, zcl_null, zpush_s, zpush_n, zbs, zbn, true_or, or_true, not_false_eq_true, not_true_eq_false, ↓reduceIte, and_self, and_true, true_and, f1, f2, f3, f4, f5, f6, f7, f8, f9, f10, f11, f12, f13, c1, c3, q_hasWaiter C ht, q_at, e, hj, z0, z1, z2, z3, Nat.reduceLT]
theorem q_waiterPart_5 {d h n m t : Nat} {w : zM} (C : zHc w h n m) (ht : t < m) : cal (d + 1) 1021 [.ref h, .int (nI t), .int 5] w = some (some (.int (w.1 (h + 2) (6 * t + 5))), w) := by
  obtain ⟨H, c1, c2, c3, c4⟩ := id C
  obtain ⟨f1, f2, f3, f4, f5, f6, f7, f8, f9, f10, f11, f12, f13⟩ := zHs_f H
  have e : nI t * 6 + 5 = nI (6 * t + 5) := zi6 t 5
  have hj : 6 * t + 5 < 24 := by omega
  have z0 : ((0 : Int32) ≤ 5) = True := by decide
  have z1 : ((5 : Int32) < 0) = False := by decide
  have z2 : ((6 : Int32) ≤ 5) = False := by decide
  have z3 : ((1 : Int32) = 0) = False := by decide
  simp only [c_1021, e_1021_0, e_1021_1, e_1021_2, e_1021_5, e_1021_8, e_1021_9, e_1021_12, e_1021_13, e_1021_15, e_1021_18, e_1021_19, e_1021_22, e_1021_23, e_1021_25, e_1021_26, e_1021_27, e_1021_28, e_1021_31, e_1021_34, e_1021_35, zk_int, zk_ref, zk_null, zk_none, zk_long, zisR_r, zisR_n, zcl_int, zcl_ref, zcl_null, zpush_s, zpush_n, zbs, zbn, true_or, or_true, not_false_eq_true, not_true_eq_false, ↓reduceIte, and_self, and_true, true_and, f1, f2, f3, f4, f5, f6, f7, f8, f9, f10, f11, f12, f13, c1, c3, q_hasWaiter C ht, q_at, e, hj, z0, z1, z2, z3, Nat.reduceLT]
theorem q_setTablePart_0 {d h t : Nat} {w : zM} {v : Int32} (H : zHs h) (ht : t < 8) : cal (d + 1) 1018 [.ref h, .int (nI t), .int 0, .int v] w = some (none, zuA w (h + 1) (upd (w.1 (h + 1)) (5 * t + 0) v)) := by
  obtain ⟨f1, f2, f3, f4, f5, f6, f7, f8, f9, f10, f11, f12, f13⟩ := zHs_f H
  have e : nI t * 5 + 0 = nI (5 * t + 0) := zi5 t 0
  have hj : 5 * t + 0 < 40 := by omega
  simp only [c_1018, e_1018_0, e_1018_1, e_1018_4, e_1018_5, e_1018_6, e_1018_7, e_1018_8, e_1018_9, e_1018_10, e_1018_13, zk_int, zk_ref, zk_null, zk_none, zk_long, zisR_r, zisR_n, zcl_int, zcl_ref, zcl_null, zpush_s, zpush_n, zbs, zbn, true_or, or_true, not_false_eq_true, not_true_eq_false, ↓reduceIte, and_self, and_true, true_and, f1, f2, f6, f10, q_put, e, hj, Nat.reduceLT]
theorem q_setTablePart_1 {d h t : Nat} {w : zM} {v : Int32} (H : zHs h) (ht : t < 8) : cal (d + 1) 1018 [.ref h, .int (nI t), .int 1, .int v] w = some (none, zuA w (h + 1) (upd (w.1 (h + 1)) (5 * t + 1) v)) := by
  obtain ⟨f1, f2, f3, f4, f5, f6, f7, f8, f9, f10, f11, f12, f13⟩ := zHs_f H
  have e : nI t * 5 + 1 = nI (5 * t + 1) := zi5 t 1
  have hj : 5 * t + 1 < 40 := by omega
  simp only [c_1018, e_1018_0, e_1018_1, e_1018_4, e_1018_5, e_1018_6, e_1018_7, e_1018_8, e_1018_9, e_1018_10, e_1018_13, zk_int, zk_ref, zk_null, zk_none, zk_long, zisR_r, zisR_n, zcl_int, zcl_ref, zcl_null, zpush_s, zpush_n, zbs, zbn, true_or, or_true, not_false_eq_true, not_true_eq_false, ↓reduceIte, and_self, and_true, true_and, f1, f2, f6, f10, q_put, e, hj, Nat.reduceLT]
theorem q_setTablePart_2 {d h t : Nat} {w : zM} {v : Int32} (H : zHs h) (ht : t < 8) : cal (d + 1) 1018 [.ref h, .int (nI t), .int 2, .int v] w = some (none, zuA w (h + 1) (upd (w.1 (h + 1)) (5 * t + 2) v)) := by
  obtain ⟨f1, f2, f3, f4, f5, f6, f7, f8, f9, f10, f11, f12, f13⟩ := zHs_f H
  have e : nI t * 5 + 2 = nI (5 * t + 2) := zi5 t 2
  have hj : 5 * t + 2 < 40 := by omega
  simp only [c_1018, e_1018_0, e_1018_1, e_1018_4, e_1018_5, e_1018_6, e_1018_7, e_1018_8, e_1018_9, e_1018_10, e_1018_13, zk_int, zk_ref, zk_null, zk_none, zk_long, zisR_r, zisR_n, zcl_int, zcl_ref, zcl_null, zpush_s, zpush_n, zbs, zbn, true_or, or_true, not_false_eq_true, not_true_eq_false, ↓reduceIte, and_self, and_true, true_and, f1, f2, f6, f10, q_put, e, hj, Nat.reduceLT]
theorem q_setTablePart_3 {d h t : Nat} {w : zM} {v : Int32} (H : zHs h) (ht : t < 8) : cal (d + 1) 1018 [.ref h, .int (nI t), .int 3, .int v] w = some (none, zuA w (h + 1) (upd (w.1 (h + 1)) (5 * t + 3) v)) := by
  obtain ⟨f1, f2, f3, f4, f5, f6, f7, f8, f9, f10, f11, f12, f13⟩ := zHs_f H
  have e : nI t * 5 + 3 = nI (5 * t + 3) := zi5 t 3
  have hj : 5 * t + 3 < 40 := by omega
  simp only [c_1018, e_1018_0, e_1018_1, e_1018_4, e_1018_5, e_1018_6, e_1018_7, e_1018_8, e_1018_9, e_1018_10, e_1018_13, zk_int, zk_ref, zk_null, zk_none, zk_long, zisR_r, zisR_n, zcl_int, zcl_ref, zcl_null, zpush_s, zpush_n, zbs, zbn, true_or, or_true, not_false_eq_true, not_true_eq_false, ↓reduceIte, and_self, and_true, true_and, f1, f2, f6, f10, q_put, e, hj, Nat.reduceLT]
theorem q_setServer {d h t : Nat} {w : zM} {v : Int32} (H : zHs h) (ht : t < 8) : cal (d + 2) 1020 [.ref h, .int (nI t), .int v] w = some (none, zuA w (h + 1) (upd (w.1 (h + 1)) (5 * t + 4) v)) := by
  obtain ⟨f1, f2, f3, f4, f5, f6, f7, f8, f9, f10, f11, f12, f13⟩ := zHs_f H
  have e : nI t * 5 + 4 = nI (5 * t + 4) := zi5 t 4
  have hj : 5 * t + 4 < 40 := by omega
  simp only [c_1020, e_1020_0, e_1020_1, e_1020_2, e_1020_3, e_1020_4, e_1020_7, c_1018, e_1018_0, e_1018_1, e_1018_4, e_1018_5, e_1018_6, e_1018_7, e_1018_8, e_1018_9, e_1018_10, e_1018_13, zk_int, zk_ref, zk_null, zk_none, zk_long, zisR_r, zisR_n, zcl_int, zcl_ref, zcl_null, zpush_s, zpush_n, zbs, zbn, true_or, or_true, not_false_eq_true, not_true_eq_false, ↓reduceIte, and_self, and_true, true_and, f1, f2, f6, f10, q_put, e, hj, Nat.reduceLT]
def sGst (T : Nat → Int32) (t : Nat) (k b p a : Int32) : Nat → Int32 := upd (upd (upd (upd T (5 * t + 0) k) (5 * t + 1) b) (5 * t + 2) p) (5 * t + 3) a
theorem q_setGuests {d h t : Nat} {w : zM} {k b p a : Int32} (H : zHs h) (ht : t < 8) : cal (d + 2) 1019 [.ref h, .int (nI t), .int k, .int b, .int p, .int a] w = some (none, zuA w (h + 1) (sGst (w.1 (h + 1)) t k b p a)) := by
  obtain ⟨f1, f2, f3, f4, f5, f6, f7, f8, f9, f10, f11, f12, f13⟩ := zHs_f H
  have q0 := fun (w : zM) (v : Int32) => q_setTablePart_0 (d := d) (h := h) (t := t) (w := w) (v := v) H ht
  have q1 := fun (w : zM) (v : Int32) => q_setTablePart_1 (d := d) (h := h) (t := t) (w := w) (v := v) H ht
  have q2 := fun (w : zM) (v : Int32) => q_setTablePart_2 (d := d) (h := h) (t := t) (w := w) (v := v) H ht
  have q3 := fun (w : zM) (v : Int32) => q_setTablePart_3 (d := d) (h := h) (t := t) (w := w) (v := v) H ht
  simp only [c_1019, e_1019_0, e_1019_1, e_1019_2, e_1019_3, e_1019_4, e_1019_7, e_1019_8, e_1019_9, e_1019_10, e_1019_11, e_1019_14, e_1019_15, e_1019_16, e_1019_17, e_1019_19, e_1019_22, e_1019_23, e_1019_24, e_1019_25, e_1019_27, e_1019_30, zk_int, zk_ref, zk_null, zk_none, zk_long, zisR_r, zisR_n, zcl_int, zcl_ref, zcl_null, zpush_s, zpush_n, zbs, zbn, true_or, or_true, not_false_eq_true, not_true_eq_false, ↓reduceIte, and_self, and_true, true_and, f1, q0, q1, q2, q3, zA_s, zA_A]
  rfl
theorem q_setWaiterPart_0 {d h t : Nat} {w : zM} {v : Int32} (H : zHs h) (ht : t < 4) : cal (d + 1) 1022 [.ref h, .int (nI t), .int 0, .int v] w = some (none, zuA w (h + 2) (upd (w.1 (h + 2)) (6 * t + 0) v)) := by
  obtain ⟨f1, f2, f3, f4, f5, f6, f7, f8, f9, f10, f11, f12, f13⟩ := zHs_f H
  have e : nI t * 6 + 0 = nI (6 * t + 0) := zi6 t 0
  have hj : 6 * t + 0 < 24 := by omega
  simp only [c_1022, e_1022_0, e_1022_1, e_1022_4, e_1022_5, e_1022_7, e_1022_8, e_1022_9, e_1022_10, e_1022_11, e_1022_14, zk_int, zk_ref, zk_null, zk_none, zk_long, zisR_r, zisR_n, zcl_int, zcl_ref, zcl_null, zpush_s, zpush_n, zbs, zbn, true_or, or_true, not_false_eq_true, not_true_eq_false, ↓reduceIte, and_self, and_true, true_and, f1, f3, f7, f11, q_put, e, hj, Nat.reduceLT]
theorem q_setWaiterPart_1 {d h t : Nat} {w : zM} {v : Int32} (H : zHs h) (ht : t < 4) : cal (d + 1) 1022 [.ref h, .int (nI t), .int 1, .int v] w = some (none, zuA w (h + 2) (upd (w.1 (h + 2)) (6 * t + 1) v)) := by
  obtain ⟨f1, f2, f3, f4, f5, f6, f7, f8, f9, f10, f11, f12, f13⟩ := zHs_f H
  have e : nI t * 6 + 1 = nI (6 * t + 1) := zi6 t 1
  have hj : 6 * t + 1 < 24 := by omega
  simp only [c_1022, e_1022_0, e_1022_1, e_1022_4, e_1022_5, e_1022_7, e_1022_8, e_1022_9, e_1022_10, e_1022_11, e_1022_14, zk_int, zk_ref, zk_null, zk_none, zk_long, zisR_r, zisR_n, zcl_int, zcl_ref, zcl_null, zpush_s, zpush_n, zbs, zbn, true_or, or_true, not_false_eq_true, not_true_eq_false, ↓reduceIte, and_self, and_true, true_and, f1, f3, f7, f11, q_put, e, hj, Nat.reduceLT]
theorem q_setWaiterPart_2 {d h t : Nat} {w : zM} {v : Int32} (H : zHs h) (ht : t < 4) : cal (d + 1) 1022 [.ref h, .int (nI t), .int 2, .int v] w = some (none, zuA w (h + 2) (upd (w.1 (h + 2)) (6 * t + 2) v)) := by
  obtain ⟨f1, f2, f3, f4, f5, f6, f7, f8, f9, f10, f11, f12, f13⟩ := zHs_f H
  have e : nI t * 6 + 2 = nI (6 * t + 2) := zi6 t 2
  have hj : 6 * t + 2 < 24 := by omega
  simp only [c_1022, e_1022_0, e_1022_1, e_1022_4, e_1022_5, e_1022_7, e_1022_8, e_1022_9, e_1022_10, e_1022_11, e_1022_14, zk_int, zk_ref, zk_null, zk_none, zk_long, zisR_r, zisR_n, zcl_int, zcl_ref, zcl_null, zpush_s, zpush_n, zbs, zbn, true_or, or_true, not_false_eq_true, not_true_eq_false, ↓reduceIte, and_self, and_true, true_and, f1, f3, f7, f11, q_put, e, hj, Nat.reduceLT]
theorem q_setWaiterPart_3 {d h t : Nat} {w : zM} {v : Int32} (H : zHs h) (ht : t < 4) : cal (d + 1) 1022 [.ref h, .int (nI t), .int 3, .int v] w = some (none, zuA w (h + 2) (upd (w.1 (h + 2)) (6 * t + 3) v)) := by
  obtain ⟨f1, f2, f3, f4, f5, f6, f7, f8, f9, f10, f11, f12, f13⟩ := zHs_f H
  have e : nI t * 6 + 3 = nI (6 * t + 3) := zi6 t 3
  have hj : 6 * t + 3 < 24 := by omega
  simp only [c_1022, e_1022_0, e_1022_1, e_1022_4, e_1022_5, e_1022_7, e_1022_8, e_1022_9, e_1022_10, e_1022_11, e_1022_14, zk_int, zk_ref, zk_null, zk_none, zk_long, zisR_r, zisR_n, zcl_int, zcl_ref, zcl_null, zpush_s, zpush_n, zbs, zbn, true_or, or_true, not_false_eq_true, not_true_eq_false, ↓reduceIte, and_self, and_true, true_and, f1, f3, f7, f11, q_put, e, hj, Nat.reduceLT]
theorem q_setWaiterPart_4 {d h t : Nat} {w : zM} {v : Int32} (H : zHs h) (ht : t < 4) : cal (d + 1) 1022 [.ref h, .int (nI t), .int 4, .int v] w = some (none, zuA w (h + 2) (upd (w.1 (h + 2)) (6 * t + 4) v)) := by
  obtain ⟨f1, f2, f3, f4, f5, f6, f7, f8, f9, f10, f11, f12, f13⟩ := zHs_f H
  have e : nI t * 6 + 4 = nI (6 * t + 4) := zi6 t 4
  have hj : 6 * t + 4 < 24 := by omega
  simp only [c_1022, e_1022_0, e_1022_1, e_1022_4, e_1022_5, e_1022_7, e_1022_8, e_1022_9, e_1022_10, e_1022_11, e_1022_14, zk_int, zk_ref, zk_null, zk_none, zk_long, zisR_r, zisR_n, zcl_int, zcl_ref, zcl_null, zpush_s, zpush_n, zbs, zbn, true_or, or_true, not_false_eq_true, not_true_eq_false, ↓reduceIte, and_self, and_true, true_and, f1, f3, f7, f11, q_put, e, hj, Nat.reduceLT]
theorem q_setWaiterPart_5 {d h t : Nat} {w : zM} {v : Int32} (H : zHs h) (ht : t < 4) : cal (d + 1) 1022 [.ref h, .int (nI t), .int 5, .int v] w = some (none, zuA w (h + 2) (upd (w.1 (h + 2)) (6 * t + 5) v)) := by
  obtain ⟨f1, f2, f3, f4, f5, f6, f7, f8, f9, f10, f11, f12, f13⟩ := zHs_f H
  have e : nI t * 6 + 5 = nI (6 * t + 5) := zi6 t 5
  have hj : 6 * t + 5 < 24 := by omega
  simp only [c_1022, e_1022_0, e_1022_1, e_1022_4, e_1022_5, e_1022_7, e_1022_8, e_1022_9, e_1022_10, e_1022_11, e_1022_14, zk_int, zk_ref, zk_null, zk_none, zk_long, zisR_r, zisR_n, zcl_int, zcl_ref, zcl_null, zpush_s, zpush_n, zbs, zbn, true_or, or_true, not_false_eq_true, not_true_eq_false, ↓reduceIte, and_self, and_true, true_and, f1, f3, f7, f11, q_put, e, hj, Nat.reduceLT]
theorem q_setting_0 {d h : Nat} {w : zM} (H : zHs h) : cal (d + 1) 1023 [.ref h, .int 0] w = some (some (.int (w.1 (h + 3) 0)), w) := by
  obtain ⟨f1, f2, f3, f4, f5, f6, f7, f8, f9, f10, f11, f12, f13⟩ := zHs_f H
  have q : ∀ (a : Nat) (w : zM), zTag a = 10 → 0 < zLen a → zLen a < 2147483648 → cal d 5054 [.ref a, .int 0] w = some (some (.int (w.1 a 0)), w) := fun a w h1 h2 h3 => q_at (j := 0) h1 h2 h3
  simp only [c_1023, e_1023_0, e_1023_1, e_1023_4, e_1023_5, e_1023_8, zk_int, zk_ref, zk_null, zk_none, zk_long, zisR_r, zisR_n, zcl_int, zcl_ref, zcl_null, zpush_s, zpush_n, zbs, zbn, true_or, or_true, not_false_eq_true, not_true_eq_false, ↓reduceIte, and_self, and_true, true_and, f1, f4, f8, f12, q, Nat.reduceLT]
theorem q_settle_0 {d h : Nat} {w : zM} {v : Int32} (H : zHs h) : cal (d + 1) 1024 [.ref h, .int 0, .int v] w = some (none, zuA w (h + 3) (upd (w.1 (h + 3)) 0 v)) := by
  obtain ⟨f1, f2, f3, f4, f5, f6, f7, f8, f9, f10, f11, f12, f13⟩ := zHs_f H
  have q : ∀ (a : Nat) (w : zM), zTag a = 10 → 0 < zLen a → zLen a < 2147483648 → cal d 5055 [.ref a, .int 0, .int v] w = some (none, zuA w a (upd (w.1 a) 0 v)) := fun a w h1 h2 h3 => q_put (j := 0) h1 h2 h3
  simp only [c_1024, e_1024_0, e_1024_1, e_1024_4, e_1024_5, e_1024_6, e_1024_9, zk_int, zk_ref, zk_null, zk_none, zk_long, zisR_r, zisR_n, zcl_int, zcl_ref, zcl_null, zpush_s, zpush_n, zbs, zbn, true_or, or_true, not_false_eq_true, not_true_eq_false, ↓reduceIte, and_self, and_true, true_and, f1, f4, f8, f12, q, Nat.reduceLT]
theorem q_setting_1 {d h : Nat} {w : zM} (H : zHs h) : cal (d + 1) 1023 [.ref h, .int 1] w = some (some (.int (w.1 (h + 3) 1)), w) := by
  obtain ⟨f1, f2, f3, f4, f5, f6, f7, f8, f9, f10, f11, f12, f13⟩ := zHs_f H
  have q : ∀ (a : Nat) (w : zM), zTag a = 10 → 1 < zLen a → zLen a < 2147483648 → cal d 5054 [.ref a, .int 1] w = some (some (.int (w.1 a 1)), w) := fun a w h1 h2 h3 => q_at (j := 1) h1 h2 h3
  simp only [c_1023, e_1023_0, e_1023_1, e_1023_4, e_1023_5, e_1023_8, zk_int, zk_ref, zk_null, zk_none, zk_long, zisR_r, zisR_n, zcl_int, zcl_ref, zcl_null, zpush_s, zpush_n, zbs, zbn, true_or, or_true, not_false_eq_true, not_true_eq_false, ↓reduceIte, and_self, and_true, true_and, f1, f4, f8, f12, q, Nat.reduceLT]
theorem q_settle_1 {d h : Nat} {w : zM} {v : Int32} (H : zHs h) : cal (d + 1) 1024 [.ref h, .int 1, .int v] w = some (none, zuA w (h + 3) (upd (w.1 (h + 3)) 1 v)) := by
  obtain ⟨f1, f2, f3, f4, f5, f6, f7, f8, f9, f10, f11, f12, f13⟩ := zHs_f H
  have q : ∀ (a : Nat) (w : zM), zTag a = 10 → 1 < zLen a → zLen a < 2147483648 → cal d 5055 [.ref a, .int 1, .int v] w = some (none, zuA w a (upd (w.1 a) 1 v)) := fun a w h1 h2 h3 => q_put (j := 1) h1 h2 h3
  simp only [c_1024, e_1024_0, e_1024_1, e_1024_4, e_1024_5, e_1024_6, e_1024_9, zk_int, zk_ref, zk_null, zk_none, zk_long, zisR_r, zisR_n, zcl_int, zcl_ref, zcl_null, zpush_s, zpush_n, zbs, zbn, true_or, or_true, not_false_eq_true, not_true_eq_false, ↓reduceIte, and_self, and_true, true_and, f1, f4, f8, f12, q, Nat.reduceLT]
theorem q_setting_2 {d h : Nat} {w : zM} (H : zHs h) : cal (d + 1) 1023 [.ref h, .int 2] w = some (some (.int (w.1 (h + 3) 2)), w) := by
  obtain ⟨f1, f2, f3, f4, f5, f6, f7, f8, f9, f10, f11, f12, f13⟩ := zHs_f H
  have q : ∀ (a : Nat) (w : zM), zTag a = 10 → 2 < zLen a → zLen a < 2147483648 → cal d 5054 [.ref a, .int 2] w = some (some (.int (w.1 a 2)), w) := fun a w h1 h2 h3 => q_at (j := 2) h1 h2 h3
  simp only [c_1023, e_1023_0, e_1023_1, e_1023_4, e_1023_5, e_1023_8, zk_int, zk_ref, zk_null, zk_none, zk_long, zisR_r, zisR_n, zcl_int, zcl_ref, zcl_null, zpush_s, zpush_n, zbs, zbn, true_or, or_true, not_false_eq_true, not_true_eq_false, ↓reduceIte, and_self, and_true, true_and, f1, f4, f8, f12, q, Nat.reduceLT]
theorem q_settle_2 {d h : Nat} {w : zM} {v : Int32} (H : zHs h) : cal (d + 1) 1024 [.ref h, .int 2, .int v] w = some (none, zuA w (h + 3) (upd (w.1 (h + 3)) 2 v)) := by
  obtain ⟨f1, f2, f3, f4, f5, f6, f7, f8, f9, f10, f11, f12, f13⟩ := zHs_f H
  have q : ∀ (a : Nat) (w : zM), zTag a = 10 → 2 < zLen a → zLen a < 2147483648 → cal d 5055 [.ref a, .int 2, .int v] w = some (none, zuA w a (upd (w.1 a) 2 v)) := fun a w h1 h2 h3 => q_put (j := 2) h1 h2 h3
  simp only [c_1024, e_1024_0, e_1024_1, e_1024_4, e_1024_5, e_1024_6, e_1024_9, zk_int, zk_ref, zk_null, zk_none, zk_long, zisR_r, zisR_n, zcl_int, zcl_ref, zcl_null, zpush_s, zpush_n, zbs, zbn, true_or, or_true, not_false_eq_true, not_true_eq_false, ↓reduceIte, and_self, and_true, true_and, f1, f4, f8, f12, q, Nat.reduceLT]
theorem q_setting_3 {d h : Nat} {w : zM} (H : zHs h) : cal (d + 1) 1023 [.ref h, .int 3] w = some (some (.int (w.1 (h + 3) 3)), w) := by
  obtain ⟨f1, f2, f3, f4, f5, f6, f7, f8, f9, f10, f11, f12, f13⟩ := zHs_f H
  have q : ∀ (a : Nat) (w : zM), zTag a = 10 → 3 < zLen a → zLen a < 2147483648 → cal d 5054 [.ref a, .int 3] w = some (some (.int (w.1 a 3)), w) := fun a w h1 h2 h3 => q_at (j := 3) h1 h2 h3
  simp only [c_1023, e_1023_0, e_1023_1, e_1023_4, e_1023_5, e_1023_8, zk_int, zk_ref, zk_null, zk_none, zk_long, zisR_r, zisR_n, zcl_int, zcl_ref, zcl_null, zpush_s, zpush_n, zbs, zbn, true_or, or_true, not_false_eq_true, not_true_eq_false, ↓reduceIte, and_self, and_true, true_and, f1, f4, f8, f12, q, Nat.reduceLT]
theorem q_settle_3 {d h : Nat} {w : zM} {v : Int32} (H : zHs h) : cal (d + 1) 1024 [.ref h, .int 3, .int v] w = some (none, zuA w (h + 3) (upd (w.1 (h + 3)) 3 v)) := by
  obtain ⟨f1, f2, f3, f4, f5, f6, f7, f8, f9, f10, f11, f12, f13⟩ := zHs_f H
  have q : ∀ (a : Nat) (w : zM), zTag a = 10 → 3 < zLen a → zLen a < 2147483648 → cal d 5055 [.ref a, .int 3, .int v] w = some (none, zuA w a (upd (w.1 a) 3 v)) := fun a w h1 h2 h3 => q_put (j := 3) h1 h2 h3
  simp only [c_1024, e_1024_0, e_1024_1, e_1024_4, e_1024_5, e_1024_6, e_1024_9, zk_int, zk_ref, zk_null, zk_none, zk_long, zisR_r, zisR_n, zcl_int, zcl_ref, zcl_null, zpush_s, zpush_n, zbs, zbn, true_or, or_true, not_false_eq_true, not_true_eq_false, ↓reduceIte, and_self, and_true, true_and, f1, f4, f8, f12, q, Nat.reduceLT]
theorem q_setting_4 {d h : Nat} {w : zM} (H : zHs h) : cal (d + 1) 1023 [.ref h, .int 4] w = some (some (.int (w.1 (h + 3) 4)), w) := by
  obtain ⟨f1, f2, f3, f4, f5, f6, f7, f8, f9, f10, f11, f12, f13⟩ := zHs_f H
  have q : ∀ (a : Nat) (w : zM), zTag a = 10 → 4 < zLen a → zLen a < 2147483648 → cal d 5054 [.ref a, .int 4] w = some (some (.int (w.1 a 4)), w) := fun a w h1 h2 h3 => q_at (j := 4) h1 h2 h3
  simp only [c_1023, e_1023_0, e_1023_1, e_1023_4, e_1023_5, e_1023_8, zk_int, zk_ref, zk_null, zk_none, zk_long, zisR_r, zisR_n, zcl_int, zcl_ref, zcl_null, zpush_s, zpush_n, zbs, zbn, true_or, or_true, not_false_eq_true, not_true_eq_false, ↓reduceIte, and_self, and_true, true_and, f1, f4, f8, f12, q, Nat.reduceLT]
theorem q_settle_4 {d h : Nat} {w : zM} {v : Int32} (H : zHs h) : cal (d + 1) 1024 [.ref h, .int 4, .int v] w = some (none, zuA w (h + 3) (upd (w.1 (h + 3)) 4 v)) := by
  obtain ⟨f1, f2, f3, f4, f5, f6, f7, f8, f9, f10, f11, f12, f13⟩ := zHs_f H
  have q : ∀ (a : Nat) (w : zM), zTag a = 10 → 4 < zLen a → zLen a < 2147483648 → cal d 5055 [.ref a, .int 4, .int v] w = some (none, zuA w a (upd (w.1 a) 4 v)) := fun a w h1 h2 h3 => q_put (j := 4) h1 h2 h3
  simp only [c_1024, e_1024_0, e_1024_1, e_1024_4, e_1024_5, e_1024_6, e_1024_9, zk_int, zk_ref, zk_null, zk_none, zk_long, zisR_r, zisR_n, zcl_int, zcl_ref, zcl_null, zpush_s, zpush_n, zbs, zbn, true_or, or_true, not_false_eq_true, not_true_eq_false, ↓reduceIte, and_self, and_true, true_and, f1, f4, f8, f12, q, Nat.reduceLT]
