theorem q_held {d h : Nat} {w : zM} (H : zSs h) : cal d 4001 [.ref h] w = some (some (.int (w.1 h 1)), w) := by
  obtain ⟨f1, f2, f3, f4⟩ := zSs_f H
  simp only [c_4001, e_4001_0, e_4001_1, e_4001_4, zk_int, zk_ref, zk_null, zk_none, zk_long, zisR_r, zisR_n, zcl_int, zcl_ref, zcl_null, zpush_s, zpush_n, zbs, zbn, true_or, or_true, not_false_eq_true, not_true_eq_false, ↓reduceIte, and_self, and_true, true_and, f1]
theorem q_hasRow {d h : Nat} {w : zM} (H : zSs h) : cal d 4002 [.ref h] w = some (some (.int (if 100 ≤ w.1 h 1 then 1 else 0)), w) := by
  obtain ⟨f1, f2, f3, f4⟩ := zSs_f H
  by_cases h1 : w.1 h 1 < 100
  · have h2 : ¬ 100 ≤ w.1 h 1 := Int32.not_le.mpr h1
    simp only [c_4002, e_4002_0, e_4002_1, e_4002_4, e_4002_6, e_4002_9, e_4002_10, e_4002_13, e_4002_14, zk_int, zk_ref, zk_null, zk_none, zk_long, zisR_r, zisR_n, zcl_int, zcl_ref, zcl_null, zpush_s, zpush_n, zbs, zbn, true_or, or_true, not_false_eq_true, not_true_eq_false, ↓reduceIte, and_self, and_true, true_and, f1, h1, h2]
  · have h2 : 100 ≤ w.1 h 1 := Int32.not_lt.mp h1
    simp only [c_4002, e_4002_0, e_4002_1, e_4002_4, e_4002_6, e_4002_9, e_4002_10, e_4002_13, e_4002_14, zk_int, zk_ref, zk_null, zk_none, zk_long, zisR_r, zisR_n, zcl_int, zcl_ref, zcl_null, zpush_s, zpush_n, zbs, zbn, true_or, or_true, not_false_eq_true, not_true_eq_false, ↓reduceIte, and_self, and_true, true_and, f1, h1, h2]
theorem q_hasGuests {d h : Nat} {w : zM} (H : zSs h) : cal d 4003 [.ref h] w = some (some (.int (if ¬ w.1 h 1 = -1 ∧ ¬ 100 ≤ w.1 h 1 then 1 else 0)), w) := by
  obtain ⟨f1, f2, f3, f4⟩ := zSs_f H
  by_cases h1 : w.1 h 1 = -1
  · simp only [c_4003, e_4003_0, e_4003_1, e_4003_4, e_4003_5, e_4003_8, e_4003_9, e_4003_12, e_4003_14, e_4003_17, e_4003_18, e_4003_21, e_4003_22, zk_int, zk_ref, zk_null, zk_none, zk_long, zisR_r, zisR_n, zcl_int, zcl_ref, zcl_null, zpush_s, zpush_n, zbs, zbn, true_or, or_true, not_false_eq_true, not_true_eq_false, ↓reduceIte, and_self, and_true, true_and, f1, h1, false_and]
  · by_cases h2 : 100 ≤ w.1 h 1
    · simp only [c_4003, e_4003_0, e_4003_1, e_4003_4, e_4003_5, e_4003_8, e_4003_9, e_4003_12, e_4003_14, e_4003_17, e_4003_18, e_4003_21, e_4003_22, zk_int, zk_ref, zk_null, zk_none, zk_long, zisR_r, zisR_n, zcl_int, zcl_ref, zcl_null, zpush_s, zpush_n, zbs, zbn, true_or, or_true, not_false_eq_true, not_true_eq_false, ↓reduceIte, and_self, and_true, true_and, f1, h1, h2, and_false]
    · simp only [c_4003, e_4003_0, e_4003_1, e_4003_4, e_4003_5, e_4003_8, e_4003_9, e_4003_12, e_4003_14, e_4003_17, e_4003_18, e_4003_21, e_4003_22, zk_int, zk_ref, zk_null, zk_none, zk_long, zisR_r, zisR_n, zcl_int, zcl_ref, zcl_null, zpush_s, zpush_n, zbs, zbn, true_or, or_true, not_false_eq_true, not_true_eq_false, ↓reduceIte, and_self, and_true, true_and, f1, h1, h2]
theorem q_differsInSort {d h k : Nat} {w : zM} (H : zSs h) (K : zSs k) : cal (d + 1) 4004 [.ref h, .ref k] w = some (some (.int (if 100 ≤ w.1 h 1 ∧ 100 ≤ w.1 k 1 ∧ ¬ w.1 h 1 = w.1 k 1 then 1 else 0)), w) := by
  obtain ⟨f1, f2, f3, f4⟩ := zSs_f H
  obtain ⟨k1, k2, k3, k4⟩ := zSs_f K
  have q1 := q_hasRow (d := d) (w := w) H
  have q2 := q_hasRow (d := d) (w := w) K
  have z : ((1 : Int32) = 0) = False := by decide
  by_cases h1 : 100 ≤ w.1 h 1
  · rw [if_pos h1] at q1
    by_cases h2 : 100 ≤ w.1 k 1
    · rw [if_pos h2] at q2
      by_cases h3 : w.1 h 1 = w.1 k 1
      · simp only [c_4004, e_4004_0, e_4004_1, e_4004_4, e_4004_7, e_4004_8, e_4004_11, e_4004_14, e_4004_15, e_4004_18, e_4004_19, e_4004_22, e_4004_25, e_4004_26, e_4004_29, e_4004_30, zk_int, zk_ref, zk_null, zk_none, zk_long, zisR_r, zisR_n, zcl_int, zcl_ref, zcl_null, zpush_s, zpush_n, zbs, zbn, true_or, or_true, not_false_eq_true, not_true_eq_false, ↓reduceIte, and_self, and_true, true_and, f1, k1, q1, q2, z, h1, h2, h3, and_false]
      · simp only [c_4004, e_4004_0, e_4004_1, e_4004_4, e_4004_7, e_4004_8, e_4004_11, e_4004_14, e_4004_15, e_4004_18, e_4004_19, e_4004_22, e_4004_25, e_4004_26, e_4004_29, e_4004_30, zk_int, zk_ref, zk_null, zk_none, zk_long, zisR_r, zisR_n, zcl_int, zcl_ref, zcl_null, zpush_s, zpush_n, zbs, zbn, true_or, or_true, not_false_eq_true, not_true_eq_false, ↓reduceIte, and_self, and_true, true_and, f1, k1, q1, q2, z, h1, h2, h3]
    · rw [if_neg h2] at q2
      simp only [c_4004, e_4004_0, e_4004_1, e_4004_4, e_4004_7, e_4004_8, e_4004_11, e_4004_14, e_4004_15, e_4004_18, e_4004_19, e_4004_22, e_4004_25, e_4004_26, e_4004_29, e_4004_30, zk_int, zk_ref, zk_null, zk_none, zk_long, zisR_r, zisR_n, zcl_int, zcl_ref, zcl_null, zpush_s, zpush_n, zbs, zbn, true_or, or_true, not_false_eq_true, not_true_eq_false, ↓reduceIte, and_self, and_true, true_and, f1, k1, q1, q2, z, h1, h2, false_and, and_false]
  · rw [if_neg h1] at q1
    simp only [c_4004, e_4004_0, e_4004_1, e_4004_4, e_4004_7, e_4004_8, e_4004_11, e_4004_14, e_4004_15, e_4004_18, e_4004_19, e_4004_22, e_4004_25, e_4004_26, e_4004_29, e_4004_30, zk_int, zk_ref, zk_null, zk_none, zk_long, zisR_r, zisR_n, zcl_int, zcl_ref, zcl_null, zpush_s, zpush_n, zbs, zbn, true_or, or_true, not_false_eq_true, not_true_eq_false, ↓reduceIte, and_self, and_true, true_and, f1, k1, q1, z, h1, false_and]
theorem q_holdNothing {d h : Nat} {w : zM} (H : zSs h) : cal d 4005 [.ref h] w = some (none, zuA w h (upd (upd (w.1 h) 1 (-1)) 2 0)) := by
  obtain ⟨f1, f2, f3, f4⟩ := zSs_f H
  simp only [c_4005, e_4005_0, e_4005_1, e_4005_2, e_4005_5, e_4005_6, e_4005_7, e_4005_10, zk_int, zk_ref, zk_null, zk_none, zk_long, zisR_r, zisR_n, zcl_int, zcl_ref, zcl_null, zpush_s, zpush_n, zbs, zbn, true_or, or_true, not_false_eq_true, not_true_eq_false, ↓reduceIte, and_self, and_true, true_and, f1, zui_A, zA_s, zA_A]
theorem q_holdGuests {d h : Nat} {w : zM} {t : Int32} (H : zSs h) : cal d 4006 [.ref h, .int t] w = some (none, zuA w h (upd (upd (w.1 h) 1 t) 2 0)) := by
  obtain ⟨f1, f2, f3, f4⟩ := zSs_f H
  simp only [c_4006, e_4006_0, e_4006_1, e_4006_2, e_4006_5, e_4006_6, e_4006_7, e_4006_10, zk_int, zk_ref, zk_null, zk_none, zk_long, zisR_r, zisR_n, zcl_int, zcl_ref, zcl_null, zpush_s, zpush_n, zbs, zbn, true_or, or_true, not_false_eq_true, not_true_eq_false, ↓reduceIte, and_self, and_true, true_and, f1, zui_A, zA_s, zA_A]
theorem q_spans {d h : Nat} {w : zM} {i n : Int32} (H : zSs h) : cal d 4008 [.ref h, .int i, .int n] w = some (some (.int (if 0 ≤ i ∧ 0 ≤ n ∧ n ≤ w.1 h 2 ∧ i ≤ w.1 h 2 - n then 1 else 0)), w) := by
  obtain ⟨f1, f2, f3, f4⟩ := zSs_f H
  by_cases h1 : i < 0
  · have g1 : ¬ 0 ≤ i := Int32.not_le.mpr h1
    simp only [c_4008, e_4008_0, e_4008_1, e_4008_4, e_4008_5, e_4008_8, e_4008_9, e_4008_10, e_4008_13, e_4008_16, e_4008_17, e_4008_18, e_4008_21, e_4008_22, e_4008_23, e_4008_26, e_4008_27, e_4008_30, e_4008_31, zk_int, zk_ref, zk_null, zk_none, zk_long, zisR_r, zisR_n, zcl_int, zcl_ref, zcl_null, zpush_s, zpush_n, zbs, zbn, true_or, or_true, not_false_eq_true, not_true_eq_false, ↓reduceIte, and_self, and_true, true_and, f1, h1, g1, false_and]
  · have g1 : 0 ≤ i := Int32.not_lt.mp h1
    by_cases h2 : n < 0
    · have g2 : ¬ 0 ≤ n := Int32.not_le.mpr h2
      simp only [c_4008, e_4008_0, e_4008_1, e_4008_4, e_4008_5, e_4008_8, e_4008_9, e_4008_10, e_4008_13, e_4008_16, e_4008_17, e_4008_18, e_4008_21, e_4008_22, e_4008_23, e_4008_26, e_4008_27, e_4008_30, e_4008_31, zk_int, zk_ref, zk_null, zk_none, zk_long, zisR_r, zisR_n, zcl_int, zcl_ref, zcl_null, zpush_s, zpush_n, zbs, zbn, true_or, or_true, not_false_eq_true, not_true_eq_false, ↓reduceIte, and_self, and_true, true_and, f1, h1, g1, h2, g2, false_and, and_false]
    · have g2 : 0 ≤ n := Int32.not_lt.mp h2
      by_cases h3 : w.1 h 2 < n
      · have g3 : ¬ n ≤ w.1 h 2 := Int32.not_le.mpr h3
        simp only [c_4008, e_4008_0, e_4008_1, e_4008_4, e_4008_5, e_4008_8, e_4008_9, e_4008_10, e_4008_13, e_4008_16, e_4008_17, e_4008_18, e_4008_21, e_4008_22, e_4008_23, e_4008_26, e_4008_27, e_4008_30, e_4008_31, zk_int, zk_ref, zk_null, zk_none, zk_long, zisR_r, zisR_n, zcl_int, zcl_ref, zcl_null, zpush_s, zpush_n, zbs, zbn, true_or, or_true, not_false_eq_true, not_true_eq_false, ↓reduceIte, and_self, and_true, true_and, f1, h1, g1, h2, g2, h3, g3, false_and, and_false]
      · have g3 : n ≤ w.1 h 2 := Int32.not_lt.mp h3
        by_cases h4 : w.1 h 2 - n < i
        · have g4 : ¬ i ≤ w.1 h 2 - n := Int32.not_le.mpr h4
          simp only [c_4008, e_4008_0, e_4008_1, e_4008_4, e_4008_5, e_4008_8, e_4008_9, e_4008_10, e_4008_13, e_4008_16, e_4008_17, e_4008_18, e_4008_21, e_4008_22, e_4008_23, e_4008_26, e_4008_27, e_4008_30, e_4008_31, zk_int, zk_ref, zk_null, zk_none, zk_long, zisR_r, zisR_n, zcl_int, zcl_ref, zcl_null, zpush_s, zpush_n, zbs, zbn, true_or, or_true, not_false_eq_true, not_true_eq_false, ↓reduceIte, and_self, and_true, true_and, f1, h1, g1, h2, g2, h3, g3, h4, g4, false_and, and_false]
        · have g4 : i ≤ w.1 h 2 - n := Int32.not_lt.mp h4
          simp only [c_4008, e_4008_0, e_4008_1, e_4008_4, e_4008_5, e_4008_8, e_4008_9, e_4008_10, e_4008_13, e_4008_16, e_4008_17, e_4008_18, e_4008_21, e_4008_22, e_4008_23, e_4008_26, e_4008_27, e_4008_30, e_4008_31, zk_int, zk_ref, zk_null, zk_none, zk_long, zisR_r, zisR_n, zcl_int, zcl_ref, zcl_null, zpush_s, zpush_n, zbs, zbn, true_or, or_true, not_false_eq_true, not_true_eq_false, ↓reduceIte, and_self, and_true, true_and, f1, h1, g1, h2, g2, h3, g3, h4, g4]
theorem nI_lt_f {a b : Nat} (h : b ≤ a) (hb : a < 2147483648) : (nI a < nI b) = False := eq_false (nI_nlt h hb)
theorem q_longAt {d h z j : Nat} {w : zM} (H : zSs h) (hz : w.1 h 2 = nI z) (hz1 : z ≤ 160) (hj : j < z) : cal d 4009 [.ref h, .int (nI j)] w = some (some (.long (w.2 (h + 1) j)), w) := by
  obtain ⟨f1, f2, f3, f4⟩ := zSs_f H
  have g0 := nI_lt0 (a := j) (by omega)
  have g1 := nI_ge_f hj (by omega)
  have g2 : (Int32.ofNat 160 ≤ nI j) = False := nI_ge_f (a := j) (b := 160) (by omega) (by omega)
  have g3 : zis (nI j) 160 = true := zis_nI (by omega) (by omega)
  have g4 : (nI j).toNatClampNeg = j := nI_clamp (by omega)
  have g5 : zTag (h + 1) = 10 ∨ zTag (h + 1) = 11 ∨ zTag (h + 1) = 12 ∨ zTag (h + 1) = 20 := Or.inr (Or.inl f3)
  simp only [c_4009, e_4009_0, e_4009_1, e_4009_4, e_4009_5, e_4009_6, e_4009_9, e_4009_12, e_4009_13, e_4009_14, e_4009_17, e_4009_18, e_4009_21, e_4009_22, e_4009_25, e_4009_26, e_4009_27, e_4009_30, e_4009_31, zk_int, zk_ref, zk_null, zk_none, zk_long, zisR_r, zisR_n, zcl_int, zcl_ref, zcl_null, zpush_s, zpush_n, zbs, zbn, true_or, or_true, not_false_eq_true, not_true_eq_false, ↓reduceIte, and_self, and_true, true_and, f1, f2, f3, f4, g5, hz, g0, g1, g2, g3, g4]
theorem q_longAt_o {d h : Nat} {w : zM} {i : Int32} (H : zSs h) (hi : i < 0 ∨ w.1 h 2 ≤ i) : cal d 4009 [.ref h, .int i] w = some (some (.long 0), w) := by
  obtain ⟨f1, f2, f3, f4⟩ := zSs_f H
  by_cases h1 : i < 0
  · simp only [c_4009, e_4009_0, e_4009_1, e_4009_4, e_4009_5, e_4009_6, e_4009_9, e_4009_12, e_4009_13, e_4009_14, e_4009_17, e_4009_18, e_4009_21, e_4009_22, e_4009_25, e_4009_26, e_4009_27, e_4009_30, e_4009_31, zk_int, zk_ref, zk_null, zk_none, zk_long, zisR_r, zisR_n, zcl_int, zcl_ref, zcl_null, zpush_s, zpush_n, zbs, zbn, true_or, or_true, not_false_eq_true, not_true_eq_false, ↓reduceIte, and_self, and_true, true_and, f1, h1]
  · have h2 := hi.resolve_left h1
    simp only [c_4009, e_4009_0, e_4009_1, e_4009_4, e_4009_5, e_4009_6, e_4009_9, e_4009_12, e_4009_13, e_4009_14, e_4009_17, e_4009_18, e_4009_21, e_4009_22, e_4009_25, e_4009_26, e_4009_27, e_4009_30, e_4009_31, zk_int, zk_ref, zk_null, zk_none, zk_long, zisR_r, zisR_n, zcl_int, zcl_ref, zcl_null, zpush_s, zpush_n, zbs, zbn, true_or, or_true, not_false_eq_true, not_true_eq_false, ↓reduceIte, and_self, and_true, true_and, f1, h1, h2]
theorem q_intAt {d h z j : Nat} {w : zM} (H : zSs h) (hz : w.1 h 2 = nI z) (hz1 : z ≤ 160) (hj : j < z) : cal (d + 1) 4010 [.ref h, .int (nI j)] w = some (some (.int (w.2 (h + 1) j).toInt32), w) := by
  obtain ⟨f1, f2, f3, f4⟩ := zSs_f H
  simp only [c_4010, e_4010_0, e_4010_1, e_4010_2, e_4010_5, e_4010_6, zk_int, zk_ref, zk_null, zk_none, zk_long, zisR_r, zisR_n, zcl_int, zcl_ref, zcl_null, zpush_s, zpush_n, zbs, zbn, true_or, or_true, not_false_eq_true, not_true_eq_false, ↓reduceIte, and_self, and_true, true_and, f1, q_longAt H hz hz1 hj]
theorem q_intAt_o {d h : Nat} {w : zM} {i : Int32} (H : zSs h) (hi : i < 0 ∨ w.1 h 2 ≤ i) : cal (d + 1) 4010 [.ref h, .int i] w = some (some (.int 0), w) := by
  obtain ⟨f1, f2, f3, f4⟩ := zSs_f H
  have e : (0 : Int64).toInt32 = 0 := by decide
  simp only [c_4010, e_4010_0, e_4010_1, e_4010_2, e_4010_5, e_4010_6, zk_int, zk_ref, zk_null, zk_none, zk_long, zisR_r, zisR_n, zcl_int, zcl_ref, zcl_null, zpush_s, zpush_n, zbs, zbn, true_or, or_true, not_false_eq_true, not_true_eq_false, ↓reduceIte, and_self, and_true, true_and, f1, q_longAt_o H hi, e]
def sLow (k : Int32) (v : Int64) : Int64 := if k = 0 then v.toInt32.toInt8.toInt32.toInt64 else if k = 1 then v.toInt32.toInt16.toInt32.toInt64 else if k = 2 then v.toInt32.toInt64 else v
theorem q_lowestBits {d h : Nat} {w : zM} {v : Int64} (H : zSs h) : cal d 4012 [.ref h, .long v] w = some (some (.long (sLow (w.1 h 1 - 100) v)), w) := by
  obtain ⟨f1, f2, f3, f4⟩ := zSs_f H
  simp only [c_4012, e_4012_0, e_4012_1, e_4012_4, e_4012_6, e_4012_7, e_4012_32, e_4012_33, e_4012_34, e_4012_35, e_4012_36, e_4012_37, e_4012_38, e_4012_39, e_4012_40, e_4012_41, e_4012_42, e_4012_43, e_4012_44, e_4012_45, e_4012_46, e_4012_47, zk_int, zk_ref, zk_null, zk_none, zk_long, zisR_r, zisR_n, zcl_int, zcl_ref, zcl_null, zpush_s, zpush_n, zbs, zbn, true_or, or_true, not_false_eq_true, not_true_eq_false, ↓reduceIte, and_self, and_true, true_and, f1]
  unfold sLow
  repeat' split
  all_goals rfl
theorem q_putIn {d h z j : Nat} {w : zM} {v : Int64} (H : zSs h) (hz : w.1 h 2 = nI z) (hz1 : z ≤ 160) (hj : j < z) : cal (d + 1) 4011 [.ref h, .int (nI j), .long v] w = some (none, zuB w (h + 1) (vp_updL (w.2 (h + 1)) j (sLow (w.1 h 1 - 100) v))) := by
  obtain ⟨f1, f2, f3, f4⟩ := zSs_f H
  have g0 := nI_lt0 (a := j) (by omega)
  have g1 := nI_ge_f hj (by omega)
  have g2 : (Int32.ofNat 160 ≤ nI j) = False := nI_ge_f (a := j) (b := 160) (by omega) (by omega)
  have g3 : zis (nI j) 160 = true := zis_nI (by omega) (by omega)
  have g4 : (nI j).toNatClampNeg = j := nI_clamp (by omega)
  have g5 : zTag (h + 1) = 10 ∨ zTag (h + 1) = 11 ∨ zTag (h + 1) = 12 ∨ zTag (h + 1) = 20 := Or.inr (Or.inl f3)
  simp only [c_4011, e_4011_0, e_4011_1, e_4011_4, e_4011_5, e_4011_6, e_4011_9, e_4011_12, e_4011_13, e_4011_14, e_4011_17, e_4011_18, e_4011_21, e_4011_22, e_4011_25, e_4011_26, e_4011_27, e_4011_28, e_4011_31, e_4011_32, zk_int, zk_ref, zk_null, zk_none, zk_long, zisR_r, zisR_n, zcl_int, zcl_ref, zcl_null, zpush_s, zpush_n, zbs, zbn, true_or, or_true, not_false_eq_true, not_true_eq_false, ↓reduceIte, and_self, and_true, true_and, f1, f2, f3, f4, g5, hz, g0, g1, g2, g3, g4, q_lowestBits H, zul_B]
def zzer (f : Nat → Int64) (n : Nat) : Nat → Int64 := fun k => if k < n then 0 else f k
theorem zzer_s (f : Nat → Int64) (n : Nat) : vp_updL (zzer f n) n 0 = zzer f (n + 1) := by
  funext k
  unfold vp_updL zzer
  by_cases h : k = n
  · subst h
    rw [if_pos rfl, if_pos (by omega)]
  · rw [if_neg h]
    by_cases h2 : k < n
    · rw [if_pos h2, if_pos (by omega)]
    · rw [if_neg h2, if_neg (by omega)]
theorem zzer_0 (f : Nat → Int64) : zzer f 0 = f := by
  funext k
  exact if_neg (Nat.not_lt_zero k)
theorem zB_id (w : zM) (a : Nat) : zuB w a (w.2 a) = w := by
  refine Prod.ext rfl ?_
  funext a' k'
  show (if a' = a then w.2 a k' else w.2 a' k') = w.2 a' k'
  by_cases h : a' = a
  · rw [if_pos h, h]
  · rw [if_neg h]
def sHrW (w : zM) (h : Nat) (s n : Int32) : zM := zuB (zuA w h (upd (upd (w.1 h) 1 (100 + s)) 2 n)) (h + 1) (zzer (w.2 (h + 1)) 160)
theorem q_holdRow {d h : Nat} {w : zM} {s n : Int32} (H : zSs h) : cal d 4007 [.ref h, .int s, .int n] w = some (none, sHrW w h s n) := by
  obtain ⟨f1, f2, f3, f4⟩ := zSs_f H
  have g5 : zTag (h + 1) = 10 ∨ zTag (h + 1) = 11 ∨ zTag (h + 1) = 12 ∨ zTag (h + 1) = 20 := Or.inr (Or.inl f3)
  have key : ∀ r j (w : zM), j + r = 160 → den d 4007 15 [some (.ref h), some (.int s), some (.int n), some (.int (nI j))] [] (zuB w (h + 1) (zzer (w.2 (h + 1)) j)) = some (none, zuB w (h + 1) (zzer (w.2 (h + 1)) 160)) := by
    intro r
    induction r with
    | zero =>
      intro j w hj
      have e : j = 160 := by omega
      subst e
      have g1 : (Int32.ofNat 160 ≤ nI 160) = True := nI_le_n (Nat.le_refl _) (by omega)
      simp only [c_4007, e_4007_0, e_4007_1, e_4007_3, e_4007_4, e_4007_5, e_4007_8, e_4007_9, e_4007_10, e_4007_13, e_4007_14, e_4007_15, e_4007_16, e_4007_17, e_4007_20, e_4007_21, e_4007_24, e_4007_25, e_4007_28, e_4007_29, e_4007_30, e_4007_31, e_4007_34, e_4007_37, zk_int, zk_ref, zk_null, zk_none, zk_long, zisR_r, zisR_n, zcl_int, zcl_ref, zcl_null, zpush_s, zpush_n, zbs, zbn, true_or, or_true, not_false_eq_true, not_true_eq_false, ↓reduceIte, and_self, and_true, true_and, f2, f4, f1, g5, g1]
    | succ r ih =>
      intro j w hj
      have g1 : (Int32.ofNat 160 ≤ nI j) = False := nI_ge_f (a := j) (b := 160) (by omega) (by omega)
      have g3 : zis (nI j) 160 = true := zis_nI (by omega) (by omega)
      have g4 : (nI j).toNatClampNeg = j := nI_clamp (by omega)
      rw [e_4007_15]
      simp only [c_4007, e_4007_0, e_4007_1, e_4007_3, e_4007_4, e_4007_5, e_4007_8, e_4007_9, e_4007_10, e_4007_13, e_4007_14, e_4007_16, e_4007_17, e_4007_20, e_4007_21, e_4007_24, e_4007_25, e_4007_28, e_4007_29, e_4007_30, e_4007_31, e_4007_34, e_4007_37, zk_int, zk_ref, zk_null, zk_none, zk_long, zisR_r, zisR_n, zcl_int, zcl_ref, zcl_null, zpush_s, zpush_n, zbs, zbn, true_or, or_true, not_false_eq_true, not_true_eq_false, ↓reduceIte, and_self, and_true, true_and, f1, f2, f3, f4, g5, g1, g3, g4, zul_B, zB_s, zB_B, zzer_s, nI_1]
      exact ih (j + 1) w (by omega)
  have h1 := key 160 0 (zuA w h (upd (upd (w.1 h) 1 (100 + s)) 2 n)) (by omega)
  rw [zzer_0, zB_id, zA_2] at h1
  simp only [c_4007, e_4007_0, e_4007_1, e_4007_3, e_4007_4, e_4007_5, e_4007_8, e_4007_9, e_4007_10, e_4007_13, e_4007_14, e_4007_16, e_4007_17, e_4007_20, e_4007_21, e_4007_24, e_4007_25, e_4007_28, e_4007_29, e_4007_30, e_4007_31, e_4007_34, e_4007_37, zk_int, zk_ref, zk_null, zk_none, zk_long, zisR_r, zisR_n, zcl_int, zcl_ref, zcl_null, zpush_s, zpush_n, zbs, zbn, true_or, or_true, not_false_eq_true, not_true_eq_false, ↓reduceIte, and_self, and_true, true_and, f1, zui_A, zA_s, zA_A]
  exact h1
theorem va_cpy_0 (f g : Nat → Int64) (sp dp : Nat) : va_cpy f g sp dp 0 = g := by
  funext k
  exact if_neg (by omega)
theorem va_cpy_up (f g : Nat → Int64) (sp dp k : Nat) : vp_updL (va_cpy f g sp dp k) (dp + k) (f (sp + k)) = va_cpy f g sp dp (k + 1) := by
  funext x
  unfold vp_updL va_cpy
  by_cases h : x = dp + k
  · subst h
    rw [if_pos rfl, if_pos (by omega)]
    congr 1
    omega
  · rw [if_neg h]
    by_cases h2 : dp ≤ x ∧ x < dp + k
    · rw [if_pos h2, if_pos (by omega)]
    · rw [if_neg h2, if_neg (by omega)]
theorem va_cpy_dn (f g : Nat → Int64) (sp dp k : Nat) : vp_updL (va_cpy f g (sp + 1) (dp + 1) k) dp (f sp) = va_cpy f g sp dp (k + 1) := by
  funext x
  unfold vp_updL va_cpy
  by_cases h : x = dp
  · subst h
    rw [if_pos rfl, if_pos (by omega), Nat.sub_self, Nat.add_zero]
  · rw [if_neg h]
    by_cases h2 : dp + 1 ≤ x ∧ x < dp + 1 + k
    · rw [if_pos h2, if_pos (by omega)]
      congr 1
      omega
    · rw [if_neg h2, if_neg (by omega)]
