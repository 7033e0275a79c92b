def rCnt (i : Nat) : Nat := if i = 0 then 3 else if i = 1 then 5 else if i = 4 then 3 else 1
def rLo (i j : Nat) : Int32 := if i = 1 ∧ (j = 1 ∨ j = 2) then 1 else 0
def rHi (m i j : Nat) : Int32 := if i = 0 then (if j = 0 then 6 else if j = 1 then 99 else 999) else if i = 1 then (if j = 0 then 6 else if j = 1 then 999 else if j = 2 then 9 else if j = 3 then 99 else nI m - 1) else if i = 2 then 3 else if i = 3 then 30 else 99
theorem i32_lt_sub {v : Int32} {m : Nat} (hm : m ≤ 4) (h0 : 0 ≤ v) : (v ≤ nI m - 1) ↔ ¬ nI m ≤ v := by
  rcases (by omega : m = 0 ∨ m = 1 ∨ m = 2 ∨ m = 3 ∨ m = 4) with rfl | rfl | rfl | rfl | rfl
  · have e : nI 0 - 1 = (-1 : Int32) := by decide
    have e2 : nI 0 = (0 : Int32) := by decide
    rw [e, e2, Int32.le_iff_toInt_le, Int32.le_iff_toInt_le]
    rw [Int32.le_iff_toInt_le] at h0
    have : (0 : Int32).toInt = 0 := by decide
    have : (-1 : Int32).toInt = -1 := by decide
    omega
  · have e : nI 1 - 1 = (0 : Int32) := by decide
    have e2 : nI 1 = (1 : Int32) := by decide
    rw [e, e2, Int32.le_iff_toInt_le, Int32.le_iff_toInt_le]
    have : (0 : Int32).toInt = 0 := by decide
    have : (1 : Int32).toInt = 1 := by decide
    omega
  · have e : nI 2 - 1 = (1 : Int32) := by decide
    have e2 : nI 2 = (2 : Int32) := by decide
    rw [e, e2, Int32.le_iff_toInt_le, Int32.le_iff_toInt_le]
    have : (1 : Int32).toInt = 1 := by decide
    have : (2 : Int32).toInt = 2 := by decide
    omega
  · have e : nI 3 - 1 = (2 : Int32) := by decide
    have e2 : nI 3 = (3 : Int32) := by decide
    rw [e, e2, Int32.le_iff_toInt_le, Int32.le_iff_toInt_le]
    have : (2 : Int32).toInt = 2 := by decide
    have : (3 : Int32).toInt = 3 := by decide
    omega
  · have e : nI 4 - 1 = (3 : Int32) := by decide
    have e2 : nI 4 = (4 : Int32) := by decide
    rw [e, e2, Int32.le_iff_toInt_le, Int32.le_iff_toInt_le]
    have : (3 : Int32).toInt = 3 := by decide
    have : (4 : Int32).toInt = 4 := by decide
    omega
theorem zif01 {P : Prop} [Decidable P] : (if P then 1 else 0 : Int32) = 0 ∨ (if P then 1 else 0 : Int32) = 1 := by
  by_cases h : P
  · rw [if_pos h]; exact Or.inr rfl
  · rw [if_neg h]; exact Or.inl rfl
theorem nI_of4 {v : Int32} {m : Nat} (h0 : 0 ≤ v) (h1 : ¬ nI m ≤ v) (hm : m ≤ 4) : ∃ y, y < m ∧ v = nI y := by
  have h0' := Int32.le_iff_toInt_le.mp h0
  have e0 : (0 : Int32).toInt = 0 := by decide
  rw [e0] at h0'
  have h2 : v.toInt < (nI m).toInt := by
    rw [Int32.le_iff_toInt_le] at h1
    omega
  have e1 : (nI m).toInt = m := by
    rcases (by omega : m = 0 ∨ m = 1 ∨ m = 2 ∨ m = 3 ∨ m = 4) with rfl | rfl | rfl | rfl | rfl <;> decide
  rw [e1] at h2
  refine ⟨v.toInt.toNat, by omega, ?_⟩
  rw [← Int32.toInt_inj]
  have e2 : (nI v.toInt.toNat).toInt = v.toInt.toNat := by
    have hk : v.toInt.toNat < 4 := by omega
    generalize v.toInt.toNat = k at hk
    rcases (by omega : k = 0 ∨ k = 1 ∨ k = 2 ∨ k = 3) with rfl | rfl | rfl | rfl <;> decide
  rw [e2]
  omega
section RMB
variable {d n m : Nat} {w : zM} {v : Int32}
theorem r_mb_00 (C : zHc w 26 n m) : cal (d + 2) 3014 [.ref 25, .int (nI 0), .int (nI 0), .int v] w = some (some (.int (if rLo 0 0 ≤ v ∧ v ≤ rHi m 0 0 then 1 else 0)), w) := by
  show cal (d + 2) 3014 [.ref 25, .int 0, .int 0, .int v] w = some (some (.int (if 0 ≤ v ∧ v ≤ 6 then 1 else 0)), w)
  have q := q_waiterPartMayBe_0 (d := d) (w := w) (v := v)
  have e10 : ((1 : Int32) = 0) = False := eq_false (by decide)
  have e20 : ((2 : Int32) = 0) = False := eq_false (by decide)
  have e21 : ((2 : Int32) = 1) = False := eq_false (by decide)
  have e30 : ((3 : Int32) = 0) = False := eq_false (by decide)
  have e31 : ((3 : Int32) = 1) = False := eq_false (by decide)
  have e32 : ((3 : Int32) = 2) = False := eq_false (by decide)
  have e40 : ((4 : Int32) = 0) = False := eq_false (by decide)
  have e41 : ((4 : Int32) = 1) = False := eq_false (by decide)
  have e42 : ((4 : Int32) = 2) = False := eq_false (by decide)
  have e43 : ((4 : Int32) = 3) = False := eq_false (by decide)
  have a20 : (2 : Int32) + 0 = 2 := by decide
  have a21 : (2 : Int32) + 1 = 3 := by decide
  have a22 : (2 : Int32) + 2 = 4 := by decide
  simp only [c_3014, e_3014_0, e_3014_1, e_3014_28, e_3014_29, e_3014_32, e_3014_33, e_3014_36, e_3014_37, e_3014_38, e_3014_41, e_3014_42, e_3014_43, e_3014_46, e_3014_47, e_3014_48, e_3014_49, e_3014_52, e_3014_53, e_3014_56, c_3015, e_3015_0, e_3015_1, e_3015_4, e_3015_5, e_3015_8, e_3015_9, e_3015_10, e_3015_13, e_3015_14, e_3015_17, e_3015_18, c_3016, e_3016_0, e_3016_1, e_3016_2, e_3016_5, e_3016_6, e_3016_7, e_3016_8, e_3016_9, e_3016_12, e_3016_13, e_3016_16, e_3016_17, e_3016_18, e_3016_19, zk_int, zk_ref, zk_null, zk_none, zk_long, zisR_r, zisR_n, zcl_int, zcl_ref, zcl_null, zpush_s, zpush_n, zbs, zbn, true_or, or_true, not_false_eq_true, not_true_eq_false, ↓reduceIte, and_self, and_true, true_and, zt_25, zr_25_0, zt_26, q, zif01, e10, e20, e21, e30, e31, e32, e40, e41, e42, e43, a20, a21, a22]
theorem r_mb_01 (C : zHc w 26 n m) : cal (d + 2) 3014 [.ref 25, .int (nI 0), .int (nI 1), .int v] w = some (some (.int (if rLo 0 1 ≤ v ∧ v ≤ rHi m 0 1 then 1 else 0)), w) := by
  show cal (d + 2) 3014 [.ref 25, .int 0, .int 1, .int v] w = some (some (.int (if 0 ≤ v ∧ v ≤ 99 then 1 else 0)), w)
  have q := q_waiterPartMayBe_2 (d := d) (w := w) (v := v)
  have e10 : ((1 : Int32) = 0) = False := eq_false (by decide)
  have e20 : ((2 : Int32) = 0) = False := eq_false (by decide)
  have e21 : ((2 : Int32) = 1) = False := eq_false (by decide)
  have e30 : ((3 : Int32) = 0) = False := eq_false (by decide)
  have e31 : ((3 : Int32) = 1) = False := eq_false (by decide)
  have e32 : ((3 : Int32) = 2) = False := eq_false (by decide)
  have e40 : ((4 : Int32) = 0) = False := eq_false (by decide)
  have e41 : ((4 : Int32) = 1) = False := eq_false (by decide)
  have e42 : ((4 : Int32) = 2) = False := eq_false (by decide)
  have e43 : ((4 : Int32) = 3) = False := eq_false (by decide)
  have a20 : (2 : Int32) + 0 = 2 := by decide
  have a21 : (2 : Int32) + 1 = 3 := by decide
  have a22 : (2 : Int32) + 2 = 4 := by decide
  simp only [c_3014, e_3014_0, e_3014_1, e_3014_28, e_3014_29, e_3014_32, e_3014_33, e_3014_36, e_3014_37, e_3014_38, e_3014_41, e_3014_42, e_3014_43, e_3014_46, e_3014_47, e_3014_48, e_3014_49, e_3014_52, e_3014_53, e_3014_56, c_3015, e_3015_0, e_3015_1, e_3015_4, e_3015_5, e_3015_8, e_3015_9, e_3015_10, e_3015_13, e_3015_14, e_3015_17, e_3015_18, c_3016, e_3016_0, e_3016_1, e_3016_2, e_3016_5, e_3016_6, e_3016_7, e_3016_8, e_3016_9, e_3016_12, e_3016_13, e_3016_16, e_3016_17, e_3016_18, e_3016_19, zk_int, zk_ref, zk_null, zk_none, zk_long, zisR_r, zisR_n, zcl_int, zcl_ref, zcl_null, zpush_s, zpush_n, zbs, zbn, true_or, or_true, not_false_eq_true, not_true_eq_false, ↓reduceIte, and_self, and_true, true_and, zt_25, zr_25_0, zt_26, q, zif01, e10, e20, e21, e30, e31, e32, e40, e41, e42, e43, a20, a21, a22]
theorem r_mb_02 (C : zHc w 26 n m) : cal (d + 2) 3014 [.ref 25, .int (nI 0), .int (nI 2), .int v] w = some (some (.int (if rLo 0 2 ≤ v ∧ v ≤ rHi m 0 2 then 1 else 0)), w) := by
  show cal (d + 2) 3014 [.ref 25, .int 0, .int 2, .int v] w = some (some (.int (if 0 ≤ v ∧ v ≤ 999 then 1 else 0)), w)
  have q := q_waiterPartMayBe_4 (d := d) (w := w) (v := v)
  have e10 : ((1 : Int32) = 0) = False := eq_false (by decide)
  have e20 : ((2 : Int32) = 0) = False := eq_false (by decide)
  have e21 : ((2 : Int32) = 1) = False := eq_false (by decide)
  have e30 : ((3 : Int32) = 0) = False := eq_false (by decide)
  have e31 : ((3 : Int32) = 1) = False := eq_false (by decide)
  have e32 : ((3 : Int32) = 2) = False := eq_false (by decide)
  have e40 : ((4 : Int32) = 0) = False := eq_false (by decide)
  have e41 : ((4 : Int32) = 1) = False := eq_false (by decide)
  have e42 : ((4 : Int32) = 2) = False := eq_false (by decide)
  have e43 : ((4 : Int32) = 3) = False := eq_false (by decide)
  have a20 : (2 : Int32) + 0 = 2 := by decide
  have a21 : (2 : Int32) + 1 = 3 := by decide
  have a22 : (2 : Int32) + 2 = 4 := by decide
  simp only [c_3014, e_3014_0, e_3014_1, e_3014_28, e_3014_29, e_3014_32, e_3014_33, e_3014_36, e_3014_37, e_3014_38, e_3014_41, e_3014_42, e_3014_43, e_3014_46, e_3014_47, e_3014_48, e_3014_49, e_3014_52, e_3014_53, e_3014_56, c_3015, e_3015_0, e_3015_1, e_3015_4, e_3015_5, e_3015_8, e_3015_9, e_3015_10, e_3015_13, e_3015_14, e_3015_17, e_3015_18, c_3016, e_3016_0, e_3016_1, e_3016_2, e_3016_5, e_3016_6, e_3016_7, e_3016_8, e_3016_9, e_3016_12, e_3016_13, e_3016_16, e_3016_17, e_3016_18, e_3016_19, zk_int, zk_ref, zk_null, zk_none, zk_long, zisR_r, zisR_n, zcl_int, zcl_ref, zcl_null, zpush_s, zpush_n, zbs, zbn, true_or, or_true, not_false_eq_true, not_true_eq_false, ↓reduceIte, and_self, and_true, true_and, zt_25, zr_25_0, zt_26, q, zif01, e10, e20, e21, e30, e31, e32, e40, e41, e42, e43, a20, a21, a22]
theorem r_mb_10 (C : zHc w 26 n m) : cal (d + 2) 3014 [.ref 25, .int (nI 1), .int (nI 0), .int v] w = some (some (.int (if rLo 1 0 ≤ v ∧ v ≤ rHi m 1 0 then 1 else 0)), w) := by
  show cal (d + 2) 3014 [.ref 25, .int 1, .int 0, .int v] w = some (some (.int (if 0 ≤ v ∧ v ≤ 6 then 1 else 0)), w)
  have q := q_tablePartMayBe_0 (d := d) (w := w) (v := v) C.1
  have e10 : ((1 : Int32) = 0) = False := eq_false (by decide)
  have e20 : ((2 : Int32) = 0) = False := eq_false (by decide)
  have e21 : ((2 : Int32) = 1) = False := eq_false (by decide)
  have e30 : ((3 : Int32) = 0) = False := eq_false (by decide)
  have e31 : ((3 : Int32) = 1) = False := eq_false (by decide)
  have e32 : ((3 : Int32) = 2) = False := eq_false (by decide)
  have e40 : ((4 : Int32) = 0) = False := eq_false (by decide)
  have e41 : ((4 : Int32) = 1) = False := eq_false (by decide)
  have e42 : ((4 : Int32) = 2) = False := eq_false (by decide)
  have e43 : ((4 : Int32) = 3) = False := eq_false (by decide)
  have a20 : (2 : Int32) + 0 = 2 := by decide
  have a21 : (2 : Int32) + 1 = 3 := by decide
  have a22 : (2 : Int32) + 2 = 4 := by decide
  simp only [c_3014, e_3014_0, e_3014_1, e_3014_28, e_3014_29, e_3014_32, e_3014_33, e_3014_36, e_3014_37, e_3014_38, e_3014_41, e_3014_42, e_3014_43, e_3014_46, e_3014_47, e_3014_48, e_3014_49, e_3014_52, e_3014_53, e_3014_56, c_3015, e_3015_0, e_3015_1, e_3015_4, e_3015_5, e_3015_8, e_3015_9, e_3015_10, e_3015_13, e_3015_14, e_3015_17, e_3015_18, c_3016, e_3016_0, e_3016_1, e_3016_2, e_3016_5, e_3016_6, e_3016_7, e_3016_8, e_3016_9, e_3016_12, e_3016_13, e_3016_16, e_3016_17, e_3016_18, e_3016_19, zk_int, zk_ref, zk_null, zk_none, zk_long, zisR_r, zisR_n, zcl_int, zcl_ref, zcl_null, zpush_s, zpush_n, zbs, zbn, true_or, or_true, not_false_eq_true, not_true_eq_false, ↓reduceIte, and_self, and_true, true_and, zt_25, zr_25_0, zt_26, q, zif01, e10, e20, e21, e30, e31, e32, e40, e41, e42, e43, a20, a21, a22]
theorem r_mb_11 (C : zHc w 26 n m) : cal (d + 2) 3014 [.ref 25, .int (nI 1), .int (nI 1), .int v] w = some (some (.int (if rLo 1 1 ≤ v ∧ v ≤ rHi m 1 1 then 1 else 0)), w) := by
  show cal (d + 2) 3014 [.ref 25, .int 1, .int 1, .int v] w = some (some (.int (if 1 ≤ v ∧ v ≤ 999 then 1 else 0)), w)
  have q := q_tablePartMayBe_1 (d := d) (w := w) (v := v) C.1
  have e10 : ((1 : Int32) = 0) = False := eq_false (by decide)
  have e20 : ((2 : Int32) = 0) = False := eq_false (by decide)
  have e21 : ((2 : Int32) = 1) = False := eq_false (by decide)
  have e30 : ((3 : Int32) = 0) = False := eq_false (by decide)
  have e31 : ((3 : Int32) = 1) = False := eq_false (by decide)
  have e32 : ((3 : Int32) = 2) = False := eq_false (by decide)
  have e40 : ((4 : Int32) = 0) = False := eq_false (by decide)
  have e41 : ((4 : Int32) = 1) = False := eq_false (by decide)
  have e42 : ((4 : Int32) = 2) = False := eq_false (by decide)
  have e43 : ((4 : Int32) = 3) = False := eq_false (by decide)
  have a20 : (2 : Int32) + 0 = 2 := by decide
  have a21 : (2 : Int32) + 1 = 3 := by decide
  have a22 : (2 : Int32) + 2 = 4 := by decide
  simp only [c_3014, e_3014_0, e_3014_1, e_3014_28, e_3014_29, e_3014_32, e_3014_33, e_3014_36, e_3014_37, e_3014_38, e_3014_41, e_3014_42, e_3014_43, e_3014_46, e_3014_47, e_3014_48, e_3014_49, e_3014_52, e_3014_53, e_3014_56, c_3015, e_3015_0, e_3015_1, e_3015_4, e_3015_5, e_3015_8, e_3015_9, e_3015_10, e_3015_13, e_3015_14, e_3015_17, e_3015_18, c_3016, e_3016_0, e_3016_1, e_3016_2, e_3016_5, e_3016_6, e_3016_7, e_3016_8, e_3016_9, e_3016_12, e_3016_13, e_3016_16, e_3016_17, e_3016_18, e_3016_19, zk_int, zk_ref, zk_null, zk_none, zk_long, zisR_r, zisR_n, zcl_int, zcl_ref, zcl_null, zpush_s, zpush_n, zbs, zbn, true_or, or_true, not_false_eq_true, not_true_eq_false, ↓reduceIte, and_self, and_true, true_and, zt_25, zr_25_0, zt_26, q, zif01, e10, e20, e21, e30, e31, e32, e40, e41, e42, e43, a20, a21, a22]
theorem r_mb_12 (C : zHc w 26 n m) : cal (d + 2) 3014 [.ref 25, .int (nI 1), .int (nI 2), .int v] w = some (some (.int (if rLo 1 2 ≤ v ∧ v ≤ rHi m 1 2 then 1 else 0)), w) := by
  show cal (d + 2) 3014 [.ref 25, .int 1, .int 2, .int v] w = some (some (.int (if 1 ≤ v ∧ v ≤ 9 then 1 else 0)), w)
  have q := q_tablePartMayBe_2 (d := d) (w := w) (v := v) C.1
  have e10 : ((1 : Int32) = 0) = False := eq_false (by decide)
  have e20 : ((2 : Int32) = 0) = False := eq_false (by decide)
  have e21 : ((2 : Int32) = 1) = False := eq_false (by decide)
  have e30 : ((3 : Int32) = 0) = False := eq_false (by decide)
  have e31 : ((3 : Int32) = 1) = False := eq_false (by decide)
  have e32 : ((3 : Int32) = 2) = False := eq_false (by decide)
  have e40 : ((4 : Int32) = 0) = False := eq_false (by decide)
  have e41 : ((4 : Int32) = 1) = False := eq_false (by decide)
  have e42 : ((4 : Int32) = 2) = False := eq_false (by decide)
  have e43 : ((4 : Int32) = 3) = False := eq_false (by decide)
  have a20 : (2 : Int32) + 0 = 2 := by decide
  have a21 : (2 : Int32) + 1 = 3 := by decide
  have a22 : (2 : Int32) + 2 = 4 := by decide
  simp only [c_3014, e_3014_0, e_3014_1, e_3014_28, e_3014_29, e_3014_32, e_3014_33, e_3014_36, e_3014_37, e_3014_38, e_3014_41, e_3014_42, e_3014_43, e_3014_46, e_3014_47, e_3014_48, e_3014_49, e_3014_52, e_3014_53, e_3014_56, c_3015, e_3015_0, e_3015_1, e_3015_4, e_3015_5, e_3015_8, e_3015_9, e_3015_10, e_3015_13, e_3015_14, e_3015_17, e_3015_18, c_3016, e_3016_0, e_3016_1, e_3016_2, e_3016_5, e_3016_6, e_3016_7, e_3016_8, e_3016_9, e_3016_12, e_3016_13, e_3016_16, e_3016_17, e_3016_18, e_3016_19, zk_int, zk_ref, zk_null, zk_none, zk_long, zisR_r, zisR_n, zcl_int, zcl_ref, zcl_null, zpush_s, zpush_n, zbs, zbn, true_or, or_true, not_false_eq_true, not_true_eq_false, ↓reduceIte, and_self, and_true, true_and, zt_25, zr_25_0, zt_26, q, zif01, e10, e20, e21, e30, e31, e32, e40, e41, e42, e43, a20, a21, a22]
theorem r_mb_13 (C : zHc w 26 n m) : cal (d + 2) 3014 [.ref 25, .int (nI 1), .int (nI 3), .int v] w = some (some (.int (if rLo 1 3 ≤ v ∧ v ≤ rHi m 1 3 then 1 else 0)), w) := by
  show cal (d + 2) 3014 [.ref 25, .int 1, .int 3, .int v] w = some (some (.int (if 0 ≤ v ∧ v ≤ 99 then 1 else 0)), w)
  have q := q_tablePartMayBe_3 (d := d) (w := w) (v := v) C.1
  have e10 : ((1 : Int32) = 0) = False := eq_false (by decide)
  have e20 : ((2 : Int32) = 0) = False := eq_false (by decide)
  have e21 : ((2 : Int32) = 1) = False := eq_false (by decide)
  have e30 : ((3 : Int32) = 0) = False := eq_false (by decide)
  have e31 : ((3 : Int32) = 1) = False := eq_false (by decide)
  have e32 : ((3 : Int32) = 2) = False := eq_false (by decide)
  have e40 : ((4 : Int32) = 0) = False := eq_false (by decide)
  have e41 : ((4 : Int32) = 1) = False := eq_false (by decide)
  have e42 : ((4 : Int32) = 2) = False := eq_false (by decide)
  have e43 : ((4 : Int32) = 3) = False := eq_false (by decide)
  have a20 : (2 : Int32) + 0 = 2 := by decide
  have a21 : (2 : Int32) + 1 = 3 := by decide
  have a22 : (2 : Int32) + 2 = 4 := by decide
  simp only [c_3014, e_3014_0, e_3014_1, e_3014_28, e_3014_29, e_3014_32, e_3014_33, e_3014_36, e_3014_37, e_3014_38, e_3014_41, e_3014_42, e_3014_43, e_3014_46, e_3014_47, e_3014_48, e_3014_49, e_3014_52, e_3014_53, e_3014_56, c_3015, e_3015_0, e_3015_1, e_3015_4, e_3015_5, e_3015_8, e_3015_9, e_3015_10, e_3015_13, e_3015_14, e_3015_17, e_3015_18, c_3016, e_3016_0, e_3016_1, e_3016_2, e_3016_5, e_3016_6, e_3016_7, e_3016_8, e_3016_9, e_3016_12, e_3016_13, e_3016_16, e_3016_17, e_3016_18, e_3016_19, zk_int, zk_ref, zk_null, zk_none, zk_long, zisR_r, zisR_n, zcl_int, zcl_ref, zcl_null, zpush_s, zpush_n, zbs, zbn, true_or, or_true, not_false_eq_true, not_true_eq_false, ↓reduceIte, and_self, and_true, true_and, zt_25, zr_25_0, zt_26, q, zif01, e10, e20, e21, e30, e31, e32, e40, e41, e42, e43, a20, a21, a22]
theorem r_mb_20 (C : zHc w 26 n m) : cal (d + 2) 3014 [.ref 25, .int (nI 2), .int (nI 0), .int v] w = some (some (.int (if rLo 2 0 ≤ v ∧ v ≤ rHi m 2 0 then 1 else 0)), w) := by
  show cal (d + 2) 3014 [.ref 25, .int 2, .int 0, .int v] w = some (some (.int (if 0 ≤ v ∧ v ≤ 3 then 1 else 0)), w)
  have q := q_settingMayBe_0 (d := d) (w := w) (v := v)
  have e10 : ((1 : Int32) = 0) = False := eq_false (by decide)
  have e20 : ((2 : Int32) = 0) = False := eq_false (by decide)
  have e21 : ((2 : Int32) = 1) = False := eq_false (by decide)
  have e30 : ((3 : Int32) = 0) = False := eq_false (by decide)
  have e31 : ((3 : Int32) = 1) = False := eq_false (by decide)
  have e32 : ((3 : Int32) = 2) = False := eq_false (by decide)
  have e40 : ((4 : Int32) = 0) = False := eq_false (by decide)
  have e41 : ((4 : Int32) = 1) = False := eq_false (by decide)
  have e42 : ((4 : Int32) = 2) = False := eq_false (by decide)
  have e43 : ((4 : Int32) = 3) = False := eq_false (by decide)
  have a20 : (2 : Int32) + 0 = 2 := by decide
  have a21 : (2 : Int32) + 1 = 3 := by decide
  have a22 : (2 : Int32) + 2 = 4 := by decide
  simp only [c_3014, e_3014_0, e_3014_1, e_3014_28, e_3014_29, e_3014_32, e_3014_33, e_3014_36, e_3014_37, e_3014_38, e_3014_41, e_3014_42, e_3014_43, e_3014_46, e_3014_47, e_3014_48, e_3014_49, e_3014_52, e_3014_53, e_3014_56, c_3015, e_3015_0, e_3015_1, e_3015_4, e_3015_5, e_3015_8, e_3015_9, e_3015_10, e_3015_13, e_3015_14, e_3015_17, e_3015_18, c_3016, e_3016_0, e_3016_1, e_3016_2, e_3016_5, e_3016_6, e_3016_7, e_3016_8, e_3016_9, e_3016_12, e_3016_13, e_3016_16, e_3016_17, e_3016_18, e_3016_19, zk_int, zk_ref, zk_null, zk_none, zk_long, zisR_r, zisR_n, zcl_int, zcl_ref, zcl_null, zpush_s, zpush_n, zbs, zbn, true_or, or_true, not_false_eq_true, not_true_eq_false, ↓reduceIte, and_self, and_true, true_and, zt_25, zr_25_0, zt_26, q, zif01, e10, e20, e21, e30, e31, e32, e40, e41, e42, e43, a20, a21, a22]
theorem r_mb_30 (C : zHc w 26 n m) : cal (d + 2) 3014 [.ref 25, .int (nI 3), .int (nI 0), .int v] w = some (some (.int (if rLo 3 0 ≤ v ∧ v ≤ rHi m 3 0 then 1 else 0)), w) := by
  show cal (d + 2) 3014 [.ref 25, .int 3, .int 0, .int v] w = some (some (.int (if 0 ≤ v ∧ v ≤ 30 then 1 else 0)), w)
  have q := q_settingMayBe_1 (d := d) (w := w) (v := v)
  have e10 : ((1 : Int32) = 0) = False := eq_false (by decide)
  have e20 : ((2 : Int32) = 0) = False := eq_false (by decide)
  have e21 : ((2 : Int32) = 1) = False := eq_false (by decide)
  have e30 : ((3 : Int32) = 0) = False := eq_false (by decide)
  have e31 : ((3 : Int32) = 1) = False := eq_false (by decide)
  have e32 : ((3 : Int32) = 2) = False := eq_false (by decide)
  have e40 : ((4 : Int32) = 0) = False := eq_false (by decide)
  have e41 : ((4 : Int32) = 1) = False := eq_false (by decide)
  have e42 : ((4 : Int32) = 2) = False := eq_false (by decide)
  have e43 : ((4 : Int32) = 3) = False := eq_false (by decide)
  have a20 : (2 : Int32) + 0 = 2 := by decide
  have a21 : (2 : Int32) + 1 = 3 := by decide
  have a22 : (2 : Int32) + 2 = 4 := by decide
  simp only [c_3014, e_3014_0, e_3014_1, e_3014_28, e_3014_29, e_3014_32, e_3014_33, e_3014_36, e_3014_37, e_3014_38, e_3014_41, e_3014_42, e_3014_43, e_3014_46, e_3014_47, e_3014_48, e_3014_49, e_3014_52, e_3014_53, e_3014_56, c_3015, e_3015_0, e_3015_1, e_3015_4, e_3015_5, e_3015_8, e_3015_9, e_3015_10, e_3015_13, e_3015_14, e_3015_17, e_3015_18, c_3016, e_3016_0, e_3016_1, e_3016_2, e_3016_5, e_3016_6, e_3016_7, e_3016_8, e_3016_9, e_3016_12, e_3016_13, e_3016_16, e_3016_17, e_3016_18, e_3016_19, zk_int, zk_ref, zk_null, zk_none, zk_long, zisR_r, zisR_n, zcl_int, zcl_ref, zcl_null, zpush_s, zpush_n, zbs, zbn, true_or, or_true, not_false_eq_true, not_true_eq_false, ↓reduceIte, and_self, and_true, true_and, zt_25, zr_25_0, zt_26, q, zif01, e10, e20, e21, e30, e31, e32, e40, e41, e42, e43, a20, a21, a22]
theorem r_mb_40 (C : zHc w 26 n m) : cal (d + 2) 3014 [.ref 25, .int (nI 4), .int (nI 0), .int v] w = some (some (.int (if rLo 4 0 ≤ v ∧ v ≤ rHi m 4 0 then 1 else 0)), w) := by
  show cal (d + 2) 3014 [.ref 25, .int 4, .int 0, .int v] w = some (some (.int (if 0 ≤ v ∧ v ≤ 99 then 1 else 0)), w)
  have q := q_settingMayBe_2 (d := d) (w := w) (v := v)
  have e10 : ((1 : Int32) = 0) = False := eq_false (by decide)
  have e20 : ((2 : Int32) = 0) = False := eq_false (by decide)
  have e21 : ((2 : Int32) = 1) = False := eq_false (by decide)
  have e30 : ((3 : Int32) = 0) = False := eq_false (by decide)
  have e31 : ((3 : Int32) = 1) = False := eq_false (by decide)
  have e32 : ((3 : Int32) = 2) = False := eq_false (by decide)
  have e40 : ((4 : Int32) = 0) = False := eq_false (by decide)
  have e41 : ((4 : Int32) = 1) = False := eq_false (by decide)
  have e42 : ((4 : Int32) = 2) = False := eq_false (by decide)
  have e43 : ((4 : Int32) = 3) = False := eq_false (by decide)
  have a20 : (2 : Int32) + 0 = 2 := by decide
  have a21 : (2 : Int32) + 1 = 3 := by decide
  have a22 : (2 : Int32) + 2 = 4 := by decide
  simp only [c_3014, e_3014_0, e_3014_1, e_3014_28, e_3014_29, e_3014_32, e_3014_33, e_3014_36, e_3014_37, e_3014_38, e_3014_41, e_3014_42, e_3014_43, e_3014_46, e_3014_47, e_3014_48, e_3014_49, e_3014_52, e_3014_53, e_3014_56, c_3015, e_3015_0, e_3015_1, e_3015_4, e_3015_5, e_3015_8, e_3015_9, e_3015_10, e_3015_13, e_3015_14, e_3015_17, e_3015_18, c_3016, e_3016_0, e_3016_1, e_3016_2, e_3016_5, e_3016_6, e_3016_7, e_3016_8, e_3016_9, e_3016_12, e_3016_13, e_3016_16, e_3016_17, e_3016_18, e_3016_19, zk_int, zk_ref, zk_null, zk_none, zk_long, zisR_r, zisR_n, zcl_int, zcl_ref, zcl_null, zpush_s, zpush_n, zbs, zbn, true_or, or_true, not_false_eq_true, not_true_eq_false, ↓reduceIte, and_self, and_true, true_and, zt_25, zr_25_0, zt_26, q, zif01, e10, e20, e21, e30, e31, e32, e40, e41, e42, e43, a20, a21, a22]
theorem r_mb_41 (C : zHc w 26 n m) : cal (d + 2) 3014 [.ref 25, .int (nI 4), .int (nI 1), .int v] w = some (some (.int (if rLo 4 1 ≤ v ∧ v ≤ rHi m 4 1 then 1 else 0)), w) := by
  show cal (d + 2) 3014 [.ref 25, .int 4, .int 1, .int v] w = some (some (.int (if 0 ≤ v ∧ v ≤ 99 then 1 else 0)), w)
  have q := q_settingMayBe_3 (d := d) (w := w) (v := v)
  have e10 : ((1 : Int32) = 0) = False := eq_false (by decide)
  have e20 : ((2 : Int32) = 0) = False := eq_false (by decide)
  have e21 : ((2 : Int32) = 1) = False := eq_false (by decide)
  have e30 : ((3 : Int32) = 0) = False := eq_false (by decide)
  have e31 : ((3 : Int32) = 1) = False := eq_false (by decide)
  have e32 : ((3 : Int32) = 2) = False := eq_false (by decide)
  have e40 : ((4 : Int32) = 0) = False := eq_false (by decide)
  have e41 : ((4 : Int32) = 1) = False := eq_false (by decide)
  have e42 : ((4 : Int32) = 2) = False := eq_false (by decide)
  have e43 : ((4 : Int32) = 3) = False := eq_false (by decide)
  have a20 : (2 : Int32) + 0 = 2 := by decide
  have a21 : (2 : Int32) + 1 = 3 := by decide
  have a22 : (2 : Int32) + 2 = 4 := by decide
  simp only [c_3014, e_3014_0, e_3014_1, e_3014_28, e_3014_29, e_3014_32, e_3014_33, e_3014_36, e_3014_37, e_3014_38, e_3014_41, e_3014_42, e_3014_43, e_3014_46, e_3014_47, e_3014_48, e_3014_49, e_3014_52, e_3014_53, e_3014_56, c_3015, e_3015_0, e_3015_1, e_3015_4, e_3015_5, e_3015_8, e_3015_9, e_3015_10, e_3015_13, e_3015_14, e_3015_17, e_3015_18, c_3016, e_3016_0, e_3016_1, e_3016_2, e_3016_5, e_3016_6, e_3016_7, e_3016_8, e_3016_9, e_3016_12, e_3016_13, e_3016_16, e_3016_17, e_3016_18, e_3016_19, zk_int, zk_ref, zk_null, zk_none, zk_long, zisR_r, zisR_n, zcl_int, zcl_ref, zcl_null, zpush_s, zpush_n, zbs, zbn, true_or, or_true, not_false_eq_true, not_true_eq_false, ↓reduceIte, and_self, and_true, true_and, zt_25, zr_25_0, zt_26, q, zif01, e10, e20, e21, e30, e31, e32, e40, e41, e42, e43, a20, a21, a22]
theorem r_mb_42 (C : zHc w 26 n m) : cal (d + 2) 3014 [.ref 25, .int (nI 4), .int (nI 2), .int v] w = some (some (.int (if rLo 4 2 ≤ v ∧ v ≤ rHi m 4 2 then 1 else 0)), w) := by
  show cal (d + 2) 3014 [.ref 25, .int 4, .int 2, .int v] w = some (some (.int (if 0 ≤ v ∧ v ≤ 99 then 1 else 0)), w)
  have q := q_settingMayBe_4 (d := d) (w := w) (v := v)
  have e10 : ((1 : Int32) = 0) = False := eq_false (by decide)
  have e20 : ((2 : Int32) = 0) = False := eq_false (by decide)
  have e21 : ((2 : Int32) = 1) = False := eq_false (by decide)
  have e30 : ((3 : Int32) = 0) = False := eq_false (by decide)
  have e31 : ((3 : Int32) = 1) = False := eq_false (by decide)
  have e32 : ((3 : Int32) = 2) = False := eq_false (by decide)
  have e40 : ((4 : Int32) = 0) = False := eq_false (by decide)
  have e41 : ((4 : Int32) = 1) = False := eq_false (by decide)
  have e42 : ((4 : Int32) = 2) = False := eq_false (by decide)
  have e43 : ((4 : Int32) = 3) = False := eq_false (by decide)
  have a20 : (2 : Int32) + 0 = 2 := by decide
  have a21 : (2 : Int32) + 1 = 3 := by decide
  have a22 : (2 : Int32) + 2 = 4 := by decide
  simp only [c_3014, e_3014_0, e_3014_1, e_3014_28, e_3014_29, e_3014_32, e_3014_33, e_3014_36, e_3014_37, e_3014_38, e_3014_41, e_3014_42, e_3014_43, e_3014_46, e_3014_47, e_3014_48, e_3014_49, e_3014_52, e_3014_53, e_3014_56, c_3015, e_3015_0, e_3015_1, e_3015_4, e_3015_5, e_3015_8, e_3015_9, e_3015_10, e_3015_13, e_3015_14, e_3015_17, e_3015_18, c_3016, e_3016_0, e_3016_1, e_3016_2, e_3016_5, e_3016_6, e_3016_7, e_3016_8, e_3016_9, e_3016_12, e_3016_13, e_3016_16, e_3016_17, e_3016_18, e_3016_19, zk_int, zk_ref, zk_null, zk_none, zk_long, zisR_r, zisR_n, zcl_int, zcl_ref, zcl_null, zpush_s, zpush_n, zbs, zbn, true_or, or_true, not_false_eq_true, not_true_eq_false, ↓reduceIte, and_self, and_true, true_and, zt_25, zr_25_0, zt_26, q, zif01, e10, e20, e21, e30, e31, e32, e40, e41, e42, e43, a20, a21, a22]
theorem r_mb_14 (C : zHc w 26 n m) : cal (d + 2) 3014 [.ref 25, .int (nI 1), .int (nI 4), .int v] w = some (some (.int (if rLo 1 4 ≤ v ∧ v ≤ rHi m 1 4 then 1 else 0)), w) := by
  show cal (d + 2) 3014 [.ref 25, .int 1, .int 4, .int v] w = some (some (.int (if 0 ≤ v ∧ v ≤ nI m - 1 then 1 else 0)), w)
  have e10 : ((1 : Int32) = 0) = False := eq_false (by decide)
  by_cases h : 0 ≤ v ∧ v ≤ nI m - 1
  · rw [if_pos h]
    have hm4 := C.2.2.2.2
    have hy : ¬ nI m ≤ v := (i32_lt_sub hm4 h.1).mp h.2
    obtain ⟨y, hy1, hy2⟩ := nI_of4 h.1 hy hm4
    subst hy2
    have q := q_tablePartMayBe_4 (d := d) C hy1
    simp only [c_3014, e_3014_0, e_3014_1, e_3014_28, e_3014_29, e_3014_32, e_3014_33, e_3014_36, e_3014_37, e_3014_38, e_3014_41, e_3014_42, e_3014_43, e_3014_46, e_3014_47, e_3014_48, e_3014_49, e_3014_52, e_3014_53, e_3014_56, zk_int, zk_ref, zk_null, zk_none, zk_long, zisR_r, zisR_n, zcl_int, zcl_ref, zcl_null, zpush_s, zpush_n, zbs, zbn, true_or, or_true, not_false_eq_true, not_true_eq_false, ↓reduceIte, and_self, and_true, true_and, zt_25, zr_25_0, zt_26, q, e10]
  · rw [if_neg h]
    have hm4 := C.2.2.2.2
    have hy : v < 0 ∨ nI m ≤ v := by
      by_cases h0 : v < 0
      · exact Or.inl h0
      · refine Or.inr ?_
        by_cases h1 : nI m ≤ v
        · exact h1
        · exact absurd ⟨Int32.not_lt.mp h0, (i32_lt_sub hm4 (Int32.not_lt.mp h0)).mpr h1⟩ h
    have q := q_tablePartMayBe_4o (d := d) C hy
    simp only [c_3014, e_3014_0, e_3014_1, e_3014_28, e_3014_29, e_3014_32, e_3014_33, e_3014_36, e_3014_37, e_3014_38, e_3014_41, e_3014_42, e_3014_43, e_3014_46, e_3014_47, e_3014_48, e_3014_49, e_3014_52, e_3014_53, e_3014_56, zk_int, zk_ref, zk_null, zk_none, zk_long, zisR_r, zisR_n, zcl_int, zcl_ref, zcl_null, zpush_s, zpush_n, zbs, zbn, true_or, or_true, not_false_eq_true, not_true_eq_false, ↓reduceIte, and_self, and_true, true_and, zt_25, zr_25_0, zt_26, q, e10]
theorem r_mayBe {i j : Nat} (C : zHc w 26 n m) (hi : i < 5) (hj : j < rCnt i) : cal (d + 2) 3014 [.ref 25, .int (nI i), .int (nI j), .int v] w = some (some (.int (if rLo i j ≤ v ∧ v ≤ rHi m i j then 1 else 0)), w) := by
  rcases (by omega : i = 0 ∨ i = 1 ∨ i = 2 ∨ i = 3 ∨ i = 4) with rfl | rfl | rfl | rfl | rfl
  · have hj : j < 3 := hj
    rcases (by omega : j = 0 ∨ j = 1 ∨ j = 2) with rfl | rfl | rfl
    · exact r_mb_00 C
    · exact r_mb_01 C
    · exact r_mb_02 C
  · have hj : j < 5 := hj
    rcases (by omega : j = 0 ∨ j = 1 ∨ j = 2 ∨ j = 3 ∨ j = 4) with rfl | rfl | rfl | rfl | rfl
    · exact r_mb_10 C
    · exact r_mb_11 C
    · exact r_mb_12 C
    · exact r_mb_13 C
    · exact r_mb_14 C
  · have hj : j < 1 := hj
    have e : j = 0 := by omega
    subst e
    exact r_mb_20 C
  · have hj : j < 1 := hj
    have e : j = 0 := by omega
    subst e
    exact r_mb_30 C
  · have hj : j < 3 := hj
    rcases (by omega : j = 0 ∨ j = 1 ∨ j = 2) with rfl | rfl | rfl
    · exact r_mb_40 C
    · exact r_mb_41 C
    · exact r_mb_42 C
end RMB
