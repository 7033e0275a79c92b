def sLack (q : Int32) : Int32 := imax (5 - q) 0
def sMid (G : Nat → Int32) : Int32 := imax (imin (G 2) (G 3)) (imin (imax (G 2) (G 3)) (G 4))
def sCus (T : Nat → Int32) (t : Nat) : Int32 := T (5 * t + 1) * T (5 * t + 3) / 100
def sWould (T G : Nat → Int32) (t : Nat) (q ahead : Int32) : Int32 :=
  if T (5 * t + 0) = 0 then T (5 * t + 3) else if T (5 * t + 0) = 1 then sCus T t else if T (5 * t + 0) = 2 then (T (5 * t + 1) + sCus T t + 9) / 10 * 10 - T (5 * t + 1) else if T (5 * t + 0) = 3 then sCus T t + q * T (5 * t + 2) else if T (5 * t + 0) = 4 then T (5 * t + 1) * sMid G / 100 else if T (5 * t + 0) = 5 then imax (sCus T t) ahead else if T (5 * t + 0) = 6 then imax (sCus T t + q * T (5 * t + 2) - T (5 * t + 3) * sLack q) 0 else sCus T t
def sGift (T G : Nat → Int32) (t : Nat) (q ahead : Int32) : Int32 := T (5 * t + 1) * G 1 / 100 + imax (sWould T G t q ahead - T (5 * t + 1) * G 1 / 100) 0
def sSvc (V : Nat → Int32) (x : Nat) : Int32 := V (6 * x + 0) + V (6 * x + 1)
def sSrv (T : Nat → Int32) (t : Nat) : Nat := (T (5 * t + 4)).toNatClampNeg
def sGv (T V G : Nat → Int32) : Nat → Int32
  | 0 => sGift T G 0 (sSvc V (sSrv T 0)) 0
  | t + 1 => sGift T G (t + 1) (sSvc V (sSrv T (t + 1))) (sGv T V G t)
def sAhd (f : Nat → Int32) (t : Nat) : Int32 := match t with
  | 0 => 0
  | t + 1 => f t
theorem sGv_eq (T V G : Nat → Int32) (t : Nat) : sGv T V G t = sGift T G t (sSvc V (sSrv T t)) (sAhd (sGv T V G) t) := by cases t <;> rfl
theorem q_lacking {d h : Nat} {w : zM} {x : Int32} : cal (d + 1) 1029 [.ref h, .int x] w = some (some (.int (sLack x)), w) := by
  simp only [c_1029, e_1029_0, e_1029_1, e_1029_2, e_1029_3, e_1029_4, e_1029_7, zk_int, zk_ref, zk_null, zk_none, zk_long, zisR_r, zisR_n, zcl_int, zcl_ref, zcl_null, zpush_s, zpush_n, zbs, zbn, true_or, or_true, not_false_eq_true, not_true_eq_false, ↓reduceIte, and_self, and_true, true_and]
  rfl
theorem q_roundedUp {d : Nat} {w : zM} {x : Int32} : cal (d + 1) 1032 [.int x] w = some (some (.int ((x + 9) / 10 * 10)), w) := by
  have h : ((10 : Int32) = 0) = False := by decide
  simp only [c_1032, e_1032_0, e_1032_1, e_1032_3, e_1032_4, e_1032_6, e_1032_7, e_1032_9, e_1032_10, zk_int, zk_ref, zk_null, zk_none, zk_long, zisR_r, zisR_n, zcl_int, zcl_ref, zcl_null, zpush_s, zpush_n, zbs, zbn, true_or, or_true, not_false_eq_true, not_true_eq_false, ↓reduceIte, and_self, and_true, true_and, h]
theorem q_middleNumber {d h : Nat} {w : zM} (H : zHs h) : cal (d + 1) 1030 [.ref h] w = some (some (.int (sMid (w.1 (h + 3)))), w) := by
  obtain ⟨f1, f2, f3, f4, f5, f6, f7, f8, f9, f10, f11, f12, f13⟩ := zHs_f H
  have q2 : ∀ (a : Nat) (w : zM), zTag a = 10 → 2 < zLen a → zLen a < 2147483648 → cal d 5054 [.ref a, .int 2] w = some (some (.int (w.1 a 2)), w) := fun a w h1 h2 h3 => q_at (j := 2) h1 h2 h3
  have q3 : ∀ (a : Nat) (w : zM), zTag a = 10 → 3 < zLen a → zLen a < 2147483648 → cal d 5054 [.ref a, .int 3] w = some (some (.int (w.1 a 3)), w) := fun a w h1 h2 h3 => q_at (j := 3) h1 h2 h3
  have q4 : ∀ (a : Nat) (w : zM), zTag a = 10 → 4 < zLen a → zLen a < 2147483648 → cal d 5054 [.ref a, .int 4] w = some (some (.int (w.1 a 4)), w) := fun a w h1 h2 h3 => q_at (j := 4) h1 h2 h3
  simp only [c_1030, e_1030_0, e_1030_1, e_1030_4, e_1030_5, e_1030_8, e_1030_9, e_1030_10, e_1030_13, e_1030_14, e_1030_17, e_1030_18, e_1030_19, e_1030_22, e_1030_23, e_1030_26, e_1030_27, e_1030_28, e_1030_29, e_1030_32, e_1030_33, e_1030_34, e_1030_37, e_1030_38, e_1030_41, e_1030_44, zk_int, zk_ref, zk_null, zk_none, zk_long, zisR_r, zisR_n, zcl_int, zcl_ref, zcl_null, zpush_s, zpush_n, zbs, zbn, true_or, or_true, not_false_eq_true, not_true_eq_false, ↓reduceIte, and_self, and_true, true_and, f1, f4, f8, f12, q2, q3, q4, Nat.reduceLT]
  rfl
theorem q_wouldGive {d h n m t : Nat} {w : zM} {q a : Int32} (C : zHc w h n m) (ht : t < n) : cal (d + 2) 1031 [.ref h, .int (nI t), .int q, .int a] w = some (some (.int (sWould (w.1 (h + 1)) (w.1 (h + 3)) t q a)), w) := by
  obtain ⟨H, c1, c2, c3, c4⟩ := id C
  obtain ⟨f1, -⟩ := zHs_f H
  have q0 := q_tablePart_0 (d := d) C ht
  have q1 := q_tablePart_1 (d := d) C ht
  have q2 := q_tablePart_2 (d := d) C ht
  have q3 := q_tablePart_3 (d := d) C ht
  simp only [c_1031, e_1031_0, e_1031_1, e_1031_2, e_1031_3, e_1031_6, e_1031_8, e_1031_9, e_1031_10, e_1031_11, e_1031_14, e_1031_16, e_1031_18, e_1031_20, e_1031_23, e_1031_25, e_1031_27, e_1031_28, e_1031_29, e_1031_30, e_1031_31, e_1031_34, e_1031_35, e_1031_36, e_1031_38, e_1031_39, e_1031_40, e_1031_41, e_1031_44, e_1031_88, e_1031_90, e_1031_91, e_1031_93, e_1031_95, e_1031_96, e_1031_99, e_1031_101, e_1031_102, e_1031_103, e_1031_105, e_1031_106, e_1031_108, e_1031_109, e_1031_112, e_1031_115, e_1031_116, e_1031_118, e_1031_119, e_1031_122, e_1031_123, e_1031_125, e_1031_127, e_1031_128, e_1031_129, e_1031_132, e_1031_133, e_1031_134, e_1031_135, e_1031_138, e_1031_139, e_1031_141, zk_int, zk_ref, zk_null, zk_none, zk_long, zisR_r, zisR_n, zcl_int, zcl_ref, zcl_null, zpush_s, zpush_n, zbs, zbn, true_or, or_true, not_false_eq_true, not_true_eq_false, ↓reduceIte, and_self, and_true, true_and, f1, q0, q1, q2, q3, q_hundredths, q_roundedUp, q_lacking, q_middleNumber H]
  unfold sWould
  repeat' split
  all_goals first | rfl | (exfalso; omega)
theorem q_giftWith {d h n m t : Nat} {w : zM} {q a : Int32} (C : zHc w h n m) (ht : t < n) : cal (d + 3) 1033 [.ref h, .int (nI t), .int q, .int a] w = some (some (.int (sGift (w.1 (h + 1)) (w.1 (h + 3)) t q a)), w) := by
  obtain ⟨H, c1, c2, c3, c4⟩ := id C
  obtain ⟨f1, -⟩ := zHs_f H
  have q1 := q_tablePart_1 (d := d + 1) C ht
  simp only [c_1033, e_1033_0, e_1033_1, e_1033_2, e_1033_3, e_1033_6, e_1033_7, e_1033_8, e_1033_11, e_1033_14, e_1033_16, e_1033_18, e_1033_19, e_1033_20, e_1033_21, e_1033_22, e_1033_25, e_1033_27, e_1033_28, e_1033_29, e_1033_32, e_1033_33, zk_int, zk_ref, zk_null, zk_none, zk_long, zisR_r, zisR_n, zcl_int, zcl_ref, zcl_null, zpush_s, zpush_n, zbs, zbn, true_or, or_true, not_false_eq_true, not_true_eq_false, ↓reduceIte, and_self, and_true, true_and, f1, q1, q_setting_1 H, q_hundredths, q_wouldGive C ht]
  rfl
theorem q_serviceOf {d h n m t : Nat} {w : zM} (C : zHc w h n m) (ht : t < m) : cal (d + 2) 1027 [.ref h, .int (nI t)] w = some (some (.int (sSvc (w.1 (h + 2)) t)), w) := by
  obtain ⟨H, c1, c2, c3, c4⟩ := id C
  obtain ⟨f1, -⟩ := zHs_f H
  have q0 := q_waiterPart_0 (d := d) C ht
  have q1 := q_waiterPart_1 (d := d) C ht
  simp only [c_1027, e_1027_0, e_1027_1, e_1027_2, e_1027_3, e_1027_6, e_1027_7, e_1027_8, e_1027_9, e_1027_12, e_1027_13, zk_int, zk_ref, zk_null, zk_none, zk_long, zisR_r, zisR_n, zcl_int, zcl_ref, zcl_null, zpush_s, zpush_n, zbs, zbn, true_or, or_true, not_false_eq_true, not_true_eq_false, ↓reduceIte, and_self, and_true, true_and, f1, q0, q1]
  rfl
theorem sSrv_of {w : zM} {h n m t : Nat} (Hv : zHv w h n m) (ht : t < n) (hm : m < 2 ^ 31) : sSrv (w.1 (h + 1)) t < m ∧ w.1 (h + 1) (5 * t + 4) = nI (sSrv (w.1 (h + 1)) t) := by
  obtain ⟨y, h1, h2⟩ := Hv t ht
  unfold sSrv
  rw [h2, nI_clamp (by omega)]
  exact ⟨h1, rfl⟩
theorem q_serviceAt {d h n m t : Nat} {w : zM} (C : zHc w h n m) (Hv : zHv w h n m) (ht : t < n) : cal (d + 3) 1028 [.ref h, .int (nI t)] w = some (some (.int (sSvc (w.1 (h + 2)) (sSrv (w.1 (h + 1)) t))), w) := by
  obtain ⟨H, c1, c2, c3, c4⟩ := id C
  obtain ⟨f1, -⟩ := zHs_f H
  obtain ⟨s1, s2⟩ := sSrv_of Hv ht (by omega)
  have q4 := q_tablePart_4 (d := d + 1) C ht
  rw [s2] at q4
  have q5 := q_serviceOf (d := d) C s1
  simp only [c_1028, e_1028_0, e_1028_1, e_1028_2, e_1028_3, e_1028_4, e_1028_7, e_1028_10, zk_int, zk_ref, zk_null, zk_none, zk_long, zisR_r, zisR_n, zcl_int, zcl_ref, zcl_null, zpush_s, zpush_n, zbs, zbn, true_or, or_true, not_false_eq_true, not_true_eq_false, ↓reduceIte, and_self, and_true, true_and, f1, q4, q5]
def sRk (w : zM) (h j : Nat) : zM := zuA w (h + 4) (zcpy (sGv (w.1 (h + 1)) (w.1 (h + 2)) (w.1 (h + 3))) (w.1 (h + 4)) j)
theorem q_reckon_l {d h n m : Nat} {w : zM} (C : zHc w h n m) (Hv : zHv w h n m) : ∀ r j, j + r = n → den (d + 4) 1034 4 [some (.ref h), some (.int (sAhd (sGv (w.1 (h + 1)) (w.1 (h + 2)) (w.1 (h + 3))) j)), some (.int (nI j))] [] (sRk w h j) = some (none, sRk w h n) := by
  obtain ⟨H, c1, c2, c3, c4⟩ := id C
  obtain ⟨f1, f2, f3, f4, f5, f6, f7, f8, f9, f10, f11, f12, f13⟩ := zHs_f H
  intro r
  induction r with
  | zero =>
    intro j hj
    have e : j = n := by omega
    subst e
    have g1 := nI_le_n (Nat.le_refl j) (by omega)
    have c1' : (sRk w h j).1 h 3 = nI j := by unfold sRk; rw [zA_n _ _ (by omega)]; exact c1
    simp only [c_1034, e_1034_0, e_1034_1, e_1034_2, e_1034_3, e_1034_4, e_1034_5, e_1034_6, e_1034_9, e_1034_12, e_1034_13, e_1034_14, e_1034_15, e_1034_16, e_1034_19, e_1034_20, e_1034_23, e_1034_24, e_1034_25, e_1034_28, e_1034_29, e_1034_30, e_1034_33, e_1034_36, e_1034_39, zk_int, zk_ref, zk_null, zk_none, zk_long, zisR_r, zisR_n, zcl_int, zcl_ref, zcl_null, zpush_s, zpush_n, zbs, zbn, true_or, or_true, not_false_eq_true, not_true_eq_false, ↓reduceIte, and_self, and_true, true_and, f1, c1', g1]
  | succ r ih =>
    intro j hj
    have hjn : j < n := by omega
    have g1 := nI_ge_f hjn (by omega)
    have C' : zHc (sRk w h j) h n m := zHc_A C (by omega)
    have e1 : (sRk w h j).1 (h + 1) = w.1 (h + 1) := zA_n _ _ (by omega)
    have e2 : (sRk w h j).1 (h + 2) = w.1 (h + 2) := zA_n _ _ (by omega)
    have e3 : (sRk w h j).1 (h + 3) = w.1 (h + 3) := zA_n _ _ (by omega)
    have e4 : (sRk w h j).1 (h + 4) = zcpy (sGv (w.1 (h + 1)) (w.1 (h + 2)) (w.1 (h + 3))) (w.1 (h + 4)) j := zA_s _ _ _
    have Hv' : zHv (sRk w h j) h n m := by intro t ht; rw [e1]; exact Hv t ht
    have q1 := q_serviceAt (d := d) C' Hv' hjn
    have q2 := fun q a => q_giftWith (d := d) (q := q) (a := a) C' hjn
    have q3 := fun v => q_put (d := d + 3) (a := h + 4) (j := j) (w := sRk w h j) (v := v) f9 (by rw [f13]; omega) (by rw [f13]; decide)
    have c1' := C'.2.1
    rw [e1, e2] at q1
    rw [e1, e3] at q2
    rw [e4] at q3
    have e5 : ∀ v, zuA (sRk w h j) (h + 4) v = zuA w (h + 4) v := fun v => zA_A _ _ _ _
    have e6 := sGv_eq (w.1 (h + 1)) (w.1 (h + 2)) (w.1 (h + 3)) j
    rw [e_1034_4]
    simp only [c_1034, e_1034_0, e_1034_1, e_1034_2, e_1034_3, e_1034_5, e_1034_6, e_1034_9, e_1034_12, e_1034_13, e_1034_14, e_1034_15, e_1034_16, e_1034_19, e_1034_20, e_1034_23, e_1034_24, e_1034_25, e_1034_28, e_1034_29, e_1034_30, e_1034_33, e_1034_36, e_1034_39, zk_int, zk_ref, zk_null, zk_none, zk_long, zisR_r, zisR_n, zcl_int, zcl_ref, zcl_null, zpush_s, zpush_n, zbs, zbn, true_or, or_true, not_false_eq_true, not_true_eq_false, ↓reduceIte, and_self, and_true, true_and, f1, f5, c1', g1, q1, q2, q3, e5, nI_1, ← e6, zcpy_s]
    exact ih (j + 1) (by omega)
theorem q_reckon {d h n m : Nat} {w : zM} (C : zHc w h n m) (Hv : zHv w h n m) : cal (d + 4) 1034 [.ref h] w = some (none, sRk w h n) := by
  have h1 := q_reckon_l (d := d) C Hv n 0 (by omega)
  have e0 : sRk w h 0 = w := by unfold sRk; rw [zcpy_0, zA_id]
  rw [e0] at h1
  simp only [c_1034, e_1034_0, e_1034_1, e_1034_2, e_1034_3, e_1034_5, e_1034_6, e_1034_9, e_1034_12, e_1034_13, e_1034_14, e_1034_15, e_1034_16, e_1034_19, e_1034_20, e_1034_23, e_1034_24, e_1034_25, e_1034_28, e_1034_29, e_1034_30, e_1034_33, e_1034_36, e_1034_39, zk_int, zk_ref, zk_null, zk_none, zk_long, zisR_r, zisR_n, zcl_int, zcl_ref, zcl_null, zpush_s, zpush_n, zbs, zbn, true_or, or_true, not_false_eq_true, not_true_eq_false, ↓reduceIte, and_self, and_true, true_and]
  exact h1
