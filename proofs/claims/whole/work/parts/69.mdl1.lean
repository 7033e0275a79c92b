def zMs (w : zM) (T V G : Nat → Int32) : Prop :=
  (∀ t, t < 8 → w.1 52 t = T (5 * t + 0) ∧ w.1 53 t = T (5 * t + 1) ∧ w.1 54 t = T (5 * t + 2) ∧ w.1 55 t = T (5 * t + 3) ∧ w.1 56 t = T (5 * t + 4)) ∧
  (∀ x, x < 4 → w.1 57 x = V (6 * x + 0) ∧ w.1 58 x = V (6 * x + 1) ∧ w.1 59 x = V (6 * x + 2) ∧ w.1 60 x = V (6 * x + 3) ∧ w.1 61 x = V (6 * x + 4) ∧ w.1 62 x = V (6 * x + 5)) ∧
  w.1 50 2 = G 0 ∧ w.1 50 3 = G 1 ∧ w.1 63 0 = G 2 ∧ w.1 63 1 = G 3 ∧ w.1 63 2 = G 4
def zMn (w : zM) (n m : Nat) : Prop := w.1 50 0 = nI n ∧ w.1 50 1 = nI m ∧ n ≤ 8 ∧ m ≤ 4
theorem zis3 {k : Nat} (h : k < 3) : zis (nI k) 3 = true := zis_nI h (by decide)
section MA
variable {d n m : Nat} {w : zM} {T V G : Nat → Int32}
theorem m_custom {t : Nat} (A : zMs w T V G) (ht : t < 8) : cal d 6044 [.ref 50, .int (nI t)] w = some (some (.int (sCus T t)), w) := by
  obtain ⟨a0, a1, a2, a3, a4⟩ := A.1 t ht
  have hz := zis_nI ht (by decide)
  have hc := nI_clamp (n := t) (by omega)
  simp only [c_6044, e_6044_0, e_6044_1, e_6044_4, e_6044_5, e_6044_6, e_6044_7, e_6044_10, e_6044_11, e_6044_12, e_6044_13, e_6044_15, e_6044_16, zk_int, zk_ref, zk_null, zk_none, zk_long, zisR_r, zisR_n, zcl_int, zcl_ref, zcl_null, zpush_s, zpush_n, zbs, zbn, true_or, or_true, not_false_eq_true, not_true_eq_false, ↓reduceIte, and_self, and_true, true_and, zt_50, zr_50_10, zt_53, zn_53, zo_53, zl_53, zq_53, zr_50_12, zt_55, zn_55, zo_55, zl_55, zq_55, hz, hc, a1, a3, i32_100]
  rfl
theorem m_service {t y : Nat} (A : zMs w T V G) (ht : t < 8) (hy : y < 4) (hs : T (5 * t + 4) = nI y) : cal d 6042 [.ref 50, .int (nI t)] w = some (some (.int (sSvc V y)), w) := by
  obtain ⟨a0, a1, a2, a3, a4⟩ := A.1 t ht
  obtain ⟨v0, v1, -⟩ := A.2.1 y hy
  have hz := zis_nI ht (by decide)
  have hc := nI_clamp (n := t) (by omega)
  have hz2 := zis_nI hy (by decide)
  have hc2 := nI_clamp (n := y) (by omega)
  simp only [c_6042, e_6042_0, e_6042_1, e_6042_4, e_6042_5, e_6042_8, e_6042_9, e_6042_10, e_6042_11, e_6042_12, e_6042_15, e_6042_16, e_6042_19, e_6042_20, e_6042_21, e_6042_22, e_6042_23, zk_int, zk_ref, zk_null, zk_none, zk_long, zisR_r, zisR_n, zcl_int, zcl_ref, zcl_null, zpush_s, zpush_n, zbs, zbn, true_or, or_true, not_false_eq_true, not_true_eq_false, ↓reduceIte, and_self, and_true, true_and, zt_50, zr_50_13, zt_56, zn_56, zo_56, zl_56, zq_56, zr_50_14, zt_57, zn_57, zo_57, zl_57, zq_57, zr_50_15, zt_58, zn_58, zo_58, zl_58, zq_58, hz, hc, a4, hs, hz2, hc2, v0, v1]
  rfl
theorem sLack_m {q : Int32} (h : zBt q 0 10) : sLack q = if 5 ≤ q then 0 else 5 - q := by
  have e := sLack_b h
  obtain ⟨h0, h1⟩ := h
  rw [ti_eq, e]
  have e2 := ti_sub (x := 5) (y := q) (by rw [ti_5]; omega) (by rw [ti_5]; omega)
  rw [ti_5] at e2
  split
  · rename_i c
    rw [ti_le, ti_5] at c
    rw [ti_0]
    omega
  · rename_i c
    rw [ti_le, ti_5] at c
    rw [e2]
    omega
theorem m_lacks {t y : Nat} (A : zMs w T V G) (ht : t < 8) (hy : y < 4) (hs : T (5 * t + 4) = nI y) (hb : zBt (sSvc V y) 0 10) : cal (d + 1) 6043 [.ref 50, .int (nI t)] w = some (some (.int (sLack (sSvc V y))), w) := by
  have q := m_service (d := d) A ht hy hs
  rw [sLack_m hb]
  simp only [c_6043, e_6043_0, e_6043_1, e_6043_2, e_6043_5, e_6043_6, e_6043_7, e_6043_8, e_6043_11, e_6043_12, e_6043_13, e_6043_14, e_6043_17, e_6043_18, zk_int, zk_ref, zk_null, zk_none, zk_long, zisR_r, zisR_n, zcl_int, zcl_ref, zcl_null, zpush_s, zpush_n, zbs, zbn, true_or, or_true, not_false_eq_true, not_true_eq_false, ↓reduceIte, and_self, and_true, true_and, zt_50, q]
  split <;> rfl
theorem sMid_m : sMid G = if G 4 < imin (G 2) (G 3) then imin (G 2) (G 3) else if imax (G 2) (G 3) < G 4 then imax (G 2) (G 3) else G 4 := by
  unfold sMid
  rw [ti_eq, ti_max, ti_min, ti_min, ti_max]
  split
  · rename_i h
    rw [ti_lt, ti_min] at h
    rw [ti_min]
    omega
  · rename_i h
    rw [ti_lt, ti_min] at h
    split
    · rename_i h2
      rw [ti_lt, ti_max] at h2
      rw [ti_max]
      omega
    · rename_i h2
      rw [ti_lt, ti_max] at h2
      omega
theorem m_middle (A : zMs w T V G) : cal d 6045 [.ref 50] w = some (some (.int (sMid G)), w) := by
  obtain ⟨-, -, -, -, g2, g3, g4⟩ := A
  have z0 : zis 0 3 = true := zis3 (k := 0) (by decide)
  have z1 : zis 1 3 = true := zis3 (k := 1) (by decide)
  have z2 : zis 2 3 = true := zis3 (k := 2) (by decide)
  have c0 : (0 : Int32).toNatClampNeg = 0 := by decide
  have c1 : (1 : Int32).toNatClampNeg = 1 := by decide
  have c2 : (2 : Int32).toNatClampNeg = 2 := by decide
  rw [sMid_m]
  have i1 : imin (G 2) (G 3) = if G 2 < G 3 then G 2 else G 3 := by
    rw [ti_eq, ti_min]
    split
    · rename_i h; rw [ti_lt] at h; omega
    · rename_i h; rw [ti_lt] at h; omega
  have i2 : imax (G 2) (G 3) = if G 2 < G 3 then G 3 else G 2 := rfl
  rw [i1, i2]
  by_cases h : G 2 < G 3
  · have h' : (G 3 ≤ G 2) = False := eq_false (Int32.not_le.mpr h)
    by_cases h2 : G 4 < G 2
    · have h2' : (G 2 ≤ G 4) = False := eq_false (Int32.not_le.mpr h2)
      simp only [c_6045, e_6045_0, e_6045_1, e_6045_4, e_6045_5, e_6045_6, e_6045_7, e_6045_8, e_6045_11, e_6045_12, e_6045_13, e_6045_14, e_6045_15, e_6045_18, e_6045_19, e_6045_20, e_6045_21, e_6045_22, e_6045_23, e_6045_26, e_6045_27, e_6045_30, e_6045_31, e_6045_33, e_6045_34, e_6045_35, e_6045_38, e_6045_39, e_6045_42, e_6045_43, e_6045_45, e_6045_46, e_6045_48, e_6045_51, e_6045_53, e_6045_56, e_6045_57, e_6045_59, e_6045_62, e_6045_64, e_6045_67, e_6045_68, zk_int, zk_ref, zk_null, zk_none, zk_long, zisR_r, zisR_n, zcl_int, zcl_ref, zcl_null, zpush_s, zpush_n, zbs, zbn, true_or, or_true, not_false_eq_true, not_true_eq_false, ↓reduceIte, and_self, and_true, true_and, zt_50, zr_50_20, zt_63, zn_63, zo_63, zl_63, zq_63, z0, z1, z2, c0, c1, c2, g2, g3, g4, h, h', h2, h2']
    · have h2' : (G 2 ≤ G 4) = True := eq_true (Int32.not_lt.mp h2)
      by_cases h3 : G 3 < G 4
      · have h3' : (G 4 ≤ G 3) = False := eq_false (Int32.not_le.mpr h3)
        simp only [c_6045, e_6045_0, e_6045_1, e_6045_4, e_6045_5, e_6045_6, e_6045_7, e_6045_8, e_6045_11, e_6045_12, e_6045_13, e_6045_14, e_6045_15, e_6045_18, e_6045_19, e_6045_20, e_6045_21, e_6045_22, e_6045_23, e_6045_26, e_6045_27, e_6045_30, e_6045_31, e_6045_33, e_6045_34, e_6045_35, e_6045_38, e_6045_39, e_6045_42, e_6045_43, e_6045_45, e_6045_46, e_6045_48, e_6045_51, e_6045_53, e_6045_56, e_6045_57, e_6045_59, e_6045_62, e_6045_64, e_6045_67, e_6045_68, zk_int, zk_ref, zk_null, zk_none, zk_long, zisR_r, zisR_n, zcl_int, zcl_ref, zcl_null, zpush_s, zpush_n, zbs, zbn, true_or, or_true, not_false_eq_true, not_true_eq_false, ↓reduceIte, and_self, and_true, true_and, zt_50, zr_50_20, zt_63, zn_63, zo_63, zl_63, zq_63, z0, z1, z2, c0, c1, c2, g2, g3, g4, h, h', h2, h2', h3, h3']
      · have h3' : (G 4 ≤ G 3) = True := eq_true (Int32.not_lt.mp h3)
        simp only [c_6045, e_6045_0, e_6045_1, e_6045_4, e_6045_5, e_6045_6, e_6045_7, e_6045_8, e_6045_11, e_6045_12, e_6045_13, e_6045_14, e_6045_15, e_6045_18, e_6045_19, e_6045_20, e_6045_21, e_6045_22, e_6045_23, e_6045_26, e_6045_27, e_6045_30, e_6045_31, e_6045_33, e_6045_34, e_6045_35, e_6045_38, e_6045_39, e_6045_42, e_6045_43, e_6045_45, e_6045_46, e_6045_48, e_6045_51, e_6045_53, e_6045_56, e_6045_57, e_6045_59, e_6045_62, e_6045_64, e_6045_67, e_6045_68, zk_int, zk_ref, zk_null, zk_none, zk_long, zisR_r, zisR_n, zcl_int, zcl_ref, zcl_null, zpush_s, zpush_n, zbs, zbn, true_or, or_true, not_false_eq_true, not_true_eq_false, ↓reduceIte, and_self, and_true, true_and, zt_50, zr_50_20, zt_63, zn_63, zo_63, zl_63, zq_63, z0, z1, z2, c0, c1, c2, g2, g3, g4, h, h', h2, h2', h3, h3']
  · have h' : (G 3 ≤ G 2) = True := eq_true (Int32.not_lt.mp h)
    by_cases h2 : G 4 < G 3
    · have h2' : (G 3 ≤ G 4) = False := eq_false (Int32.not_le.mpr h2)
      simp only [c_6045, e_6045_0, e_6045_1, e_6045_4, e_6045_5, e_6045_6, e_6045_7, e_6045_8, e_6045_11, e_6045_12, e_6045_13, e_6045_14, e_6045_15, e_6045_18, e_6045_19, e_6045_20, e_6045_21, e_6045_22, e_6045_23, e_6045_26, e_6045_27, e_6045_30, e_6045_31, e_6045_33, e_6045_34, e_6045_35, e_6045_38, e_6045_39, e_6045_42, e_6045_43, e_6045_45, e_6045_46, e_6045_48, e_6045_51, e_6045_53, e_6045_56, e_6045_57, e_6045_59, e_6045_62, e_6045_64, e_6045_67, e_6045_68, zk_int, zk_ref, zk_null, zk_none, zk_long, zisR_r, zisR_n, zcl_int, zcl_ref, zcl_null, zpush_s, zpush_n, zbs, zbn, true_or, or_true, not_false_eq_true, not_true_eq_false, ↓reduceIte, and_self, and_true, true_and, zt_50, zr_50_20, zt_63, zn_63, zo_63, zl_63, zq_63, z0, z1, z2, c0, c1, c2, g2, g3, g4, h, h', h2, h2']
    · have h2' : (G 3 ≤ G 4) = True := eq_true (Int32.not_lt.mp h2)
      by_cases h3 : G 2 < G 4
      · have h3' : (G 4 ≤ G 2) = False := eq_false (Int32.not_le.mpr h3)
        simp only [c_6045, e_6045_0, e_6045_1, e_6045_4, e_6045_5, e_6045_6, e_6045_7, e_6045_8, e_6045_11, e_6045_12, e_6045_13, e_6045_14, e_6045_15, e_6045_18, e_6045_19, e_6045_20, e_6045_21, e_6045_22, e_6045_23, e_6045_26, e_6045_27, e_6045_30, e_6045_31, e_6045_33, e_6045_34, e_6045_35, e_6045_38, e_6045_39, e_6045_42, e_6045_43, e_6045_45, e_6045_46, e_6045_48, e_6045_51, e_6045_53, e_6045_56, e_6045_57, e_6045_59, e_6045_62, e_6045_64, e_6045_67, e_6045_68, zk_int, zk_ref, zk_null, zk_none, zk_long, zisR_r, zisR_n, zcl_int, zcl_ref, zcl_null, zpush_s, zpush_n, zbs, zbn, true_or, or_true, not_false_eq_true, not_true_eq_false, ↓reduceIte, and_self, and_true, true_and, zt_50, zr_50_20, zt_63, zn_63, zo_63, zl_63, zq_63, z0, z1, z2, c0, c1, c2, g2, g3, g4, h, h', h2, h2', h3, h3']
      · have h3' : (G 4 ≤ G 2) = True := eq_true (Int32.not_lt.mp h3)
        simp only [c_6045, e_6045_0, e_6045_1, e_6045_4, e_6045_5, e_6045_6, e_6045_7, e_6045_8, e_6045_11, e_6045_12, e_6045_13, e_6045_14, e_6045_15, e_6045_18, e_6045_19, e_6045_20, e_6045_21, e_6045_22, e_6045_23, e_6045_26, e_6045_27, e_6045_30, e_6045_31, e_6045_33, e_6045_34, e_6045_35, e_6045_38, e_6045_39, e_6045_42, e_6045_43, e_6045_45, e_6045_46, e_6045_48, e_6045_51, e_6045_53, e_6045_56, e_6045_57, e_6045_59, e_6045_62, e_6045_64, e_6045_67, e_6045_68, zk_int, zk_ref, zk_null, zk_none, zk_long, zisR_r, zisR_n, zcl_int, zcl_ref, zcl_null, zpush_s, zpush_n, zbs, zbn, true_or, or_true, not_false_eq_true, not_true_eq_false, ↓reduceIte, and_self, and_true, true_and, zt_50, zr_50_20, zt_63, zn_63, zo_63, zl_63, zq_63, z0, z1, z2, c0, c1, c2, g2, g3, g4, h, h', h2, h2', h3, h3']
theorem rnd_m {b c : Int32} (hb : zBt b 1 999) (hc : zBt c 0 989) : (b + c + 9) / 10 * 10 - b = if c + b - (c + b) / 10 * 10 = 0 then c else c + 10 - (c + b - (c + b) / 10 * 10) := by
  obtain ⟨b0, b1⟩ := hb
  obtain ⟨c0, c1⟩ := hc
  have e1 := ti_add (x := b) (y := c) (by omega) (by omega)
  have e2 := ti_add (x := b + c) (y := 9) (by rw [ti_9]; omega) (by rw [ti_9]; omega)
  rw [ti_9, e1] at e2
  have e3 := ti_div (x := b + c + 9) (y := 10) (by omega) (by decide)
  rw [ti_10, e2] at e3
  have e4 := ti_mul (x := (b + c + 9) / 10) (y := 10) (by rw [ti_10]; omega) (by rw [ti_10]; omega)
  rw [ti_10, e3] at e4
  have e5 := ti_sub (x := (b + c + 9) / 10 * 10) (y := b) (by omega) (by omega)
  rw [e4] at e5
  have f1 := ti_add (x := c) (y := b) (by omega) (by omega)
  have f3 := ti_div (x := c + b) (y := 10) (by omega) (by decide)
  rw [ti_10, f1] at f3
  have f4 := ti_mul (x := (c + b) / 10) (y := 10) (by rw [ti_10]; omega) (by rw [ti_10]; omega)
  rw [ti_10, f3] at f4
  have f5 := ti_sub (x := c + b) (y := (c + b) / 10 * 10) (by omega) (by omega)
  rw [f1, f4] at f5
  have f6 := ti_add (x := c) (y := 10) (by rw [ti_10]; omega) (by rw [ti_10]; omega)
  rw [ti_10] at f6
  have f7 := ti_sub (x := c + 10) (y := c + b - (c + b) / 10 * 10) (by omega) (by omega)
  rw [ti_eq, e5]
  split
  · rename_i h
    rw [ti_eq, f5, ti_0] at h
    omega
  · rename_i h
    rw [ti_eq, f5, ti_0] at h
    rw [f7, f6, f5]
    omega
theorem kind_c {k : Int32} (h : zBt k 0 6) : k = 0 ∨ k = 1 ∨ k = 2 ∨ k = 3 ∨ k = 4 ∨ k = 5 ∨ k = 6 := by
  obtain ⟨h0, h1⟩ := h
  have e2 : (2 : Int32).toInt = 2 := by decide
  have e3 : (3 : Int32).toInt = 3 := by decide
  have e4 : (4 : Int32).toInt = 4 := by decide
  have e6 : (6 : Int32).toInt = 6 := by decide
  rw [ti_eq, ti_eq, ti_eq, ti_eq, ti_eq, ti_eq, ti_eq, ti_0, ti_1, ti_5, e2, e3, e4, e6]
  omega
end MA
