section FA
variable {d : Nat} {w : zM}
def fRf (w : zM) (j : Nat) : zM := zuA w 33 (upd (w.1 33) j (w.1 33 j + 1))
theorem f_refuse {c : Int32} {j : Nat} (hj : j < 8) (hc : -c = nI j) : cal (d + 1) 5045 [.ref 0, .int c] w = some (some (.int c), fRf w j) := by
  have a1 := q_at (d := d) (a := 33) (j := j) (w := w) zt_33 (by rw [zn_33]; omega) (by rw [zn_33]; decide)
  have p1 := fun v => q_put (d := d) (a := 33) (j := j) (w := w) (v := v) zt_33 (by rw [zn_33]; omega) (by rw [zn_33]; decide)
  simp only [c_5045, e_5045_0, e_5045_1, e_5045_4, e_5045_5, e_5045_6, e_5045_7, e_5045_10, e_5045_11, e_5045_12, e_5045_15, e_5045_16, e_5045_17, e_5045_20, e_5045_21, zk_int, zk_ref, zk_null, zk_none, zk_long, zisR_r, zisR_n, zcl_int, zcl_ref, zcl_null, zpush_s, zpush_n, zbs, zbn, true_or, or_true, not_false_eq_true, not_true_eq_false, ↓reduceIte, and_self, and_true, true_and, zt_0, zr_0_6, zt_33, hc, a1, p1]
  rfl
theorem f_refuseFar {c : Int32} {j : Nat} (hj : j < 8) (hc : -c = nI j) : cal (d + 2) 5046 [.ref 0, .int c] w = some (some (.int (c + -1000000)), fRf w j) := by
  have r1 := f_refuse (d := d) (w := w) hj hc
  simp only [c_5046, e_5046_0, e_5046_1, e_5046_2, e_5046_5, e_5046_8, e_5046_9, zk_int, zk_ref, zk_null, zk_none, zk_long, zisR_r, zisR_n, zcl_int, zcl_ref, zcl_null, zpush_s, zpush_n, zbs, zbn, true_or, or_true, not_false_eq_true, not_true_eq_false, ↓reduceIte, and_self, and_true, true_and, zt_0, r1]
theorem f_answer {x : Int32} (hx : ¬ x < 0) : cal (d + 2) 5047 [.ref 0, .int x] w = some (some (.int x), w) := by
  have hx2 : 0 ≤ x := Int32.not_lt.mp hx
  simp only [c_5047, e_5047_0, e_5047_1, e_5047_4, e_5047_5, e_5047_6, e_5047_9, e_5047_12, e_5047_13, zk_int, zk_ref, zk_null, zk_none, zk_long, zisR_r, zisR_n, zcl_int, zcl_ref, zcl_null, zpush_s, zpush_n, zbs, zbn, true_or, or_true, not_false_eq_true, not_true_eq_false, ↓reduceIte, and_self, and_true, true_and, zt_0, hx2]
theorem f_answer_b {c : Int32} {j : Nat} (hj : j < 8) (hc : -c = nI j) (h0 : c < 0) : cal (d + 2) 5047 [.ref 0, .int c] w = some (some (.int c), fRf w j) := by
  have r1 := f_refuse (d := d) (w := w) hj hc
  have hx2 : ¬ 0 ≤ c := Int32.not_le.mpr h0
  simp only [c_5047, e_5047_0, e_5047_1, e_5047_4, e_5047_5, e_5047_6, e_5047_9, e_5047_12, e_5047_13, zk_int, zk_ref, zk_null, zk_none, zk_long, zisR_r, zisR_n, zcl_int, zcl_ref, zcl_null, zpush_s, zpush_n, zbs, zbn, true_or, or_true, not_false_eq_true, not_true_eq_false, ↓reduceIte, and_self, and_true, true_and, zt_0, hx2, r1]
theorem f_shelfAt_o {x : Int32} (hx : x < 0 ∨ 8 ≤ x) : cal d 5048 [.ref 0, .int x] w = some (some .null, w) := by
  by_cases h0 : x < 0
  · simp only [c_5048, e_5048_0, e_5048_1, e_5048_4, e_5048_5, e_5048_6, e_5048_9, e_5048_10, e_5048_13, e_5048_14, e_5048_17, e_5048_18, e_5048_19, e_5048_22, e_5048_23, zk_int, zk_ref, zk_null, zk_none, zk_long, zisR_r, zisR_n, zcl_int, zcl_ref, zcl_null, zpush_s, zpush_n, zbs, zbn, true_or, or_true, not_false_eq_true, not_true_eq_false, ↓reduceIte, and_self, and_true, true_and, zt_0, h0]
  · have h1 : (Int32.ofNat 8 ≤ x) = True := eq_true (hx.resolve_left h0)
    simp only [c_5048, e_5048_0, e_5048_1, e_5048_4, e_5048_5, e_5048_6, e_5048_9, e_5048_10, e_5048_13, e_5048_14, e_5048_17, e_5048_18, e_5048_19, e_5048_22, e_5048_23, zk_int, zk_ref, zk_null, zk_none, zk_long, zisR_r, zisR_n, zcl_int, zcl_ref, zcl_null, zpush_s, zpush_n, zbs, zbn, true_or, or_true, not_false_eq_true, not_true_eq_false, ↓reduceIte, and_self, and_true, true_and, zt_0, zr_0_5, zt_32, zn_32, h0, h1]
theorem f_shelfAt {j : Nat} (hj : j < 8) : cal d 5048 [.ref 0, .int (nI j)] w = some (some (.ref (34 + 2 * j)), w) := by
  have h0 : (nI j < 0) = False := nI_lt0 (by omega)
  have h1 : (Int32.ofNat 8 ≤ nI j) = False := nI_ge_f (a := j) (b := 8) hj (by omega)
  have hz := zis_nI hj (by omega : 8 < 2 ^ 31)
  have h3 : (nI j).toNatClampNeg = j := nI_clamp (by omega)
  have hr : zref 32 j = 34 + 2 * j := by
    rcases (by omega : j = 0 ∨ j = 1 ∨ j = 2 ∨ j = 3 ∨ j = 4 ∨ j = 5 ∨ j = 6 ∨ j = 7) with rfl | rfl | rfl | rfl | rfl | rfl | rfl | rfl <;> decide +kernel
  simp only [c_5048, e_5048_0, e_5048_1, e_5048_4, e_5048_5, e_5048_6, e_5048_9, e_5048_10, e_5048_13, e_5048_14, e_5048_17, e_5048_18, e_5048_19, e_5048_22, e_5048_23, zk_int, zk_ref, zk_null, zk_none, zk_long, zisR_r, zisR_n, zcl_int, zcl_ref, zcl_null, zpush_s, zpush_n, zbs, zbn, true_or, or_true, not_false_eq_true, not_true_eq_false, ↓reduceIte, and_self, and_true, true_and, zt_0, zr_0_5, zt_32, zn_32, h0, h1, hz, h3, hr]
theorem f_rowRef_n : cal (d + 1) 5049 [.null] w = some (some (.int (-1)), w) := by
  simp only [c_5049, c_5049_n, e_5049_0, e_5049_1n, e_5049_1r, e_5049_4, e_5049_5, e_5049_6, e_5049_7, e_5049_10, e_5049_13, e_5049_15, e_5049_16, e_5049_17, e_5049_20, e_5049_23, e_5049_24, e_5049_27, e_5049_29, zk_int, zk_ref, zk_null, zk_none, zk_long, zisR_r, zisR_n, zcl_int, zcl_ref, zcl_null, zpush_s, zpush_n, zbs, zbn, true_or, or_true, not_false_eq_true, not_true_eq_false, ↓reduceIte, and_self, and_true, true_and]
theorem f_rowRef {h : Nat} (H : zSs h) : cal (d + 1) 5049 [.ref h] w = some (some (.int (if 100 ≤ w.1 h 1 then 0 else if w.1 h 1 = -1 then -3 else -2)), w) := by
  have th := (zSs_f H).1
  have g := q_hasGuests (d := d) (w := w) H
  have r := q_hasRow (d := d) (w := w) H
  have e10 : ((1 : Int32) = 0) = False := eq_false (by decide)
  by_cases h1 : 100 ≤ w.1 h 1
  · rw [if_neg (fun q => q.2 h1)] at g
    rw [if_pos h1] at r ⊢
    simp only [c_5049, c_5049_n, e_5049_0, e_5049_1n, e_5049_1r, e_5049_4, e_5049_5, e_5049_6, e_5049_7, e_5049_10, e_5049_13, e_5049_15, e_5049_16, e_5049_17, e_5049_20, e_5049_23, e_5049_24, e_5049_27, e_5049_29, zk_int, zk_ref, zk_null, zk_none, zk_long, zisR_r, zisR_n, zcl_int, zcl_ref, zcl_null, zpush_s, zpush_n, zbs, zbn, true_or, or_true, not_false_eq_true, not_true_eq_false, ↓reduceIte, and_self, and_true, true_and, th, g, r, e10]
  · rw [if_neg h1] at r ⊢
    by_cases h2 : w.1 h 1 = -1
    · rw [if_neg (fun q => q.1 h2)] at g
      rw [if_pos h2]
      simp only [c_5049, c_5049_n, e_5049_0, e_5049_1n, e_5049_1r, e_5049_4, e_5049_5, e_5049_6, e_5049_7, e_5049_10, e_5049_13, e_5049_15, e_5049_16, e_5049_17, e_5049_20, e_5049_23, e_5049_24, e_5049_27, e_5049_29, zk_int, zk_ref, zk_null, zk_none, zk_long, zisR_r, zisR_n, zcl_int, zcl_ref, zcl_null, zpush_s, zpush_n, zbs, zbn, true_or, or_true, not_false_eq_true, not_true_eq_false, ↓reduceIte, and_self, and_true, true_and, th, g, r, e10]
    · rw [if_pos ⟨h2, h1⟩] at g
      rw [if_neg h2]
      simp only [c_5049, c_5049_n, e_5049_0, e_5049_1n, e_5049_1r, e_5049_4, e_5049_5, e_5049_6, e_5049_7, e_5049_10, e_5049_13, e_5049_15, e_5049_16, e_5049_17, e_5049_20, e_5049_23, e_5049_24, e_5049_27, e_5049_29, zk_int, zk_ref, zk_null, zk_none, zk_long, zisR_r, zisR_n, zcl_int, zcl_ref, zcl_null, zpush_s, zpush_n, zbs, zbn, true_or, or_true, not_false_eq_true, not_true_eq_false, ↓reduceIte, and_self, and_true, true_and, th, g, r, e10]
theorem f_fault : cal d 3002 [.ref 25] w = some (some (.int (w.1 25 3)), w) := by
  simp only [c_3002, e_3002_0, e_3002_1, e_3002_4, zk_int, zk_ref, zk_null, zk_none, zk_long, zisR_r, zisR_n, zcl_int, zcl_ref, zcl_null, zpush_s, zpush_n, zbs, zbn, true_or, or_true, not_false_eq_true, not_true_eq_false, ↓reduceIte, and_self, and_true, true_and, zt_25]
theorem f_draft : cal d 3001 [.ref 25] w = some (some (.ref 26), w) := by
  simp only [c_3001, e_3001_0, e_3001_1, e_3001_4, zk_int, zk_ref, zk_null, zk_none, zk_long, zisR_r, zisR_n, zcl_int, zcl_ref, zcl_null, zpush_s, zpush_n, zbs, zbn, true_or, or_true, not_false_eq_true, not_true_eq_false, ↓reduceIte, and_self, and_true, true_and, zt_25, zr_25_0]
theorem f_value : cal d 2026 [.ref 13] w = some (some (.int (w.1 13 10)), w) := by
  simp only [c_2026, e_2026_0, e_2026_1, e_2026_4, zk_int, zk_ref, zk_null, zk_none, zk_long, zisR_r, zisR_n, zcl_int, zcl_ref, zcl_null, zpush_s, zpush_n, zbs, zbn, true_or, or_true, not_false_eq_true, not_true_eq_false, ↓reduceIte, and_self, and_true, true_and, zt_13]
theorem f_server {t : Nat} (ht : t < 8) : cal (d + 1) 2027 [.ref 13, .int (nI t)] w = some (some (.int (w.1 24 t)), w) := by
  have a1 := q_at (d := d) (a := 24) (j := t) (w := w) zt_24 (by rw [zn_24]; omega) (by rw [zn_24]; decide)
  simp only [c_2027, e_2027_0, e_2027_1, e_2027_4, e_2027_5, e_2027_8, zk_int, zk_ref, zk_null, zk_none, zk_long, zisR_r, zisR_n, zcl_int, zcl_ref, zcl_null, zpush_s, zpush_n, zbs, zbn, true_or, or_true, not_false_eq_true, not_true_eq_false, ↓reduceIte, and_self, and_true, true_and, zt_13, zr_13_8, a1]
end FA
