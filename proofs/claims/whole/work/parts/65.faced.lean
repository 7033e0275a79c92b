section FM
variable {d n m : Nat} {w : zM}
theorem f_wld_o {x : Int32} (C : zHc w 1 n m) (Hv : zHv w 1 n m) (hx : x < 0 ∨ nI n ≤ x) : cal (d + 5) 5018 [.ref 0, .int x] w = some (some (.int (-1)), fRf (sRk w 1 n) 1) := by
  have r := q_reckon (d := d) (w := w) C Hv
  have t := q_hasTable_o (d := d + 4) (f_rkC C n) hx
  have f := f_refuse (d := d + 3) (w := sRk w 1 n) (c := -1) (j := 1) (by decide) (by decide)
  simp only [c_5018, e_5018_0, e_5018_1, e_5018_4, e_5018_7, e_5018_8, e_5018_11, e_5018_12, e_5018_15, e_5018_18, e_5018_19, e_5018_22, e_5018_23, e_5018_26, e_5018_29, e_5018_30, e_5018_31, e_5018_34, zk_int, zk_ref, zk_null, zk_none, zk_long, zisR_r, zisR_n, zcl_int, zcl_ref, zcl_null, zpush_s, zpush_n, zbs, zbn, true_or, or_true, not_false_eq_true, not_true_eq_false, ↓reduceIte, and_self, and_true, true_and, zt_0, zr_0_0, zt_1, r, t, f]
theorem f_giv_o {x : Int32} (C : zHc w 1 n m) (Hv : zHv w 1 n m) (hx : x < 0 ∨ nI n ≤ x) : cal (d + 5) 5019 [.ref 0, .int x] w = some (some (.int (-1)), fRf (sRk w 1 n) 1) := by
  have r := q_reckon (d := d) (w := w) C Hv
  have t := q_hasTable_o (d := d + 4) (f_rkC C n) hx
  have f := f_refuse (d := d + 3) (w := sRk w 1 n) (c := -1) (j := 1) (by decide) (by decide)
  simp only [c_5019, e_5019_0, e_5019_1, e_5019_4, e_5019_7, e_5019_8, e_5019_11, e_5019_12, e_5019_15, e_5019_18, e_5019_19, e_5019_22, e_5019_23, e_5019_26, e_5019_29, e_5019_30, e_5019_31, e_5019_34, zk_int, zk_ref, zk_null, zk_none, zk_long, zisR_r, zisR_n, zcl_int, zcl_ref, zcl_null, zpush_s, zpush_n, zbs, zbn, true_or, or_true, not_false_eq_true, not_true_eq_false, ↓reduceIte, and_self, and_true, true_and, zt_0, zr_0_0, zt_1, r, t, f]
theorem f_giv {t : Nat} (C : zHc w 1 n m) (Hv : zHv w 1 n m) (ht : t < n) : cal (d + 5) 5019 [.ref 0, .int (nI t)] w = some (some (.int (sGv (w.1 2) (w.1 3) (w.1 4) t)), sRk w 1 n) := by
  have r := q_reckon (d := d) (w := w) C Hv
  have hT := q_hasTable (d := d + 4) (f_rkC C n) ht
  have g := q_givenAt (d := d + 3) (f_rkC C n) ht
  have e : (sRk w 1 n).1 (1 + 4) t = sGv (w.1 2) (w.1 3) (w.1 4) t := by
    have e5 := f_rk5 w n
    rw [show (1 + 4 : Nat) = 5 from rfl, e5]
    exact if_pos ht
  rw [e] at g
  have e10 : ((1 : Int32) = 0) = False := eq_false (by decide)
  simp only [c_5019, e_5019_0, e_5019_1, e_5019_4, e_5019_7, e_5019_8, e_5019_11, e_5019_12, e_5019_15, e_5019_18, e_5019_19, e_5019_22, e_5019_23, e_5019_26, e_5019_29, e_5019_30, e_5019_31, e_5019_34, zk_int, zk_ref, zk_null, zk_none, zk_long, zisR_r, zisR_n, zcl_int, zcl_ref, zcl_null, zpush_s, zpush_n, zbs, zbn, true_or, or_true, not_false_eq_true, not_true_eq_false, ↓reduceIte, and_self, and_true, true_and, zt_0, zr_0_0, zt_1, r, hT, g, e10]
end FM
