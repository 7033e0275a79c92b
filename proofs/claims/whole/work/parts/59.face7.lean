section FG
variable {d n m : Nat} {w : zM}
theorem f_rkC (C : zHc w 1 n m) (j : Nat) : zHc (sRk w 1 j) 1 n m := zHc_A C (by decide)
theorem f_rk5 (w : zM) (j : Nat) : (sRk w 1 j).1 5 = zcpy (sGv (w.1 2) (w.1 3) (w.1 4)) (w.1 5) j := zA_s _ _ _
theorem f_rkn (w : zM) (j : Nat) {a : Nat} (ha : a ≠ 5) : (sRk w 1 j).1 a = w.1 a := zA_n _ _ ha
theorem f_all (C : zHc w 1 n m) (Hv : zHv w 1 n m) : cal (d + 5) 5020 [.ref 0] w = some (some (.int (zsum (sGv (w.1 2) (w.1 3) (w.1 4)) n)), sRk w 1 n) := by
  have r := q_reckon (d := d) (w := w) C Hv
  have g := q_givenByAll (d := d + 3) (f_rkC C n)
  have e : zsum ((sRk w 1 n).1 5) n = zsum (sGv (w.1 2) (w.1 3) (w.1 4)) n := by
    rw [f_rk5]
    exact zsum_gv (fun t ht => if_pos ht)
  rw [e] at g
  simp only [c_5020, e_5020_0, e_5020_1, e_5020_4, e_5020_7, e_5020_8, e_5020_11, e_5020_14, zk_int, zk_ref, zk_null, zk_none, zk_long, zisR_r, zisR_n, zcl_int, zcl_ref, zcl_null, zpush_s, zpush_n, zbs, zbn, true_or, or_true, not_false_eq_true, not_true_eq_false, ↓reduceIte, and_self, and_true, true_and, zt_0, zr_0_0, zt_1, r, g]
theorem f_seed {x : Int32} : cal (d + 1) 5039 [.ref 0, .int x] w = some (some (.int (w.1 1 7)), zuA w 1 (upd (w.1 1) 7 x)) := by
  have q := q_changeSeed (d := d) (w := w) (x := x) zHs1
  simp only [c_5039, e_5039_0, e_5039_1, e_5039_4, e_5039_5, e_5039_8, zk_int, zk_ref, zk_null, zk_none, zk_long, zisR_r, zisR_n, zcl_int, zcl_ref, zcl_null, zpush_s, zpush_n, zbs, zbn, true_or, or_true, not_false_eq_true, not_true_eq_false, ↓reduceIte, and_self, and_true, true_and, zt_0, zr_0_0, zt_1, q]
theorem f_faultT : cal (d + 1) 5017 [.ref 0] w = some (some (.int (w.1 25 3)), w) := by
  have q := f_fault (d := d) (w := w)
  simp only [c_5017, e_5017_0, e_5017_1, e_5017_4, e_5017_7, zk_int, zk_ref, zk_null, zk_none, zk_long, zisR_r, zisR_n, zcl_int, zcl_ref, zcl_null, zpush_s, zpush_n, zbs, zbn, true_or, or_true, not_false_eq_true, not_true_eq_false, ↓reduceIte, and_self, and_true, true_and, zt_0, zr_0_4, zt_25, q]
theorem f_image (H1 : zHz w 1) (H6 : zHz w 6) (C : zHc w 1 n m) : cal (d + 2) 5042 [.ref 0] w = some (some (.int (nI n)), zuA (sHs w 6 (w.1 1) (w.1 2) (w.1 3) (w.1 4)) 0 (upd ((sHs w 6 (w.1 1) (w.1 2) (w.1 3) (w.1 4)).1 0) 7 1)) := by
  have b := q_becomeAs (d := d) (w := w) (h := 6) (k := 1) (Or.inr (Or.inl rfl)) zHs1 (by decide)
  rw [sBec_z H6 H1] at b
  generalize hW : sHs w 6 (w.1 1) (w.1 2) (w.1 3) (w.1 4) = W at *
  have e1 : W.1 1 = w.1 1 := by
    rw [← hW]
    unfold sHs
    rw [zA_n _ _ (by decide), zA_n _ _ (by decide), zA_n _ _ (by decide), zA_n _ _ (by decide)]
  have tc : cal (d + 1) 1002 [.ref 1] (zuA W 0 (upd (W.1 0) 7 1)) = some (some (.int (nI n)), zuA W 0 (upd (W.1 0) 7 1)) := by
    have e : (zuA W 0 (upd (W.1 0) 7 1)).1 1 3 = nI n := by
      rw [zA_n _ _ (by decide), e1]
      exact C.2.1
    simp only [c_1002, e_1002_0, e_1002_1, e_1002_4, zk_int, zk_ref, zk_null, zk_none, zk_long, zisR_r, zisR_n, zcl_int, zcl_ref, zcl_null, zpush_s, zpush_n, zbs, zbn, true_or, or_true, not_false_eq_true, not_true_eq_false, ↓reduceIte, and_self, and_true, true_and, zt_1, e]
  simp only [c_5042, e_5042_0, e_5042_1, e_5042_4, e_5042_5, e_5042_8, e_5042_11, e_5042_12, e_5042_13, e_5042_16, e_5042_17, e_5042_20, e_5042_23, zk_int, zk_ref, zk_null, zk_none, zk_long, zisR_r, zisR_n, zcl_int, zcl_ref, zcl_null, zpush_s, zpush_n, zbs, zbn, true_or, or_true, not_false_eq_true, not_true_eq_false, ↓reduceIte, and_self, and_true, true_and, zt_0, zr_0_0, zr_0_1, zt_1, zt_6, b, zui_A, tc]
end FG
