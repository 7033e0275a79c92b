def wr (g h : Nat → Int32) (f n : Nat) : Nat → Int32 := fun k => if f ≤ k ∧ k < f + n then g (k - f) else h k
theorem wr_in {g h : Nat → Int32} {f n k : Nat} (h1 : f ≤ k) (h2 : k < f + n) : wr g h f n k = g (k - f) := if_pos ⟨h1, h2⟩
theorem wr_out {g h : Nat → Int32} {f n k : Nat} (h1 : k < f ∨ f + n ≤ k) : wr g h f n k = h k := if_neg (by omega)
theorem wr_s (g h : Nat → Int32) (f j : Nat) : upd (wr g h f j) (f + j) (g j) = wr g h f (j + 1) := by
  funext k
  unfold upd wr
  by_cases h1 : k = f + j
  · subst h1
    rw [if_pos rfl, if_pos (by omega)]
    congr 1
    omega
  · rw [if_neg h1]
    by_cases h2 : f ≤ k ∧ k < f + j
    · rw [if_pos h2, if_pos (by omega)]
    · rw [if_neg h2, if_neg (by omega)]
theorem wr_0 (g h : Nat → Int32) (f : Nat) : wr g h f 0 = h := by
  funext k
  exact if_neg (by omega)
section PL
variable {d n m : Nat} {w w1 w2 : zM} {S : Nat → Int32} {L : Int32} {T V G : Nat → Int32}
theorem m_keepsF {o t f : Nat} (to : zTag o = 10) (lo : zLen o = n) (tt : zTag t = 10) (lt : zLen t = 100) (hf : f + n ≤ 100) (hot : o ≠ t) : cal d 6038 [.ref 50, .ref o, .int (nI n), .ref t, .int (nI f), .int 0] w = some (some (.int (nI (f + n))), zuA w t (wr (w.1 o) (w.1 t) f n)) := by
  have o1 : zTag o = 10 ∨ zTag o = 20 := Or.inl to
  have t1 : zTag t = 10 ∨ zTag t = 20 := Or.inl tt
  have zlo : ∀ w j, zld w o j = w.1 o j := fun w j => zld_A to
  have no : ∀ F, (zuA w t F).1 o = w.1 o := fun F => zA_n _ _ hot
  have key : ∀ r j, j + r = n → den d 6038 3 [some (.ref 50), some (.ref o), some (.int (nI n)), some (.ref t), some (.int (nI f)), some (.int 0), some (.int (nI j))] [] (zuA w t (wr (w.1 o) (w.1 t) f j)) = some (some (.int (nI (f + n))), zuA w t (wr (w.1 o) (w.1 t) f n)) := by
    intro r
    induction r with
    | zero =>
      intro j hj
      have e : j = n := by omega
      subst e
      have g1 := nI_le_n (Nat.le_refl j) (by omega)
      simp only [c_6038, e_6038_0, e_6038_1, e_6038_3, e_6038_5, e_6038_6, e_6038_9, e_6038_11, e_6038_14, e_6038_15, e_6038_17, e_6038_18, e_6038_20, e_6038_22, e_6038_23, e_6038_24, e_6038_25, e_6038_28, e_6038_29, e_6038_31, e_6038_33, e_6038_34, e_6038_35, e_6038_37, e_6038_38, e_6038_39, e_6038_42, e_6038_45, e_6038_47, e_6038_48, e_6038_49, zk_int, zk_ref, zk_null, zk_none, zk_long, zisR_r, zisR_n, zcl_int, zcl_ref, zcl_null, zpush_s, zpush_n, zbs, zbn, true_or, or_true, not_false_eq_true, not_true_eq_false, ↓reduceIte, and_self, and_true, true_and, g1, nI_add]
    | succ r ih =>
      intro j hj
      have hjn : j < n := by omega
      have g1 := nI_ge_f hjn (by omega)
      have hz := zis_nI (j := j) (n := n) hjn (by omega)
      have hc := nI_clamp (n := j) (by omega)
      have hz2 := zis_nI (j := f + j) (n := 100) (by omega) (by decide)
      have hc2 := nI_clamp (n := f + j) (by omega)
      rw [e_6038_3]
      simp only [c_6038, e_6038_0, e_6038_1, e_6038_5, e_6038_6, e_6038_9, e_6038_11, e_6038_14, e_6038_15, e_6038_17, e_6038_18, e_6038_20, e_6038_22, e_6038_23, e_6038_24, e_6038_25, e_6038_28, e_6038_29, e_6038_31, e_6038_33, e_6038_34, e_6038_35, e_6038_37, e_6038_38, e_6038_39, e_6038_42, e_6038_45, e_6038_47, e_6038_48, e_6038_49, zk_int, zk_ref, zk_null, zk_none, zk_long, zisR_r, zisR_n, zcl_int, zcl_ref, zcl_null, zpush_s, zpush_n, zbs, zbn, true_or, or_true, not_false_eq_true, not_true_eq_false, ↓reduceIte, and_self, and_true, true_and, g1, nI_add, o1, tt, lo, lt, hz, hc, hz2, hc2, zlo, zui_A, zA_s, zA_A, no, wr_s, nI_1]
      exact ih (j + 1) (by omega)
  have k0 := key n 0 (by omega)
  rw [wr_0, zA_id, nI_0] at k0
  simp only [c_6038, e_6038_0, e_6038_1, e_6038_5, e_6038_6, e_6038_9, e_6038_11, e_6038_14, e_6038_15, e_6038_17, e_6038_18, e_6038_20, e_6038_22, e_6038_23, e_6038_24, e_6038_25, e_6038_28, e_6038_29, e_6038_31, e_6038_33, e_6038_34, e_6038_35, e_6038_37, e_6038_38, e_6038_39, e_6038_42, e_6038_45, e_6038_47, e_6038_48, e_6038_49, zk_int, zk_ref, zk_null, zk_none, zk_long, zisR_r, zisR_n, zcl_int, zcl_ref, zcl_null, zpush_s, zpush_n, zbs, zbn, true_or, or_true, not_false_eq_true, not_true_eq_false, ↓reduceIte, and_self, and_true, true_and]
  exact k0
theorem m_keepsT {o t f : Nat} (to : zTag o = 10) (lo : zLen o = n) (tt : zTag t = 10) (lt : zLen t = 100) (hf : f + n ≤ 100) (hot : o ≠ t) : cal d 6038 [.ref 50, .ref o, .int (nI n), .ref t, .int (nI f), .int 1] w = some (some (.int (nI (f + n))), zuA w o (zcpy (fun i => w.1 t (f + i)) (w.1 o) n)) := by
  have o1 : zTag o = 10 ∨ zTag o = 20 := Or.inl to
  have t1 : zTag t = 10 ∨ zTag t = 20 := Or.inl tt
  have zlt : ∀ w j, zld w t j = w.1 t j := fun w j => zld_A tt
  have no : ∀ F, (zuA w o F).1 t = w.1 t := fun F => zA_n _ _ (fun e => hot e.symm)
  have key : ∀ r j, j + r = n → den d 6038 3 [some (.ref 50), some (.ref o), some (.int (nI n)), some (.ref t), some (.int (nI f)), some (.int 1), some (.int (nI j))] [] (zuA w o (zcpy (fun i => w.1 t (f + i)) (w.1 o) j)) = some (some (.int (nI (f + n))), zuA w o (zcpy (fun i => w.1 t (f + i)) (w.1 o) n)) := by
    intro r
    induction r with
    | zero =>
      intro j hj
      have e : j = n := by omega
      subst e
      have g1 := nI_le_n (Nat.le_refl j) (by omega)
      simp only [c_6038, e_6038_0, e_6038_1, e_6038_3, e_6038_5, e_6038_6, e_6038_9, e_6038_11, e_6038_14, e_6038_15, e_6038_17, e_6038_18, e_6038_20, e_6038_22, e_6038_23, e_6038_24, e_6038_25, e_6038_28, e_6038_29, e_6038_31, e_6038_33, e_6038_34, e_6038_35, e_6038_37, e_6038_38, e_6038_39, e_6038_42, e_6038_45, e_6038_47, e_6038_48, e_6038_49, zk_int, zk_ref, zk_null, zk_none, zk_long, zisR_r, zisR_n, zcl_int, zcl_ref, zcl_null, zpush_s, zpush_n, zbs, zbn, true_or, or_true, not_false_eq_true, not_true_eq_false, ↓reduceIte, and_self, and_true, true_and, g1, nI_add]
    | succ r ih =>
      intro j hj
      have hjn : j < n := by omega
      have g1 := nI_ge_f hjn (by omega)
      have hz := zis_nI (j := j) (n := n) hjn (by omega)
      have hc := nI_clamp (n := j) (by omega)
      have hz2 := zis_nI (j := f + j) (n := 100) (by omega) (by decide)
      have hc2 := nI_clamp (n := f + j) (by omega)
      have zs := zcpy_s (fun i => w.1 t (f + i)) (w.1 o) j
      have i1 := ih (j + 1) (by omega)
      rw [← zs] at i1
      rw [e_6038_3]
      simp only [c_6038, e_6038_0, e_6038_1, e_6038_5, e_6038_6, e_6038_9, e_6038_11, e_6038_14, e_6038_15, e_6038_17, e_6038_18, e_6038_20, e_6038_22, e_6038_23, e_6038_24, e_6038_25, e_6038_28, e_6038_29, e_6038_31, e_6038_33, e_6038_34, e_6038_35, e_6038_37, e_6038_38, e_6038_39, e_6038_42, e_6038_45, e_6038_47, e_6038_48, e_6038_49, zk_int, zk_ref, zk_null, zk_none, zk_long, zisR_r, zisR_n, zcl_int, zcl_ref, zcl_null, zpush_s, zpush_n, zbs, zbn, true_or, or_true, not_false_eq_true, not_true_eq_false, ↓reduceIte, and_self, and_true, true_and, ie_0_1, ie_0_2, ie_0_3, ie_0_4, ie_0_5, ie_0_6, ie_0_7, ie_1_0, ie_1_2, ie_1_3, ie_1_4, ie_1_5, ie_1_6, ie_1_7, ie_2_0, ie_2_1, ie_2_3, ie_2_4, ie_2_5, ie_2_6, ie_2_7, ie_3_0, ie_3_1, ie_3_2, ie_3_4, ie_3_5, ie_3_6, ie_3_7, ie_4_0, ie_4_1, ie_4_2, ie_4_3, ie_4_5, ie_4_6, ie_4_7, ie_5_0, ie_5_1, ie_5_2, ie_5_3, ie_5_4, ie_5_6, ie_5_7, ie_6_0, ie_6_1, ie_6_2, ie_6_3, ie_6_4, ie_6_5, ie_6_7, ie_7_0, ie_7_1, ie_7_2, ie_7_3, ie_7_4, ie_7_5, ie_7_6, g1, nI_add, t1, to, lo, lt, hz, hc, hz2, hc2, zlt, zui_A, zA_s, zA_A, no, nI_1]
      exact i1
  have k0 := key n 0 (by omega)
  rw [zcpy_0, zA_id, nI_0] at k0
  simp only [c_6038, e_6038_0, e_6038_1, e_6038_5, e_6038_6, e_6038_9, e_6038_11, e_6038_14, e_6038_15, e_6038_17, e_6038_18, e_6038_20, e_6038_22, e_6038_23, e_6038_24, e_6038_25, e_6038_28, e_6038_29, e_6038_31, e_6038_33, e_6038_34, e_6038_35, e_6038_37, e_6038_38, e_6038_39, e_6038_42, e_6038_45, e_6038_47, e_6038_48, e_6038_49, zk_int, zk_ref, zk_null, zk_none, zk_long, zisR_r, zisR_n, zcl_int, zcl_ref, zcl_null, zpush_s, zpush_n, zbs, zbn, true_or, or_true, not_false_eq_true, not_true_eq_false, ↓reduceIte, and_self, and_true, true_and]
  exact k0
def mK0 (w : zM) (K : Nat → Int32) : Nat → Int32 := K
def mK1 (w : zM) (K : Nat → Int32) : Nat → Int32 := wr (w.1 52) (mK0 w K) 0 8
def mK2 (w : zM) (K : Nat → Int32) : Nat → Int32 := wr (w.1 53) (mK1 w K) 8 8
def mK3 (w : zM) (K : Nat → Int32) : Nat → Int32 := wr (w.1 54) (mK2 w K) 16 8
def mK4 (w : zM) (K : Nat → Int32) : Nat → Int32 := wr (w.1 55) (mK3 w K) 24 8
def mK5 (w : zM) (K : Nat → Int32) : Nat → Int32 := wr (w.1 56) (mK4 w K) 32 8
def mK6 (w : zM) (K : Nat → Int32) : Nat → Int32 := wr (w.1 57) (mK5 w K) 40 4
def mK7 (w : zM) (K : Nat → Int32) : Nat → Int32 := wr (w.1 58) (mK6 w K) 44 4
def mK8 (w : zM) (K : Nat → Int32) : Nat → Int32 := wr (w.1 59) (mK7 w K) 48 4
def mK9 (w : zM) (K : Nat → Int32) : Nat → Int32 := wr (w.1 60) (mK8 w K) 52 4
def mK10 (w : zM) (K : Nat → Int32) : Nat → Int32 := wr (w.1 61) (mK9 w K) 56 4
def mK11 (w : zM) (K : Nat → Int32) : Nat → Int32 := wr (w.1 62) (mK10 w K) 60 4
def mK12 (w : zM) (K : Nat → Int32) : Nat → Int32 := wr (w.1 63) (mK11 w K) 64 3
def mKf (w : zM) (K : Nat → Int32) : Nat → Int32 := upd (upd (upd (upd (upd (upd (upd (mK12 w K) 67 (w.1 50 0)) 68 (w.1 50 1)) 69 (w.1 50 2)) 70 (w.1 50 3)) 71 (w.1 50 4)) 72 (w.1 50 5)) 73 (w.1 50 6)
theorem mKf_0 (K : Nat → Int32) {t : Nat} (ht : t < 8) : mKf w K (0 + t) = w.1 52 t := by
  unfold mKf
  rw [u_ne (by omega), u_ne (by omega), u_ne (by omega), u_ne (by omega), u_ne (by omega), u_ne (by omega), u_ne (by omega)]
  unfold mK12
  rw [wr_out (by omega)]
  unfold mK11
  rw [wr_out (by omega)]
  unfold mK10
  rw [wr_out (by omega)]
  unfold mK9
  rw [wr_out (by omega)]
  unfold mK8
  rw [wr_out (by omega)]
  unfold mK7
  rw [wr_out (by omega)]
  unfold mK6
  rw [wr_out (by omega)]
  unfold mK5
  rw [wr_out (by omega)]
  unfold mK4
  rw [wr_out (by omega)]
  unfold mK3
  rw [wr_out (by omega)]
  unfold mK2
  rw [wr_out (by omega)]
  unfold mK1
  rw [wr_in (by omega) (by omega), Nat.add_sub_cancel_left]
theorem mKf_1 (K : Nat → Int32) {t : Nat} (ht : t < 8) : mKf w K (8 + t) = w.1 53 t := by
  unfold mKf
  rw [u_ne (by omega), u_ne (by omega), u_ne (by omega), u_ne (by omega), u_ne (by omega), u_ne (by omega), u_ne (by omega)]
  unfold mK12
  rw [wr_out (by omega)]
  unfold mK11
  rw [wr_out (by omega)]
  unfold mK10
  rw [wr_out (by omega)]
  unfold mK9
  rw [wr_out (by omega)]
  unfold mK8
  rw [wr_out (by omega)]
  unfold mK7
  rw [wr_out (by omega)]
  unfold mK6
  rw [wr_out (by omega)]
  unfold mK5
  rw [wr_out (by omega)]
  unfold mK4
  rw [wr_out (by omega)]
  unfold mK3
  rw [wr_out (by omega)]
  unfold mK2
  rw [wr_in (by omega) (by omega), Nat.add_sub_cancel_left]
theorem mKf_2 (K : Nat → Int32) {t : Nat} (ht : t < 8) : mKf w K (16 + t) = w.1 54 t := by
  unfold mKf
  rw [u_ne (by omega), u_ne (by omega), u_ne (by omega), u_ne (by omega), u_ne (by omega), u_ne (by omega), u_ne (by omega)]
  unfold mK12
  rw [wr_out (by omega)]
  unfold mK11
  rw [wr_out (by omega)]
  unfold mK10
  rw [wr_out (by omega)]
  unfold mK9
  rw [wr_out (by omega)]
  unfold mK8
  rw [wr_out (by omega)]
  unfold mK7
  rw [wr_out (by omega)]
  unfold mK6
  rw [wr_out (by omega)]
  unfold mK5
  rw [wr_out (by omega)]
  unfold mK4
  rw [wr_out (by omega)]
  unfold mK3
  rw [wr_in (by omega) (by omega), Nat.add_sub_cancel_left]
theorem mKf_3 (K : Nat → Int32) {t : Nat} (ht : t < 8) : mKf w K (24 + t) = w.1 55 t := by
  unfold mKf
  rw [u_ne (by omega), u_ne (by omega), u_ne (by omega), u_ne (by omega), u_ne (by omega), u_ne (by omega), u_ne (by omega)]
  unfold mK12
  rw [wr_out (by omega)]
  unfold mK11
  rw [wr_out (by omega)]
  unfold mK10
  rw [wr_out (by omega)]
  unfold mK9
  rw [wr_out (by omega)]
  unfold mK8
  rw [wr_out (by omega)]
  unfold mK7
  rw [wr_out (by omega)]
  unfold mK6
  rw [wr_out (by omega)]
  unfold mK5
  rw [wr_out (by omega)]
  unfold mK4
  rw [wr_in (by omega) (by omega), Nat.add_sub_cancel_left]
theorem mKf_4 (K : Nat → Int32) {t : Nat} (ht : t < 8) : mKf w K (32 + t) = w.1 56 t := by
  unfold mKf
  rw [u_ne (by omega), u_ne (by omega), u_ne (by omega), u_ne (by omega), u_ne (by omega), u_ne (by omega), u_ne (by omega)]
  unfold mK12
  rw [wr_out (by omega)]
  unfold mK11
  rw [wr_out (by omega)]
  unfold mK10
  rw [wr_out (by omega)]
  unfold mK9
  rw [wr_out (by omega)]
  unfold mK8
  rw [wr_out (by omega)]
  unfold mK7
  rw [wr_out (by omega)]
  unfold mK6
  rw [wr_out (by omega)]
  unfold mK5
  rw [wr_in (by omega) (by omega), Nat.add_sub_cancel_left]
theorem mKf_5 (K : Nat → Int32) {t : Nat} (ht : t < 4) : mKf w K (40 + t) = w.1 57 t := by
  unfold mKf
  rw [u_ne (by omega), u_ne (by omega), u_ne (by omega), u_ne (by omega), u_ne (by omega), u_ne (by omega), u_ne (by omega)]
  unfold mK12
  rw [wr_out (by omega)]
  unfold mK11
  rw [wr_out (by omega)]
  unfold mK10
  rw [wr_out (by omega)]
  unfold mK9
  rw [wr_out (by omega)]
  unfold mK8
  rw [wr_out (by omega)]
  unfold mK7
  rw [wr_out (by omega)]
  unfold mK6
  rw [wr_in (by omega) (by omega), Nat.add_sub_cancel_left]
theorem mKf_6 (K : Nat → Int32) {t : Nat} (ht : t < 4) : mKf w K (44 + t) = w.1 58 t := by
  unfold mKf
  rw [u_ne (by omega), u_ne (by omega), u_ne (by omega), u_ne (by omega), u_ne (by omega), u_ne (by omega), u_ne (by omega)]
  unfold mK12
  rw [wr_out (by omega)]
  unfold mK11
  rw [wr_out (by omega)]
  unfold mK10
  rw [wr_out (by omega)]
  unfold mK9
  rw [wr_out (by omega)]
  unfold mK8
  rw [wr_out (by omega)]
  unfold mK7
  rw [wr_in (by omega) (by omega), Nat.add_sub_cancel_left]
theorem mKf_7 (K : Nat → Int32) {t : Nat} (ht : t < 4) : mKf w K (48 + t) = w.1 59 t := by
  unfold mKf
  rw [u_ne (by omega), u_ne (by omega), u_ne (by omega), u_ne (by omega), u_ne (by omega), u_ne (by omega), u_ne (by omega)]
  unfold mK12
  rw [wr_out (by omega)]
  unfold mK11
  rw [wr_out (by omega)]
  unfold mK10
  rw [wr_out (by omega)]
  unfold mK9
  rw [wr_out (by omega)]
  unfold mK8
  rw [wr_in (by omega) (by omega), Nat.add_sub_cancel_left]
theorem mKf_8 (K : Nat → Int32) {t : Nat} (ht : t < 4) : mKf w K (52 + t) = w.1 60 t := by
  unfold mKf
  rw [u_ne (by omega), u_ne (by omega), u_ne (by omega), u_ne (by omega), u_ne (by omega), u_ne (by omega), u_ne (by omega)]
  unfold mK12
  rw [wr_out (by omega)]
  unfold mK11
  rw [wr_out (by omega)]
  unfold mK10
  rw [wr_out (by omega)]
  unfold mK9
  rw [wr_in (by omega) (by omega), Nat.add_sub_cancel_left]
theorem mKf_9 (K : Nat → Int32) {t : Nat} (ht : t < 4) : mKf w K (56 + t) = w.1 61 t := by
  unfold mKf
  rw [u_ne (by omega), u_ne (by omega), u_ne (by omega), u_ne (by omega), u_ne (by omega), u_ne (by omega), u_ne (by omega)]
  unfold mK12
  rw [wr_out (by omega)]
  unfold mK11
  rw [wr_out (by omega)]
  unfold mK10
  rw [wr_in (by omega) (by omega), Nat.add_sub_cancel_left]
theorem mKf_10 (K : Nat → Int32) {t : Nat} (ht : t < 4) : mKf w K (60 + t) = w.1 62 t := by
  unfold mKf
  rw [u_ne (by omega), u_ne (by omega), u_ne (by omega), u_ne (by omega), u_ne (by omega), u_ne (by omega), u_ne (by omega)]
  unfold mK12
  rw [wr_out (by omega)]
  unfold mK11
  rw [wr_in (by omega) (by omega), Nat.add_sub_cancel_left]
theorem mKf_11 (K : Nat → Int32) {t : Nat} (ht : t < 3) : mKf w K (64 + t) = w.1 63 t := by
  unfold mKf
  rw [u_ne (by omega), u_ne (by omega), u_ne (by omega), u_ne (by omega), u_ne (by omega), u_ne (by omega), u_ne (by omega)]
  unfold mK12
  rw [wr_in (by omega) (by omega), Nat.add_sub_cancel_left]
theorem m_carF {a : Nat} (ta : zTag a = 10) (la : zLen a = 100) (ha : 64 ≤ a) : cal (d + 1) 6039 [.ref 50, .ref a, .int 0] w = some (none, zuA w a (mKf w (w.1 a))) := by
  have n52 : ∀ F, (zuA w a F).1 52 = w.1 52 := fun F => zA_n _ _ (by omega)
  have k52 : ∀ w, cal d 6038 [.ref 50, .ref 52, .int 8, .ref a, .int 0, .int 0] w = some (some (.int (nI 8)), zuA w a (wr (w.1 52) (w.1 a) 0 8)) := fun w => m_keepsF (n := 8) (f := 0) zt_52 zn_52 ta la (by decide) (by omega)
  have n53 : ∀ F, (zuA w a F).1 53 = w.1 53 := fun F => zA_n _ _ (by omega)
  have k53 : ∀ w, cal d 6038 [.ref 50, .ref 53, .int 8, .ref a, .int (nI 8), .int 0] w = some (some (.int (nI 16)), zuA w a (wr (w.1 53) (w.1 a) 8 8)) := fun w => m_keepsF (n := 8) (f := 8) zt_53 zn_53 ta la (by decide) (by omega)
  have n54 : ∀ F, (zuA w a F).1 54 = w.1 54 := fun F => zA_n _ _ (by omega)
  have k54 : ∀ w, cal d 6038 [.ref 50, .ref 54, .int 8, .ref a, .int (nI 16), .int 0] w = some (some (.int (nI 24)), zuA w a (wr (w.1 54) (w.1 a) 16 8)) := fun w => m_keepsF (n := 8) (f := 16) zt_54 zn_54 ta la (by decide) (by omega)
  have n55 : ∀ F, (zuA w a F).1 55 = w.1 55 := fun F => zA_n _ _ (by omega)
  have k55 : ∀ w, cal d 6038 [.ref 50, .ref 55, .int 8, .ref a, .int (nI 24), .int 0] w = some (some (.int (nI 32)), zuA w a (wr (w.1 55) (w.1 a) 24 8)) := fun w => m_keepsF (n := 8) (f := 24) zt_55 zn_55 ta la (by decide) (by omega)
  have n56 : ∀ F, (zuA w a F).1 56 = w.1 56 := fun F => zA_n _ _ (by omega)
  have k56 : ∀ w, cal d 6038 [.ref 50, .ref 56, .int 8, .ref a, .int (nI 32), .int 0] w = some (some (.int (nI 40)), zuA w a (wr (w.1 56) (w.1 a) 32 8)) := fun w => m_keepsF (n := 8) (f := 32) zt_56 zn_56 ta la (by decide) (by omega)
  have n57 : ∀ F, (zuA w a F).1 57 = w.1 57 := fun F => zA_n _ _ (by omega)
  have k57 : ∀ w, cal d 6038 [.ref 50, .ref 57, .int 4, .ref a, .int (nI 40), .int 0] w = some (some (.int (nI 44)), zuA w a (wr (w.1 57) (w.1 a) 40 4)) := fun w => m_keepsF (n := 4) (f := 40) zt_57 zn_57 ta la (by decide) (by omega)
  have n58 : ∀ F, (zuA w a F).1 58 = w.1 58 := fun F => zA_n _ _ (by omega)
  have k58 : ∀ w, cal d 6038 [.ref 50, .ref 58, .int 4, .ref a, .int (nI 44), .int 0] w = some (some (.int (nI 48)), zuA w a (wr (w.1 58) (w.1 a) 44 4)) := fun w => m_keepsF (n := 4) (f := 44) zt_58 zn_58 ta la (by decide) (by omega)
  have n59 : ∀ F, (zuA w a F).1 59 = w.1 59 := fun F => zA_n _ _ (by omega)
  have k59 : ∀ w, cal d 6038 [.ref 50, .ref 59, .int 4, .ref a, .int (nI 48), .int 0] w = some (some (.int (nI 52)), zuA w a (wr (w.1 59) (w.1 a) 48 4)) := fun w => m_keepsF (n := 4) (f := 48) zt_59 zn_59 ta la (by decide) (by omega)
  have n60 : ∀ F, (zuA w a F).1 60 = w.1 60 := fun F => zA_n _ _ (by omega)
  have k60 : ∀ w, cal d 6038 [.ref 50, .ref 60, .int 4, .ref a, .int (nI 52), .int 0] w = some (some (.int (nI 56)), zuA w a (wr (w.1 60) (w.1 a) 52 4)) := fun w => m_keepsF (n := 4) (f := 52) zt_60 zn_60 ta la (by decide) (by omega)
  have n61 : ∀ F, (zuA w a F).1 61 = w.1 61 := fun F => zA_n _ _ (by omega)
  have k61 : ∀ w, cal d 6038 [.ref 50, .ref 61, .int 4, .ref a, .int (nI 56), .int 0] w = some (some (.int (nI 60)), zuA w a (wr (w.1 61) (w.1 a) 56 4)) := fun w => m_keepsF (n := 4) (f := 56) zt_61 zn_61 ta la (by decide) (by omega)
  have n62 : ∀ F, (zuA w a F).1 62 = w.1 62 := fun F => zA_n _ _ (by omega)
  have k62 : ∀ w, cal d 6038 [.ref 50, .ref 62, .int 4, .ref a, .int (nI 60), .int 0] w = some (some (.int (nI 64)), zuA w a (wr (w.1 62) (w.1 a) 60 4)) := fun w => m_keepsF (n := 4) (f := 60) zt_62 zn_62 ta la (by decide) (by omega)
  have n63 : ∀ F, (zuA w a F).1 63 = w.1 63 := fun F => zA_n _ _ (by omega)
  have k63 : ∀ w, cal d 6038 [.ref 50, .ref 63, .int 3, .ref a, .int (nI 64), .int 0] w = some (some (.int (nI 67)), zuA w a (wr (w.1 63) (w.1 a) 64 3)) := fun w => m_keepsF (n := 3) (f := 64) zt_63 zn_63 ta la (by decide) (by omega)
  have n50 : ∀ F, (zuA w a F).1 50 = w.1 50 := fun F => zA_n _ _ (by omega)
  have z67 := zis_nI (j := 67) (n := 100) (by decide) (by decide)
  have c67 := nI_clamp (n := 67) (by decide)
  have z68 := zis_nI (j := 68) (n := 100) (by decide) (by decide)
  have c68 := nI_clamp (n := 68) (by decide)
  have a1 : nI 67 + 1 = nI 68 := by decide
  have z69 := zis_nI (j := 69) (n := 100) (by decide) (by decide)
  have c69 := nI_clamp (n := 69) (by decide)
  have a2 : nI 67 + 2 = nI 69 := by decide
  have z70 := zis_nI (j := 70) (n := 100) (by decide) (by decide)
  have c70 := nI_clamp (n := 70) (by decide)
  have a3 : nI 67 + 3 = nI 70 := by decide
  have z71 := zis_nI (j := 71) (n := 100) (by decide) (by decide)
  have c71 := nI_clamp (n := 71) (by decide)
  have a4 : nI 67 + 4 = nI 71 := by decide
  have z72 := zis_nI (j := 72) (n := 100) (by decide) (by decide)
  have c72 := nI_clamp (n := 72) (by decide)
  have a5 : nI 67 + 5 = nI 72 := by decide
  have z73 := zis_nI (j := 73) (n := 100) (by decide) (by decide)
  have c73 := nI_clamp (n := 73) (by decide)
  have a6 : nI 67 + 6 = nI 73 := by decide
  have m1 : wr (w.1 52) (mK0 w (w.1 a)) 0 8 = mK1 w (w.1 a) := rfl
  have m2 : wr (w.1 53) (mK1 w (w.1 a)) 8 8 = mK2 w (w.1 a) := rfl
  have m3 : wr (w.1 54) (mK2 w (w.1 a)) 16 8 = mK3 w (w.1 a) := rfl
  have m4 : wr (w.1 55) (mK3 w (w.1 a)) 24 8 = mK4 w (w.1 a) := rfl
  have m5 : wr (w.1 56) (mK4 w (w.1 a)) 32 8 = mK5 w (w.1 a) := rfl
  have m6 : wr (w.1 57) (mK5 w (w.1 a)) 40 4 = mK6 w (w.1 a) := rfl
  have m7 : wr (w.1 58) (mK6 w (w.1 a)) 44 4 = mK7 w (w.1 a) := rfl
  have m8 : wr (w.1 59) (mK7 w (w.1 a)) 48 4 = mK8 w (w.1 a) := rfl
  have m9 : wr (w.1 60) (mK8 w (w.1 a)) 52 4 = mK9 w (w.1 a) := rfl
  have m10 : wr (w.1 61) (mK9 w (w.1 a)) 56 4 = mK10 w (w.1 a) := rfl
  have m11 : wr (w.1 62) (mK10 w (w.1 a)) 60 4 = mK11 w (w.1 a) := rfl
  have m12 : wr (w.1 63) (mK11 w (w.1 a)) 64 3 = mK12 w (w.1 a) := rfl
  have m0 : w.1 a = mK0 w (w.1 a) := rfl
  have i1 : wr (w.1 52) (w.1 a) 0 8 = mK1 w (w.1 a) := rfl
  simp only [c_6039, e_6039_0, e_6039_1, e_6039_2, e_6039_5, e_6039_7, e_6039_8, e_6039_9, e_6039_10, e_6039_13, e_6039_14, e_6039_15, e_6039_16, e_6039_19, e_6039_21, e_6039_22, e_6039_23, e_6039_24, e_6039_27, e_6039_28, e_6039_29, e_6039_30, e_6039_33, e_6039_35, e_6039_36, e_6039_37, e_6039_38, e_6039_41, e_6039_42, e_6039_43, e_6039_44, e_6039_47, e_6039_49, e_6039_50, e_6039_51, e_6039_52, e_6039_55, e_6039_56, e_6039_57, e_6039_58, e_6039_61, e_6039_63, e_6039_64, e_6039_65, e_6039_66, e_6039_69, e_6039_70, e_6039_71, e_6039_72, e_6039_75, e_6039_76, e_6039_77, e_6039_78, e_6039_79, e_6039_82, e_6039_83, e_6039_84, e_6039_85, e_6039_88, e_6039_89, e_6039_90, e_6039_91, e_6039_92, e_6039_95, e_6039_96, e_6039_97, e_6039_98, e_6039_101, e_6039_102, e_6039_103, e_6039_104, e_6039_105, e_6039_108, e_6039_109, e_6039_110, e_6039_111, e_6039_114, e_6039_115, e_6039_116, e_6039_117, e_6039_118, e_6039_121, e_6039_122, e_6039_123, e_6039_124, e_6039_127, e_6039_128, e_6039_129, e_6039_130, e_6039_131, e_6039_134, e_6039_135, e_6039_136, e_6039_137, e_6039_140, e_6039_141, e_6039_142, e_6039_143, e_6039_144, e_6039_147, e_6039_148, e_6039_149, e_6039_150, e_6039_153, e_6039_154, e_6039_155, e_6039_156, e_6039_157, e_6039_160, e_6039_161, e_6039_162, e_6039_165, e_6039_166, e_6039_167, e_6039_168, e_6039_169, e_6039_172, e_6039_173, e_6039_174, e_6039_175, e_6039_176, e_6039_177, e_6039_178, e_6039_181, e_6039_182, e_6039_183, e_6039_184, e_6039_185, e_6039_186, e_6039_187, e_6039_190, e_6039_191, e_6039_192, e_6039_193, e_6039_194, e_6039_195, e_6039_196, e_6039_199, e_6039_200, e_6039_201, e_6039_202, e_6039_203, e_6039_204, e_6039_205, e_6039_208, e_6039_209, e_6039_210, e_6039_211, e_6039_212, e_6039_213, e_6039_214, e_6039_217, e_6039_218, e_6039_219, e_6039_220, e_6039_222, e_6039_223, e_6039_224, e_6039_227, e_6039_230, e_6039_231, e_6039_232, e_6039_233, e_6039_236, e_6039_237, e_6039_238, e_6039_239, e_6039_240, e_6039_241, e_6039_242, e_6039_245, e_6039_246, e_6039_247, e_6039_248, e_6039_249, e_6039_250, e_6039_251, e_6039_254, e_6039_255, e_6039_256, e_6039_257, e_6039_258, e_6039_259, e_6039_260, e_6039_263, e_6039_264, e_6039_265, e_6039_266, e_6039_267, e_6039_268, e_6039_269, e_6039_272, e_6039_273, e_6039_274, e_6039_275, e_6039_276, e_6039_277, e_6039_278, e_6039_281, e_6039_282, e_6039_283, e_6039_284, e_6039_286, e_6039_287, e_6039_288, e_6039_291, e_6039_292, zk_int, zk_ref, zk_null, zk_none, zk_long, zisR_r, zisR_n, zcl_int, zcl_ref, zcl_null, zpush_s, zpush_n, zbs, zbn, true_or, or_true, not_false_eq_true, not_true_eq_false, ↓reduceIte, and_self, and_true, true_and, zt_50, zr_50_9, zr_50_10, zr_50_11, zr_50_12, zr_50_13, zr_50_14, zr_50_15, zr_50_16, zr_50_17, zr_50_18, zr_50_19, zr_50_20, k52, k53, k54, k55, k56, k57, k58, k59, k60, k61, k62, k63, n52, n53, n54, n55, n56, n57, n58, n59, n60, n61, n62, n63, n50, zA_s, zA_A, i1, m2, m3, m4, m5, m6, m7, m8, m9, m10, m11, m12, z67, c67, z68, c68, z69, c69, z70, c70, z71, c71, z72, c72, z73, c73, a1, a2, a3, a4, a5, a6, ta, la, zui_A]
  rfl
def cB (w : zM) (K : Nat → Int32) : zM := zui (zui (zui (zui (zui (zui (zui (zuA (zuA (zuA (zuA (zuA (zuA (zuA (zuA (zuA (zuA (zuA (zuA (w) 52 (zcpy (fun i => K (0 + i)) (w.1 52) 8)) 53 (zcpy (fun i => K (8 + i)) (w.1 53) 8)) 54 (zcpy (fun i => K (16 + i)) (w.1 54) 8)) 55 (zcpy (fun i => K (24 + i)) (w.1 55) 8)) 56 (zcpy (fun i => K (32 + i)) (w.1 56) 8)) 57 (zcpy (fun i => K (40 + i)) (w.1 57) 4)) 58 (zcpy (fun i => K (44 + i)) (w.1 58) 4)) 59 (zcpy (fun i => K (48 + i)) (w.1 59) 4)) 60 (zcpy (fun i => K (52 + i)) (w.1 60) 4)) 61 (zcpy (fun i => K (56 + i)) (w.1 61) 4)) 62 (zcpy (fun i => K (60 + i)) (w.1 62) 4)) 63 (zcpy (fun i => K (64 + i)) (w.1 63) 3)) 50 0 (K 67)) 50 1 (K 68)) 50 2 (K 69)) 50 3 (K 70)) 50 4 (K 71)) 50 5 (K 72)) 50 6 (K 73)
theorem m_carT {a : Nat} (ta : zTag a = 10) (la : zLen a = 100) (ha : 64 ≤ a) : cal (d + 1) 6039 [.ref 50, .ref a, .int 1] w = some (none, cB w (w.1 a)) := by
  have k52 : ∀ w, cal d 6038 [.ref 50, .ref 52, .int 8, .ref a, .int 0, .int 1] w = some (some (.int (nI 8)), zuA w 52 (zcpy (fun i => w.1 a (0 + i)) (w.1 52) 8)) := fun w => m_keepsT (n := 8) (f := 0) zt_52 zn_52 ta la (by decide) (by omega)
  have na52 : ∀ (w : zM) F, (zuA w 52 F).1 a = w.1 a := fun w F => zA_n _ _ (by omega)
  have k53 : ∀ w, cal d 6038 [.ref 50, .ref 53, .int 8, .ref a, .int (nI 8), .int 1] w = some (some (.int (nI 16)), zuA w 53 (zcpy (fun i => w.1 a (8 + i)) (w.1 53) 8)) := fun w => m_keepsT (n := 8) (f := 8) zt_53 zn_53 ta la (by decide) (by omega)
  have na53 : ∀ (w : zM) F, (zuA w 53 F).1 a = w.1 a := fun w F => zA_n _ _ (by omega)
  have k54 : ∀ w, cal d 6038 [.ref 50, .ref 54, .int 8, .ref a, .int (nI 16), .int 1] w = some (some (.int (nI 24)), zuA w 54 (zcpy (fun i => w.1 a (16 + i)) (w.1 54) 8)) := fun w => m_keepsT (n := 8) (f := 16) zt_54 zn_54 ta la (by decide) (by omega)
  have na54 : ∀ (w : zM) F, (zuA w 54 F).1 a = w.1 a := fun w F => zA_n _ _ (by omega)
  have k55 : ∀ w, cal d 6038 [.ref 50, .ref 55, .int 8, .ref a, .int (nI 24), .int 1] w = some (some (.int (nI 32)), zuA w 55 (zcpy (fun i => w.1 a (24 + i)) (w.1 55) 8)) := fun w => m_keepsT (n := 8) (f := 24) zt_55 zn_55 ta la (by decide) (by omega)
  have na55 : ∀ (w : zM) F, (zuA w 55 F).1 a = w.1 a := fun w F => zA_n _ _ (by omega)
  have k56 : ∀ w, cal d 6038 [.ref 50, .ref 56, .int 8, .ref a, .int (nI 32), .int 1] w = some (some (.int (nI 40)), zuA w 56 (zcpy (fun i => w.1 a (32 + i)) (w.1 56) 8)) := fun w => m_keepsT (n := 8) (f := 32) zt_56 zn_56 ta la (by decide) (by omega)
  have na56 : ∀ (w : zM) F, (zuA w 56 F).1 a = w.1 a := fun w F => zA_n _ _ (by omega)
  have k57 : ∀ w, cal d 6038 [.ref 50, .ref 57, .int 4, .ref a, .int (nI 40), .int 1] w = some (some (.int (nI 44)), zuA w 57 (zcpy (fun i => w.1 a (40 + i)) (w.1 57) 4)) := fun w => m_keepsT (n := 4) (f := 40) zt_57 zn_57 ta la (by decide) (by omega)
  have na57 : ∀ (w : zM) F, (zuA w 57 F).1 a = w.1 a := fun w F => zA_n _ _ (by omega)
  have k58 : ∀ w, cal d 6038 [.ref 50, .ref 58, .int 4, .ref a, .int (nI 44), .int 1] w = some (some (.int (nI 48)), zuA w 58 (zcpy (fun i => w.1 a (44 + i)) (w.1 58) 4)) := fun w => m_keepsT (n := 4) (f := 44) zt_58 zn_58 ta la (by decide) (by omega)
  have na58 : ∀ (w : zM) F, (zuA w 58 F).1 a = w.1 a := fun w F => zA_n _ _ (by omega)
  have k59 : ∀ w, cal d 6038 [.ref 50, .ref 59, .int 4, .ref a, .int (nI 48), .int 1] w = some (some (.int (nI 52)), zuA w 59 (zcpy (fun i => w.1 a (48 + i)) (w.1 59) 4)) := fun w => m_keepsT (n := 4) (f := 48) zt_59 zn_59 ta la (by decide) (by omega)
  have na59 : ∀ (w : zM) F, (zuA w 59 F).1 a = w.1 a := fun w F => zA_n _ _ (by omega)
  have k60 : ∀ w, cal d 6038 [.ref 50, .ref 60, .int 4, .ref a, .int (nI 52), .int 1] w = some (some (.int (nI 56)), zuA w 60 (zcpy (fun i => w.1 a (52 + i)) (w.1 60) 4)) := fun w => m_keepsT (n := 4) (f := 52) zt_60 zn_60 ta la (by decide) (by omega)
  have na60 : ∀ (w : zM) F, (zuA w 60 F).1 a = w.1 a := fun w F => zA_n _ _ (by omega)
  have k61 : ∀ w, cal d 6038 [.ref 50, .ref 61, .int 4, .ref a, .int (nI 56), .int 1] w = some (some (.int (nI 60)), zuA w 61 (zcpy (fun i => w.1 a (56 + i)) (w.1 61) 4)) := fun w => m_keepsT (n := 4) (f := 56) zt_61 zn_61 ta la (by decide) (by omega)
  have na61 : ∀ (w : zM) F, (zuA w 61 F).1 a = w.1 a := fun w F => zA_n _ _ (by omega)
  have k62 : ∀ w, cal d 6038 [.ref 50, .ref 62, .int 4, .ref a, .int (nI 60), .int 1] w = some (some (.int (nI 64)), zuA w 62 (zcpy (fun i => w.1 a (60 + i)) (w.1 62) 4)) := fun w => m_keepsT (n := 4) (f := 60) zt_62 zn_62 ta la (by decide) (by omega)
  have na62 : ∀ (w : zM) F, (zuA w 62 F).1 a = w.1 a := fun w F => zA_n _ _ (by omega)
  have k63 : ∀ w, cal d 6038 [.ref 50, .ref 63, .int 3, .ref a, .int (nI 64), .int 1] w = some (some (.int (nI 67)), zuA w 63 (zcpy (fun i => w.1 a (64 + i)) (w.1 63) 3)) := fun w => m_keepsT (n := 3) (f := 64) zt_63 zn_63 ta la (by decide) (by omega)
  have na63 : ∀ (w : zM) F, (zuA w 63 F).1 a = w.1 a := fun w F => zA_n _ _ (by omega)
  have x52_53 : ∀ (w : zM) F, (zuA w 52 F).1 53 = w.1 53 := fun w F => zA_n _ _ (by decide)
  have x52_54 : ∀ (w : zM) F, (zuA w 52 F).1 54 = w.1 54 := fun w F => zA_n _ _ (by decide)
  have x52_55 : ∀ (w : zM) F, (zuA w 52 F).1 55 = w.1 55 := fun w F => zA_n _ _ (by decide)
  have x52_56 : ∀ (w : zM) F, (zuA w 52 F).1 56 = w.1 56 := fun w F => zA_n _ _ (by decide)
  have x52_57 : ∀ (w : zM) F, (zuA w 52 F).1 57 = w.1 57 := fun w F => zA_n _ _ (by decide)
  have x52_58 : ∀ (w : zM) F, (zuA w 52 F).1 58 = w.1 58 := fun w F => zA_n _ _ (by decide)
  have x52_59 : ∀ (w : zM) F, (zuA w 52 F).1 59 = w.1 59 := fun w F => zA_n _ _ (by decide)
  have x52_60 : ∀ (w : zM) F, (zuA w 52 F).1 60 = w.1 60 := fun w F => zA_n _ _ (by decide)
  have x52_61 : ∀ (w : zM) F, (zuA w 52 F).1 61 = w.1 61 := fun w F => zA_n _ _ (by decide)
  have x52_62 : ∀ (w : zM) F, (zuA w 52 F).1 62 = w.1 62 := fun w F => zA_n _ _ (by decide)
  have x52_63 : ∀ (w : zM) F, (zuA w 52 F).1 63 = w.1 63 := fun w F => zA_n _ _ (by decide)
  have x53_54 : ∀ (w : zM) F, (zuA w 53 F).1 54 = w.1 54 := fun w F => zA_n _ _ (by decide)
  have x53_55 : ∀ (w : zM) F, (zuA w 53 F).1 55 = w.1 55 := fun w F => zA_n _ _ (by decide)
  have x53_56 : ∀ (w : zM) F, (zuA w 53 F).1 56 = w.1 56 := fun w F => zA_n _ _ (by decide)
  have x53_57 : ∀ (w : zM) F, (zuA w 53 F).1 57 = w.1 57 := fun w F => zA_n _ _ (by decide)
  have x53_58 : ∀ (w : zM) F, (zuA w 53 F).1 58 = w.1 58 := fun w F => zA_n _ _ (by decide)
  have x53_59 : ∀ (w : zM) F, (zuA w 53 F).1 59 = w.1 59 := fun w F => zA_n _ _ (by decide)
  have x53_60 : ∀ (w : zM) F, (zuA w 53 F).1 60 = w.1 60 := fun w F => zA_n _ _ (by decide)
  have x53_61 : ∀ (w : zM) F, (zuA w 53 F).1 61 = w.1 61 := fun w F => zA_n _ _ (by decide)
  have x53_62 : ∀ (w : zM) F, (zuA w 53 F).1 62 = w.1 62 := fun w F => zA_n _ _ (by decide)
  have x53_63 : ∀ (w : zM) F, (zuA w 53 F).1 63 = w.1 63 := fun w F => zA_n _ _ (by decide)
  have x54_55 : ∀ (w : zM) F, (zuA w 54 F).1 55 = w.1 55 := fun w F => zA_n _ _ (by decide)
  have x54_56 : ∀ (w : zM) F, (zuA w 54 F).1 56 = w.1 56 := fun w F => zA_n _ _ (by decide)
  have x54_57 : ∀ (w : zM) F, (zuA w 54 F).1 57 = w.1 57 := fun w F => zA_n _ _ (by decide)
  have x54_58 : ∀ (w : zM) F, (zuA w 54 F).1 58 = w.1 58 := fun w F => zA_n _ _ (by decide)
  have x54_59 : ∀ (w : zM) F, (zuA w 54 F).1 59 = w.1 59 := fun w F => zA_n _ _ (by decide)
  have x54_60 : ∀ (w : zM) F, (zuA w 54 F).1 60 = w.1 60 := fun w F => zA_n _ _ (by decide)
  have x54_61 : ∀ (w : zM) F, (zuA w 54 F).1 61 = w.1 61 := fun w F => zA_n _ _ (by decide)
  have x54_62 : ∀ (w : zM) F, (zuA w 54 F).1 62 = w.1 62 := fun w F => zA_n _ _ (by decide)
  have x54_63 : ∀ (w : zM) F, (zuA w 54 F).1 63 = w.1 63 := fun w F => zA_n _ _ (by decide)
  have x55_56 : ∀ (w : zM) F, (zuA w 55 F).1 56 = w.1 56 := fun w F => zA_n _ _ (by decide)
  have x55_57 : ∀ (w : zM) F, (zuA w 55 F).1 57 = w.1 57 := fun w F => zA_n _ _ (by decide)
  have x55_58 : ∀ (w : zM) F, (zuA w 55 F).1 58 = w.1 58 := fun w F => zA_n _ _ (by decide)
  have x55_59 : ∀ (w : zM) F, (zuA w 55 F).1 59 = w.1 59 := fun w F => zA_n _ _ (by decide)
  have x55_60 : ∀ (w : zM) F, (zuA w 55 F).1 60 = w.1 60 := fun w F => zA_n _ _ (by decide)
  have x55_61 : ∀ (w : zM) F, (zuA w 55 F).1 61 = w.1 61 := fun w F => zA_n _ _ (by decide)
  have x55_62 : ∀ (w : zM) F, (zuA w 55 F).1 62 = w.1 62 := fun w F => zA_n _ _ (by decide)
  have x55_63 : ∀ (w : zM) F, (zuA w 55 F).1 63 = w.1 63 := fun w F => zA_n _ _ (by decide)
  have x56_57 : ∀ (w : zM) F, (zuA w 56 F).1 57 = w.1 57 := fun w F => zA_n _ _ (by decide)
  have x56_58 : ∀ (w : zM) F, (zuA w 56 F).1 58 = w.1 58 := fun w F => zA_n _ _ (by decide)
  have x56_59 : ∀ (w : zM) F, (zuA w 56 F).1 59 = w.1 59 := fun w F => zA_n _ _ (by decide)
  have x56_60 : ∀ (w : zM) F, (zuA w 56 F).1 60 = w.1 60 := fun w F => zA_n _ _ (by decide)
  have x56_61 : ∀ (w : zM) F, (zuA w 56 F).1 61 = w.1 61 := fun w F => zA_n _ _ (by decide)
  have x56_62 : ∀ (w : zM) F, (zuA w 56 F).1 62 = w.1 62 := fun w F => zA_n _ _ (by decide)
  have x56_63 : ∀ (w : zM) F, (zuA w 56 F).1 63 = w.1 63 := fun w F => zA_n _ _ (by decide)
  have x57_58 : ∀ (w : zM) F, (zuA w 57 F).1 58 = w.1 58 := fun w F => zA_n _ _ (by decide)
  have x57_59 : ∀ (w : zM) F, (zuA w 57 F).1 59 = w.1 59 := fun w F => zA_n _ _ (by decide)
  have x57_60 : ∀ (w : zM) F, (zuA w 57 F).1 60 = w.1 60 := fun w F => zA_n _ _ (by decide)
  have x57_61 : ∀ (w : zM) F, (zuA w 57 F).1 61 = w.1 61 := fun w F => zA_n _ _ (by decide)
  have x57_62 : ∀ (w : zM) F, (zuA w 57 F).1 62 = w.1 62 := fun w F => zA_n _ _ (by decide)
  have x57_63 : ∀ (w : zM) F, (zuA w 57 F).1 63 = w.1 63 := fun w F => zA_n _ _ (by decide)
  have x58_59 : ∀ (w : zM) F, (zuA w 58 F).1 59 = w.1 59 := fun w F => zA_n _ _ (by decide)
  have x58_60 : ∀ (w : zM) F, (zuA w 58 F).1 60 = w.1 60 := fun w F => zA_n _ _ (by decide)
  have x58_61 : ∀ (w : zM) F, (zuA w 58 F).1 61 = w.1 61 := fun w F => zA_n _ _ (by decide)
  have x58_62 : ∀ (w : zM) F, (zuA w 58 F).1 62 = w.1 62 := fun w F => zA_n _ _ (by decide)
  have x58_63 : ∀ (w : zM) F, (zuA w 58 F).1 63 = w.1 63 := fun w F => zA_n _ _ (by decide)
  have x59_60 : ∀ (w : zM) F, (zuA w 59 F).1 60 = w.1 60 := fun w F => zA_n _ _ (by decide)
  have x59_61 : ∀ (w : zM) F, (zuA w 59 F).1 61 = w.1 61 := fun w F => zA_n _ _ (by decide)
  have x59_62 : ∀ (w : zM) F, (zuA w 59 F).1 62 = w.1 62 := fun w F => zA_n _ _ (by decide)
  have x59_63 : ∀ (w : zM) F, (zuA w 59 F).1 63 = w.1 63 := fun w F => zA_n _ _ (by decide)
  have x60_61 : ∀ (w : zM) F, (zuA w 60 F).1 61 = w.1 61 := fun w F => zA_n _ _ (by decide)
  have x60_62 : ∀ (w : zM) F, (zuA w 60 F).1 62 = w.1 62 := fun w F => zA_n _ _ (by decide)
  have x60_63 : ∀ (w : zM) F, (zuA w 60 F).1 63 = w.1 63 := fun w F => zA_n _ _ (by decide)
  have x61_62 : ∀ (w : zM) F, (zuA w 61 F).1 62 = w.1 62 := fun w F => zA_n _ _ (by decide)
  have x61_63 : ∀ (w : zM) F, (zuA w 61 F).1 63 = w.1 63 := fun w F => zA_n _ _ (by decide)
  have x62_63 : ∀ (w : zM) F, (zuA w 62 F).1 63 = w.1 63 := fun w F => zA_n _ _ (by decide)
  have i50 : ∀ (w : zM) k v, (zui w 50 k v).1 a = w.1 a := fun w k v => zi_n _ (by omega)
  have t1 : zTag a = 10 ∨ zTag a = 20 := Or.inl ta
  have zl : ∀ w j, zld w a j = w.1 a j := fun w j => zld_A ta
  have z67 := zis_nI (j := 67) (n := 100) (by decide) (by decide)
  have c67 := nI_clamp (n := 67) (by decide)
  have z68 := zis_nI (j := 68) (n := 100) (by decide) (by decide)
  have c68 := nI_clamp (n := 68) (by decide)
  have a1 : nI 67 + 1 = nI 68 := by decide
  have z69 := zis_nI (j := 69) (n := 100) (by decide) (by decide)
  have c69 := nI_clamp (n := 69) (by decide)
  have a2 : nI 67 + 2 = nI 69 := by decide
  have z70 := zis_nI (j := 70) (n := 100) (by decide) (by decide)
  have c70 := nI_clamp (n := 70) (by decide)
  have a3 : nI 67 + 3 = nI 70 := by decide
  have z71 := zis_nI (j := 71) (n := 100) (by decide) (by decide)
  have c71 := nI_clamp (n := 71) (by decide)
  have a4 : nI 67 + 4 = nI 71 := by decide
  have z72 := zis_nI (j := 72) (n := 100) (by decide) (by decide)
  have c72 := nI_clamp (n := 72) (by decide)
  have a5 : nI 67 + 5 = nI 72 := by decide
  have z73 := zis_nI (j := 73) (n := 100) (by decide) (by decide)
  have c73 := nI_clamp (n := 73) (by decide)
  have a6 : nI 67 + 6 = nI 73 := by decide
  simp only [c_6039, e_6039_0, e_6039_1, e_6039_2, e_6039_5, e_6039_7, e_6039_8, e_6039_9, e_6039_10, e_6039_13, e_6039_14, e_6039_15, e_6039_16, e_6039_19, e_6039_21, e_6039_22, e_6039_23, e_6039_24, e_6039_27, e_6039_28, e_6039_29, e_6039_30, e_6039_33, e_6039_35, e_6039_36, e_6039_37, e_6039_38, e_6039_41, e_6039_42, e_6039_43, e_6039_44, e_6039_47, e_6039_49, e_6039_50, e_6039_51, e_6039_52, e_6039_55, e_6039_56, e_6039_57, e_6039_58, e_6039_61, e_6039_63, e_6039_64, e_6039_65, e_6039_66, e_6039_69, e_6039_70, e_6039_71, e_6039_72, e_6039_75, e_6039_76, e_6039_77, e_6039_78, e_6039_79, e_6039_82, e_6039_83, e_6039_84, e_6039_85, e_6039_88, e_6039_89, e_6039_90, e_6039_91, e_6039_92, e_6039_95, e_6039_96, e_6039_97, e_6039_98, e_6039_101, e_6039_102, e_6039_103, e_6039_104, e_6039_105, e_6039_108, e_6039_109, e_6039_110, e_6039_111, e_6039_114, e_6039_115, e_6039_116, e_6039_117, e_6039_118, e_6039_121, e_6039_122, e_6039_123, e_6039_124, e_6039_127, e_6039_128, e_6039_129, e_6039_130, e_6039_131, e_6039_134, e_6039_135, e_6039_136, e_6039_137, e_6039_140, e_6039_141, e_6039_142, e_6039_143, e_6039_144, e_6039_147, e_6039_148, e_6039_149, e_6039_150, e_6039_153, e_6039_154, e_6039_155, e_6039_156, e_6039_157, e_6039_160, e_6039_161, e_6039_162, e_6039_165, e_6039_166, e_6039_167, e_6039_168, e_6039_169, e_6039_172, e_6039_173, e_6039_174, e_6039_175, e_6039_176, e_6039_177, e_6039_178, e_6039_181, e_6039_182, e_6039_183, e_6039_184, e_6039_185, e_6039_186, e_6039_187, e_6039_190, e_6039_191, e_6039_192, e_6039_193, e_6039_194, e_6039_195, e_6039_196, e_6039_199, e_6039_200, e_6039_201, e_6039_202, e_6039_203, e_6039_204, e_6039_205, e_6039_208, e_6039_209, e_6039_210, e_6039_211, e_6039_212, e_6039_213, e_6039_214, e_6039_217, e_6039_218, e_6039_219, e_6039_220, e_6039_222, e_6039_223, e_6039_224, e_6039_227, e_6039_230, e_6039_231, e_6039_232, e_6039_233, e_6039_236, e_6039_237, e_6039_238, e_6039_239, e_6039_240, e_6039_241, e_6039_242, e_6039_245, e_6039_246, e_6039_247, e_6039_248, e_6039_249, e_6039_250, e_6039_251, e_6039_254, e_6039_255, e_6039_256, e_6039_257, e_6039_258, e_6039_259, e_6039_260, e_6039_263, e_6039_264, e_6039_265, e_6039_266, e_6039_267, e_6039_268, e_6039_269, e_6039_272, e_6039_273, e_6039_274, e_6039_275, e_6039_276, e_6039_277, e_6039_278, e_6039_281, e_6039_282, e_6039_283, e_6039_284, e_6039_286, e_6039_287, e_6039_288, e_6039_291, e_6039_292, zk_int, zk_ref, zk_null, zk_none, zk_long, zisR_r, zisR_n, zcl_int, zcl_ref, zcl_null, zpush_s, zpush_n, zbs, zbn, true_or, or_true, not_false_eq_true, not_true_eq_false, ↓reduceIte, and_self, and_true, true_and, ie_0_1, ie_0_2, ie_0_3, ie_0_4, ie_0_5, ie_0_6, ie_0_7, ie_1_0, ie_1_2, ie_1_3, ie_1_4, ie_1_5, ie_1_6, ie_1_7, ie_2_0, ie_2_1, ie_2_3, ie_2_4, ie_2_5, ie_2_6, ie_2_7, ie_3_0, ie_3_1, ie_3_2, ie_3_4, ie_3_5, ie_3_6, ie_3_7, ie_4_0, ie_4_1, ie_4_2, ie_4_3, ie_4_5, ie_4_6, ie_4_7, ie_5_0, ie_5_1, ie_5_2, ie_5_3, ie_5_4, ie_5_6, ie_5_7, ie_6_0, ie_6_1, ie_6_2, ie_6_3, ie_6_4, ie_6_5, ie_6_7, ie_7_0, ie_7_1, ie_7_2, ie_7_3, ie_7_4, ie_7_5, ie_7_6, zt_50, zr_50_9, zr_50_10, zr_50_11, zr_50_12, zr_50_13, zr_50_14, zr_50_15, zr_50_16, zr_50_17, zr_50_18, zr_50_19, zr_50_20, k52, k53, k54, k55, k56, k57, k58, k59, k60, k61, k62, k63, na52, na53, na54, na55, na56, na57, na58, na59, na60, na61, na62, na63, x52_53, x52_54, x52_55, x52_56, x52_57, x52_58, x52_59, x52_60, x52_61, x52_62, x52_63, x53_54, x53_55, x53_56, x53_57, x53_58, x53_59, x53_60, x53_61, x53_62, x53_63, x54_55, x54_56, x54_57, x54_58, x54_59, x54_60, x54_61, x54_62, x54_63, x55_56, x55_57, x55_58, x55_59, x55_60, x55_61, x55_62, x55_63, x56_57, x56_58, x56_59, x56_60, x56_61, x56_62, x56_63, x57_58, x57_59, x57_60, x57_61, x57_62, x57_63, x58_59, x58_60, x58_61, x58_62, x58_63, x59_60, x59_61, x59_62, x59_63, x60_61, x60_62, x60_63, x61_62, x61_63, x62_63, i50, t1, zl, la, z67, c67, z68, c68, z69, c69, z70, c70, z71, c71, z72, c72, z73, c73, a1, a2, a3, a4, a5, a6]
  rfl
theorem cB_n {K : Nat → Int32} {a : Nat} (h50 : a ≠ 50) (h : a < 52 ∨ 63 < a) : (cB w K).1 a = w.1 a := by
  unfold cB
  rw [zi_n _ h50, zi_n _ h50, zi_n _ h50, zi_n _ h50, zi_n _ h50, zi_n _ h50, zi_n _ h50, zA_n _ _ (by omega), zA_n _ _ (by omega), zA_n _ _ (by omega), zA_n _ _ (by omega), zA_n _ _ (by omega), zA_n _ _ (by omega), zA_n _ _ (by omega), zA_n _ _ (by omega), zA_n _ _ (by omega), zA_n _ _ (by omega), zA_n _ _ (by omega), zA_n _ _ (by omega)]
theorem cB_52 {K : Nat → Int32} {t : Nat} (ht : t < 8) : (cB w K).1 52 t = K (0 + t) := by
  unfold cB
  rw [zi_n _ (by decide), zi_n _ (by decide), zi_n _ (by decide), zi_n _ (by decide), zi_n _ (by decide), zi_n _ (by decide), zi_n _ (by decide), zA_n _ _ (by decide), zA_n _ _ (by decide), zA_n _ _ (by decide), zA_n _ _ (by decide), zA_n _ _ (by decide), zA_n _ _ (by decide), zA_n _ _ (by decide), zA_n _ _ (by decide), zA_n _ _ (by decide), zA_n _ _ (by decide), zA_n _ _ (by decide), zA_s]
  exact if_pos ht
theorem cB_53 {K : Nat → Int32} {t : Nat} (ht : t < 8) : (cB w K).1 53 t = K (8 + t) := by
  unfold cB
  rw [zi_n _ (by decide), zi_n _ (by decide), zi_n _ (by decide), zi_n _ (by decide), zi_n _ (by decide), zi_n _ (by decide), zi_n _ (by decide), zA_n _ _ (by decide), zA_n _ _ (by decide), zA_n _ _ (by decide), zA_n _ _ (by decide), zA_n _ _ (by decide), zA_n _ _ (by decide), zA_n _ _ (by decide), zA_n _ _ (by decide), zA_n _ _ (by decide), zA_n _ _ (by decide), zA_s]
  exact if_pos ht
theorem cB_54 {K : Nat → Int32} {t : Nat} (ht : t < 8) : (cB w K).1 54 t = K (16 + t) := by
  unfold cB
  rw [zi_n _ (by decide), zi_n _ (by decide), zi_n _ (by decide), zi_n _ (by decide), zi_n _ (by decide), zi_n _ (by decide), zi_n _ (by decide), zA_n _ _ (by decide), zA_n _ _ (by decide), zA_n _ _ (by decide), zA_n _ _ (by decide), zA_n _ _ (by decide), zA_n _ _ (by decide), zA_n _ _ (by decide), zA_n _ _ (by decide), zA_n _ _ (by decide), zA_s]
  exact if_pos ht
theorem cB_55 {K : Nat → Int32} {t : Nat} (ht : t < 8) : (cB w K).1 55 t = K (24 + t) := by
  unfold cB
  rw [zi_n _ (by decide), zi_n _ (by decide), zi_n _ (by decide), zi_n _ (by decide), zi_n _ (by decide), zi_n _ (by decide), zi_n _ (by decide), zA_n _ _ (by decide), zA_n _ _ (by decide), zA_n _ _ (by decide), zA_n _ _ (by decide), zA_n _ _ (by decide), zA_n _ _ (by decide), zA_n _ _ (by decide), zA_n _ _ (by decide), zA_s]
  exact if_pos ht
theorem cB_56 {K : Nat → Int32} {t : Nat} (ht : t < 8) : (cB w K).1 56 t = K (32 + t) := by
  unfold cB
  rw [zi_n _ (by decide), zi_n _ (by decide), zi_n _ (by decide), zi_n _ (by decide), zi_n _ (by decide), zi_n _ (by decide), zi_n _ (by decide), zA_n _ _ (by decide), zA_n _ _ (by decide), zA_n _ _ (by decide), zA_n _ _ (by decide), zA_n _ _ (by decide), zA_n _ _ (by decide), zA_n _ _ (by decide), zA_s]
  exact if_pos ht
theorem cB_57 {K : Nat → Int32} {t : Nat} (ht : t < 4) : (cB w K).1 57 t = K (40 + t) := by
  unfold cB
  rw [zi_n _ (by decide), zi_n _ (by decide), zi_n _ (by decide), zi_n _ (by decide), zi_n _ (by decide), zi_n _ (by decide), zi_n _ (by decide), zA_n _ _ (by decide), zA_n _ _ (by decide), zA_n _ _ (by decide), zA_n _ _ (by decide), zA_n _ _ (by decide), zA_n _ _ (by decide), zA_s]
  exact if_pos ht
theorem cB_58 {K : Nat → Int32} {t : Nat} (ht : t < 4) : (cB w K).1 58 t = K (44 + t) := by
  unfold cB
  rw [zi_n _ (by decide), zi_n _ (by decide), zi_n _ (by decide), zi_n _ (by decide), zi_n _ (by decide), zi_n _ (by decide), zi_n _ (by decide), zA_n _ _ (by decide), zA_n _ _ (by decide), zA_n _ _ (by decide), zA_n _ _ (by decide), zA_n _ _ (by decide), zA_s]
  exact if_pos ht
theorem cB_59 {K : Nat → Int32} {t : Nat} (ht : t < 4) : (cB w K).1 59 t = K (48 + t) := by
  unfold cB
  rw [zi_n _ (by decide), zi_n _ (by decide), zi_n _ (by decide), zi_n _ (by decide), zi_n _ (by decide), zi_n _ (by decide), zi_n _ (by decide), zA_n _ _ (by decide), zA_n _ _ (by decide), zA_n _ _ (by decide), zA_n _ _ (by decide), zA_s]
  exact if_pos ht
theorem cB_60 {K : Nat → Int32} {t : Nat} (ht : t < 4) : (cB w K).1 60 t = K (52 + t) := by
  unfold cB
  rw [zi_n _ (by decide), zi_n _ (by decide), zi_n _ (by decide), zi_n _ (by decide), zi_n _ (by decide), zi_n _ (by decide), zi_n _ (by decide), zA_n _ _ (by decide), zA_n _ _ (by decide), zA_n _ _ (by decide), zA_s]
  exact if_pos ht
theorem cB_61 {K : Nat → Int32} {t : Nat} (ht : t < 4) : (cB w K).1 61 t = K (56 + t) := by
  unfold cB
  rw [zi_n _ (by decide), zi_n _ (by decide), zi_n _ (by decide), zi_n _ (by decide), zi_n _ (by decide), zi_n _ (by decide), zi_n _ (by decide), zA_n _ _ (by decide), zA_n _ _ (by decide), zA_s]
  exact if_pos ht
theorem cB_62 {K : Nat → Int32} {t : Nat} (ht : t < 4) : (cB w K).1 62 t = K (60 + t) := by
  unfold cB
  rw [zi_n _ (by decide), zi_n _ (by decide), zi_n _ (by decide), zi_n _ (by decide), zi_n _ (by decide), zi_n _ (by decide), zi_n _ (by decide), zA_n _ _ (by decide), zA_s]
  exact if_pos ht
theorem cB_63 {K : Nat → Int32} {t : Nat} (ht : t < 3) : (cB w K).1 63 t = K (64 + t) := by
  unfold cB
  rw [zi_n _ (by decide), zi_n _ (by decide), zi_n _ (by decide), zi_n _ (by decide), zi_n _ (by decide), zi_n _ (by decide), zi_n _ (by decide), zA_s]
  exact if_pos ht
theorem cB_50 {K : Nat → Int32} : (cB w K).1 50 = upd (upd (upd (upd (upd (upd (upd (w.1 50) 0 (K 67)) 1 (K 68)) 2 (K 69)) 3 (K 70)) 4 (K 71)) 5 (K 72)) 6 (K 73) := by
  unfold cB
  rw [zi_s, zi_s, zi_s, zi_s, zi_s, zi_s, zi_s, zA_n _ _ (by decide), zA_n _ _ (by decide), zA_n _ _ (by decide), zA_n _ _ (by decide), zA_n _ _ (by decide), zA_n _ _ (by decide), zA_n _ _ (by decide), zA_n _ _ (by decide), zA_n _ _ (by decide), zA_n _ _ (by decide), zA_n _ _ (by decide), zA_n _ _ (by decide)]
theorem cB_2 {K : Nat → Int32} : (cB w K).2 = w.2 := id rfl
theorem cB_h {K : Nat → Int32} : zKh w (cB w K) := by
  refine ⟨fun a h => cB_n (by omega) (by omega), fun k h => ?_, fun _ _ => rfl⟩
  rw [cB_50, u_ne (by omega), u_ne (by omega), u_ne (by omega), u_ne (by omega), u_ne (by omega), u_ne (by omega), u_ne (by omega)]
theorem zKt_f {K : Nat → Int32} {F : Nat → Int32} (A : zMs w T V G) (B : zMn w n m) (R : zRg T V G n m) (h6 : ∀ x, x < m → zBt (V (6 * x + 0)) 0 6) (e4 : w.1 50 4 = F 5) (e5 : w.1 50 5 = F 6) (e6 : w.1 50 6 = F 7) (f3 : F 3 = nI n) (f4 : F 4 = nI m) : zKt (mKf w K) T V G F n m := by
  obtain ⟨a, b, g0, g1, g2, g3, g4⟩ := A
  refine ⟨fun t ht => ?_, fun x hx => ?_, ?_, ?_, ?_, ?_, ?_, ?_, ?_, ?_, ?_, ?_, f3, f4, R, h6⟩
  · have q0 := mKf_0 (w := w) K ht
    rw [Nat.zero_add] at q0
    rw [q0, mKf_1 K ht, mKf_2 K ht, mKf_3 K ht, mKf_4 K ht]; exact a t ht
  · rw [mKf_5 K hx, mKf_6 K hx, mKf_7 K hx, mKf_8 K hx, mKf_9 K hx, mKf_10 K hx]; exact b x hx
  · exact (mKf_11 K (t := 0) (by decide)).trans g2
  · exact (mKf_11 K (t := 1) (by decide)).trans g3
  · exact (mKf_11 K (t := 2) (by decide)).trans g4
  · unfold mKf; rw [u_ne (by decide), u_ne (by decide), u_ne (by decide), u_ne (by decide), u_ne (by decide), u_ne (by decide), u_eq]; exact B.1
  · unfold mKf; rw [u_ne (by decide), u_ne (by decide), u_ne (by decide), u_ne (by decide), u_ne (by decide), u_eq]; exact B.2.1
  · unfold mKf; rw [u_ne (by decide), u_ne (by decide), u_ne (by decide), u_ne (by decide), u_eq]; exact g0
  · unfold mKf; rw [u_ne (by decide), u_ne (by decide), u_ne (by decide), u_eq]; exact g1
  · unfold mKf; rw [u_ne (by decide), u_ne (by decide), u_eq]; exact e4
  · unfold mKf; rw [u_ne (by decide), u_eq]; exact e5
  · unfold mKf; rw [u_eq]; exact e6
theorem zKt_b {K F : Nat → Int32} (Z : zKt K T V G F n m) : zMs (cB w K) T V G ∧ zMn (cB w K) n m ∧ (cB w K).1 50 4 = F 5 ∧ (cB w K).1 50 5 = F 6 ∧ (cB w K).1 50 6 = F 7 := by
  obtain ⟨a, b, k64, k65, k66, k67, k68, k69, k70, k71, k72, k73, f3, f4, R, h6⟩ := Z
  refine ⟨⟨fun t ht => ?_, fun x hx => ?_, ?_, ?_, ?_, ?_, ?_⟩, ⟨?_, ?_, R.2.2.2.2.2.2.2.1, R.2.2.2.2.2.2.2.2⟩, ?_, ?_, ?_⟩
  · rw [cB_52 ht, cB_53 ht, cB_54 ht, cB_55 ht, cB_56 ht, Nat.zero_add]; exact a t ht
  · rw [cB_57 hx, cB_58 hx, cB_59 hx, cB_60 hx, cB_61 hx, cB_62 hx]; exact b x hx
  · rw [cB_50, u_ne (by decide), u_ne (by decide), u_ne (by decide), u_ne (by decide), u_eq]; exact k69
  · rw [cB_50, u_ne (by decide), u_ne (by decide), u_ne (by decide), u_eq]; exact k70
  · exact (cB_63 (t := 0) (by decide)).trans k64
  · exact (cB_63 (t := 1) (by decide)).trans k65
  · exact (cB_63 (t := 2) (by decide)).trans k66
  · rw [cB_50, u_ne (by decide), u_ne (by decide), u_ne (by decide), u_ne (by decide), u_ne (by decide), u_ne (by decide), u_eq]; exact k67
  · rw [cB_50, u_ne (by decide), u_ne (by decide), u_ne (by decide), u_ne (by decide), u_ne (by decide), u_eq]; exact k68
  · rw [cB_50, u_ne (by decide), u_ne (by decide), u_eq]; exact k71
  · rw [cB_50, u_ne (by decide), u_eq]; exact k72
  · rw [cB_50, u_eq]; exact k73
end PL
