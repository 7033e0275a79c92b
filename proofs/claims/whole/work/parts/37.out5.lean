section GAM2
variable {d m : Nat} {X : zM} {GN : Nat → Nat → Int32}
def sIsR (GN : Nat → Nat → Int32) (m r : Nat) : Prop := ∀ y, y < m → GN (wE m r y (sRep GN m r y)) y ≤ GN r y
theorem g_rowRests_t {r : Nat} (C : zGw X m GN) (hr : r < 4 ^ m) (hs : sIsR GN m r) : cal (d + 5) 2012 [.ref 13, .int (nI r)] X = some (some (.int 1), X) := by
  have h2 := zGw_256 C
  have hm := C.2.1
  have key : ∀ q j, j + q = m → den (d + 5) 2012 2 [some (.ref 13), some (.int (nI r)), some (.int (nI j))] [] X = some (some (.int 1), X) := by
    intro q
    induction q with
    | zero =>
      intro j hj
      have e : j = m := by omega
      subst e
      have l1 := nI_le_n (Nat.le_refl j) (by omega)
      simp only [c_2012, e_2012_0, e_2012_1, e_2012_2, e_2012_3, e_2012_4, e_2012_7, e_2012_10, e_2012_13, e_2012_14, e_2012_15, e_2012_16, e_2012_17, e_2012_18, e_2012_19, e_2012_20, e_2012_23, e_2012_26, e_2012_27, e_2012_30, e_2012_31, e_2012_32, e_2012_33, e_2012_36, e_2012_39, e_2012_40, e_2012_41, e_2012_44, e_2012_47, e_2012_48, zk_int, zk_ref, zk_null, zk_none, zk_long, zisR_r, zisR_n, zcl_int, zcl_ref, zcl_null, zpush_s, zpush_n, zbs, zbn, true_or, or_true, not_false_eq_true, not_true_eq_false, ↓reduceIte, and_self, and_true, true_and, zt_13, zr_13_0, zt_14, g_waiterCount C, l1]
    | succ q ih =>
      intro j hj
      have hjm : j < m := by omega
      have l1 := nI_ge_f hjm (by omega)
      have q1 := g_replyIn (d := d) C hjm hr
      have q2 := g_withEffort (d := d + 1) (e := sRep GN m r j) C hjm (r := r) (by omega)
      have q3 := g_gainIn (d := d + 3) C hjm (wE_lt (e := sRep GN m r j) hjm (sRep_lt _ _ _ _) hr)
      have q4 := g_gainIn (d := d + 3) C hjm hr
      have hc := hs j hjm
      rw [e_2012_2]
      simp only [c_2012, e_2012_0, e_2012_1, e_2012_3, e_2012_4, e_2012_7, e_2012_10, e_2012_13, e_2012_14, e_2012_15, e_2012_16, e_2012_17, e_2012_18, e_2012_19, e_2012_20, e_2012_23, e_2012_26, e_2012_27, e_2012_30, e_2012_31, e_2012_32, e_2012_33, e_2012_36, e_2012_39, e_2012_40, e_2012_41, e_2012_44, e_2012_47, e_2012_48, zk_int, zk_ref, zk_null, zk_none, zk_long, zisR_r, zisR_n, zcl_int, zcl_ref, zcl_null, zpush_s, zpush_n, zbs, zbn, true_or, or_true, not_false_eq_true, not_true_eq_false, ↓reduceIte, and_self, and_true, true_and, zt_13, zr_13_0, zt_14, g_waiterCount C, l1, q1, q2, q3, q4, hc, nI_1]
      exact ih (j + 1) (by omega)
  have h1 := key m 0 (by omega)
  simp only [c_2012, e_2012_0, e_2012_1, e_2012_3, e_2012_4, e_2012_7, e_2012_10, e_2012_13, e_2012_14, e_2012_15, e_2012_16, e_2012_17, e_2012_18, e_2012_19, e_2012_20, e_2012_23, e_2012_26, e_2012_27, e_2012_30, e_2012_31, e_2012_32, e_2012_33, e_2012_36, e_2012_39, e_2012_40, e_2012_41, e_2012_44, e_2012_47, e_2012_48, zk_int, zk_ref, zk_null, zk_none, zk_long, zisR_r, zisR_n, zcl_int, zcl_ref, zcl_null, zpush_s, zpush_n, zbs, zbn, true_or, or_true, not_false_eq_true, not_true_eq_false, ↓reduceIte, and_self, and_true, true_and]
  exact h1
theorem g_rowRests_f {r : Nat} (C : zGw X m GN) (hr : r < 4 ^ m) (hs : ¬ sIsR GN m r) : cal (d + 5) 2012 [.ref 13, .int (nI r)] X = some (some (.int 0), X) := by
  have h2 := zGw_256 C
  have hm := C.2.1
  have key : ∀ q j, j + q = m → (∃ y, j ≤ y ∧ y < m ∧ ¬ GN (wE m r y (sRep GN m r y)) y ≤ GN r y) → den (d + 5) 2012 2 [some (.ref 13), some (.int (nI r)), some (.int (nI j))] [] X = some (some (.int 0), X) := by
    intro q
    induction q with
    | zero =>
      intro j hj ⟨y, h1, h2, h3⟩
      omega
    | succ q ih =>
      intro j hj ⟨y, y1, y2, y3⟩
      have hjm : j < m := by omega
      have l1 := nI_ge_f hjm (by omega)
      have q1 := g_replyIn (d := d) C hjm hr
      have q2 := g_withEffort (d := d + 1) (e := sRep GN m r j) C hjm (r := r) (by omega)
      have q3 := g_gainIn (d := d + 3) C hjm (wE_lt (e := sRep GN m r j) hjm (sRep_lt _ _ _ _) hr)
      have q4 := g_gainIn (d := d + 3) C hjm hr
      rw [e_2012_2]
      by_cases hc : GN (wE m r j (sRep GN m r j)) j ≤ GN r j
      · simp only [c_2012, e_2012_0, e_2012_1, e_2012_3, e_2012_4, e_2012_7, e_2012_10, e_2012_13, e_2012_14, e_2012_15, e_2012_16, e_2012_17, e_2012_18, e_2012_19, e_2012_20, e_2012_23, e_2012_26, e_2012_27, e_2012_30, e_2012_31, e_2012_32, e_2012_33, e_2012_36, e_2012_39, e_2012_40, e_2012_41, e_2012_44, e_2012_47, e_2012_48, zk_int, zk_ref, zk_null, zk_none, zk_long, zisR_r, zisR_n, zcl_int, zcl_ref, zcl_null, zpush_s, zpush_n, zbs, zbn, true_or, or_true, not_false_eq_true, not_true_eq_false, ↓reduceIte, and_self, and_true, true_and, zt_13, zr_13_0, zt_14, g_waiterCount C, l1, q1, q2, q3, q4, hc, nI_1]
        refine ih (j + 1) (by omega) ⟨y, ?_, y2, y3⟩
        rcases Nat.lt_or_ge j y with h | h
        · exact h
        · have e : y = j := by omega
          subst e
          exact absurd hc y3
      · simp only [c_2012, e_2012_0, e_2012_1, e_2012_3, e_2012_4, e_2012_7, e_2012_10, e_2012_13, e_2012_14, e_2012_15, e_2012_16, e_2012_17, e_2012_18, e_2012_19, e_2012_20, e_2012_23, e_2012_26, e_2012_27, e_2012_30, e_2012_31, e_2012_32, e_2012_33, e_2012_36, e_2012_39, e_2012_40, e_2012_41, e_2012_44, e_2012_47, e_2012_48, zk_int, zk_ref, zk_null, zk_none, zk_long, zisR_r, zisR_n, zcl_int, zcl_ref, zcl_null, zpush_s, zpush_n, zbs, zbn, true_or, or_true, not_false_eq_true, not_true_eq_false, ↓reduceIte, and_self, and_true, true_and, zt_13, zr_13_0, zt_14, g_waiterCount C, l1, q1, q2, q3, q4, hc]
  have h0 : ∃ y, 0 ≤ y ∧ y < m ∧ ¬ GN (wE m r y (sRep GN m r y)) y ≤ GN r y := by
    refine Classical.byContradiction fun hn => hs fun y hy => Classical.byContradiction fun h3 => hn ⟨y, Nat.zero_le _, hy, h3⟩
  have h1 := key m 0 (by omega) h0
  simp only [c_2012, e_2012_0, e_2012_1, e_2012_3, e_2012_4, e_2012_7, e_2012_10, e_2012_13, e_2012_14, e_2012_15, e_2012_16, e_2012_17, e_2012_18, e_2012_19, e_2012_20, e_2012_23, e_2012_26, e_2012_27, e_2012_30, e_2012_31, e_2012_32, e_2012_33, e_2012_36, e_2012_39, e_2012_40, e_2012_41, e_2012_44, e_2012_47, e_2012_48, zk_int, zk_ref, zk_null, zk_none, zk_long, zisR_r, zisR_n, zcl_int, zcl_ref, zcl_null, zpush_s, zpush_n, zbs, zbn, true_or, or_true, not_false_eq_true, not_true_eq_false, ↓reduceIte, and_self, and_true, true_and]
  exact h1
noncomputable def sFR (GN : Nat → Nat → Int32) (m : Nat) (f0 : Int32) : Nat → Nat × Int32
  | 0 => (0, f0)
  | j + 1 => @ite _ (sIsR GN m j) (Classical.propDecidable _) ((sFR GN m f0 j).1 + 1, if (sFR GN m f0 j).1 = 0 then nI j else (sFR GN m f0 j).2) (sFR GN m f0 j)
theorem sFR_le (GN : Nat → Nat → Int32) (m : Nat) (f0 : Int32) : ∀ j, (sFR GN m f0 j).1 ≤ j := by
  intro j
  induction j with
  | zero => exact Nat.le_refl _
  | succ j ih =>
    unfold sFR
    by_cases h : sIsR GN m j
    · rw [if_pos h]
      show (sFR GN m f0 j).1 + 1 ≤ j + 1
      omega
    · rw [if_neg h]
      omega
theorem g_findRests (C : zGw X m GN) : cal (d + 6) 2011 [.ref 13] X = some (some (.int (nI (sFR GN m (X.1 13 3) (4 ^ m)).1)), Xr X (sFR GN m (X.1 13 3) (4 ^ m)).2) := by
  have h2 := zGw_256 C
  have hm := C.2.1
  have key : ∀ q j, j + q = 4 ^ m → den (d + 6) 2011 9 [some (.ref 13), some (.int (nI (sFR GN m (X.1 13 3) j).1)), some (.int (nI (4 ^ m))), some (.int (nI j))] [] (Xr X (sFR GN m (X.1 13 3) j).2) = some (some (.int (nI (sFR GN m (X.1 13 3) (4 ^ m)).1)), Xr X (sFR GN m (X.1 13 3) (4 ^ m)).2) := by
    intro q
    induction q with
    | zero =>
      intro j hj
      have e : j = 4 ^ m := by omega
      subst e
      have l1 := nI_le_n (Nat.le_refl (4 ^ m)) (by omega)
      simp only [c_2011, e_2011_0, e_2011_1, e_2011_2, e_2011_3, e_2011_6, e_2011_7, e_2011_8, e_2011_9, e_2011_10, e_2011_11, e_2011_14, e_2011_15, e_2011_16, e_2011_19, e_2011_22, e_2011_23, e_2011_24, e_2011_27, e_2011_28, e_2011_31, e_2011_32, e_2011_35, e_2011_38, e_2011_41, e_2011_44, e_2011_47, e_2011_48, zk_int, zk_ref, zk_null, zk_none, zk_long, zisR_r, zisR_n, zcl_int, zcl_ref, zcl_null, zpush_s, zpush_n, zbs, zbn, true_or, or_true, not_false_eq_true, not_true_eq_false, ↓reduceIte, and_self, and_true, true_and, l1]
    | succ q ih =>
      intro j hj
      have hjm : j < 4 ^ m := by omega
      have l1 := nI_ge_f hjm (by omega)
      have hle := sFR_le GN m (X.1 13 3) j
      have z : ((1 : Int32) = 0) = False := by decide
      have ih2 := ih (j + 1) (by omega)
      rw [e_2011_9]
      by_cases hs : sIsR GN m j
      · have q1 := g_rowRests_t (d := d) (zGw_r (r := (sFR GN m (X.1 13 3) j).2) C) hjm hs
        have e2 : sFR GN m (X.1 13 3) (j + 1) = ((sFR GN m (X.1 13 3) j).1 + 1, if (sFR GN m (X.1 13 3) j).1 = 0 then nI j else (sFR GN m (X.1 13 3) j).2) := if_pos hs
        rw [e2] at ih2
        by_cases hc : (sFR GN m (X.1 13 3) j).1 = 0
        · rw [if_pos hc, hc] at ih2
          have l2 : (nI 0 = 0) = True := eq_true rfl
          simp only [c_2011, e_2011_0, e_2011_1, e_2011_2, e_2011_3, e_2011_6, e_2011_7, e_2011_8, e_2011_10, e_2011_11, e_2011_14, e_2011_15, e_2011_16, e_2011_19, e_2011_22, e_2011_23, e_2011_24, e_2011_27, e_2011_28, e_2011_31, e_2011_32, e_2011_35, e_2011_38, e_2011_41, e_2011_44, e_2011_47, e_2011_48, zk_int, zk_ref, zk_null, zk_none, zk_long, zisR_r, zisR_n, zcl_int, zcl_ref, zcl_null, zpush_s, zpush_n, zbs, zbn, true_or, or_true, not_false_eq_true, not_true_eq_false, ↓reduceIte, and_self, and_true, true_and, zt_13, l1, q1, z, hc, l2, zui_A, Xr_Xr, nI_1]
          exact ih2
        · rw [if_neg hc] at ih2
          have l2 := nI_ne0' (n := (sFR GN m (X.1 13 3) j).1) (by omega) (by omega)
          simp only [c_2011, e_2011_0, e_2011_1, e_2011_2, e_2011_3, e_2011_6, e_2011_7, e_2011_8, e_2011_10, e_2011_11, e_2011_14, e_2011_15, e_2011_16, e_2011_19, e_2011_22, e_2011_23, e_2011_24, e_2011_27, e_2011_28, e_2011_31, e_2011_32, e_2011_35, e_2011_38, e_2011_41, e_2011_44, e_2011_47, e_2011_48, zk_int, zk_ref, zk_null, zk_none, zk_long, zisR_r, zisR_n, zcl_int, zcl_ref, zcl_null, zpush_s, zpush_n, zbs, zbn, true_or, or_true, not_false_eq_true, not_true_eq_false, ↓reduceIte, and_self, and_true, true_and, zt_13, l1, q1, z, l2, Xr_3, zui_A, Xr_Xr, nI_1]
          exact ih2
      · have q1 := g_rowRests_f (d := d) (zGw_r (r := (sFR GN m (X.1 13 3) j).2) C) hjm hs
        have e2 : sFR GN m (X.1 13 3) (j + 1) = sFR GN m (X.1 13 3) j := if_neg hs
        rw [e2] at ih2
        simp only [c_2011, e_2011_0, e_2011_1, e_2011_2, e_2011_3, e_2011_6, e_2011_7, e_2011_8, e_2011_10, e_2011_11, e_2011_14, e_2011_15, e_2011_16, e_2011_19, e_2011_22, e_2011_23, e_2011_24, e_2011_27, e_2011_28, e_2011_31, e_2011_32, e_2011_35, e_2011_38, e_2011_41, e_2011_44, e_2011_47, e_2011_48, zk_int, zk_ref, zk_null, zk_none, zk_long, zisR_r, zisR_n, zcl_int, zcl_ref, zcl_null, zpush_s, zpush_n, zbs, zbn, true_or, or_true, not_false_eq_true, not_true_eq_false, ↓reduceIte, and_self, and_true, true_and, zt_13, l1, q1, nI_1]
        exact ih2
  have h1 := key (4 ^ m) 0 (by omega)
  have e0 : Xr X (sFR GN m (X.1 13 3) 0).2 = X := by
    show zuA X 13 (upd (X.1 13) 3 (X.1 13 3)) = X
    rw [upd_id, zA_id]
  rw [e0] at h1
  simp only [c_2011, e_2011_0, e_2011_1, e_2011_2, e_2011_3, e_2011_6, e_2011_7, e_2011_8, e_2011_10, e_2011_11, e_2011_14, e_2011_15, e_2011_16, e_2011_19, e_2011_22, e_2011_23, e_2011_24, e_2011_27, e_2011_28, e_2011_31, e_2011_32, e_2011_35, e_2011_38, e_2011_41, e_2011_44, e_2011_47, e_2011_48, zk_int, zk_ref, zk_null, zk_none, zk_long, zisR_r, zisR_n, zcl_int, zcl_ref, zcl_null, zpush_s, zpush_n, zbs, zbn, true_or, or_true, not_false_eq_true, not_true_eq_false, ↓reduceIte, and_self, and_true, true_and, zt_13, g_effortRows C]
  exact h1
def sSum (GN : Nat → Nat → Int32) (m r : Nat) : Int32 := zsum (GN r) m
theorem g_sumOfGains {r : Nat} (C : zGw X m GN) (hr : r < 4 ^ m) : cal (d + 2) 2014 [.ref 13, .int (nI r)] X = some (some (.int (sSum GN m r)), X) := by
  have hm := C.2.1
  have key : ∀ q j, j + q = m → den (d + 2) 2014 4 [some (.ref 13), some (.int (nI r)), some (.int (zsum (GN r) j)), some (.int (nI j))] [] X = some (some (.int (zsum (GN r) m)), X) := by
    intro q
    induction q with
    | zero =>
      intro j hj
      have e : j = m := by omega
      subst e
      have l1 := nI_le_n (Nat.le_refl j) (by omega)
      simp only [c_2014, e_2014_0, e_2014_1, e_2014_2, e_2014_3, e_2014_4, e_2014_5, e_2014_6, e_2014_9, e_2014_12, e_2014_15, e_2014_16, e_2014_17, e_2014_18, e_2014_19, e_2014_22, e_2014_23, e_2014_24, e_2014_27, e_2014_30, e_2014_31, zk_int, zk_ref, zk_null, zk_none, zk_long, zisR_r, zisR_n, zcl_int, zcl_ref, zcl_null, zpush_s, zpush_n, zbs, zbn, true_or, or_true, not_false_eq_true, not_true_eq_false, ↓reduceIte, and_self, and_true, true_and, zt_13, zr_13_0, zt_14, g_waiterCount C, l1]
    | succ q ih =>
      intro j hj
      have hjm : j < m := by omega
      have l1 := nI_ge_f hjm (by omega)
      have q4 := g_gainIn (d := d) C hjm hr
      rw [e_2014_4]
      simp only [c_2014, e_2014_0, e_2014_1, e_2014_2, e_2014_3, e_2014_5, e_2014_6, e_2014_9, e_2014_12, e_2014_15, e_2014_16, e_2014_17, e_2014_18, e_2014_19, e_2014_22, e_2014_23, e_2014_24, e_2014_27, e_2014_30, e_2014_31, zk_int, zk_ref, zk_null, zk_none, zk_long, zisR_r, zisR_n, zcl_int, zcl_ref, zcl_null, zpush_s, zpush_n, zbs, zbn, true_or, or_true, not_false_eq_true, not_true_eq_false, ↓reduceIte, and_self, and_true, true_and, zt_13, zr_13_0, zt_14, g_waiterCount C, l1, q4, zsum_s, nI_1]
      exact ih (j + 1) (by omega)
  have h1 := key m 0 (by omega)
  simp only [c_2014, e_2014_0, e_2014_1, e_2014_2, e_2014_3, e_2014_5, e_2014_6, e_2014_9, e_2014_12, e_2014_15, e_2014_16, e_2014_17, e_2014_18, e_2014_19, e_2014_22, e_2014_23, e_2014_24, e_2014_27, e_2014_30, e_2014_31, zk_int, zk_ref, zk_null, zk_none, zk_long, zisR_r, zisR_n, zcl_int, zcl_ref, zcl_null, zpush_s, zpush_n, zbs, zbn, true_or, or_true, not_false_eq_true, not_true_eq_false, ↓reduceIte, and_self, and_true, true_and]
  exact h1
def sFB (GN : Nat → Nat → Int32) (m : Nat) : Nat → Nat
  | 0 => 0
  | j + 1 => if sSum GN m (j + 1) ≤ sSum GN m (sFB GN m j) then sFB GN m j else j + 1
theorem sFB_le (GN : Nat → Nat → Int32) (m : Nat) : ∀ j, sFB GN m j ≤ j := by
  intro j
  induction j with
  | zero => exact Nat.le_refl _
  | succ j ih =>
    unfold sFB
    split <;> omega
theorem g_findBest (C : zGw X m GN) : cal (d + 3) 2013 [.ref 13] X = some (none, Xr X (nI (sFB GN m (4 ^ m - 1)))) := by
  have h2 := zGw_256 C
  have hm := C.2.1
  have hp : 0 < 4 ^ m := Nat.pow_pos (by decide)
  have key : ∀ q j, j + q = 4 ^ m → 1 ≤ j → den (d + 3) 2013 12 [some (.ref 13), some (.int (nI (4 ^ m))), some (.int (nI j))] [] (Xr X (nI (sFB GN m (j - 1)))) = some (none, Xr X (nI (sFB GN m (4 ^ m - 1)))) := by
    intro q
    induction q with
    | zero =>
      intro j hj _
      have e : j = 4 ^ m := by omega
      subst e
      have l1 := nI_le_n (Nat.le_refl (4 ^ m)) (by omega)
      simp only [c_2013, e_2013_0, e_2013_1, e_2013_2, e_2013_5, e_2013_6, e_2013_9, e_2013_10, e_2013_11, e_2013_12, e_2013_13, e_2013_14, e_2013_17, e_2013_18, e_2013_19, e_2013_22, e_2013_23, e_2013_24, e_2013_27, e_2013_30, e_2013_33, e_2013_34, e_2013_35, e_2013_38, e_2013_41, e_2013_44, zk_int, zk_ref, zk_null, zk_none, zk_long, zisR_r, zisR_n, zcl_int, zcl_ref, zcl_null, zpush_s, zpush_n, zbs, zbn, true_or, or_true, not_false_eq_true, not_true_eq_false, ↓reduceIte, and_self, and_true, true_and, l1]
    | succ q ih =>
      intro j hj h1
      obtain ⟨j, rfl⟩ : ∃ j', j = j' + 1 := ⟨j - 1, by omega⟩
      have e5 : j + 1 - 1 = j := rfl
      rw [e5]
      have hjm : j + 1 < 4 ^ m := by omega
      have l1 := nI_ge_f hjm (by omega)
      have hle := sFB_le GN m j
      have q1 := g_sumOfGains (d := d) (zGw_r (r := nI (sFB GN m j)) C) hjm
      have q2 := g_sumOfGains (d := d) (zGw_r (r := nI (sFB GN m j)) C) (r := sFB GN m j) (by omega)
      have ih2 := ih (j + 1 + 1) (by omega) (by omega)
      have e6 : j + 1 + 1 - 1 = j + 1 := rfl
      rw [e6] at ih2
      rw [e_2013_12]
      by_cases hc : sSum GN m (j + 1) ≤ sSum GN m (sFB GN m j)
      · have e7 : sFB GN m (j + 1) = sFB GN m j := if_pos hc
        rw [e7] at ih2
        simp only [c_2013, e_2013_0, e_2013_1, e_2013_2, e_2013_5, e_2013_6, e_2013_9, e_2013_10, e_2013_11, e_2013_13, e_2013_14, e_2013_17, e_2013_18, e_2013_19, e_2013_22, e_2013_23, e_2013_24, e_2013_27, e_2013_30, e_2013_33, e_2013_34, e_2013_35, e_2013_38, e_2013_41, e_2013_44, zk_int, zk_ref, zk_null, zk_none, zk_long, zisR_r, zisR_n, zcl_int, zcl_ref, zcl_null, zpush_s, zpush_n, zbs, zbn, true_or, or_true, not_false_eq_true, not_true_eq_false, ↓reduceIte, and_self, and_true, true_and, zt_13, l1, Xr_3, q1, q2, hc, nI_1]
        exact ih2
      · have e7 : sFB GN m (j + 1) = j + 1 := if_neg hc
        rw [e7] at ih2
        simp only [c_2013, e_2013_0, e_2013_1, e_2013_2, e_2013_5, e_2013_6, e_2013_9, e_2013_10, e_2013_11, e_2013_13, e_2013_14, e_2013_17, e_2013_18, e_2013_19, e_2013_22, e_2013_23, e_2013_24, e_2013_27, e_2013_30, e_2013_33, e_2013_34, e_2013_35, e_2013_38, e_2013_41, e_2013_44, zk_int, zk_ref, zk_null, zk_none, zk_long, zisR_r, zisR_n, zcl_int, zcl_ref, zcl_null, zpush_s, zpush_n, zbs, zbn, true_or, or_true, not_false_eq_true, not_true_eq_false, ↓reduceIte, and_self, and_true, true_and, zt_13, l1, Xr_3, q1, q2, hc, zui_A, Xr_Xr, nI_1]
        exact ih2
  have h1 := key (4 ^ m - 1) 1 (by omega) (by omega)
  have e0 : nI (sFB GN m (1 - 1)) = 0 := nI_0
  rw [e0] at h1
  simp only [c_2013, e_2013_0, e_2013_1, e_2013_2, e_2013_5, e_2013_6, e_2013_9, e_2013_10, e_2013_11, e_2013_13, e_2013_14, e_2013_17, e_2013_18, e_2013_19, e_2013_22, e_2013_23, e_2013_24, e_2013_27, e_2013_30, e_2013_33, e_2013_34, e_2013_35, e_2013_38, e_2013_41, e_2013_44, zk_int, zk_ref, zk_null, zk_none, zk_long, zisR_r, zisR_n, zcl_int, zcl_ref, zcl_null, zpush_s, zpush_n, zbs, zbn, true_or, or_true, not_false_eq_true, not_true_eq_false, ↓reduceIte, and_self, and_true, true_and, zt_13, zui_A, Xr_u, g_effortRows (zGw_r C)]
  exact h1
theorem g_effortFound {r y : Nat} (C : zGw X m GN) (hx : X.1 13 3 = nI r) (hy : y < m) (hr : r < 1000) : cal (d + 3) 2015 [.ref 13, .int (nI y)] X = some (some (.int (nI (dig 4 m r y))), X) := by
  simp only [c_2015, e_2015_0, e_2015_1, e_2015_2, e_2015_5, e_2015_6, e_2015_9, zk_int, zk_ref, zk_null, zk_none, zk_long, zisR_r, zisR_n, zcl_int, zcl_ref, zcl_null, zpush_s, zpush_n, zbs, zbn, true_or, or_true, not_false_eq_true, not_true_eq_false, ↓reduceIte, and_self, and_true, true_and, zt_13, hx, g_effortIn C hy hr]
theorem g_replyNow {r y : Nat} (C : zGw X m GN) (hx : X.1 13 2 = nI r) (hy : y < m) (hr : r < 4 ^ m) : cal (d + 5) 2009 [.ref 13, .int (nI y)] X = some (some (.int (nI (sRep GN m r y))), X) := by
  simp only [c_2009, e_2009_0, e_2009_1, e_2009_2, e_2009_5, e_2009_6, e_2009_9, zk_int, zk_ref, zk_null, zk_none, zk_long, zisR_r, zisR_n, zcl_int, zcl_ref, zcl_null, zpush_s, zpush_n, zbs, zbn, true_or, or_true, not_false_eq_true, not_true_eq_false, ↓reduceIte, and_self, and_true, true_and, zt_13, hx, g_replyIn C hy hr]
end GAM2
