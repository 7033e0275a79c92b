theorem nI_d4 {a : Nat} (h : a < 1000) : nI a / 4 = nI (a / 4) := by
  have e4 : (4 : Int32).toInt = 4 := by decide
  have e1 := nI_toInt (n := a) (by omega)
  have e2 := nI_toInt (n := a / 4) (by omega)
  rw [ti_eq, ti_div (by rw [e1]; omega) (by decide), e1, e4, e2]
  omega
theorem nI_r4 {a : Nat} (h : a < 1000) : nI a - nI a / 4 * 4 = nI (a % 4) := by
  have e4 : (4 : Int32).toInt = 4 := by decide
  have e1 := nI_toInt (n := a) (by omega)
  have e2 := nI_toInt (n := a / 4) (by omega)
  have e3 := nI_toInt (n := a % 4) (by omega)
  rw [nI_d4 h]
  have e5 := ti_mul (x := nI (a / 4)) (y := 4) (by rw [e2, e4]; omega) (by rw [e2, e4]; omega)
  rw [e2, e4] at e5
  rw [ti_eq, ti_sub (by rw [e1, e5]; omega) (by rw [e1, e5]; omega), e1, e5, e3]
  omega
theorem i32_4 : ((4 : Int32) = 0) = False := eq_false (by decide)
section MG
variable {d n m : Nat} {w : zM} {T V G : Nat → Int32}
theorem m_keepF : cal d 6060 [.ref 50, .int 0] w = some (none, zuA w 74 (zcpy (w.1 58) (w.1 74) 4)) := by
  have n58 : ∀ F, (zuA w 74 F).1 58 = w.1 58 := fun F => zA_n _ _ (by decide)
  have key : ∀ r j, j + r = 4 → den d 6060 2 [some (.ref 50), some (.int 0), some (.int (nI j))] [] (zuA w 74 (zcpy (w.1 58) (w.1 74) j)) = some (none, zuA w 74 (zcpy (w.1 58) (w.1 74) 4)) := by
    intro r
    induction r with
    | zero =>
      intro j hj
      have e : j = 4 := by omega
      subst e
      have g1 : ((4 : Int32) ≤ nI 4) = True := eq_true (by decide)
      simp only [c_6060, e_6060_0, e_6060_1, e_6060_2, e_6060_3, e_6060_4, e_6060_7, e_6060_8, e_6060_11, e_6060_12, e_6060_15, e_6060_16, e_6060_17, e_6060_20, e_6060_21, e_6060_22, e_6060_23, e_6060_26, e_6060_27, e_6060_30, e_6060_31, e_6060_32, e_6060_35, e_6060_36, e_6060_37, e_6060_38, e_6060_41, e_6060_44, zk_int, zk_ref, zk_null, zk_none, zk_long, zisR_r, zisR_n, zcl_int, zcl_ref, zcl_null, zpush_s, zpush_n, zbs, zbn, true_or, or_true, not_false_eq_true, not_true_eq_false, ↓reduceIte, and_self, and_true, true_and, g1]
    | succ r ih =>
      intro j hj
      have hj4 : j < 4 := by omega
      have g1 : ((4 : Int32) ≤ nI j) = False := nI_ge_f (b := 4) hj4 (by decide)
      have hz := zis_nI hj4 (by decide)
      have hc := nI_clamp (n := j) (by omega)
      rw [e_6060_2]
      simp only [c_6060, e_6060_0, e_6060_1, e_6060_3, e_6060_4, e_6060_7, e_6060_8, e_6060_11, e_6060_12, e_6060_15, e_6060_16, e_6060_17, e_6060_20, e_6060_21, e_6060_22, e_6060_23, e_6060_26, e_6060_27, e_6060_30, e_6060_31, e_6060_32, e_6060_35, e_6060_36, e_6060_37, e_6060_38, e_6060_41, e_6060_44, zk_int, zk_ref, zk_null, zk_none, zk_long, zisR_r, zisR_n, zcl_int, zcl_ref, zcl_null, zpush_s, zpush_n, zbs, zbn, true_or, or_true, not_false_eq_true, not_true_eq_false, ↓reduceIte, and_self, and_true, true_and, zt_50, zr_50_15, zt_58, zn_58, zo_58, zl_58, zq_58, zr_50_36, zt_74, zn_74, zo_74, zl_74, zq_74, g1, hz, hc, zui_A, zA_s, zA_A, n58, zcpy_s, nI_1]
      exact ih (j + 1) (by omega)
  have k0 := key 4 0 (by omega)
  rw [zcpy_0, zA_id, nI_0] at k0
  simp only [c_6060, e_6060_0, e_6060_1, e_6060_3, e_6060_4, e_6060_7, e_6060_8, e_6060_11, e_6060_12, e_6060_15, e_6060_16, e_6060_17, e_6060_20, e_6060_21, e_6060_22, e_6060_23, e_6060_26, e_6060_27, e_6060_30, e_6060_31, e_6060_32, e_6060_35, e_6060_36, e_6060_37, e_6060_38, e_6060_41, e_6060_44, zk_int, zk_ref, zk_null, zk_none, zk_long, zisR_r, zisR_n, zcl_int, zcl_ref, zcl_null, zpush_s, zpush_n, zbs, zbn, true_or, or_true, not_false_eq_true, not_true_eq_false, ↓reduceIte, and_self, and_true, true_and]
  exact k0
theorem m_keepT : cal d 6060 [.ref 50, .int 1] w = some (none, zuA w 58 (zcpy (w.1 74) (w.1 58) 4)) := by
  have n74 : ∀ F, (zuA w 58 F).1 74 = w.1 74 := fun F => zA_n _ _ (by decide)
  have key : ∀ r j, j + r = 4 → den d 6060 2 [some (.ref 50), some (.int 1), some (.int (nI j))] [] (zuA w 58 (zcpy (w.1 74) (w.1 58) j)) = some (none, zuA w 58 (zcpy (w.1 74) (w.1 58) 4)) := by
    intro r
    induction r with
    | zero =>
      intro j hj
      have e : j = 4 := by omega
      subst e
      have g1 : ((4 : Int32) ≤ nI 4) = True := eq_true (by decide)
      simp only [c_6060, e_6060_0, e_6060_1, e_6060_2, e_6060_3, e_6060_4, e_6060_7, e_6060_8, e_6060_11, e_6060_12, e_6060_15, e_6060_16, e_6060_17, e_6060_20, e_6060_21, e_6060_22, e_6060_23, e_6060_26, e_6060_27, e_6060_30, e_6060_31, e_6060_32, e_6060_35, e_6060_36, e_6060_37, e_6060_38, e_6060_41, e_6060_44, zk_int, zk_ref, zk_null, zk_none, zk_long, zisR_r, zisR_n, zcl_int, zcl_ref, zcl_null, zpush_s, zpush_n, zbs, zbn, true_or, or_true, not_false_eq_true, not_true_eq_false, ↓reduceIte, and_self, and_true, true_and, g1]
    | succ r ih =>
      intro j hj
      have hj4 : j < 4 := by omega
      have g1 : ((4 : Int32) ≤ nI j) = False := nI_ge_f (b := 4) hj4 (by decide)
      have hz := zis_nI hj4 (by decide)
      have hc := nI_clamp (n := j) (by omega)
      rw [e_6060_2]
      simp only [c_6060, e_6060_0, e_6060_1, e_6060_3, e_6060_4, e_6060_7, e_6060_8, e_6060_11, e_6060_12, e_6060_15, e_6060_16, e_6060_17, e_6060_20, e_6060_21, e_6060_22, e_6060_23, e_6060_26, e_6060_27, e_6060_30, e_6060_31, e_6060_32, e_6060_35, e_6060_36, e_6060_37, e_6060_38, e_6060_41, e_6060_44, zk_int, zk_ref, zk_null, zk_none, zk_long, zisR_r, zisR_n, zcl_int, zcl_ref, zcl_null, zpush_s, zpush_n, zbs, zbn, true_or, or_true, not_false_eq_true, not_true_eq_false, ↓reduceIte, and_self, and_true, true_and, zt_50, zr_50_15, zt_58, zn_58, zo_58, zl_58, zq_58, zr_50_36, zt_74, zn_74, zo_74, zl_74, zq_74, g1, hz, hc, zui_A, zA_s, zA_A, n74, zcpy_s, nI_1, ie_0_1, ie_0_2, ie_0_3, ie_0_4, ie_0_5, ie_0_6, ie_0_7, ie_1_0, ie_1_2, ie_1_3, ie_1_4, ie_1_5, ie_1_6, ie_1_7, ie_2_0, ie_2_1, ie_2_3, ie_2_4, ie_2_5, ie_2_6, ie_2_7, ie_3_0, ie_3_1, ie_3_2, ie_3_4, ie_3_5, ie_3_6, ie_3_7, ie_4_0, ie_4_1, ie_4_2, ie_4_3, ie_4_5, ie_4_6, ie_4_7, ie_5_0, ie_5_1, ie_5_2, ie_5_3, ie_5_4, ie_5_6, ie_5_7, ie_6_0, ie_6_1, ie_6_2, ie_6_3, ie_6_4, ie_6_5, ie_6_7, ie_7_0, ie_7_1, ie_7_2, ie_7_3, ie_7_4, ie_7_5, ie_7_6]
      exact ih (j + 1) (by omega)
  have k0 := key 4 0 (by omega)
  rw [zcpy_0, zA_id, nI_0] at k0
  simp only [c_6060, e_6060_0, e_6060_1, e_6060_3, e_6060_4, e_6060_7, e_6060_8, e_6060_11, e_6060_12, e_6060_15, e_6060_16, e_6060_17, e_6060_20, e_6060_21, e_6060_22, e_6060_23, e_6060_26, e_6060_27, e_6060_30, e_6060_31, e_6060_32, e_6060_35, e_6060_36, e_6060_37, e_6060_38, e_6060_41, e_6060_44, zk_int, zk_ref, zk_null, zk_none, zk_long, zisR_r, zisR_n, zcl_int, zcl_ref, zcl_null, zpush_s, zpush_n, zbs, zbn, true_or, or_true, not_false_eq_true, not_true_eq_false, ↓reduceIte, and_self, and_true, true_and]
  exact k0
theorem m_efforts (C : zMn w n m) : cal d 6062 [.ref 50] w = some (some (.int (nI (4 ^ m))), w) := by
  have hm4 := C.2.2.2
  have e4 : ∀ j, nI (4 ^ j) * 4 = nI (4 ^ (j + 1)) := fun j => by rw [Nat.pow_succ]; exact pk_mul _ 4
  have key : ∀ r j, j + r = m → den d 6062 4 [some (.ref 50), some (.int (nI (4 ^ j))), some (.int (nI j))] [] w = some (some (.int (nI (4 ^ m))), w) := by
    intro r
    induction r with
    | zero =>
      intro j hj
      have e : j = m := by omega
      subst e
      have g1 := nI_le_n (Nat.le_refl j) (by omega)
      simp only [c_6062, e_6062_0, e_6062_1, e_6062_2, e_6062_3, e_6062_4, e_6062_5, e_6062_6, e_6062_9, e_6062_12, e_6062_13, e_6062_14, e_6062_15, e_6062_16, e_6062_19, e_6062_22, e_6062_23, zk_int, zk_ref, zk_null, zk_none, zk_long, zisR_r, zisR_n, zcl_int, zcl_ref, zcl_null, zpush_s, zpush_n, zbs, zbn, true_or, or_true, not_false_eq_true, not_true_eq_false, ↓reduceIte, and_self, and_true, true_and, zt_50, C.2.1, g1]
    | succ r ih =>
      intro j hj
      have hjm : j < m := by omega
      have g1 := nI_ge_f hjm (by omega)
      rw [e_6062_4]
      simp only [c_6062, e_6062_0, e_6062_1, e_6062_2, e_6062_3, e_6062_5, e_6062_6, e_6062_9, e_6062_12, e_6062_13, e_6062_14, e_6062_15, e_6062_16, e_6062_19, e_6062_22, e_6062_23, zk_int, zk_ref, zk_null, zk_none, zk_long, zisR_r, zisR_n, zcl_int, zcl_ref, zcl_null, zpush_s, zpush_n, zbs, zbn, true_or, or_true, not_false_eq_true, not_true_eq_false, ↓reduceIte, and_self, and_true, true_and, zt_50, C.2.1, g1, e4, nI_1]
      exact ih (j + 1) (by omega)
  have k0 := key m 0 (by omega)
  rw [Nat.pow_zero, nI_0] at k0
  simp only [c_6062, e_6062_0, e_6062_1, e_6062_2, e_6062_3, e_6062_5, e_6062_6, e_6062_9, e_6062_12, e_6062_13, e_6062_14, e_6062_15, e_6062_16, e_6062_19, e_6062_22, e_6062_23, zk_int, zk_ref, zk_null, zk_none, zk_long, zisR_r, zisR_n, zcl_int, zcl_ref, zcl_null, zpush_s, zpush_n, zbs, zbn, true_or, or_true, not_false_eq_true, not_true_eq_false, ↓reduceIte, and_self, and_true, true_and]
  exact k0
def zge (e f : Nat → Int32) (j m : Nat) : Nat → Int32 := fun k => if j ≤ k ∧ k < m then e k else f k
theorem zge_s (e f : Nat → Int32) (j m : Nat) (hj : j < m) : upd (zge e f (j + 1) m) j (e j) = zge e f j m := by
  funext k
  unfold upd zge
  by_cases h : k = j
  · subst h
    rw [if_pos rfl, if_pos ⟨Nat.le_refl _, hj⟩]
  · rw [if_neg h]
    by_cases h2 : j ≤ k ∧ k < m
    · rw [if_pos h2, if_pos ⟨by omega, h2.2⟩]
    · rw [if_neg h2, if_neg (by omega)]
theorem m_tells {x : Nat} {F : Nat → Int32} (C : zMn w n m) (hx : x < 4 ^ m) (hF : ∀ k, m ≤ k → F k = w.1 58 k) : cal d 6063 [.ref 50, .int (nI x)] (zuA w 58 F) = some (none, yE w m x) := by
  have hm4 := C.2.2.2
  have h256 := (pow_le4 (b := 4) (k := m) (by decide) (by decide) hm4).2
  have e50 : ∀ F, (zuA w 58 F).1 50 = w.1 50 := fun F => zA_n _ _ (by decide)
  have key : ∀ j, j ≤ m → den d 6063 9 [some (.ref 50), some (.int (nI x)), some (.int (nI (x / 4 ^ (m - j)))), some (.int (nI j - 1))] [] (zuA w 58 (zge (dg m x) F j m)) = some (none, yE w m x) := by
    intro j
    induction j with
    | zero =>
      intro hj
      have g1 : ((nI 0 - 1) < 0) = True := eq_true (by decide)
      have ef : zge (dg m x) F 0 m = zcpy (dg m x) (w.1 58) m := by
        funext k
        unfold zge zcpy
        by_cases h : k < m
        · rw [if_pos ⟨by omega, h⟩, if_pos h]
        · rw [if_neg (by omega), if_neg h]; exact hF k (by omega)
      rw [ef]
      simp only [c_6063, e_6063_0, e_6063_1, e_6063_2, e_6063_3, e_6063_6, e_6063_7, e_6063_8, e_6063_9, e_6063_10, e_6063_13, e_6063_14, e_6063_17, e_6063_18, e_6063_19, e_6063_20, e_6063_21, e_6063_22, e_6063_23, e_6063_24, e_6063_25, e_6063_26, e_6063_29, e_6063_32, zk_int, zk_ref, zk_null, zk_none, zk_long, zisR_r, zisR_n, zcl_int, zcl_ref, zcl_null, zpush_s, zpush_n, zbs, zbn, true_or, or_true, not_false_eq_true, not_true_eq_false, ↓reduceIte, and_self, and_true, true_and, g1]
      rfl
    | succ j ih =>
      intro hj
      have np := nI_pred j
      have g1 := nI_lt0 (a := j) (by omega)
      have hz := zis_nI (j := j) (n := 4) (by omega) (by decide)
      have hc := nI_clamp (n := j) (by omega)
      have hq : x / 4 ^ (m - (j + 1)) < 1000 := by
        have := Nat.div_le_self x (4 ^ (m - (j + 1)))
        omega
      have r4 := nI_r4 hq
      have d4 := nI_d4 hq
      have e1 : nI (x / 4 ^ (m - (j + 1)) % 4) = dg m x j := by
        unfold dg dig
        rw [show m - (j + 1) = m - 1 - j by omega]
      have e2 : x / 4 ^ (m - (j + 1)) / 4 = x / 4 ^ (m - j) := by
        rw [Nat.div_div_eq_div_mul, ← Nat.pow_succ, show (m - (j + 1)).succ = m - j by omega]
      have e3 : nI j + -1 = nI j - 1 := by
        rw [Int32.sub_eq_add_neg]
      have r5 : nI (x / 4 ^ (m - (j + 1))) - nI (x / 4 ^ (m - j)) * 4 = dg m x j := by rw [← e2, ← d4, r4, e1]
      rw [np, e_6063_9]
      simp only [c_6063, e_6063_0, e_6063_1, e_6063_2, e_6063_3, e_6063_6, e_6063_7, e_6063_8, e_6063_10, e_6063_13, e_6063_14, e_6063_17, e_6063_18, e_6063_19, e_6063_20, e_6063_21, e_6063_22, e_6063_23, e_6063_24, e_6063_25, e_6063_26, e_6063_29, e_6063_32, zk_int, zk_ref, zk_null, zk_none, zk_long, zisR_r, zisR_n, zcl_int, zcl_ref, zcl_null, zpush_s, zpush_n, zbs, zbn, true_or, or_true, not_false_eq_true, not_true_eq_false, ↓reduceIte, and_self, and_true, true_and, zt_50, zr_50_15, zt_58, zn_58, zo_58, zl_58, zq_58, g1, hz, hc, i32_4, r5, d4, e2, zui_A, zA_s, zA_A, zge_s _ _ _ _ (show j < m by omega), e3]
      exact ih (by omega)
  have k0 := key m (Nat.le_refl _)
  have e0 : zge (dg m x) F m m = F := by
    funext k
    exact if_neg (by omega)
  rw [e0, Nat.sub_self, Nat.pow_zero, Nat.div_one] at k0
  simp only [c_6063, e_6063_0, e_6063_1, e_6063_2, e_6063_3, e_6063_6, e_6063_7, e_6063_8, e_6063_10, e_6063_13, e_6063_14, e_6063_17, e_6063_18, e_6063_19, e_6063_20, e_6063_21, e_6063_22, e_6063_23, e_6063_24, e_6063_25, e_6063_26, e_6063_29, e_6063_32, zk_int, zk_ref, zk_null, zk_none, zk_long, zisR_r, zisR_n, zcl_int, zcl_ref, zcl_null, zpush_s, zpush_n, zbs, zbn, true_or, or_true, not_false_eq_true, not_true_eq_false, ↓reduceIte, and_self, and_true, true_and, zt_50, e50, C.2.1]
  exact k0
theorem sRepJ_max (f : Nat → Int32) : ∀ k e, e ≤ k → f e ≤ f (sRepJ f k) := by
  intro k
  induction k with
  | zero =>
    intro e he
    have e0 : e = 0 := by omega
    subst e0
    exact Int32.le_refl _
  | succ k ih =>
    intro e he
    show f e ≤ f (if f (k + 1) ≤ f (sRepJ f k) then sRepJ f k else k + 1)
    by_cases h : f (k + 1) ≤ f (sRepJ f k)
    · rw [if_pos h]
      rcases Nat.lt_or_ge k e with h2 | h2
      · have e1 : e = k + 1 := by omega
        subst e1
        exact h
      · exact ih e h2
    · rw [if_neg h]
      rcases Nat.lt_or_ge k e with h2 | h2
      · have e1 : e = k + 1 := by omega
        subst e1
        exact Int32.le_refl _
      · have h3 := Int32.not_le.mp h
        have h4 := ih e h2
        rw [ti_lt] at h3
        rw [ti_le] at h4 ⊢
        omega
theorem sIsR_i (GN : Nat → Nat → Int32) (m r : Nat) : sIsR GN m r ↔ ∀ y, y < m → ∀ e, e < 4 → GN (wE m r y e) y ≤ GN r y := by
  constructor
  · intro h y hy e he
    have h1 := h y hy
    have h2 : GN (wE m r y e) y ≤ GN (wE m r y (sRep GN m r y)) y := sRepJ_max (fun e => GN (wE m r y e) y) 3 e (by omega)
    rw [ti_le] at h1 h2 ⊢
    omega
  · intro h y hy
    exact h y hy _ (sRep_lt GN m r y)
theorem y_isRest {r : Nat} (C : zMc w T V G n m) (hr : r < 4 ^ m) : (sIsR (sGN T V G n m) m r → cal (d + 22) 6064 [.ref 50] (yE w m r) = some (some (.int 1), yE w m r)) ∧ (¬ sIsR (sGN T V G n m) m r → cal (d + 22) 6064 [.ref 50] (yE w m r) = some (some (.int 0), yE w m r)) := by
  have CC := yE_C (r := r) C
  have hm4 := C.2.1.2.2.2
  have in1 : ∀ y, y < m → ∀ q e, e + q = 4 → (∀ e', e ≤ e' → e' < 4 → sGN T V G n m (wE m r y e') y ≤ sGN T V G n m r y) → den (d + 22) 6064 18 [some (.ref 50), some (.int (nI y)), some (.int (sGN T V G n m r y)), some (.int (nI e))] [] (yE w m r) = den (d + 22) 6064 41 [some (.ref 50), some (.int (nI y)), some (.int (sGN T V G n m r y)), some (.int 4)] [] (yE w m r) := by
    intro y hy q
    induction q with
    | zero =>
      intro e he _
      have e1 : e = 4 := by omega
      subst e1
      have g1 : ((4 : Int32) ≤ nI 4) = True := eq_true (by decide)
      rw [e_6064_18]
      simp only [e_6064_19, e_6064_20, zk_int, zk_ref, zk_null, zk_none, zk_long, zisR_r, zisR_n, zcl_int, zcl_ref, zcl_null, zpush_s, zpush_n, zbs, zbn, true_or, or_true, not_false_eq_true, not_true_eq_false, ↓reduceIte, and_self, and_true, true_and, g1]
      rfl
    | succ q ih =>
      intro e he h
      have he4 : e < 4 := by omega
      have g1 : ((4 : Int32) ≤ nI e) = False := nI_ge_f (b := 4) he4 (by decide)
      have q1 := y_gainIf (d := d) C hy he4 hr
      have h1 := h e (Nat.le_refl _) he4
      rw [e_6064_18]
      simp only [c_6064, e_6064_0, e_6064_1, e_6064_2, e_6064_3, e_6064_4, e_6064_7, e_6064_10, e_6064_11, e_6064_12, e_6064_15, e_6064_16, e_6064_17, e_6064_19, e_6064_20, e_6064_23, e_6064_24, e_6064_25, e_6064_26, e_6064_29, e_6064_30, e_6064_33, e_6064_34, e_6064_35, e_6064_38, e_6064_44, e_6064_47, e_6064_48, zk_int, zk_ref, zk_null, zk_none, zk_long, zisR_r, zisR_n, zcl_int, zcl_ref, zcl_null, zpush_s, zpush_n, zbs, zbn, true_or, or_true, not_false_eq_true, not_true_eq_false, ↓reduceIte, and_self, and_true, true_and, zt_50, g1, q1, h1, nI_1]
      exact ih (e + 1) (by omega) (fun e' a b => h e' (by omega) b)
  have in2 : ∀ y, y < m → ∀ q e, e + q = 4 → (∃ e', e ≤ e' ∧ e' < 4 ∧ ¬ sGN T V G n m (wE m r y e') y ≤ sGN T V G n m r y) → den (d + 22) 6064 18 [some (.ref 50), some (.int (nI y)), some (.int (sGN T V G n m r y)), some (.int (nI e))] [] (yE w m r) = some (some (.int 0), yE w m r) := by
    intro y hy q
    induction q with
    | zero =>
      intro e he ⟨e', a, b, _⟩
      omega
    | succ q ih =>
      intro e he ⟨e', a, b, h⟩
      have he4 : e < 4 := by omega
      have g1 : ((4 : Int32) ≤ nI e) = False := nI_ge_f (b := 4) he4 (by decide)
      have q1 := y_gainIf (d := d) C hy he4 hr
      rw [e_6064_18]
      by_cases h1 : sGN T V G n m (wE m r y e) y ≤ sGN T V G n m r y
      · simp only [c_6064, e_6064_0, e_6064_1, e_6064_2, e_6064_3, e_6064_4, e_6064_7, e_6064_10, e_6064_11, e_6064_12, e_6064_15, e_6064_16, e_6064_17, e_6064_19, e_6064_20, e_6064_23, e_6064_24, e_6064_25, e_6064_26, e_6064_29, e_6064_30, e_6064_33, e_6064_34, e_6064_35, e_6064_38, e_6064_44, e_6064_47, e_6064_48, zk_int, zk_ref, zk_null, zk_none, zk_long, zisR_r, zisR_n, zcl_int, zcl_ref, zcl_null, zpush_s, zpush_n, zbs, zbn, true_or, or_true, not_false_eq_true, not_true_eq_false, ↓reduceIte, and_self, and_true, true_and, zt_50, g1, q1, h1, nI_1]
        refine ih (e + 1) (by omega) ⟨e', ?_, b, h⟩
        rcases Nat.lt_or_ge e e' with c | c
        · exact c
        · have e1 : e' = e := by omega
          subst e1
          exact absurd h1 h
      · simp only [c_6064, e_6064_0, e_6064_1, e_6064_2, e_6064_3, e_6064_4, e_6064_7, e_6064_10, e_6064_11, e_6064_12, e_6064_15, e_6064_16, e_6064_17, e_6064_19, e_6064_20, e_6064_23, e_6064_24, e_6064_25, e_6064_26, e_6064_29, e_6064_30, e_6064_33, e_6064_34, e_6064_35, e_6064_38, e_6064_44, e_6064_47, e_6064_48, zk_int, zk_ref, zk_null, zk_none, zk_long, zisR_r, zisR_n, zcl_int, zcl_ref, zcl_null, zpush_s, zpush_n, zbs, zbn, true_or, or_true, not_false_eq_true, not_true_eq_false, ↓reduceIte, and_self, and_true, true_and, zt_50, g1, q1, h1]
  have o1 : ∀ q j o2 o3, j + q = m → (∀ y, j ≤ y → y < m → ∀ e, e < 4 → sGN T V G n m (wE m r y e) y ≤ sGN T V G n m r y) → den (d + 22) 6064 2 [some (.ref 50), some (.int (nI j)), o2, o3] [] (yE w m r) = some (some (.int 1), yE w m r) := by
    intro q
    induction q with
    | zero =>
      intro j o2 o3 hj _
      have e : j = m := by omega
      subst e
      have g1 := nI_le_n (Nat.le_refl j) (by omega)
      simp only [c_6064, e_6064_0, e_6064_1, e_6064_2, e_6064_3, e_6064_4, e_6064_7, e_6064_10, e_6064_11, e_6064_12, e_6064_15, e_6064_16, e_6064_17, e_6064_18, e_6064_19, e_6064_20, e_6064_23, e_6064_24, e_6064_25, e_6064_26, e_6064_29, e_6064_30, e_6064_33, e_6064_34, e_6064_35, e_6064_38, e_6064_41, e_6064_44, e_6064_47, e_6064_48, zk_int, zk_ref, zk_null, zk_none, zk_long, zisR_r, zisR_n, zcl_int, zcl_ref, zcl_null, zpush_s, zpush_n, zbs, zbn, true_or, or_true, not_false_eq_true, not_true_eq_false, ↓reduceIte, and_self, and_true, true_and, zt_50, CC.2.1.2.1, g1]
    | succ q ih =>
      intro j o2 o3 hj h
      have hjm : j < m := by omega
      have g1 := nI_ge_f hjm (by omega)
      have q1 := y_gainOf (d := d + 1) (r := r) C hjm
      have q2 := in1 j hjm 4 0 (by omega) (fun e _ b => h j (Nat.le_refl _) hjm e b)
      rw [nI_0] at q2
      rw [e_6064_2]
      simp only [e_6064_3, e_6064_4, e_6064_7, e_6064_10, e_6064_11, e_6064_12, e_6064_15, e_6064_16, e_6064_17, zk_int, zk_ref, zk_null, zk_none, zk_long, zisR_r, zisR_n, zcl_int, zcl_ref, zcl_null, zpush_s, zpush_n, zbs, zbn, true_or, or_true, not_false_eq_true, not_true_eq_false, ↓reduceIte, and_self, and_true, true_and, zt_50, CC.2.1.2.1, g1, q1, q2]
      simp only [e_6064_41, e_6064_44, zk_int, zk_ref, zk_null, zk_none, zk_long, zisR_r, zisR_n, zcl_int, zcl_ref, zcl_null, zpush_s, zpush_n, zbs, zbn, true_or, or_true, not_false_eq_true, not_true_eq_false, ↓reduceIte, and_self, and_true, true_and, nI_1]
      exact ih (j + 1) _ _ (by omega) (fun y a b => h y (by omega) b)
  have o2' : ∀ q j o2 o3, j + q = m → (∃ y, j ≤ y ∧ y < m ∧ ∃ e, e < 4 ∧ ¬ sGN T V G n m (wE m r y e) y ≤ sGN T V G n m r y) → den (d + 22) 6064 2 [some (.ref 50), some (.int (nI j)), o2, o3] [] (yE w m r) = some (some (.int 0), yE w m r) := by
    intro q
    induction q with
    | zero =>
      intro j o2 o3 hj ⟨y, a, b, _⟩
      omega
    | succ q ih =>
      intro j o2 o3 hj ⟨y, a, b, e, he, h⟩
      have hjm : j < m := by omega
      have g1 := nI_ge_f hjm (by omega)
      have q1 := y_gainOf (d := d + 1) (r := r) C hjm
      by_cases hx : ∃ e', 0 ≤ e' ∧ e' < 4 ∧ ¬ sGN T V G n m (wE m r j e') j ≤ sGN T V G n m r j
      · have q2 := in2 j hjm 4 0 (by omega) hx
        rw [nI_0] at q2
        rw [e_6064_2]
        simp only [e_6064_3, e_6064_4, e_6064_7, e_6064_10, e_6064_11, e_6064_12, e_6064_15, e_6064_16, e_6064_17, zk_int, zk_ref, zk_null, zk_none, zk_long, zisR_r, zisR_n, zcl_int, zcl_ref, zcl_null, zpush_s, zpush_n, zbs, zbn, true_or, or_true, not_false_eq_true, not_true_eq_false, ↓reduceIte, and_self, and_true, true_and, zt_50, CC.2.1.2.1, g1, q1, q2]
      · have q2 := in1 j hjm 4 0 (by omega) (fun e' a b => Classical.byContradiction (fun c => hx ⟨e', a, b, c⟩))
        rw [nI_0] at q2
        rw [e_6064_2]
        simp only [e_6064_3, e_6064_4, e_6064_7, e_6064_10, e_6064_11, e_6064_12, e_6064_15, e_6064_16, e_6064_17, zk_int, zk_ref, zk_null, zk_none, zk_long, zisR_r, zisR_n, zcl_int, zcl_ref, zcl_null, zpush_s, zpush_n, zbs, zbn, true_or, or_true, not_false_eq_true, not_true_eq_false, ↓reduceIte, and_self, and_true, true_and, zt_50, CC.2.1.2.1, g1, q1, q2]
        simp only [e_6064_41, e_6064_44, zk_int, zk_ref, zk_null, zk_none, zk_long, zisR_r, zisR_n, zcl_int, zcl_ref, zcl_null, zpush_s, zpush_n, zbs, zbn, true_or, or_true, not_false_eq_true, not_true_eq_false, ↓reduceIte, and_self, and_true, true_and, nI_1]
        refine ih (j + 1) _ _ (by omega) ⟨y, ?_, b, e, he, h⟩
        rcases Nat.lt_or_ge j y with c | c
        · exact c
        · have e1 : y = j := by omega
          subst e1
          exact absurd ⟨e, Nat.zero_le _, he, h⟩ hx
  rw [sIsR_i]
  constructor
  · intro h
    have k0 := o1 m 0 none none (by omega) (fun y _ b => h y b)
    rw [nI_0] at k0
    simp only [c_6064, e_6064_0, e_6064_1, zk_int, zk_ref, zk_null, zk_none, zk_long, zisR_r, zisR_n, zcl_int, zcl_ref, zcl_null, zpush_s, zpush_n, zbs, zbn, true_or, or_true, not_false_eq_true, not_true_eq_false, ↓reduceIte, and_self, and_true, true_and]
    exact k0
  · intro h
    have k0 := o2' m 0 none none (by omega) (by
      apply Classical.byContradiction
      intro c
      apply h
      intro y hy e he
      apply Classical.byContradiction
      intro c2
      exact c ⟨y, Nat.zero_le _, hy, e, he, c2⟩)
    rw [nI_0] at k0
    simp only [c_6064, e_6064_0, e_6064_1, zk_int, zk_ref, zk_null, zk_none, zk_long, zisR_r, zisR_n, zcl_int, zcl_ref, zcl_null, zpush_s, zpush_n, zbs, zbn, true_or, or_true, not_false_eq_true, not_true_eq_false, ↓reduceIte, and_self, and_true, true_and]
    exact k0
end MG
